theorem X52_19 {X : zX} {l : Launch} {M : zM} {Q : Option Value → zM → Prop} {a b c : Int32} (hs : zSk zMc M) (hI : zIv cLo cHi M) {F : Nat → Int} (ha : (-9999) ≤ a.toInt ∧ a.toInt ≤ 9999) (hb : (-50) ≤ b.toInt ∧ b.toInt ≤ 50) (hc : (-5) ≤ c.toInt ∧ c.toInt ≤ 5) (x0 : zSo M 19 F) (x1 : zWF F) (hQ : ∀ (M' : zM) (v : Int32), zSk zMc M' → zIv cLo cHi M' → zFr [(19, 19, none), (20, 30, none)] M M' → ((v.toInt = 0 ∧ (12 ≤ F 2 ∨ pPt F a.toInt b.toInt c.toInt (F 0).toNat = none)) ∨ (v.toInt = 1 ∧ ∃ G : Nat → Int, pPt F a.toInt b.toInt c.toInt (F 0).toNat = some G ∧ zSo M' 19 (uS G 2 (F 2 + 1)) ∧ zWF (uS G 2 (F 2 + 1)))) → 0 ≤ v.toInt → v.toInt ≤ 1 → Q (some (.int v)) M') : zCall X l 3 0 0 52 [.ref 19, .int a, .int b, .int c] M Q := by
  have ga := zrg a
  have gb := zrg b
  have gc := zrg c
  refine zs_in (by decide) mf52 (Nat.le_of_ble_eq_true rfl) ?_
  show zGo X l 3 0 0 52 0 [(0, .ref 19), (1, .int a), (2, .int b), (3, .int c)] [] M _
  have f0 := x0.1
  have w1 := ib19_0 hI
  have w2 : (zI M 19 0).toInt = (zI M 19 0).toInt := (congrArg Int32.toInt rfl).trans rfl
  have w3 := ib19_3 hI
  have w4 : (zI M 19 3).toInt = (zI M 19 3).toInt := (congrArg Int32.toInt rfl).trans rfl
  have w5 := ib19_8 hI
  have w6 : (zI M 19 8).toInt = (zI M 19 8).toInt := (congrArg Int32.toInt rfl).trans rfl
  have f1 := x1.1
  have f3 := x1.2.2.2
  have f2 := (show (zI M 19 0).toInt = F 0 ∧ (zI M 19 3).toInt = F 1 ∧ (zI M 19 8).toInt = F 2 from ⟨x0.1.1, x0.1.2.1, x0.1.2.2.1⟩)
  refine zs_aload_n (pc := 0) t52_0 rfl ?_
  refine zs_get (pc := 1) t52_1 (by decide) (zk1 (hs.k fk_zMc_19)) (zfvi rfl rfl) ?_
  refine zs_bipush (pc := 4) t52_4 (v := 12) (by decide) ?_
  by_cases w7 : (zI M 19 8).toInt < 12
  · refine zs_icmp_ltT (pc := 6) t52_6 rfl li12 (by omega) ?_
    refine zs_aload_n (pc := 11) t52_11 rfl ?_
    refine zs_get (pc := 12) t52_12 (by decide) (zk1 (hs.k fk_zMc_19)) (hs.p rfl fv_zMc_19_9) ?_
    refine zs_aload_n (pc := 15) t52_15 rfl ?_
    refine zs_get (pc := 16) t52_16 (by decide) (zk1 (hs.k fk_zMc_19)) (zfvi rfl rfl) ?_
    refine zs_iload_n (pc := 19) t52_19 rfl ?_
    obtain ⟨w8n, w8⟩ : ∃ n : Nat, (zI M 19 8).toInt = (n : Int) := ⟨((zI M 19 8).toInt).toNat, by omega⟩
    have w9 : zIv cLo cHi (zsI M 26 w8n a) := zIv.put hI (show (-2147483648) ≤ a.toInt ∧ a.toInt ≤ 2147483647 from zrg a)
    refine zs_iast (pc := 20) t52_20 (j := w8n) (by decide) (zk1 (hs.k fk_zMc_26)) (show (zI M 19 8).toInt = ((w8n : Nat) : Int) by omega) (zk2 (hs.k fk_zMc_26) (by omega)) ?_
    refine zs_aload_n (pc := 21) t52_21 rfl ?_
    refine zs_get (pc := 22) t52_22 (by decide) (zk1 (hs.k fk_zMc_19)) (hs.p rfl fv_zMc_19_10) ?_
    refine zs_aload_n (pc := 25) t52_25 rfl ?_
    refine zs_get (pc := 26) t52_26 (by decide) (zk1 (hs.k fk_zMc_19)) (zfvi rfl ((zIo (by decide)).trans rfl)) ?_
    refine zs_iload_n (pc := 29) t52_29 rfl ?_
    have w10 : zIv cLo cHi (zsI (zsI M 26 w8n a) 27 w8n b) := zIv.put w9 (show (-2147483648) ≤ b.toInt ∧ b.toInt ≤ 2147483647 from zrg b)
    refine zs_iast (pc := 30) t52_30 (j := w8n) (by decide) (zk1 (hs.k fk_zMc_27)) (show (zI M 19 8).toInt = ((w8n : Nat) : Int) by omega) (zk2 (hs.k fk_zMc_27) (by omega)) ?_
    refine zs_aload_n (pc := 31) t52_31 rfl ?_
    refine zs_get (pc := 32) t52_32 (by decide) (zk1 (hs.k fk_zMc_19)) (hs.p rfl fv_zMc_19_11) ?_
    refine zs_aload_n (pc := 35) t52_35 rfl ?_
    refine zs_get (pc := 36) t52_36 (by decide) (zk1 (hs.k fk_zMc_19)) (zfvi rfl ((zIo (by decide)).trans ((zIo (by decide)).trans rfl))) ?_
    refine zs_iload_n (pc := 39) t52_39 rfl ?_
    have w11 : zIv cLo cHi (zsI (zsI (zsI M 26 w8n a) 27 w8n b) 28 w8n c) := zIv.put w10 (show (-2147483648) ≤ c.toInt ∧ c.toInt ≤ 2147483647 from zrg c)
    refine zs_iast (pc := 40) t52_40 (j := w8n) (by decide) (zk1 (hs.k fk_zMc_28)) (show (zI M 19 8).toInt = ((w8n : Nat) : Int) by omega) (zk2 (hs.k fk_zMc_28) (by omega)) ?_
    refine zs_aload_n (pc := 41) t52_41 rfl ?_
    refine zs_dup (pc := 42) t52_42 rfl ?_
    refine zs_get (pc := 43) t52_43 (by decide) (zk1 (hs.k fk_zMc_19)) (zfvi rfl ((zIo (by decide)).trans ((zIo (by decide)).trans ((zIo (by decide)).trans rfl)))) ?_
    refine zs_iconst (pc := 46) t52_46 (v := 1) (by decide) ?_
    obtain ⟨w12v, w12e, w12⟩ := ziadd (a := (zI M 19 8)) (b := (1 : Int32)) rfl li1 (by omega) (by omega)
    refine zs_iadd (pc := 47) t52_47 (c := w12v) w12e ?_
    have w13 : zIv cLo cHi (zsI (zsI (zsI (zsI M 26 w8n a) 27 w8n b) 28 w8n c) 19 8 w12v) := zIv.put w11 (show 0 ≤ w12v.toInt ∧ w12v.toInt ≤ 12 from ⟨by omega, by omega⟩)
    refine zs_putI (pc := 48) t52_48 (zk1 (hs.k fk_zMc_19)) rfl ?_
    refine zs_iconst (pc := 51) t52_51 (v := 0) (by decide) ?_
    refine zs_istore (pc := 52) t52_52 (ls' := [(4, .int (0 : Int32)), (0, .ref 19), (1, .int a), (2, .int b), (3, .int c)]) (zml mf52 (by decide)) rfl ?_
    have w14L : ∀ (m : Nat) (w14x4 : Int32) (w14M : zM), (0 ≤ w14x4.toInt ∧ w14x4.toInt ≤ 8) → zSk zMc w14M → zIv cLo cHi w14M → zFr [(19, 19, some 3), (22, 25, none)] (zsI (zsI (zsI (zsI M 26 w8n a) 27 w8n b) 28 w8n c) 19 8 w12v) w14M → (w14x4.toInt ≤ F 0) → (∀ l : Nat, (l : Int) = w14x4.toInt → ∃ G, zPj F a.toInt b.toInt c.toInt l G ∧ zSo w14M 19 (uS G 2 (F 2 + 1))) → 8 - w14x4.toInt ≤ (m : Int) → zGo X l 3 0 0 52 54 [(0, .ref 19), (1, .int a), (2, .int b), (3, .int c), (4, .int w14x4)] [] w14M Q := by
      intro m
      induction m using Nat.strongRecOn with
      | ind w14m w14ih =>
        intro w14x4 w14M w14b4 w14s w14I w14F w14r0 w14t0 w14q
        obtain ⟨w15n, w15⟩ : ∃ n : Nat, w14x4.toInt = (n : Int) := ⟨(w14x4.toInt).toNat, by omega⟩
        obtain ⟨w14G, w14d, w14g⟩ := w14t0 w15n (by omega)
        have w14k0 : (uS w14G 2 (F 2 + 1)) 0 = F 0 := (uS.o (by decide)).trans (w14d.2.2 0 (Or.inl rfl))
        have w14k1 : (uS w14G 2 (F 2 + 1)) 1 = w14G 1 := uS.o (by decide)
        have w14k2 : (zI w14M 19 0).toInt = F 0 := w14g.1.1.trans w14k0
        have w14k3 : (zI w14M 19 8).toInt = F 2 + 1 := w14g.1.2.2.1.trans uS.s
        have w14k4 := w14d.2.1.1
        refine zs_iload (pc := 54) t52_54 rfl ?_
        refine zs_aload_n (pc := 56) t52_56 rfl ?_
        refine zs_get (pc := 57) t52_57 (by decide) (zk1 (w14s.k fk_zMc_19)) (zfvi rfl ((w14F 19 0 rfl).trans ((zIoj (by decide)).trans ((zIo (by decide)).trans ((zIo (by decide)).trans ((zIo (by decide)).trans rfl)))))) ?_
        by_cases w16 : (zI M 19 0).toInt ≤ w14x4.toInt
        · refine zs_icmp_geT (pc := 60) t52_60 rfl rfl (by omega) ?_
          refine zs_iconst (pc := 126) t52_126 (v := 1) (by decide) ?_
          exact zs_iret (pc := 127) t52_127 mr52 (by decide) (hQ _ _ w14s w14I ((((((zFr.refl).put rfl).put rfl).put rfl).put rfl).trans (w14F.mono rfl)) (Or.inr ⟨by decide, w14G, by rw [show (F 0).toNat = w15n by omega]; exact w14d.1, w14g, w14d.2.1⟩) (by decide) (by decide))
        · refine zs_icmp_geF (pc := 60) t52_60 rfl rfl (by omega) ?_
          refine zs_iload_n (pc := 63) t52_63 rfl ?_
          refine zs_aload_n (pc := 64) t52_64 rfl ?_
          refine zs_iload (pc := 65) t52_65 rfl ?_
          refine zs_iload_n (pc := 67) t52_67 rfl ?_
          refine zs_invV (pc := 68) (k := 19) (as' := [.int w14x4, .int b]) (st := [.int a]) t52_68 mf53 rfl rfl (Or.inl ⟨by decide, (zk1 (w14s.k fk_zMc_19))⟩) ⟨by decide, by decide, Nat.le_of_ble_eq_true rfl, Nat.le_of_ble_eq_true rfl⟩ (X53_19 w14s w14I w14g w14d.2.1 ?_) (fun _ _ q => q)
          intro w17v w17x0
          have w18 : (uS w14G 2 (F 2 + 1)) (14 + 2 * w15n) = F (14 + 2 * w15n) := (uS.o (by omega)).trans (w14d.2.2 _ (by omega))
          have w19 := x1.2.1 w15n (by omega)
          have w20 := pLf.b (l := w15n) (t := b.toInt) (k := c.toInt) w19.1 w19.2.1 (by omega) (by omega) (by omega) (by omega)
          have w17q := w17x0 w15n (by omega) (by omega) (by omega) (by omega)
          rw [w18] at w17q
          have w17g := zrg w17v
          show zGo X l 3 0 0 52 71 [(0, .ref 19), (1, .int a), (2, .int b), (3, .int c), (4, .int w14x4)] [.int w17v, .int a] w14M _
          obtain ⟨w21v, w21e, w21⟩ := ziadd (a := a) (b := w17v) rfl rfl (by omega) (by omega)
          refine zs_iadd (pc := 71) t52_71 (c := w21v) w21e ?_
          refine zs_aload_n (pc := 72) t52_72 rfl ?_
          refine zs_iload (pc := 73) t52_73 rfl ?_
          refine zs_iload_n (pc := 75) t52_75 rfl ?_
          refine zs_invV (pc := 76) (k := 19) (as' := [.int w14x4, .int c]) (st := [.int w21v]) t52_76 mf55 rfl rfl (Or.inl ⟨by decide, (zk1 (w14s.k fk_zMc_19))⟩) ⟨by decide, by decide, Nat.le_of_ble_eq_true rfl, Nat.le_of_ble_eq_true rfl⟩ (X55_19 w14s w14I w14g w14d.2.1 ?_) (fun _ _ q => q)
          intro w22v w22x0
          have w23 : (uS w14G 2 (F 2 + 1)) (14 + 2 * w15n) = F (14 + 2 * w15n) := (uS.o (by omega)).trans (w14d.2.2 _ (by omega))
          have w24 := x1.2.1 w15n (by omega)
          have w25 := pLf.b (l := w15n) (t := b.toInt) (k := c.toInt) w24.1 w24.2.1 (by omega) (by omega) (by omega) (by omega)
          have w22q := w22x0 w15n (by omega) (by omega) (by omega) (by omega)
          rw [w23] at w22q
          have w22g := zrg w22v
          show zGo X l 3 0 0 52 79 [(0, .ref 19), (1, .int a), (2, .int b), (3, .int c), (4, .int w14x4)] [.int w22v, .int w21v] w14M _
          obtain ⟨w26v, w26e, w26⟩ := ziadd (a := w21v) (b := w22v) w21 rfl (by omega) (by omega)
          refine zs_iadd (pc := 79) t52_79 (c := w26v) w26e ?_
          refine zs_istore (pc := 80) t52_80 (ls' := [(5, .int w26v), (0, .ref 19), (1, .int a), (2, .int b), (3, .int c), (4, .int w14x4)]) (zml mf52 (by decide)) rfl ?_
          refine zs_iload (pc := 82) t52_82 rfl ?_
          refine zs_invS (pc := 84) (as := [.int w26v]) (st := []) t52_84 (by decide) mf42 rfl rfl ⟨by decide, by decide, Nat.le_of_ble_eq_true rfl, Nat.le_of_ble_eq_true rfl⟩ (zs_in (by decide) mf42 (Nat.le_of_ble_eq_true rfl) ?_) (fun _ _ q => q)
          show zGo X l 0 0 0 42 0 [(0, .int w26v)] [] w14M _
          refine zs_iload_n (pc := 0) t42_0 rfl ?_
          refine zs_sipush (pc := 1) t42_1 (v := -9999) (by decide) ?_
          by_cases w27 : ((a.toInt + w17v.toInt) + w22v.toInt) < (-9999)
          · refine zs_icmp_ltT (pc := 4) t42_4 w26 lin9999 (by omega) ?_
            refine zs_iconst (pc := 18) t42_18 (v := 0) (by decide) ?_
            refine zs_iret (pc := 19) t42_19 mr42 (by decide) ?_
            show zGo X l 3 0 0 52 87 [(5, .int w26v), (0, .ref 19), (1, .int a), (2, .int b), (3, .int c), (4, .int w14x4)] [.int (0 : Int32)] w14M _
            refine zs_if_eqT (pc := 87) t52_87 li0 (by decide) ?_
            obtain ⟨w28v, w28e, w28⟩ := ziadd (a := w14x4) (b := Int32.ofInt 1) rfl (show (Int32.ofInt 1).toInt = 1 by decide) (by omega) (by omega)
            refine zs_iinc (pc := 120) t52_120 (ls' := [(4, .int w28v), (5, .int w26v), (0, .ref 19), (1, .int a), (2, .int b), (3, .int c)]) (zml mf52 (by decide)) rfl (c := w28v) w28e rfl ?_
            refine zs_goto (pc := 123) t52_123 ?_
            refine zGo.locals (ls' := [(0, .ref 19), (1, .int a), (2, .int b), (3, .int c), (4, .int w28v)]) (by simp) ?_
            have w29 := w28
            have w30 : w28v.toInt = (w14x4.toInt + 1) := w28
            exact w14ih (w14m - 1) (by omega) w28v w14M ⟨by omega, by omega⟩ w14s w14I ((zFr.refl).trans (w14F.mono rfl)) (by omega) (fun l hl => by obtain rfl : l = w15n + 1 := (by omega); exact ⟨w14G, zPj.skip w14d (by unfold pLf; omega), w14g⟩) (by omega)
          · refine zs_icmp_ltF (pc := 4) t42_4 w26 lin9999 (by omega) ?_
            refine zs_iload_n (pc := 7) t42_7 rfl ?_
            refine zs_sipush (pc := 8) t42_8 (v := 9999) (by decide) ?_
            by_cases w31 : 9999 < ((a.toInt + w17v.toInt) + w22v.toInt)
            · refine zs_icmp_gtT (pc := 11) t42_11 w26 li9999 (by omega) ?_
              refine zs_iconst (pc := 18) t42_18 (v := 0) (by decide) ?_
              refine zs_iret (pc := 19) t42_19 mr42 (by decide) ?_
              show zGo X l 3 0 0 52 87 [(5, .int w26v), (0, .ref 19), (1, .int a), (2, .int b), (3, .int c), (4, .int w14x4)] [.int (0 : Int32)] w14M _
              refine zs_if_eqT (pc := 87) t52_87 li0 (by decide) ?_
              obtain ⟨w32v, w32e, w32⟩ := ziadd (a := w14x4) (b := Int32.ofInt 1) rfl (show (Int32.ofInt 1).toInt = 1 by decide) (by omega) (by omega)
              refine zs_iinc (pc := 120) t52_120 (ls' := [(4, .int w32v), (5, .int w26v), (0, .ref 19), (1, .int a), (2, .int b), (3, .int c)]) (zml mf52 (by decide)) rfl (c := w32v) w32e rfl ?_
              refine zs_goto (pc := 123) t52_123 ?_
              refine zGo.locals (ls' := [(0, .ref 19), (1, .int a), (2, .int b), (3, .int c), (4, .int w32v)]) (by simp) ?_
              have w33 := w32
              have w34 : w32v.toInt = (w14x4.toInt + 1) := w32
              exact w14ih (w14m - 1) (by omega) w32v w14M ⟨by omega, by omega⟩ w14s w14I ((zFr.refl).trans (w14F.mono rfl)) (by omega) (fun l hl => by obtain rfl : l = w15n + 1 := (by omega); exact ⟨w14G, zPj.skip w14d (by unfold pLf; omega), w14g⟩) (by omega)
            · refine zs_icmp_gtF (pc := 11) t42_11 w26 li9999 (by omega) ?_
              refine zs_iconst (pc := 14) t42_14 (v := 1) (by decide) ?_
              refine zs_goto (pc := 15) t42_15 ?_
              refine zs_iret (pc := 19) t42_19 mr42 (by decide) ?_
              show zGo X l 3 0 0 52 87 [(5, .int w26v), (0, .ref 19), (1, .int a), (2, .int b), (3, .int c), (4, .int w14x4)] [.int (1 : Int32)] w14M _
              refine zs_if_eqF (pc := 87) t52_87 li1 (by decide) ?_
              refine zs_aload_n (pc := 90) t52_90 rfl ?_
              refine zs_iload (pc := 91) t52_91 rfl ?_
              refine zs_iload (pc := 93) t52_93 rfl ?_
              refine zs_aload_n (pc := 95) t52_95 rfl ?_
              refine zs_get (pc := 96) t52_96 (by decide) (zk1 (w14s.k fk_zMc_19)) (w14s.p rfl fv_zMc_19_1) ?_
              refine zs_iload (pc := 99) t52_99 rfl ?_
              have w35 := zrg (zI M 20 w15n)
              have w36 : (uS w14G 2 (F 2 + 1)) (14 + 2 * w15n) = F (14 + 2 * w15n) := (uS.o (by omega)).trans (w14d.2.2 _ (by omega))
              have w37 := x1.2.1 w15n (by omega)
              have w38 := pLf.b (l := w15n) (t := b.toInt) (k := c.toInt) w37.1 w37.2.1 (by omega) (by omega) (by omega) (by omega)
              have w39 : (zI w14M 20 w15n).toInt = F (14 + 2 * w15n) := by rw [show w15n = w15n by omega]; exact (w14g.2.1 w15n (by omega)).1.trans w36
              have w40 : (zI M 20 w15n).toInt = F (14 + 2 * w15n) := (congrArg Int32.toInt ((w14F 20 w15n rfl).trans ((zIo (by decide)).trans ((zIo (by decide)).trans ((zIo (by decide)).trans ((zIo (by decide)).trans rfl)))))).symm.trans w39
              refine zs_iald (pc := 101) t52_101 (j := w15n) (by decide) (zk1 (w14s.k fk_zMc_20)) (show w14x4.toInt = ((w15n : Nat) : Int) by omega) (zk2 (w14s.k fk_zMc_20) (by omega)) ((w14F 20 w15n rfl).trans ((zIo (by decide)).trans ((zIo (by decide)).trans ((zIo (by decide)).trans ((zIo (by decide)).trans rfl))))) ?_
              refine zs_bipush (pc := 102) t52_102 (v := 10) (by decide) ?_
              obtain ⟨w41v, w41⟩ : ∃ v, (zI M 20 w15n) / (10 : Int32) = v := ⟨_, rfl⟩
              have w41g : w41v.toInt = (zI M 20 w15n).toInt / 10 := by rw [← w41]; exact zdivp rfl li10 (by omega) (by decide)
              refine zs_idiv (pc := 104) t52_104 (by decide) (c := w41v) w41 ?_
              refine zs_aload_n (pc := 105) t52_105 rfl ?_
              refine zs_get (pc := 106) t52_106 (by decide) (zk1 (w14s.k fk_zMc_19)) (zfvi rfl ((w14F 19 8 rfl).trans zIs)) ?_
              refine zs_iconst (pc := 109) t52_109 (v := 1) (by decide) ?_
              obtain ⟨w42v, w42e, w42⟩ := zisub (a := w12v) (b := (1 : Int32)) w12 li1 (by omega) (by omega)
              refine zs_isub (pc := 110) t52_110 (c := w42v) w42e ?_
              have w43 : w26v.toInt = ((a.toInt + w17v.toInt) + w22v.toInt) := w26
              have w44 : w42v.toInt = (((zI M 19 8).toInt + 1) - 1) := w42
              have w45 : w26v.toInt = ((a.toInt + w17v.toInt) + w22v.toInt) := w26
              have w46 : w42v.toInt = (((zI M 19 8).toInt + 1) - 1) := w42
              refine zs_invV (pc := 111) (k := 19) (as' := [.int w14x4, .int w26v, .int w41v, .int w42v]) (st := []) t52_111 mf50 rfl rfl (Or.inl ⟨by decide, (zk1 (w14s.k fk_zMc_19))⟩) ⟨by decide, by decide, Nat.le_of_ble_eq_true rfl, Nat.le_of_ble_eq_true rfl⟩ (X50_19 w14s w14I w14g ?_) (fun _ _ q => q)
              intro w47M w47v w47s w47I w47F w47x0
              have w47g := zrg w47v
              show zGo X l 3 0 0 52 114 [(5, .int w26v), (0, .ref 19), (1, .int a), (2, .int b), (3, .int c), (4, .int w14x4)] [.int w47v] w47M _
              rcases w47x0 with w48 | w48
              · skip
                have w48v := w48.1
                have w48w := w48.2.1
                refine zs_iconst (pc := 114) t52_114 (v := -1) (by decide) ?_
                refine zs_icmp_neF (pc := 115) t52_115 rfl lin1 (by omega) ?_
                refine zs_iconst (pc := 118) t52_118 (v := 0) (by decide) ?_
                exact zs_iret (pc := 119) t52_119 mr52 (by decide) (hQ _ _ w47s w47I (((((((zFr.refl).put rfl).put rfl).put rfl).put rfl).trans (w14F.mono rfl)).trans (w47F.mono rfl)) (Or.inl ⟨by decide, Or.inr (zPj.full w14d (by unfold pLf; omega) (by unfold pLf; omega) (by omega) (by omega))⟩) (by decide) (by decide))
              · skip
                have w48w := w48.1
                have w48v := w48.2.1
                have w48z := w48.2.2
                rw [show w14x4.toInt = (w15n : Int) by omega, show w42v.toInt = F 2 by omega] at w48z
                refine zs_iconst (pc := 114) t52_114 (v := -1) (by decide) ?_
                refine zs_icmp_neT (pc := 115) t52_115 rfl lin1 (by omega) ?_
                obtain ⟨w49v, w49e, w49⟩ := ziadd (a := w14x4) (b := Int32.ofInt 1) rfl (show (Int32.ofInt 1).toInt = 1 by decide) (by omega) (by omega)
                refine zs_iinc (pc := 120) t52_120 (ls' := [(4, .int w49v), (5, .int w26v), (0, .ref 19), (1, .int a), (2, .int b), (3, .int c)]) (zml mf52 (by decide)) rfl (c := w49v) w49e rfl ?_
                refine zs_goto (pc := 123) t52_123 ?_
                refine zGo.locals (ls' := [(0, .ref 19), (1, .int a), (2, .int b), (3, .int c), (4, .int w49v)]) (by simp) ?_
                have w50 := w49
                have w51 : w49v.toInt = (w14x4.toInt + 1) := w49
                exact w14ih (w14m - 1) (by omega) w49v w47M ⟨by omega, by omega⟩ w47s w47I (((zFr.refl).trans (w14F.mono rfl)).trans (w47F.mono rfl)) (by omega) (fun l hl => by obtain rfl : l = w15n + 1 := (by omega); exact ⟨_, zPj.hit w14d x1 (by omega) (by unfold pLf; omega) (by omega) (by omega) (by omega) (by omega), (zSo.u2 w48z)⟩) (by omega)
    refine zGo.locals (ls' := [(0, .ref 19), (1, .int a), (2, .int b), (3, .int c), (4, .int (0 : Int32))]) (by simp) ?_
    have w52 := li0
    have w53 : w12v.toInt = ((zI M 19 8).toInt + 1) := w12
    exact w14L ((8 - 0 : Int).toNat) (0 : Int32) (zsI (zsI (zsI (zsI M 26 w8n a) 27 w8n b) 28 w8n c) 19 8 w12v) ⟨by decide, by decide⟩ hs w13 zFr.refl (by omega) (fun l hl => by obtain rfl : l = 0 := (by omega); exact ⟨_, zPj.zero x1 (by omega), zSo.par (n := w8n) x0 rfl rfl rfl (by omega) (by omega) (by omega) (by omega) rfl rfl rfl (by omega)⟩) (by omega)
  · refine zs_icmp_ltF (pc := 6) t52_6 rfl li12 (by omega) ?_
    refine zs_iconst (pc := 9) t52_9 (v := 0) (by decide) ?_
    exact zs_iret (pc := 10) t52_10 mr52 (by decide) (hQ _ _ hs hI (zFr.refl) (Or.inl ⟨by decide, Or.inl (by omega)⟩) (by decide) (by decide))
set_option maxHeartbeats 40000000 in
theorem X28_157_155_19 {X : zX} {l : Launch} {M : zM} {Q : Option Value → zM → Prop} (hs : zSk zMc M) (hI : zIv cLo cHi M) {F : Nat → Int} {g : Nat → Int} {nn : Int} (u0 : (zI M 155 2).toInt < (zI M 155 1).toInt) (u1 : 0 ≤ (zI M 155 2).toInt) (x0 : zSo M 19 F) (x1 : zTa M g nn) (x2 : zWF F) (hQ : ∀ (M' : zM) (v : Int32), zSk zMc M' → zIv cLo cHi M' → zFr [(157, 160, none), (155, 155, some 2), (155, 155, some 3), (155, 155, some 4), (155, 155, some 5), (19, 19, none), (20, 30, none)] M M' → (∀ p : Nat, (zI M 155 2).toInt = (p : Int) → (v.toInt = 0 ∧ pIt g F p = none) ∨ (v.toInt = 1 ∧ ∃ (q : Nat) (F2 : Nat → Int), pIt g F p = some (q, F2) ∧ (zI M' 155 2).toInt = (q : Int) ∧ p < q ∧ (q : Int) ≤ nn ∧ zSo M' 19 F2 ∧ zWF F2)) → 0 ≤ v.toInt → v.toInt ≤ 1 → Q (some (.int v)) M') : zCall X l 5 0 0 28 [.ref 157, .ref 155, .ref 19] M Q := by
  refine zs_in (by decide) mf28 (Nat.le_of_ble_eq_true rfl) ?_
  show zGo X l 5 0 0 28 0 [(0, .ref 157), (1, .ref 155), (2, .ref 19)] [] M _
  refine zGo.zou6 (fun x6 => ?_)
  have f0 := x0.1
  have w1 := ib19_0 hI
  have w2 : (zI M 19 0).toInt = (zI M 19 0).toInt := (congrArg Int32.toInt rfl).trans rfl
  have w3 := ib19_3 hI
  have w4 : (zI M 19 3).toInt = (zI M 19 3).toInt := (congrArg Int32.toInt rfl).trans rfl
  have w5 := ib19_8 hI
  have w6 : (zI M 19 8).toInt = (zI M 19 8).toInt := (congrArg Int32.toInt rfl).trans rfl
  have f1 := x2.1
  have f3 := x2.2.2.2
  have f2 := (show (zI M 19 0).toInt = F 0 ∧ (zI M 19 3).toInt = F 1 ∧ (zI M 19 8).toInt = F 2 from ⟨x0.1.1, x0.1.2.1, x0.1.2.2.1⟩)
  have hn := x1.2
  have w7 := ib155_1 hI
  have w8 : (zI M 155 1).toInt = (zI M 155 1).toInt := (congrArg Int32.toInt rfl).trans rfl
  have w9 := zrg (zI M 155 2)
  have w10 : (zI M 155 2).toInt = (zI M 155 2).toInt := (congrArg Int32.toInt rfl).trans rfl
  obtain ⟨w11n, w11⟩ : ∃ n : Nat, (zI M 155 2).toInt = (n : Int) := ⟨((zI M 155 2).toInt).toNat, by omega⟩
  refine zs_aload_n (pc := 0) t28_0 rfl ?_
  refine zs_invV (pc := 1) (k := 155) (as' := []) (st := []) t28_1 mf29 rfl rfl (Or.inl ⟨by decide, (zk1 (hs.k fk_zMc_155))⟩) ⟨by decide, by decide, Nat.le_of_ble_eq_true rfl, Nat.le_of_ble_eq_true rfl⟩ (zs_in (by decide) mf29 (Nat.le_of_ble_eq_true rfl) ?_) (fun _ _ q => q)
  show zGo X l 0 0 0 29 0 [(0, .ref 155)] [] M _
  refine zs_aload_n (pc := 0) t29_0 rfl ?_
  refine zs_get (pc := 1) t29_1 (by decide) (zk1 (hs.k fk_zMc_155)) (zfvi rfl rfl) ?_
  refine zs_iret (pc := 4) t29_4 mr29 rfl ?_
  show zGo X l 5 0 0 28 4 [(0, .ref 157), (1, .ref 155), (2, .ref 19)] [.int (zI M 155 2)] M _
  refine zs_istore_n (pc := 4) t28_4 (ls' := [(3, .int (zI M 155 2)), (0, .ref 157), (1, .ref 155), (2, .ref 19)]) (zml mf28 (by decide)) rfl ?_
  refine zs_aload_n (pc := 5) t28_5 rfl ?_
  refine zs_invV (pc := 6) (k := 155) (as' := []) (st := []) t28_6 mf30 rfl rfl (Or.inl ⟨by decide, (zk1 (hs.k fk_zMc_155))⟩) ⟨by decide, by decide, Nat.le_of_ble_eq_true rfl, Nat.le_of_ble_eq_true rfl⟩ (zs_in (by decide) mf30 (Nat.le_of_ble_eq_true rfl) ?_) (fun _ _ q => q)
  show zGo X l 1 0 0 30 0 [(0, .ref 155)] [] M _
  refine zs_aload_n (pc := 0) t30_0 rfl ?_
  refine zs_invV (pc := 1) (k := 155) (as' := []) (st := []) t30_1 mf31 rfl rfl (Or.inl ⟨by decide, (zk1 (hs.k fk_zMc_155))⟩) ⟨by decide, by decide, Nat.le_of_ble_eq_true rfl, Nat.le_of_ble_eq_true rfl⟩ (P31 hs hI ?_) (fun _ _ q => q)
  have w13 : (zI M 155 2).toInt = (zI M 155 2).toInt := (congrArg Int32.toInt rfl).trans rfl
  have w14 : (zI M 155 1).toInt = (zI M 155 1).toInt := (congrArg Int32.toInt rfl).trans rfl
  have w12 : (zpt M).toInt = g w11n := zpt.tr x1 (by omega)
  have w15 := zTa.rg (M := M) x1 w11n
  show zGo X l 1 0 0 30 4 [(0, .ref 155)] [.int (zpt M)] M _
  refine zs_istore_n (pc := 4) t30_4 (ls' := [(1, .int (zpt M)), (0, .ref 155)]) (zml mf30 (by decide)) rfl ?_
  refine zs_iload_n (pc := 5) t30_5 rfl ?_
  refine zs_iconst (pc := 6) t30_6 (v := -1) (by decide) ?_
  by_cases w16 : (g w11n) = (-1)
  · refine zs_icmp_eqT (pc := 7) t30_7 w12 lin1 (by omega) ?_
    refine zs_iload_n (pc := 20) t30_20 rfl ?_
    refine zs_iret (pc := 21) t30_21 mr30 rfl ?_
    show zGo X l 5 0 0 28 9 [(3, .int (zI M 155 2)), (0, .ref 157), (1, .ref 155), (2, .ref 19)] [.int (zpt M)] M _
    refine zs_istore (pc := 9) t28_9 (ls' := [(4, .int (zpt M)), (3, .int (zI M 155 2)), (0, .ref 157), (1, .ref 155), (2, .ref 19)]) (zml mf28 (by decide)) rfl ?_
    refine zs_iload (pc := 11) t28_11 rfl ?_
    refine zs_invS (pc := 13) (as := [.int (zpt M)]) (st := []) t28_13 (by decide) mf32 rfl rfl ⟨by decide, by decide, Nat.le_of_ble_eq_true rfl, Nat.le_of_ble_eq_true rfl⟩ (zs_in (by decide) mf32 (Nat.le_of_ble_eq_true rfl) ?_) (fun _ _ q => q)
    show zGo X l 0 0 0 32 0 [(0, .int (zpt M))] [] M _
    refine zs_iload_n (pc := 0) t32_0 rfl ?_
    refine zs_tswD (pc := 1) t32_1 w12 (by omega) (pc2 := 92) rfl ?_
    refine zs_iconst (pc := 92) t32_92 (v := 0) (by decide) ?_
    refine zs_iret (pc := 93) t32_93 mr32 (by decide) ?_
    show zGo X l 5 0 0 28 16 [(4, .int (zpt M)), (3, .int (zI M 155 2)), (0, .ref 157), (1, .ref 155), (2, .ref 19)] [.int (0 : Int32)] M _
    refine zs_istore (pc := 16) t28_16 (ls' := [(5, .int (0 : Int32)), (4, .int (zpt M)), (3, .int (zI M 155 2)), (0, .ref 157), (1, .ref 155), (2, .ref 19)]) (zml mf28 (by decide)) rfl ?_
    refine zs_iload (pc := 18) t28_18 rfl ?_
    refine zs_if_eqT (pc := 20) t28_20 li0 (by decide) ?_
    refine zs_aload_n (pc := 32) t28_32 rfl ?_
    refine zs_iload_n (pc := 33) t28_33 rfl ?_
    refine zs_invV (pc := 34) (k := 155) (as' := [.int (zI M 155 2)]) (st := []) t28_34 mf34 rfl rfl (Or.inl ⟨by decide, (zk1 (hs.k fk_zMc_155))⟩) ⟨by decide, by decide, Nat.le_of_ble_eq_true rfl, Nat.le_of_ble_eq_true rfl⟩ (zs_in (by decide) mf34 (Nat.le_of_ble_eq_true rfl) ?_) (fun _ _ q => q)
    show zGo X l 0 0 0 34 0 [(0, .ref 155), (1, .int (zI M 155 2))] [] M _
    refine zs_aload_n (pc := 0) t34_0 rfl ?_
    refine zs_iload_n (pc := 1) t34_1 rfl ?_
    have w17 : zIv cLo cHi (zsI M 155 3 (zI M 155 2)) := zIv.put hI (show (-2147483648) ≤ (zI M 155 2).toInt ∧ (zI M 155 2).toInt ≤ 2147483647 from zrg (zI M 155 2))
    refine zs_putI (pc := 2) t34_2 (zk1 (hs.k fk_zMc_155)) rfl ?_
    refine zs_iconst (pc := 5) t34_5 (v := 0) (by decide) ?_
    refine zs_iret (pc := 6) t34_6 mr34 (by decide) ?_
    show zGo X l 5 0 0 28 37 [(5, .int (0 : Int32)), (4, .int (zpt M)), (3, .int (zI M 155 2)), (0, .ref 157), (1, .ref 155), (2, .ref 19)] [.int (0 : Int32)] (zsI M 155 3 (zI M 155 2)) _
    have w18 : (zI (zsI M 155 3 (zI M 155 2)) 155 2).toInt = (zI M 155 2).toInt := (congrArg Int32.toInt ((zIoj (by decide)).trans rfl)).trans rfl
    exact zs_iret (pc := 37) t28_37 mr28 (by decide) (hQ _ _ hs w17 ((zFr.refl).put rfl) (fun p hp => by obtain rfl : w11n = p := (by omega); exact Or.inl ⟨by decide, pIt.no (by omega)⟩) (by decide) (by decide))
  · refine zs_icmp_eqF (pc := 7) t30_7 w12 lin1 (by omega) ?_
    refine zs_aload_n (pc := 10) t30_10 rfl ?_
    refine zs_dup (pc := 11) t30_11 rfl ?_
    refine zs_get (pc := 12) t30_12 (by decide) (zk1 (hs.k fk_zMc_155)) (zfvi rfl rfl) ?_
    refine zs_iconst (pc := 15) t30_15 (v := 1) (by decide) ?_
    obtain ⟨w19v, w19e, w19⟩ := ziadd (a := (zI M 155 2)) (b := (1 : Int32)) rfl li1 (by omega) (by omega)
    refine zs_iadd (pc := 16) t30_16 (c := w19v) w19e ?_
    have w20 : zIv cLo cHi (zsI M 155 2 w19v) := zIv.put hI (show (-2147483648) ≤ w19v.toInt ∧ w19v.toInt ≤ 2147483647 from zrg w19v)
    refine zs_putI (pc := 17) t30_17 (zk1 (hs.k fk_zMc_155)) rfl ?_
    refine zs_iload_n (pc := 20) t30_20 rfl ?_
    refine zs_iret (pc := 21) t30_21 mr30 rfl ?_
    show zGo X l 5 0 0 28 9 [(3, .int (zI M 155 2)), (0, .ref 157), (1, .ref 155), (2, .ref 19)] [.int (zpt M)] (zsI M 155 2 w19v) _
    refine zs_istore (pc := 9) t28_9 (ls' := [(4, .int (zpt M)), (3, .int (zI M 155 2)), (0, .ref 157), (1, .ref 155), (2, .ref 19)]) (zml mf28 (by decide)) rfl ?_
    refine zs_iload (pc := 11) t28_11 rfl ?_
    refine zs_invS (pc := 13) (as := [.int (zpt M)]) (st := []) t28_13 (by decide) mf32 rfl rfl ⟨by decide, by decide, Nat.le_of_ble_eq_true rfl, Nat.le_of_ble_eq_true rfl⟩ (zs_in (by decide) mf32 (Nat.le_of_ble_eq_true rfl) ?_) (fun _ _ q => q)
    show zGo X l 0 0 0 32 0 [(0, .int (zpt M))] [] (zsI M 155 2 w19v) _
    refine zs_iload_n (pc := 0) t32_0 rfl ?_
    by_cases w21 : (g w11n) = 103
    · refine zs_tswI (pc := 1) t32_1 ((w12 : (zpt M).toInt = (g w11n)).trans w21) (by decide) rfl (pc2 := 84) rfl ?_
      refine zs_iconst (pc := 84) t32_84 (v := 1) (by decide) ?_
      refine zs_iret (pc := 85) t32_85 mr32 (by decide) ?_
      show zGo X l 5 0 0 28 16 [(4, .int (zpt M)), (3, .int (zI M 155 2)), (0, .ref 157), (1, .ref 155), (2, .ref 19)] [.int (1 : Int32)] (zsI M 155 2 w19v) _
      refine zs_istore (pc := 16) t28_16 (ls' := [(5, .int (1 : Int32)), (4, .int (zpt M)), (3, .int (zI M 155 2)), (0, .ref 157), (1, .ref 155), (2, .ref 19)]) (zml mf28 (by decide)) rfl ?_
      refine zs_iload (pc := 18) t28_18 rfl ?_
      refine zs_if_eqF (pc := 20) t28_20 li1 (by decide) ?_
      refine zs_iload (pc := 23) t28_23 rfl ?_
      refine zs_aload_n (pc := 25) t28_25 rfl ?_
      refine zs_invS (pc := 26) (as := [.int (zpt M), .ref 19]) (st := []) t28_26 (by decide) mf33 rfl rfl ⟨by decide, by decide, Nat.le_of_ble_eq_true rfl, Nat.le_of_ble_eq_true rfl⟩ (zs_in (by decide) mf33 (Nat.le_of_ble_eq_true rfl) ?_) (fun _ _ q => q)
      show zGo X l 0 0 0 33 0 [(0, .int (zpt M)), (1, .ref 19)] [] (zsI M 155 2 w19v) _
      refine zs_iload_n (pc := 0) t33_0 rfl ?_
      refine zs_lsw (pc := 1) t33_1 (off := 80) w12 (by unfold zlsel; repeat (first | rfl | (rw [if_neg (by omega)]; unfold zlsel))) (pc2 := 81) rfl ?_
      refine zs_iconst (pc := 81) t33_81 (v := 0) (by decide) ?_
      refine zs_iret (pc := 82) t33_82 mr33 (by decide) ?_
      show zGo X l 5 0 0 28 29 [(5, .int (1 : Int32)), (4, .int (zpt M)), (3, .int (zI M 155 2)), (0, .ref 157), (1, .ref 155), (2, .ref 19)] [.int (0 : Int32)] (zsI M 155 2 w19v) _
      refine zs_if_eqT (pc := 29) t28_29 li0 (by decide) ?_
      refine zs_iconst (pc := 38) t28_38 (v := 0) (by decide) ?_
      refine zs_istore (pc := 39) t28_39 (ls' := [(6, .int (0 : Int32)), (5, .int (1 : Int32)), (4, .int (zpt M)), (3, .int (zI M 155 2)), (0, .ref 157), (1, .ref 155), (2, .ref 19)]) (zml mf28 (by decide)) rfl ?_
      refine zs_iload (pc := 41) t28_41 rfl ?_
      refine zs_iload (pc := 43) t28_43 rfl ?_
      refine zs_icmp_geF (pc := 45) t28_45 li0 li1 (by decide) ?_
      refine zs_aload_n (pc := 48) t28_48 rfl ?_
      have w22 : (zI (zsI M 155 2 w19v) 155 2).toInt = ((zI M 155 2).toInt + 1) := (congrArg Int32.toInt zIs).trans w19
      have w23 : (zI (zsI M 155 2 w19v) 155 2).toInt = ((zI M 155 2).toInt + 1) := (congrArg Int32.toInt zIs).trans w19
      have w24 : (zI (zsI M 155 2 w19v) 155 1).toInt = (zI M 155 1).toInt := (congrArg Int32.toInt ((zIoj (by decide)).trans rfl)).trans rfl
      refine zs_invV (pc := 49) (k := 155) (as' := []) (st := []) t28_49 mf35 rfl rfl (Or.inl ⟨by decide, (zk1 (hs.k fk_zMc_155))⟩) ⟨by decide, by decide, Nat.le_of_ble_eq_true rfl, Nat.le_of_ble_eq_true rfl⟩ (X35_155 hs w20 (by omega) (by omega) (zTa.fr x1 (zEq.put rfl)) ?_) (fun _ _ q => q)
      intro w25M w25v w25s w25I w25F w25x0 w25a w25b
      show zGo X l 5 0 0 28 52 [(6, .int (0 : Int32)), (5, .int (1 : Int32)), (4, .int (zpt M)), (3, .int (zI M 155 2)), (0, .ref 157), (1, .ref 155), (2, .ref 19)] [.int w25v] w25M _
      rcases w25x0 (w11n + 1) (by omega) with ⟨w26v, w26e⟩ | ⟨w26v, w26E, w26x, w26e, w26_3, w26_4, w26_5, w26_6, w26_7, w26_8⟩
      · skip
        refine zs_if_neF (pc := 52) t28_52 rfl (by omega) ?_
        refine zs_iconst (pc := 55) t28_55 (v := 0) (by decide) ?_
        have w27 := zrg (zI w25M 155 2)
        have w28 : (zI w25M 155 2).toInt = (zI w25M 155 2).toInt := (congrArg Int32.toInt rfl).trans rfl
        exact zs_iret (pc := 56) t28_56 mr28 (by decide) (hQ _ _ w25s w25I (((zFr.refl).put rfl).trans (w25F.mono rfl)) (fun p hp => by obtain rfl : w11n = p := (by omega); exact Or.inl ⟨by decide, (pIt.g (by omega)).trans (pB.f (pRd.f w26e))⟩) (by decide) (by decide))
      · skip
        subst w26_4
        refine zs_if_neT (pc := 52) t28_52 rfl (by omega) ?_
        refine zs_aload_n (pc := 57) t28_57 rfl ?_
        refine zs_iload (pc := 58) t28_58 rfl ?_
        refine zs_iload (pc := 60) t28_60 rfl ?_
        refine zs_aload_n (pc := 62) t28_62 rfl ?_
        refine zs_invV (pc := 63) (k := 155) (as' := []) (st := [.int (0 : Int32), .int (zpt M), .ref 157]) t28_63 mf37 rfl rfl (Or.inl ⟨by decide, (zk1 (w25s.k fk_zMc_155))⟩) ⟨by decide, by decide, Nat.le_of_ble_eq_true rfl, Nat.le_of_ble_eq_true rfl⟩ (zs_in (by decide) mf37 (Nat.le_of_ble_eq_true rfl) ?_) (fun _ _ q => q)
        show zGo X l 0 0 0 37 0 [(0, .ref 155)] [] w25M _
        refine zs_aload_n (pc := 0) t37_0 rfl ?_
        have w29 := ib155_4 w25I
        refine zs_get (pc := 1) t37_1 (by decide) (zk1 (w25s.k fk_zMc_155)) (zfvi rfl rfl) ?_
        refine zs_iret (pc := 4) t37_4 mr37 rfl ?_
        show zGo X l 5 0 0 28 66 [(6, .int (0 : Int32)), (5, .int (1 : Int32)), (4, .int (zpt M)), (3, .int (zI M 155 2)), (0, .ref 157), (1, .ref 155), (2, .ref 19)] [.int (zI w25M 155 4), .int (0 : Int32), .int (zpt M), .ref 157] w25M _
        refine zs_aload_n (pc := 66) t28_66 rfl ?_
        refine zs_invV (pc := 67) (k := 157) (as' := [.int (zpt M), .int (0 : Int32), .int (zI w25M 155 4), .ref 19]) (st := []) t28_67 mf38 rfl rfl (Or.inl ⟨by decide, (zk1 (w25s.k fk_zMc_157))⟩) ⟨by decide, by decide, Nat.le_of_ble_eq_true rfl, Nat.le_of_ble_eq_true rfl⟩ (zs_in (by decide) mf38 (Nat.le_of_ble_eq_true rfl) ?_) (fun _ _ q => q)
        show zGo X l 2 0 0 38 0 [(0, .ref 157), (1, .int (zpt M)), (2, .int (0 : Int32)), (3, .int (zI w25M 155 4)), (4, .ref 19)] [] w25M _
        refine zs_iload_n (pc := 0) t38_0 rfl ?_
        refine zs_lsw (pc := 1) t38_1 (off := 122) w12 (by unfold zlsel; repeat (first | rfl | (rw [if_neg (by omega)]; unfold zlsel))) (pc2 := 123) rfl ?_
        refine zs_iload_n (pc := 123) t38_123 rfl ?_
        refine zs_invS (pc := 124) (as := [.int (zpt M)]) (st := []) t38_124 (by decide) mf45 rfl rfl ⟨by decide, by decide, Nat.le_of_ble_eq_true rfl, Nat.le_of_ble_eq_true rfl⟩ (zs_in (by decide) mf45 (Nat.le_of_ble_eq_true rfl) ?_) (fun _ _ q => q)
        show zGo X l 0 0 0 45 0 [(0, .int (zpt M))] [] w25M _
        refine zs_iload_n (pc := 0) t45_0 rfl ?_
        refine zs_lsw (pc := 1) t45_1 (off := 45) ((w12 : (zpt M).toInt = (g w11n)).trans (by omega)) rfl (pc2 := 46) rfl ?_
        refine zs_iconst (pc := 46) t45_46 (v := 4) (by decide) ?_
        refine zs_iret (pc := 47) t45_47 mr45 (by decide) ?_
        show zGo X l 2 0 0 38 127 [(0, .ref 157), (1, .int (zpt M)), (2, .int (0 : Int32)), (3, .int (zI w25M 155 4)), (4, .ref 19)] [.int (4 : Int32)] w25M _
        refine zs_iload_n (pc := 127) t38_127 rfl ?_
        refine zs_iadd (pc := 128) t38_128 (c := 4) (by decide) ?_
        refine zs_iload_n (pc := 129) t38_129 rfl ?_
        refine zs_invS (pc := 130) (as := [.int (4 : Int32), .int (zI w25M 155 4)]) (st := []) t38_130 (by decide) mf44 rfl rfl ⟨by decide, by decide, Nat.le_of_ble_eq_true rfl, Nat.le_of_ble_eq_true rfl⟩ (zs_in (by decide) mf44 (Nat.le_of_ble_eq_true rfl) ?_) (fun _ _ q => q)
        show zGo X l 1 0 0 44 0 [(0, .int (4 : Int32)), (1, .int (zI w25M 155 4))] [] w25M _
        refine zs_iload_n (pc := 0) t44_0 rfl ?_
        refine zs_if_ltF (pc := 1) t44_1 li4 (by decide) ?_
        refine zs_iload_n (pc := 4) t44_4 rfl ?_
        refine zs_bipush (pc := 5) t44_5 (v := 9) (by decide) ?_
        refine zs_icmp_geF (pc := 7) t44_7 li4 li9 (by decide) ?_
        refine zs_iload_n (pc := 10) t44_10 rfl ?_
        refine zs_getstatic (pc := 11) t44_11 (v := .ref 2) rfl ?_
        refine zs_iload_n (pc := 14) t44_14 rfl ?_
        have w30 := zrg (zI M 2 4)
        have w31 : (zI M 2 4).toInt = 0 := by rw [x6 2 4 (by decide)]; decide
        refine zs_iald (pc := 15) t44_15 (j := 4) (by decide) (zk1 (w25s.k fk_zMc_2)) li4 (zk2 (w25s.k fk_zMc_2) (by decide)) ((w25F 2 4 rfl).trans ((zIo (by decide)).trans rfl)) ?_
        refine zs_getstatic (pc := 16) t44_16 (v := .ref 3) rfl ?_
        refine zs_iload_n (pc := 19) t44_19 rfl ?_
        have w32 := zrg (zI M 3 4)
        have w33 : (zI M 3 4).toInt = 999 := by rw [x6 3 4 (by decide)]; decide
        refine zs_iald (pc := 20) t44_20 (j := 4) (by decide) (zk1 (w25s.k fk_zMc_3)) li4 (zk2 (w25s.k fk_zMc_3) (by decide)) ((w25F 3 4 rfl).trans ((zIo (by decide)).trans rfl)) ?_
        refine zs_invS (pc := 21) (as := [.int (zI w25M 155 4), .int (zI M 2 4), .int (zI M 3 4)]) (st := []) t44_21 (by decide) mf39 rfl rfl ⟨by decide, by decide, Nat.le_of_ble_eq_true rfl, Nat.le_of_ble_eq_true rfl⟩ (zs_in (by decide) mf39 (Nat.le_of_ble_eq_true rfl) ?_) (fun _ _ q => q)
        show zGo X l 0 0 0 39 0 [(0, .int (zI w25M 155 4)), (1, .int (zI M 2 4)), (2, .int (zI M 3 4))] [] w25M _
        refine zs_iload_n (pc := 0) t39_0 rfl ?_
        refine zs_iload_n (pc := 1) t39_1 rfl ?_
        by_cases w34 : (zI w25M 155 4).toInt < (zI M 2 4).toInt
        · refine zs_icmp_ltT (pc := 2) t39_2 rfl rfl (by omega) ?_
          refine zs_iconst (pc := 14) t39_14 (v := 0) (by decide) ?_
          refine zs_iret (pc := 15) t39_15 mr39 (by decide) ?_
          show zGo X l 1 0 0 44 24 [(0, .int (4 : Int32)), (1, .int (zI w25M 155 4))] [.int (0 : Int32)] w25M _
          refine zs_if_eqT (pc := 24) t44_24 li0 (by decide) ?_
          refine zs_iconst (pc := 31) t44_31 (v := 0) (by decide) ?_
          refine zs_iret (pc := 32) t44_32 mr44 (by decide) ?_
          show zGo X l 2 0 0 38 133 [(0, .ref 157), (1, .int (zpt M)), (2, .int (0 : Int32)), (3, .int (zI w25M 155 4)), (4, .ref 19)] [.int (0 : Int32)] w25M _
          refine zs_iret (pc := 133) t38_133 mr38 (by decide) ?_
          show zGo X l 5 0 0 28 70 [(6, .int (0 : Int32)), (5, .int (1 : Int32)), (4, .int (zpt M)), (3, .int (zI M 155 2)), (0, .ref 157), (1, .ref 155), (2, .ref 19)] [.int (0 : Int32)] w25M _
          refine zs_if_neF (pc := 70) t28_70 li0 (by decide) ?_
          refine zs_aload_n (pc := 73) t28_73 rfl ?_
          refine zs_aload_n (pc := 74) t28_74 rfl ?_
          refine zs_invV (pc := 75) (k := 155) (as' := []) (st := [.ref 155]) t28_75 mf46 rfl rfl (Or.inl ⟨by decide, (zk1 (w25s.k fk_zMc_155))⟩) ⟨by decide, by decide, Nat.le_of_ble_eq_true rfl, Nat.le_of_ble_eq_true rfl⟩ (zs_in (by decide) mf46 (Nat.le_of_ble_eq_true rfl) ?_) (fun _ _ q => q)
          show zGo X l 0 0 0 46 0 [(0, .ref 155)] [] w25M _
          refine zs_aload_n (pc := 0) t46_0 rfl ?_
          have w35 := zrg (zI w25M 155 5)
          refine zs_get (pc := 1) t46_1 (by decide) (zk1 (w25s.k fk_zMc_155)) (zfvi rfl rfl) ?_
          refine zs_iret (pc := 4) t46_4 mr46 rfl ?_
          show zGo X l 5 0 0 28 78 [(6, .int (0 : Int32)), (5, .int (1 : Int32)), (4, .int (zpt M)), (3, .int (zI M 155 2)), (0, .ref 157), (1, .ref 155), (2, .ref 19)] [.int (zI w25M 155 5), .ref 155] w25M _
          refine zs_invV (pc := 78) (k := 155) (as' := [.int (zI w25M 155 5)]) (st := []) t28_78 mf34 rfl rfl (Or.inl ⟨by decide, (zk1 (w25s.k fk_zMc_155))⟩) ⟨by decide, by decide, Nat.le_of_ble_eq_true rfl, Nat.le_of_ble_eq_true rfl⟩ (zs_in (by decide) mf34 (Nat.le_of_ble_eq_true rfl) ?_) (fun _ _ q => q)
          show zGo X l 0 0 0 34 0 [(0, .ref 155), (1, .int (zI w25M 155 5))] [] w25M _
          refine zs_aload_n (pc := 0) t34_0 rfl ?_
          refine zs_iload_n (pc := 1) t34_1 rfl ?_
          have w36 : zIv cLo cHi (zsI w25M 155 3 (zI w25M 155 5)) := zIv.put w25I (show (-2147483648) ≤ (zI w25M 155 5).toInt ∧ (zI w25M 155 5).toInt ≤ 2147483647 from zrg (zI w25M 155 5))
          refine zs_putI (pc := 2) t34_2 (zk1 (w25s.k fk_zMc_155)) rfl ?_
          refine zs_iconst (pc := 5) t34_5 (v := 0) (by decide) ?_
          refine zs_iret (pc := 6) t34_6 mr34 (by decide) ?_
          show zGo X l 5 0 0 28 81 [(6, .int (0 : Int32)), (5, .int (1 : Int32)), (4, .int (zpt M)), (3, .int (zI M 155 2)), (0, .ref 157), (1, .ref 155), (2, .ref 19)] [.int (0 : Int32)] (zsI w25M 155 3 (zI w25M 155 5)) _
          have w37 := zrg (zI w25M 155 2)
          have w38 : (zI (zsI w25M 155 3 (zI w25M 155 5)) 155 2).toInt = (zI w25M 155 2).toInt := (congrArg Int32.toInt ((zIoj (by decide)).trans rfl)).trans rfl
          exact zs_iret (pc := 81) t28_81 mr28 (by decide) (hQ _ _ w25s w36 ((((zFr.refl).put rfl).trans (w25F.mono rfl)).put rfl) (fun p hp => by obtain rfl : w11n = p := (by omega); exact Or.inl ⟨by decide, (pIt.g (by omega)).trans (pB.f (pRd.n w26e (by omega)))⟩) (by decide) (by decide))
        · refine zs_icmp_ltF (pc := 2) t39_2 rfl rfl (by omega) ?_
          refine zs_iload_n (pc := 5) t39_5 rfl ?_
          refine zs_iload_n (pc := 6) t39_6 rfl ?_
          by_cases w39 : (zI M 3 4).toInt < (zI w25M 155 4).toInt
          · refine zs_icmp_gtT (pc := 7) t39_7 rfl rfl (by omega) ?_
            refine zs_iconst (pc := 14) t39_14 (v := 0) (by decide) ?_
            refine zs_iret (pc := 15) t39_15 mr39 (by decide) ?_
            show zGo X l 1 0 0 44 24 [(0, .int (4 : Int32)), (1, .int (zI w25M 155 4))] [.int (0 : Int32)] w25M _
            refine zs_if_eqT (pc := 24) t44_24 li0 (by decide) ?_
            refine zs_iconst (pc := 31) t44_31 (v := 0) (by decide) ?_
            refine zs_iret (pc := 32) t44_32 mr44 (by decide) ?_
            show zGo X l 2 0 0 38 133 [(0, .ref 157), (1, .int (zpt M)), (2, .int (0 : Int32)), (3, .int (zI w25M 155 4)), (4, .ref 19)] [.int (0 : Int32)] w25M _
            refine zs_iret (pc := 133) t38_133 mr38 (by decide) ?_
            show zGo X l 5 0 0 28 70 [(6, .int (0 : Int32)), (5, .int (1 : Int32)), (4, .int (zpt M)), (3, .int (zI M 155 2)), (0, .ref 157), (1, .ref 155), (2, .ref 19)] [.int (0 : Int32)] w25M _
            refine zs_if_neF (pc := 70) t28_70 li0 (by decide) ?_
            refine zs_aload_n (pc := 73) t28_73 rfl ?_
            refine zs_aload_n (pc := 74) t28_74 rfl ?_
            refine zs_invV (pc := 75) (k := 155) (as' := []) (st := [.ref 155]) t28_75 mf46 rfl rfl (Or.inl ⟨by decide, (zk1 (w25s.k fk_zMc_155))⟩) ⟨by decide, by decide, Nat.le_of_ble_eq_true rfl, Nat.le_of_ble_eq_true rfl⟩ (zs_in (by decide) mf46 (Nat.le_of_ble_eq_true rfl) ?_) (fun _ _ q => q)
            show zGo X l 0 0 0 46 0 [(0, .ref 155)] [] w25M _
            refine zs_aload_n (pc := 0) t46_0 rfl ?_
            have w40 := zrg (zI w25M 155 5)
            refine zs_get (pc := 1) t46_1 (by decide) (zk1 (w25s.k fk_zMc_155)) (zfvi rfl rfl) ?_
            refine zs_iret (pc := 4) t46_4 mr46 rfl ?_
            show zGo X l 5 0 0 28 78 [(6, .int (0 : Int32)), (5, .int (1 : Int32)), (4, .int (zpt M)), (3, .int (zI M 155 2)), (0, .ref 157), (1, .ref 155), (2, .ref 19)] [.int (zI w25M 155 5), .ref 155] w25M _
            refine zs_invV (pc := 78) (k := 155) (as' := [.int (zI w25M 155 5)]) (st := []) t28_78 mf34 rfl rfl (Or.inl ⟨by decide, (zk1 (w25s.k fk_zMc_155))⟩) ⟨by decide, by decide, Nat.le_of_ble_eq_true rfl, Nat.le_of_ble_eq_true rfl⟩ (zs_in (by decide) mf34 (Nat.le_of_ble_eq_true rfl) ?_) (fun _ _ q => q)
            show zGo X l 0 0 0 34 0 [(0, .ref 155), (1, .int (zI w25M 155 5))] [] w25M _
            refine zs_aload_n (pc := 0) t34_0 rfl ?_
            refine zs_iload_n (pc := 1) t34_1 rfl ?_
            have w41 : zIv cLo cHi (zsI w25M 155 3 (zI w25M 155 5)) := zIv.put w25I (show (-2147483648) ≤ (zI w25M 155 5).toInt ∧ (zI w25M 155 5).toInt ≤ 2147483647 from zrg (zI w25M 155 5))
            refine zs_putI (pc := 2) t34_2 (zk1 (w25s.k fk_zMc_155)) rfl ?_
            refine zs_iconst (pc := 5) t34_5 (v := 0) (by decide) ?_
            refine zs_iret (pc := 6) t34_6 mr34 (by decide) ?_
            show zGo X l 5 0 0 28 81 [(6, .int (0 : Int32)), (5, .int (1 : Int32)), (4, .int (zpt M)), (3, .int (zI M 155 2)), (0, .ref 157), (1, .ref 155), (2, .ref 19)] [.int (0 : Int32)] (zsI w25M 155 3 (zI w25M 155 5)) _
            have w42 := zrg (zI w25M 155 2)
            have w43 : (zI (zsI w25M 155 3 (zI w25M 155 5)) 155 2).toInt = (zI w25M 155 2).toInt := (congrArg Int32.toInt ((zIoj (by decide)).trans rfl)).trans rfl
            exact zs_iret (pc := 81) t28_81 mr28 (by decide) (hQ _ _ w25s w41 ((((zFr.refl).put rfl).trans (w25F.mono rfl)).put rfl) (fun p hp => by obtain rfl : w11n = p := (by omega); exact Or.inl ⟨by decide, (pIt.g (by omega)).trans (pB.f (pRd.n w26e (by omega)))⟩) (by decide) (by decide))
          · refine zs_icmp_gtF (pc := 7) t39_7 rfl rfl (by omega) ?_
            refine zs_iconst (pc := 10) t39_10 (v := 1) (by decide) ?_
            refine zs_goto (pc := 11) t39_11 ?_
            refine zs_iret (pc := 15) t39_15 mr39 (by decide) ?_
            show zGo X l 1 0 0 44 24 [(0, .int (4 : Int32)), (1, .int (zI w25M 155 4))] [.int (1 : Int32)] w25M _
            refine zs_if_eqF (pc := 24) t44_24 li1 (by decide) ?_
            refine zs_iconst (pc := 27) t44_27 (v := 1) (by decide) ?_
            refine zs_goto (pc := 28) t44_28 ?_
            refine zs_iret (pc := 32) t44_32 mr44 (by decide) ?_
            show zGo X l 2 0 0 38 133 [(0, .ref 157), (1, .int (zpt M)), (2, .int (0 : Int32)), (3, .int (zI w25M 155 4)), (4, .ref 19)] [.int (1 : Int32)] w25M _
            refine zs_iret (pc := 133) t38_133 mr38 (by decide) ?_
            show zGo X l 5 0 0 28 70 [(6, .int (0 : Int32)), (5, .int (1 : Int32)), (4, .int (zpt M)), (3, .int (zI M 155 2)), (0, .ref 157), (1, .ref 155), (2, .ref 19)] [.int (1 : Int32)] w25M _
            refine zs_if_neT (pc := 70) t28_70 li1 (by decide) ?_
            refine zs_aload_n (pc := 82) t28_82 rfl ?_
            refine zs_get (pc := 83) t28_83 (by decide) (zk1 (w25s.k fk_zMc_157)) (w25s.p rfl fv_zMc_157_0) ?_
            refine zs_iload (pc := 86) t28_86 rfl ?_
            refine zs_aload_n (pc := 88) t28_88 rfl ?_
            refine zs_invV (pc := 89) (k := 155) (as' := []) (st := [.int (0 : Int32), .ref 158]) t28_89 mf37 rfl rfl (Or.inl ⟨by decide, (zk1 (w25s.k fk_zMc_155))⟩) ⟨by decide, by decide, Nat.le_of_ble_eq_true rfl, Nat.le_of_ble_eq_true rfl⟩ (zs_in (by decide) mf37 (Nat.le_of_ble_eq_true rfl) ?_) (fun _ _ q => q)
            show zGo X l 0 0 0 37 0 [(0, .ref 155)] [] w25M _
            refine zs_aload_n (pc := 0) t37_0 rfl ?_
            refine zs_get (pc := 1) t37_1 (by decide) (zk1 (w25s.k fk_zMc_155)) (zfvi rfl rfl) ?_
            refine zs_iret (pc := 4) t37_4 mr37 rfl ?_
            show zGo X l 5 0 0 28 92 [(6, .int (0 : Int32)), (5, .int (1 : Int32)), (4, .int (zpt M)), (3, .int (zI M 155 2)), (0, .ref 157), (1, .ref 155), (2, .ref 19)] [.int (zI w25M 155 4), .int (0 : Int32), .ref 158] w25M _
            have w44 : zIv cLo cHi (zsI w25M 158 0 (zI w25M 155 4)) := zIv.put w25I (show (-300000) ≤ (zI w25M 155 4).toInt ∧ (zI w25M 155 4).toInt ≤ 300000 from ⟨by omega, by omega⟩)
            refine zs_iast (pc := 92) t28_92 (j := 0) (by decide) (zk1 (w25s.k fk_zMc_158)) li0 (zk2 (w25s.k fk_zMc_158) (by decide)) ?_
            refine zs_aload_n (pc := 93) t28_93 rfl ?_
            refine zs_iload (pc := 94) t28_94 rfl ?_
            refine zs_iconst (pc := 96) t28_96 (v := 1) (by decide) ?_
            refine zs_iadd (pc := 97) t28_97 (c := 1) (by decide) ?_
            refine zs_iload (pc := 98) t28_98 rfl ?_
            refine zs_icmp_geT (pc := 100) t28_100 li1 li1 (by decide) ?_
            refine zs_bipush (pc := 108) t28_108 (v := 59) (by decide) ?_
            refine zs_invV (pc := 110) (k := 155) (as' := [.int (59 : Int32)]) (st := []) t28_110 mf47 rfl rfl (Or.inl ⟨by decide, (zk1 (w25s.k fk_zMc_155))⟩) ⟨by decide, by decide, Nat.le_of_ble_eq_true rfl, Nat.le_of_ble_eq_true rfl⟩ (zs_in (by decide) mf47 (Nat.le_of_ble_eq_true rfl) ?_) (fun _ _ q => q)
            show zGo X l 1 0 0 47 0 [(0, .ref 155), (1, .int (59 : Int32))] [] (zsI w25M 158 0 (zI w25M 155 4)) _
            refine zs_aload_n (pc := 0) t47_0 rfl ?_
            refine zs_invV (pc := 1) (k := 155) (as' := []) (st := []) t47_1 mf31 rfl rfl (Or.inl ⟨by decide, (zk1 (w25s.k fk_zMc_155))⟩) ⟨by decide, by decide, Nat.le_of_ble_eq_true rfl, Nat.le_of_ble_eq_true rfl⟩ (P31 w25s w44 ?_) (fun _ _ q => q)
            have w46 := zrg (zI w25M 155 2)
            have w47 : (zI (zsI w25M 158 0 (zI w25M 155 4)) 155 2).toInt = (zI w25M 155 2).toInt := (congrArg Int32.toInt ((zIo (by decide)).trans rfl)).trans rfl
            have w48 : (zI (zsI w25M 158 0 (zI w25M 155 4)) 155 1).toInt = (zI M 155 1).toInt := (congrArg Int32.toInt ((zIo (by decide)).trans ((w25F 155 1 rfl).trans ((zIoj (by decide)).trans rfl)))).trans rfl
            have w45 : (zpt (zsI w25M 158 0 (zI w25M 155 4))).toInt = g w26E := zpt.tr (zTa.fr x1 (zEq.tr (zEq.tr (zEq.put rfl) (zFr.eq w25F rfl)) (zEq.put rfl))) (by omega)
            have w49 := zTa.rg (M := (zsI w25M 158 0 (zI w25M 155 4))) (zTa.fr x1 (zEq.tr (zEq.tr (zEq.put rfl) (zFr.eq w25F rfl)) (zEq.put rfl))) w26E
            show zGo X l 1 0 0 47 4 [(0, .ref 155), (1, .int (59 : Int32))] [.int (zpt (zsI w25M 158 0 (zI w25M 155 4)))] (zsI w25M 158 0 (zI w25M 155 4)) _
            refine zs_iload_n (pc := 4) t47_4 rfl ?_
            by_cases w50 : (g w26E) = 59
            · refine zs_icmp_eqT (pc := 5) t47_5 w45 li59 (by omega) ?_
              refine zs_aload_n (pc := 17) t47_17 rfl ?_
              refine zs_dup (pc := 18) t47_18 rfl ?_
              refine zs_get (pc := 19) t47_19 (by decide) (zk1 (w25s.k fk_zMc_155)) (zfvi rfl ((zIo (by decide)).trans rfl)) ?_
              refine zs_iconst (pc := 22) t47_22 (v := 1) (by decide) ?_
              obtain ⟨w51v, w51e, w51⟩ := ziadd (a := (zI w25M 155 2)) (b := (1 : Int32)) rfl li1 (by omega) (by omega)
              refine zs_iadd (pc := 23) t47_23 (c := w51v) w51e ?_
              have w52 : zIv cLo cHi (zsI (zsI w25M 158 0 (zI w25M 155 4)) 155 2 w51v) := zIv.put w44 (show (-2147483648) ≤ w51v.toInt ∧ w51v.toInt ≤ 2147483647 from zrg w51v)
              refine zs_putI (pc := 24) t47_24 (zk1 (w25s.k fk_zMc_155)) rfl ?_
              refine zs_iconst (pc := 27) t47_27 (v := 1) (by decide) ?_
              refine zs_iret (pc := 28) t47_28 mr47 (by decide) ?_
              show zGo X l 5 0 0 28 113 [(6, .int (0 : Int32)), (5, .int (1 : Int32)), (4, .int (zpt M)), (3, .int (zI M 155 2)), (0, .ref 157), (1, .ref 155), (2, .ref 19)] [.int (1 : Int32)] (zsI (zsI w25M 158 0 (zI w25M 155 4)) 155 2 w51v) _
              refine zs_if_neT (pc := 113) t28_113 li1 (by decide) ?_
              refine zs_iinc (pc := 118) t28_118 (ls' := [(6, .int (1 : Int32)), (5, .int (1 : Int32)), (4, .int (zpt M)), (3, .int (zI M 155 2)), (0, .ref 157), (1, .ref 155), (2, .ref 19)]) (zml mf28 (by decide)) rfl (c := 1) (by decide) rfl ?_
              refine zs_goto (pc := 121) t28_121 ?_
              refine zs_iload (pc := 41) t28_41 rfl ?_
              refine zs_iload (pc := 43) t28_43 rfl ?_
              refine zs_icmp_geT (pc := 45) t28_45 li1 li1 (by decide) ?_
              refine zs_aload_n (pc := 124) t28_124 rfl ?_
              refine zs_iload (pc := 125) t28_125 rfl ?_
              refine zs_aload_n (pc := 127) t28_127 rfl ?_
              refine zs_invV (pc := 128) (k := 157) (as' := [.int (zpt M), .ref 19]) (st := []) t28_128 mf48 rfl rfl (Or.inl ⟨by decide, (zk1 (w25s.k fk_zMc_157))⟩) ⟨by decide, by decide, Nat.le_of_ble_eq_true rfl, Nat.le_of_ble_eq_true rfl⟩ (zs_in (by decide) mf48 (Nat.le_of_ble_eq_true rfl) ?_) (fun _ _ q => q)
              show zGo X l 4 0 0 48 0 [(0, .ref 157), (1, .int (zpt M)), (2, .ref 19)] [] (zsI (zsI w25M 158 0 (zI w25M 155 4)) 155 2 w51v) _
              refine zs_iload_n (pc := 0) t48_0 rfl ?_
              refine zs_lsw (pc := 1) t48_1 (off := 103) w12 (by unfold zlsel; repeat (first | rfl | (rw [if_neg (by omega)]; unfold zlsel))) (pc2 := 104) rfl ?_
              refine zs_iconst (pc := 104) t48_104 (v := 0) (by decide) ?_
              refine zs_istore_n (pc := 105) t48_105 (ls' := [(3, .int (0 : Int32)), (0, .ref 157), (1, .int (zpt M)), (2, .ref 19)]) (zml mf48 (by decide)) rfl ?_
              refine zs_iload_n (pc := 106) t48_106 rfl ?_
              refine zs_iload_n (pc := 107) t48_107 rfl ?_
              refine zs_invS (pc := 108) (as := [.int (zpt M)]) (st := [.int (0 : Int32)]) t48_108 (by decide) mf32 rfl rfl ⟨by decide, by decide, Nat.le_of_ble_eq_true rfl, Nat.le_of_ble_eq_true rfl⟩ (zs_in (by decide) mf32 (Nat.le_of_ble_eq_true rfl) ?_) (fun _ _ q => q)
              show zGo X l 0 0 0 32 0 [(0, .int (zpt M))] [] (zsI (zsI w25M 158 0 (zI w25M 155 4)) 155 2 w51v) _
              refine zs_iload_n (pc := 0) t32_0 rfl ?_
              refine zs_tswI (pc := 1) t32_1 ((w12 : (zpt M).toInt = (g w11n)).trans (by omega)) (by decide) rfl (pc2 := 84) rfl ?_
              refine zs_iconst (pc := 84) t32_84 (v := 1) (by decide) ?_
              refine zs_iret (pc := 85) t32_85 mr32 (by decide) ?_
              show zGo X l 4 0 0 48 111 [(3, .int (0 : Int32)), (0, .ref 157), (1, .int (zpt M)), (2, .ref 19)] [.int (1 : Int32), .int (0 : Int32)] (zsI (zsI w25M 158 0 (zI w25M 155 4)) 155 2 w51v) _
              refine zs_icmp_geF (pc := 111) t48_111 li0 li1 (by decide) ?_
              refine zs_aload_n (pc := 114) t48_114 rfl ?_
              refine zs_iload_n (pc := 115) t48_115 rfl ?_
              refine zs_invS (pc := 116) (as := [.int (zpt M)]) (st := [.ref 19]) t48_116 (by decide) mf45 rfl rfl ⟨by decide, by decide, Nat.le_of_ble_eq_true rfl, Nat.le_of_ble_eq_true rfl⟩ (zs_in (by decide) mf45 (Nat.le_of_ble_eq_true rfl) ?_) (fun _ _ q => q)
              show zGo X l 0 0 0 45 0 [(0, .int (zpt M))] [] (zsI (zsI w25M 158 0 (zI w25M 155 4)) 155 2 w51v) _
              refine zs_iload_n (pc := 0) t45_0 rfl ?_
              refine zs_lsw (pc := 1) t45_1 (off := 45) ((w12 : (zpt M).toInt = (g w11n)).trans (by omega)) rfl (pc2 := 46) rfl ?_
              refine zs_iconst (pc := 46) t45_46 (v := 4) (by decide) ?_
              refine zs_iret (pc := 47) t45_47 mr45 (by decide) ?_
              show zGo X l 4 0 0 48 119 [(3, .int (0 : Int32)), (0, .ref 157), (1, .int (zpt M)), (2, .ref 19)] [.int (4 : Int32), .ref 19] (zsI (zsI w25M 158 0 (zI w25M 155 4)) 155 2 w51v) _
              refine zs_iload_n (pc := 119) t48_119 rfl ?_
              refine zs_iadd (pc := 120) t48_120 (c := 4) (by decide) ?_
              refine zs_aload_n (pc := 121) t48_121 rfl ?_
              refine zs_get (pc := 122) t48_122 (by decide) (zk1 (w25s.k fk_zMc_157)) (w25s.p rfl fv_zMc_157_0) ?_
              refine zs_iload_n (pc := 125) t48_125 rfl ?_
              refine zs_iald (pc := 126) t48_126 (j := 0) (by decide) (zk1 (w25s.k fk_zMc_158)) li0 (zk2 (w25s.k fk_zMc_158) (by decide)) ((zIo (by decide)).trans zIs) ?_
              refine zs_invV (pc := 127) (k := 19) (as' := [.int (4 : Int32), .int (zI w25M 155 4)]) (st := []) t48_127 mf56 rfl rfl (Or.inl ⟨by decide, (zk1 (w25s.k fk_zMc_19))⟩) ⟨by decide, by decide, Nat.le_of_ble_eq_true rfl, Nat.le_of_ble_eq_true rfl⟩ (zs_in (by decide) mf56 (Nat.le_of_ble_eq_true rfl) ?_) (fun _ _ q => q)
              show zGo X l 0 0 0 56 0 [(0, .ref 19), (1, .int (4 : Int32)), (2, .int (zI w25M 155 4))] [] (zsI (zsI w25M 158 0 (zI w25M 155 4)) 155 2 w51v) _
              refine zs_iload_n (pc := 0) t56_0 rfl ?_
              refine zs_if_ltF (pc := 1) t56_1 li4 (by decide) ?_
              refine zs_iload_n (pc := 4) t56_4 rfl ?_
              refine zs_bipush (pc := 5) t56_5 (v := 9) (by decide) ?_
              refine zs_icmp_geF (pc := 7) t56_7 li4 li9 (by decide) ?_
              refine zs_aload_n (pc := 10) t56_10 rfl ?_
              refine zs_get (pc := 11) t56_11 (by decide) (zk1 (w25s.k fk_zMc_19)) (w25s.p rfl fv_zMc_19_12) ?_
              refine zs_iload_n (pc := 14) t56_14 rfl ?_
              refine zs_iload_n (pc := 15) t56_15 rfl ?_
              have w53 : zIv cLo cHi (zsI (zsI (zsI w25M 158 0 (zI w25M 155 4)) 155 2 w51v) 29 4 (zI w25M 155 4)) := zIv.put w52 (show (-300000) ≤ (zI w25M 155 4).toInt ∧ (zI w25M 155 4).toInt ≤ 300000 from ⟨by omega, by omega⟩)
              have w54 : zSo (zsI (zsI (zsI w25M 158 0 (zI w25M 155 4)) 155 2 w51v) 29 4 (zI w25M 155 4)) 19 (uS F (5 + 4) (zI w25M 155 4).toInt) := zSo.se (zSo.fr x0 (zEq.tr (zEq.tr (zEq.tr (zEq.put rfl) (zFr.eq w25F rfl)) (zEq.put rfl)) (zEq.put rfl))) rfl (by decide) rfl
              refine zs_iast (pc := 16) t56_16 (j := 4) (by decide) (zk1 (w25s.k fk_zMc_29)) li4 (zk2 (w25s.k fk_zMc_29) (by decide)) ?_
              refine zs_vret (pc := 17) t56_17 mr56 ?_
              show zGo X l 4 0 0 48 130 [(3, .int (0 : Int32)), (0, .ref 157), (1, .int (zpt M)), (2, .ref 19)] [] (zsI (zsI (zsI w25M 158 0 (zI w25M 155 4)) 155 2 w51v) 29 4 (zI w25M 155 4)) _
              refine zs_iinc (pc := 130) t48_130 (ls' := [(3, .int (1 : Int32)), (0, .ref 157), (1, .int (zpt M)), (2, .ref 19)]) (zml mf48 (by decide)) rfl (c := 1) (by decide) rfl ?_
              refine zs_goto (pc := 133) t48_133 ?_
              refine zs_iload_n (pc := 106) t48_106 rfl ?_
              refine zs_iload_n (pc := 107) t48_107 rfl ?_
              refine zs_invS (pc := 108) (as := [.int (zpt M)]) (st := [.int (1 : Int32)]) t48_108 (by decide) mf32 rfl rfl ⟨by decide, by decide, Nat.le_of_ble_eq_true rfl, Nat.le_of_ble_eq_true rfl⟩ (zs_in (by decide) mf32 (Nat.le_of_ble_eq_true rfl) ?_) (fun _ _ q => q)
              show zGo X l 0 0 0 32 0 [(0, .int (zpt M))] [] (zsI (zsI (zsI w25M 158 0 (zI w25M 155 4)) 155 2 w51v) 29 4 (zI w25M 155 4)) _
              refine zs_iload_n (pc := 0) t32_0 rfl ?_
              refine zs_tswI (pc := 1) t32_1 ((w12 : (zpt M).toInt = (g w11n)).trans (by omega)) (by decide) rfl (pc2 := 84) rfl ?_
              refine zs_iconst (pc := 84) t32_84 (v := 1) (by decide) ?_
              refine zs_iret (pc := 85) t32_85 mr32 (by decide) ?_
              show zGo X l 4 0 0 48 111 [(3, .int (1 : Int32)), (0, .ref 157), (1, .int (zpt M)), (2, .ref 19)] [.int (1 : Int32), .int (1 : Int32)] (zsI (zsI (zsI w25M 158 0 (zI w25M 155 4)) 155 2 w51v) 29 4 (zI w25M 155 4)) _
              refine zs_icmp_geT (pc := 111) t48_111 li1 li1 (by decide) ?_
              refine zs_iconst (pc := 136) t48_136 (v := 1) (by decide) ?_
              refine zs_iret (pc := 137) t48_137 mr48 (by decide) ?_
              show zGo X l 5 0 0 28 131 [(6, .int (1 : Int32)), (5, .int (1 : Int32)), (4, .int (zpt M)), (3, .int (zI M 155 2)), (0, .ref 157), (1, .ref 155), (2, .ref 19)] [.int (1 : Int32)] (zsI (zsI (zsI w25M 158 0 (zI w25M 155 4)) 155 2 w51v) 29 4 (zI w25M 155 4)) _
              refine zs_if_neT (pc := 131) t28_131 li1 (by decide) ?_
              refine zs_iconst (pc := 142) t28_142 (v := 1) (by decide) ?_
              refine zs_goto (pc := 143) t28_143 ?_
              have w55 : (zI (zsI (zsI (zsI w25M 158 0 (zI w25M 155 4)) 155 2 w51v) 29 4 (zI w25M 155 4)) 155 2).toInt = ((zI w25M 155 2).toInt + 1) := (congrArg Int32.toInt ((zIo (by decide)).trans zIs)).trans w51
              exact zs_iret (pc := 147) t28_147 mr28 (by decide) (hQ _ _ w25s w53 ((((((zFr.refl).put rfl).trans (w25F.mono rfl)).put rfl).put rfl).put rfl) (fun p hp => by obtain rfl : w11n = p := (by omega); exact Or.inr ⟨by decide, w26E + 1, (uS F (5 + 4) (zI w25M 155 4).toInt), ((pIt.g (by omega)).trans (pB.y (pRd.y w26e (by omega) (by omega) (by omega)))), by omega, by omega, by omega, w54, x2.gg (by omega)⟩) (by decide) (by decide))
            · refine zs_icmp_eqF (pc := 5) t47_5 w45 li59 (by omega) ?_
              refine zs_aload_n (pc := 8) t47_8 rfl ?_
              refine zs_aload_n (pc := 9) t47_9 rfl ?_
              refine zs_get (pc := 10) t47_10 (by decide) (zk1 (w25s.k fk_zMc_155)) (zfvi rfl ((zIo (by decide)).trans rfl)) ?_
              refine zs_invV (pc := 13) (k := 155) (as' := [.int (zI w25M 155 2)]) (st := []) t47_13 mf34 rfl rfl (Or.inl ⟨by decide, (zk1 (w25s.k fk_zMc_155))⟩) ⟨by decide, by decide, Nat.le_of_ble_eq_true rfl, Nat.le_of_ble_eq_true rfl⟩ (zs_in (by decide) mf34 (Nat.le_of_ble_eq_true rfl) ?_) (fun _ _ q => q)
              show zGo X l 0 0 0 34 0 [(0, .ref 155), (1, .int (zI w25M 155 2))] [] (zsI w25M 158 0 (zI w25M 155 4)) _
              refine zs_aload_n (pc := 0) t34_0 rfl ?_
              refine zs_iload_n (pc := 1) t34_1 rfl ?_
              have w56 : zIv cLo cHi (zsI (zsI w25M 158 0 (zI w25M 155 4)) 155 3 (zI w25M 155 2)) := zIv.put w44 (show (-2147483648) ≤ (zI w25M 155 2).toInt ∧ (zI w25M 155 2).toInt ≤ 2147483647 from zrg (zI w25M 155 2))
              refine zs_putI (pc := 2) t34_2 (zk1 (w25s.k fk_zMc_155)) rfl ?_
              refine zs_iconst (pc := 5) t34_5 (v := 0) (by decide) ?_
              refine zs_iret (pc := 6) t34_6 mr34 (by decide) ?_
              show zGo X l 1 0 0 47 16 [(0, .ref 155), (1, .int (59 : Int32))] [.int (0 : Int32)] (zsI (zsI w25M 158 0 (zI w25M 155 4)) 155 3 (zI w25M 155 2)) _
              refine zs_iret (pc := 16) t47_16 mr47 (by decide) ?_
              show zGo X l 5 0 0 28 113 [(6, .int (0 : Int32)), (5, .int (1 : Int32)), (4, .int (zpt M)), (3, .int (zI M 155 2)), (0, .ref 157), (1, .ref 155), (2, .ref 19)] [.int (0 : Int32)] (zsI (zsI w25M 158 0 (zI w25M 155 4)) 155 3 (zI w25M 155 2)) _
              refine zs_if_neF (pc := 113) t28_113 li0 (by decide) ?_
              refine zs_iconst (pc := 116) t28_116 (v := 0) (by decide) ?_
              have w57 : (zI (zsI (zsI w25M 158 0 (zI w25M 155 4)) 155 3 (zI w25M 155 2)) 155 2).toInt = (zI w25M 155 2).toInt := (congrArg Int32.toInt ((zIoj (by decide)).trans ((zIo (by decide)).trans rfl))).trans rfl
              exact zs_iret (pc := 117) t28_117 mr28 (by decide) (hQ _ _ w25s w56 (((((zFr.refl).put rfl).trans (w25F.mono rfl)).put rfl).put rfl) (fun p hp => by obtain rfl : w11n = p := (by omega); exact Or.inl ⟨by decide, (pIt.g (by omega)).trans (pB.f (pRd.n w26e (by omega)))⟩) (by decide) (by decide))
    by_cases w58 : (g w11n) = 104
    · refine zs_tswI (pc := 1) t32_1 ((w12 : (zpt M).toInt = (g w11n)).trans w58) (by decide) rfl (pc2 := 88) rfl ?_
      refine zs_iconst (pc := 88) t32_88 (v := 3) (by decide) ?_
      refine zs_iret (pc := 89) t32_89 mr32 (by decide) ?_
      show zGo X l 5 0 0 28 16 [(4, .int (zpt M)), (3, .int (zI M 155 2)), (0, .ref 157), (1, .ref 155), (2, .ref 19)] [.int (3 : Int32)] (zsI M 155 2 w19v) _
      refine zs_istore (pc := 16) t28_16 (ls' := [(5, .int (3 : Int32)), (4, .int (zpt M)), (3, .int (zI M 155 2)), (0, .ref 157), (1, .ref 155), (2, .ref 19)]) (zml mf28 (by decide)) rfl ?_
      refine zs_iload (pc := 18) t28_18 rfl ?_
      refine zs_if_eqF (pc := 20) t28_20 li3 (by decide) ?_
      refine zs_iload (pc := 23) t28_23 rfl ?_
      refine zs_aload_n (pc := 25) t28_25 rfl ?_
      refine zs_invS (pc := 26) (as := [.int (zpt M), .ref 19]) (st := []) t28_26 (by decide) mf33 rfl rfl ⟨by decide, by decide, Nat.le_of_ble_eq_true rfl, Nat.le_of_ble_eq_true rfl⟩ (zs_in (by decide) mf33 (Nat.le_of_ble_eq_true rfl) ?_) (fun _ _ q => q)
      show zGo X l 0 0 0 33 0 [(0, .int (zpt M)), (1, .ref 19)] [] (zsI M 155 2 w19v) _
      refine zs_iload_n (pc := 0) t33_0 rfl ?_
      refine zs_lsw (pc := 1) t33_1 (off := 50) ((w12 : (zpt M).toInt = (g w11n)).trans (by omega)) rfl (pc2 := 51) rfl ?_
      refine zs_aload_n (pc := 51) t33_51 rfl ?_
      refine zs_get (pc := 52) t33_52 (by decide) (zk1 (hs.k fk_zMc_19)) (zfvi rfl ((zIo (by decide)).trans rfl)) ?_
      refine zs_bipush (pc := 55) t33_55 (v := 60) (by decide) ?_
      by_cases w59 : (zI M 19 3).toInt < 60
      · refine zs_icmp_ltT (pc := 57) t33_57 rfl li60 (by omega) ?_
        refine zs_iconst (pc := 64) t33_64 (v := 0) (by decide) ?_
        refine zs_iret (pc := 65) t33_65 mr33 (by decide) ?_
        show zGo X l 5 0 0 28 29 [(5, .int (3 : Int32)), (4, .int (zpt M)), (3, .int (zI M 155 2)), (0, .ref 157), (1, .ref 155), (2, .ref 19)] [.int (0 : Int32)] (zsI M 155 2 w19v) _
        refine zs_if_eqT (pc := 29) t28_29 li0 (by decide) ?_
        refine zs_iconst (pc := 38) t28_38 (v := 0) (by decide) ?_
        refine zs_istore (pc := 39) t28_39 (ls' := [(6, .int (0 : Int32)), (5, .int (3 : Int32)), (4, .int (zpt M)), (3, .int (zI M 155 2)), (0, .ref 157), (1, .ref 155), (2, .ref 19)]) (zml mf28 (by decide)) rfl ?_
        refine zs_iload (pc := 41) t28_41 rfl ?_
        refine zs_iload (pc := 43) t28_43 rfl ?_
        refine zs_icmp_geF (pc := 45) t28_45 li0 li3 (by decide) ?_
        refine zs_aload_n (pc := 48) t28_48 rfl ?_
        have w60 : (zI (zsI M 155 2 w19v) 155 2).toInt = ((zI M 155 2).toInt + 1) := (congrArg Int32.toInt zIs).trans w19
        have w61 : (zI (zsI M 155 2 w19v) 155 2).toInt = ((zI M 155 2).toInt + 1) := (congrArg Int32.toInt zIs).trans w19
        have w62 : (zI (zsI M 155 2 w19v) 155 1).toInt = (zI M 155 1).toInt := (congrArg Int32.toInt ((zIoj (by decide)).trans rfl)).trans rfl
        refine zs_invV (pc := 49) (k := 155) (as' := []) (st := []) t28_49 mf35 rfl rfl (Or.inl ⟨by decide, (zk1 (hs.k fk_zMc_155))⟩) ⟨by decide, by decide, Nat.le_of_ble_eq_true rfl, Nat.le_of_ble_eq_true rfl⟩ (X35_155 hs w20 (by omega) (by omega) (zTa.fr x1 (zEq.put rfl)) ?_) (fun _ _ q => q)
        intro w63M w63v w63s w63I w63F w63x0 w63a w63b
        show zGo X l 5 0 0 28 52 [(6, .int (0 : Int32)), (5, .int (3 : Int32)), (4, .int (zpt M)), (3, .int (zI M 155 2)), (0, .ref 157), (1, .ref 155), (2, .ref 19)] [.int w63v] w63M _
        rcases w63x0 (w11n + 1) (by omega) with ⟨w64v, w64e⟩ | ⟨w64v, w64E, w64x, w64e, w64_3, w64_4, w64_5, w64_6, w64_7, w64_8⟩
        · skip
          refine zs_if_neF (pc := 52) t28_52 rfl (by omega) ?_
          refine zs_iconst (pc := 55) t28_55 (v := 0) (by decide) ?_
          have w65 := zrg (zI w63M 155 2)
          have w66 : (zI w63M 155 2).toInt = (zI w63M 155 2).toInt := (congrArg Int32.toInt rfl).trans rfl
          exact zs_iret (pc := 56) t28_56 mr28 (by decide) (hQ _ _ w63s w63I (((zFr.refl).put rfl).trans (w63F.mono rfl)) (fun p hp => by obtain rfl : w11n = p := (by omega); exact Or.inl ⟨by decide, (pIt.h (by omega) (by omega)).trans (pB.f (pRd.f w64e))⟩) (by decide) (by decide))
        · skip
          subst w64_4
          refine zs_if_neT (pc := 52) t28_52 rfl (by omega) ?_
          refine zs_aload_n (pc := 57) t28_57 rfl ?_
          refine zs_iload (pc := 58) t28_58 rfl ?_
          refine zs_iload (pc := 60) t28_60 rfl ?_
          refine zs_aload_n (pc := 62) t28_62 rfl ?_
          refine zs_invV (pc := 63) (k := 155) (as' := []) (st := [.int (0 : Int32), .int (zpt M), .ref 157]) t28_63 mf37 rfl rfl (Or.inl ⟨by decide, (zk1 (w63s.k fk_zMc_155))⟩) ⟨by decide, by decide, Nat.le_of_ble_eq_true rfl, Nat.le_of_ble_eq_true rfl⟩ (zs_in (by decide) mf37 (Nat.le_of_ble_eq_true rfl) ?_) (fun _ _ q => q)
          show zGo X l 0 0 0 37 0 [(0, .ref 155)] [] w63M _
          refine zs_aload_n (pc := 0) t37_0 rfl ?_
          have w67 := ib155_4 w63I
          refine zs_get (pc := 1) t37_1 (by decide) (zk1 (w63s.k fk_zMc_155)) (zfvi rfl rfl) ?_
          refine zs_iret (pc := 4) t37_4 mr37 rfl ?_
          show zGo X l 5 0 0 28 66 [(6, .int (0 : Int32)), (5, .int (3 : Int32)), (4, .int (zpt M)), (3, .int (zI M 155 2)), (0, .ref 157), (1, .ref 155), (2, .ref 19)] [.int (zI w63M 155 4), .int (0 : Int32), .int (zpt M), .ref 157] w63M _
          refine zs_aload_n (pc := 66) t28_66 rfl ?_
          refine zs_invV (pc := 67) (k := 157) (as' := [.int (zpt M), .int (0 : Int32), .int (zI w63M 155 4), .ref 19]) (st := []) t28_67 mf38 rfl rfl (Or.inl ⟨by decide, (zk1 (w63s.k fk_zMc_157))⟩) ⟨by decide, by decide, Nat.le_of_ble_eq_true rfl, Nat.le_of_ble_eq_true rfl⟩ (zs_in (by decide) mf38 (Nat.le_of_ble_eq_true rfl) ?_) (fun _ _ q => q)
          show zGo X l 2 0 0 38 0 [(0, .ref 157), (1, .int (zpt M)), (2, .int (0 : Int32)), (3, .int (zI w63M 155 4)), (4, .ref 19)] [] w63M _
          refine zs_iload_n (pc := 0) t38_0 rfl ?_
          refine zs_lsw (pc := 1) t38_1 (off := 78) ((w12 : (zpt M).toInt = (g w11n)).trans (by omega)) rfl (pc2 := 79) rfl ?_
          refine zs_iload_n (pc := 79) t38_79 rfl ?_
          refine zs_iload_n (pc := 80) t38_80 rfl ?_
          refine zs_aload (pc := 81) t38_81 rfl ?_
          refine zs_invS (pc := 83) (as := [.int (0 : Int32), .int (zI w63M 155 4), .ref 19]) (st := []) t38_83 (by decide) mf40 rfl rfl ⟨by decide, by decide, Nat.le_of_ble_eq_true rfl, Nat.le_of_ble_eq_true rfl⟩ (zs_in (by decide) mf40 (Nat.le_of_ble_eq_true rfl) ?_) (fun _ _ q => q)
          show zGo X l 1 0 0 40 0 [(0, .int (0 : Int32)), (1, .int (zI w63M 155 4)), (2, .ref 19)] [] w63M _
          refine zs_iload_n (pc := 0) t40_0 rfl ?_
          refine zs_if_neF (pc := 1) t40_1 li0 (by decide) ?_
          refine zs_aload_n (pc := 4) t40_4 rfl ?_
          refine zs_iload_n (pc := 5) t40_5 rfl ?_
          refine zs_invV (pc := 6) (k := 19) (as' := [.int (zI w63M 155 4)]) (st := []) t40_6 mf41 rfl rfl (Or.inl ⟨by decide, (zk1 (w63s.k fk_zMc_19))⟩) ⟨by decide, by decide, Nat.le_of_ble_eq_true rfl, Nat.le_of_ble_eq_true rfl⟩ (zs_in (by decide) mf41 (Nat.le_of_ble_eq_true rfl) ?_) (fun _ _ q => q)
          show zGo X l 0 0 0 41 0 [(0, .ref 19), (1, .int (zI w63M 155 4))] [] w63M _
          refine zs_iload_n (pc := 0) t41_0 rfl ?_
          by_cases w68 : (zI w63M 155 4).toInt < 0
          · refine zs_if_ltT (pc := 1) t41_1 rfl (by omega) ?_
            refine zs_iconst (pc := 16) t41_16 (v := 0) (by decide) ?_
            refine zs_iret (pc := 17) t41_17 mr41 (by decide) ?_
            show zGo X l 1 0 0 40 9 [(0, .int (0 : Int32)), (1, .int (zI w63M 155 4)), (2, .ref 19)] [.int (0 : Int32)] w63M _
            refine zs_iret (pc := 9) t40_9 mr40 (by decide) ?_
            show zGo X l 2 0 0 38 86 [(0, .ref 157), (1, .int (zpt M)), (2, .int (0 : Int32)), (3, .int (zI w63M 155 4)), (4, .ref 19)] [.int (0 : Int32)] w63M _
            refine zs_iret (pc := 86) t38_86 mr38 (by decide) ?_
            show zGo X l 5 0 0 28 70 [(6, .int (0 : Int32)), (5, .int (3 : Int32)), (4, .int (zpt M)), (3, .int (zI M 155 2)), (0, .ref 157), (1, .ref 155), (2, .ref 19)] [.int (0 : Int32)] w63M _
            refine zs_if_neF (pc := 70) t28_70 li0 (by decide) ?_
            refine zs_aload_n (pc := 73) t28_73 rfl ?_
            refine zs_aload_n (pc := 74) t28_74 rfl ?_
            refine zs_invV (pc := 75) (k := 155) (as' := []) (st := [.ref 155]) t28_75 mf46 rfl rfl (Or.inl ⟨by decide, (zk1 (w63s.k fk_zMc_155))⟩) ⟨by decide, by decide, Nat.le_of_ble_eq_true rfl, Nat.le_of_ble_eq_true rfl⟩ (zs_in (by decide) mf46 (Nat.le_of_ble_eq_true rfl) ?_) (fun _ _ q => q)
            show zGo X l 0 0 0 46 0 [(0, .ref 155)] [] w63M _
            refine zs_aload_n (pc := 0) t46_0 rfl ?_
            have w69 := zrg (zI w63M 155 5)
            refine zs_get (pc := 1) t46_1 (by decide) (zk1 (w63s.k fk_zMc_155)) (zfvi rfl rfl) ?_
            refine zs_iret (pc := 4) t46_4 mr46 rfl ?_
            show zGo X l 5 0 0 28 78 [(6, .int (0 : Int32)), (5, .int (3 : Int32)), (4, .int (zpt M)), (3, .int (zI M 155 2)), (0, .ref 157), (1, .ref 155), (2, .ref 19)] [.int (zI w63M 155 5), .ref 155] w63M _
            refine zs_invV (pc := 78) (k := 155) (as' := [.int (zI w63M 155 5)]) (st := []) t28_78 mf34 rfl rfl (Or.inl ⟨by decide, (zk1 (w63s.k fk_zMc_155))⟩) ⟨by decide, by decide, Nat.le_of_ble_eq_true rfl, Nat.le_of_ble_eq_true rfl⟩ (zs_in (by decide) mf34 (Nat.le_of_ble_eq_true rfl) ?_) (fun _ _ q => q)
            show zGo X l 0 0 0 34 0 [(0, .ref 155), (1, .int (zI w63M 155 5))] [] w63M _
            refine zs_aload_n (pc := 0) t34_0 rfl ?_
            refine zs_iload_n (pc := 1) t34_1 rfl ?_
            have w70 : zIv cLo cHi (zsI w63M 155 3 (zI w63M 155 5)) := zIv.put w63I (show (-2147483648) ≤ (zI w63M 155 5).toInt ∧ (zI w63M 155 5).toInt ≤ 2147483647 from zrg (zI w63M 155 5))
            refine zs_putI (pc := 2) t34_2 (zk1 (w63s.k fk_zMc_155)) rfl ?_
            refine zs_iconst (pc := 5) t34_5 (v := 0) (by decide) ?_
            refine zs_iret (pc := 6) t34_6 mr34 (by decide) ?_
            show zGo X l 5 0 0 28 81 [(6, .int (0 : Int32)), (5, .int (3 : Int32)), (4, .int (zpt M)), (3, .int (zI M 155 2)), (0, .ref 157), (1, .ref 155), (2, .ref 19)] [.int (0 : Int32)] (zsI w63M 155 3 (zI w63M 155 5)) _
            have w71 := zrg (zI w63M 155 2)
            have w72 : (zI (zsI w63M 155 3 (zI w63M 155 5)) 155 2).toInt = (zI w63M 155 2).toInt := (congrArg Int32.toInt ((zIoj (by decide)).trans rfl)).trans rfl
            exact zs_iret (pc := 81) t28_81 mr28 (by decide) (hQ _ _ w63s w70 ((((zFr.refl).put rfl).trans (w63F.mono rfl)).put rfl) (fun p hp => by obtain rfl : w11n = p := (by omega); exact Or.inl ⟨by decide, (pIt.h (by omega) (by omega)).trans (pB.f (pRd.n w64e (by omega)))⟩) (by decide) (by decide))
          · refine zs_if_ltF (pc := 1) t41_1 rfl (by omega) ?_
            refine zs_iload_n (pc := 4) t41_4 rfl ?_
            refine zs_aload_n (pc := 5) t41_5 rfl ?_
            refine zs_get (pc := 6) t41_6 (by decide) (zk1 (w63s.k fk_zMc_19)) (zfvi rfl ((w63F 19 0 rfl).trans ((zIo (by decide)).trans rfl))) ?_
            by_cases w73 : (zI M 19 0).toInt ≤ (zI w63M 155 4).toInt
            · refine zs_icmp_geT (pc := 9) t41_9 rfl rfl (by omega) ?_
              refine zs_iconst (pc := 16) t41_16 (v := 0) (by decide) ?_
              refine zs_iret (pc := 17) t41_17 mr41 (by decide) ?_
              show zGo X l 1 0 0 40 9 [(0, .int (0 : Int32)), (1, .int (zI w63M 155 4)), (2, .ref 19)] [.int (0 : Int32)] w63M _
              refine zs_iret (pc := 9) t40_9 mr40 (by decide) ?_
              show zGo X l 2 0 0 38 86 [(0, .ref 157), (1, .int (zpt M)), (2, .int (0 : Int32)), (3, .int (zI w63M 155 4)), (4, .ref 19)] [.int (0 : Int32)] w63M _
              refine zs_iret (pc := 86) t38_86 mr38 (by decide) ?_
              show zGo X l 5 0 0 28 70 [(6, .int (0 : Int32)), (5, .int (3 : Int32)), (4, .int (zpt M)), (3, .int (zI M 155 2)), (0, .ref 157), (1, .ref 155), (2, .ref 19)] [.int (0 : Int32)] w63M _
              refine zs_if_neF (pc := 70) t28_70 li0 (by decide) ?_
              refine zs_aload_n (pc := 73) t28_73 rfl ?_
              refine zs_aload_n (pc := 74) t28_74 rfl ?_
              refine zs_invV (pc := 75) (k := 155) (as' := []) (st := [.ref 155]) t28_75 mf46 rfl rfl (Or.inl ⟨by decide, (zk1 (w63s.k fk_zMc_155))⟩) ⟨by decide, by decide, Nat.le_of_ble_eq_true rfl, Nat.le_of_ble_eq_true rfl⟩ (zs_in (by decide) mf46 (Nat.le_of_ble_eq_true rfl) ?_) (fun _ _ q => q)
              show zGo X l 0 0 0 46 0 [(0, .ref 155)] [] w63M _
              refine zs_aload_n (pc := 0) t46_0 rfl ?_
              have w74 := zrg (zI w63M 155 5)
              refine zs_get (pc := 1) t46_1 (by decide) (zk1 (w63s.k fk_zMc_155)) (zfvi rfl rfl) ?_
              refine zs_iret (pc := 4) t46_4 mr46 rfl ?_
              show zGo X l 5 0 0 28 78 [(6, .int (0 : Int32)), (5, .int (3 : Int32)), (4, .int (zpt M)), (3, .int (zI M 155 2)), (0, .ref 157), (1, .ref 155), (2, .ref 19)] [.int (zI w63M 155 5), .ref 155] w63M _
              refine zs_invV (pc := 78) (k := 155) (as' := [.int (zI w63M 155 5)]) (st := []) t28_78 mf34 rfl rfl (Or.inl ⟨by decide, (zk1 (w63s.k fk_zMc_155))⟩) ⟨by decide, by decide, Nat.le_of_ble_eq_true rfl, Nat.le_of_ble_eq_true rfl⟩ (zs_in (by decide) mf34 (Nat.le_of_ble_eq_true rfl) ?_) (fun _ _ q => q)
              show zGo X l 0 0 0 34 0 [(0, .ref 155), (1, .int (zI w63M 155 5))] [] w63M _
              refine zs_aload_n (pc := 0) t34_0 rfl ?_
              refine zs_iload_n (pc := 1) t34_1 rfl ?_
              have w75 : zIv cLo cHi (zsI w63M 155 3 (zI w63M 155 5)) := zIv.put w63I (show (-2147483648) ≤ (zI w63M 155 5).toInt ∧ (zI w63M 155 5).toInt ≤ 2147483647 from zrg (zI w63M 155 5))
              refine zs_putI (pc := 2) t34_2 (zk1 (w63s.k fk_zMc_155)) rfl ?_
              refine zs_iconst (pc := 5) t34_5 (v := 0) (by decide) ?_
              refine zs_iret (pc := 6) t34_6 mr34 (by decide) ?_
              show zGo X l 5 0 0 28 81 [(6, .int (0 : Int32)), (5, .int (3 : Int32)), (4, .int (zpt M)), (3, .int (zI M 155 2)), (0, .ref 157), (1, .ref 155), (2, .ref 19)] [.int (0 : Int32)] (zsI w63M 155 3 (zI w63M 155 5)) _
              have w76 := zrg (zI w63M 155 2)
              have w77 : (zI (zsI w63M 155 3 (zI w63M 155 5)) 155 2).toInt = (zI w63M 155 2).toInt := (congrArg Int32.toInt ((zIoj (by decide)).trans rfl)).trans rfl
              exact zs_iret (pc := 81) t28_81 mr28 (by decide) (hQ _ _ w63s w75 ((((zFr.refl).put rfl).trans (w63F.mono rfl)).put rfl) (fun p hp => by obtain rfl : w11n = p := (by omega); exact Or.inl ⟨by decide, (pIt.h (by omega) (by omega)).trans (pB.f (pRd.n w64e (by omega)))⟩) (by decide) (by decide))
            · refine zs_icmp_geF (pc := 9) t41_9 rfl rfl (by omega) ?_
              refine zs_iconst (pc := 12) t41_12 (v := 1) (by decide) ?_
              refine zs_goto (pc := 13) t41_13 ?_
              refine zs_iret (pc := 17) t41_17 mr41 (by decide) ?_
              show zGo X l 1 0 0 40 9 [(0, .int (0 : Int32)), (1, .int (zI w63M 155 4)), (2, .ref 19)] [.int (1 : Int32)] w63M _
              refine zs_iret (pc := 9) t40_9 mr40 (by decide) ?_
              show zGo X l 2 0 0 38 86 [(0, .ref 157), (1, .int (zpt M)), (2, .int (0 : Int32)), (3, .int (zI w63M 155 4)), (4, .ref 19)] [.int (1 : Int32)] w63M _
              refine zs_iret (pc := 86) t38_86 mr38 (by decide) ?_
              show zGo X l 5 0 0 28 70 [(6, .int (0 : Int32)), (5, .int (3 : Int32)), (4, .int (zpt M)), (3, .int (zI M 155 2)), (0, .ref 157), (1, .ref 155), (2, .ref 19)] [.int (1 : Int32)] w63M _
              refine zs_if_neT (pc := 70) t28_70 li1 (by decide) ?_
              refine zs_aload_n (pc := 82) t28_82 rfl ?_
              refine zs_get (pc := 83) t28_83 (by decide) (zk1 (w63s.k fk_zMc_157)) (w63s.p rfl fv_zMc_157_0) ?_
              refine zs_iload (pc := 86) t28_86 rfl ?_
              refine zs_aload_n (pc := 88) t28_88 rfl ?_
              refine zs_invV (pc := 89) (k := 155) (as' := []) (st := [.int (0 : Int32), .ref 158]) t28_89 mf37 rfl rfl (Or.inl ⟨by decide, (zk1 (w63s.k fk_zMc_155))⟩) ⟨by decide, by decide, Nat.le_of_ble_eq_true rfl, Nat.le_of_ble_eq_true rfl⟩ (zs_in (by decide) mf37 (Nat.le_of_ble_eq_true rfl) ?_) (fun _ _ q => q)
              show zGo X l 0 0 0 37 0 [(0, .ref 155)] [] w63M _
              refine zs_aload_n (pc := 0) t37_0 rfl ?_
              refine zs_get (pc := 1) t37_1 (by decide) (zk1 (w63s.k fk_zMc_155)) (zfvi rfl rfl) ?_
              refine zs_iret (pc := 4) t37_4 mr37 rfl ?_
              show zGo X l 5 0 0 28 92 [(6, .int (0 : Int32)), (5, .int (3 : Int32)), (4, .int (zpt M)), (3, .int (zI M 155 2)), (0, .ref 157), (1, .ref 155), (2, .ref 19)] [.int (zI w63M 155 4), .int (0 : Int32), .ref 158] w63M _
              have w78 : zIv cLo cHi (zsI w63M 158 0 (zI w63M 155 4)) := zIv.put w63I (show (-300000) ≤ (zI w63M 155 4).toInt ∧ (zI w63M 155 4).toInt ≤ 300000 from ⟨by omega, by omega⟩)
              refine zs_iast (pc := 92) t28_92 (j := 0) (by decide) (zk1 (w63s.k fk_zMc_158)) li0 (zk2 (w63s.k fk_zMc_158) (by decide)) ?_
              refine zs_aload_n (pc := 93) t28_93 rfl ?_
              refine zs_iload (pc := 94) t28_94 rfl ?_
              refine zs_iconst (pc := 96) t28_96 (v := 1) (by decide) ?_
              refine zs_iadd (pc := 97) t28_97 (c := 1) (by decide) ?_
              refine zs_iload (pc := 98) t28_98 rfl ?_
              refine zs_icmp_geF (pc := 100) t28_100 li1 li3 (by decide) ?_
              refine zs_bipush (pc := 103) t28_103 (v := 44) (by decide) ?_
              refine zs_goto (pc := 105) t28_105 ?_
              refine zs_invV (pc := 110) (k := 155) (as' := [.int (44 : Int32)]) (st := []) t28_110 mf47 rfl rfl (Or.inl ⟨by decide, (zk1 (w63s.k fk_zMc_155))⟩) ⟨by decide, by decide, Nat.le_of_ble_eq_true rfl, Nat.le_of_ble_eq_true rfl⟩ (zs_in (by decide) mf47 (Nat.le_of_ble_eq_true rfl) ?_) (fun _ _ q => q)
              show zGo X l 1 0 0 47 0 [(0, .ref 155), (1, .int (44 : Int32))] [] (zsI w63M 158 0 (zI w63M 155 4)) _
              refine zs_aload_n (pc := 0) t47_0 rfl ?_
              refine zs_invV (pc := 1) (k := 155) (as' := []) (st := []) t47_1 mf31 rfl rfl (Or.inl ⟨by decide, (zk1 (w63s.k fk_zMc_155))⟩) ⟨by decide, by decide, Nat.le_of_ble_eq_true rfl, Nat.le_of_ble_eq_true rfl⟩ (P31 w63s w78 ?_) (fun _ _ q => q)
              have w80 := zrg (zI w63M 155 2)
              have w81 : (zI (zsI w63M 158 0 (zI w63M 155 4)) 155 2).toInt = (zI w63M 155 2).toInt := (congrArg Int32.toInt ((zIo (by decide)).trans rfl)).trans rfl
              have w82 : (zI (zsI w63M 158 0 (zI w63M 155 4)) 155 1).toInt = (zI M 155 1).toInt := (congrArg Int32.toInt ((zIo (by decide)).trans ((w63F 155 1 rfl).trans ((zIoj (by decide)).trans rfl)))).trans rfl
              have w79 : (zpt (zsI w63M 158 0 (zI w63M 155 4))).toInt = g w64E := zpt.tr (zTa.fr x1 (zEq.tr (zEq.tr (zEq.put rfl) (zFr.eq w63F rfl)) (zEq.put rfl))) (by omega)
              have w83 := zTa.rg (M := (zsI w63M 158 0 (zI w63M 155 4))) (zTa.fr x1 (zEq.tr (zEq.tr (zEq.put rfl) (zFr.eq w63F rfl)) (zEq.put rfl))) w64E
              show zGo X l 1 0 0 47 4 [(0, .ref 155), (1, .int (44 : Int32))] [.int (zpt (zsI w63M 158 0 (zI w63M 155 4)))] (zsI w63M 158 0 (zI w63M 155 4)) _
              refine zs_iload_n (pc := 4) t47_4 rfl ?_
              by_cases w84 : (g w64E) = 44
              · refine zs_icmp_eqT (pc := 5) t47_5 w79 li44 (by omega) ?_
                refine zs_aload_n (pc := 17) t47_17 rfl ?_
                refine zs_dup (pc := 18) t47_18 rfl ?_
                refine zs_get (pc := 19) t47_19 (by decide) (zk1 (w63s.k fk_zMc_155)) (zfvi rfl ((zIo (by decide)).trans rfl)) ?_
                refine zs_iconst (pc := 22) t47_22 (v := 1) (by decide) ?_
                obtain ⟨w85v, w85e, w85⟩ := ziadd (a := (zI w63M 155 2)) (b := (1 : Int32)) rfl li1 (by omega) (by omega)
                refine zs_iadd (pc := 23) t47_23 (c := w85v) w85e ?_
                have w86 : zIv cLo cHi (zsI (zsI w63M 158 0 (zI w63M 155 4)) 155 2 w85v) := zIv.put w78 (show (-2147483648) ≤ w85v.toInt ∧ w85v.toInt ≤ 2147483647 from zrg w85v)
                refine zs_putI (pc := 24) t47_24 (zk1 (w63s.k fk_zMc_155)) rfl ?_
                refine zs_iconst (pc := 27) t47_27 (v := 1) (by decide) ?_
                refine zs_iret (pc := 28) t47_28 mr47 (by decide) ?_
                show zGo X l 5 0 0 28 113 [(6, .int (0 : Int32)), (5, .int (3 : Int32)), (4, .int (zpt M)), (3, .int (zI M 155 2)), (0, .ref 157), (1, .ref 155), (2, .ref 19)] [.int (1 : Int32)] (zsI (zsI w63M 158 0 (zI w63M 155 4)) 155 2 w85v) _
                refine zs_if_neT (pc := 113) t28_113 li1 (by decide) ?_
                refine zs_iinc (pc := 118) t28_118 (ls' := [(6, .int (1 : Int32)), (5, .int (3 : Int32)), (4, .int (zpt M)), (3, .int (zI M 155 2)), (0, .ref 157), (1, .ref 155), (2, .ref 19)]) (zml mf28 (by decide)) rfl (c := 1) (by decide) rfl ?_
                refine zs_goto (pc := 121) t28_121 ?_
                refine zs_iload (pc := 41) t28_41 rfl ?_
                refine zs_iload (pc := 43) t28_43 rfl ?_
                refine zs_icmp_geF (pc := 45) t28_45 li1 li3 (by decide) ?_
                refine zs_aload_n (pc := 48) t28_48 rfl ?_
                have w87 : (zI (zsI (zsI w63M 158 0 (zI w63M 155 4)) 155 2 w85v) 155 2).toInt = ((zI w63M 155 2).toInt + 1) := (congrArg Int32.toInt zIs).trans w85
                have w88 : (zI (zsI (zsI w63M 158 0 (zI w63M 155 4)) 155 2 w85v) 155 2).toInt = ((zI w63M 155 2).toInt + 1) := (congrArg Int32.toInt zIs).trans w85
                have w89 : (zI (zsI (zsI w63M 158 0 (zI w63M 155 4)) 155 2 w85v) 155 1).toInt = (zI M 155 1).toInt := (congrArg Int32.toInt ((zIoj (by decide)).trans ((zIo (by decide)).trans ((w63F 155 1 rfl).trans ((zIoj (by decide)).trans rfl))))).trans rfl
                refine zs_invV (pc := 49) (k := 155) (as' := []) (st := []) t28_49 mf35 rfl rfl (Or.inl ⟨by decide, (zk1 (w63s.k fk_zMc_155))⟩) ⟨by decide, by decide, Nat.le_of_ble_eq_true rfl, Nat.le_of_ble_eq_true rfl⟩ (X35_155 w63s w86 (by omega) (by omega) (zTa.fr x1 (zEq.tr (zEq.tr (zEq.tr (zEq.put rfl) (zFr.eq w63F rfl)) (zEq.put rfl)) (zEq.put rfl))) ?_) (fun _ _ q => q)
                intro w90M w90v w90s w90I w90F w90x0 w90a w90b
                show zGo X l 5 0 0 28 52 [(6, .int (1 : Int32)), (5, .int (3 : Int32)), (4, .int (zpt M)), (3, .int (zI M 155 2)), (0, .ref 157), (1, .ref 155), (2, .ref 19)] [.int w90v] w90M _
                rcases w90x0 (w64E + 1) (by omega) with ⟨w91v, w91e⟩ | ⟨w91v, w91E, w91x, w91e, w91_3, w91_4, w91_5, w91_6, w91_7, w91_8⟩
                · skip
                  refine zs_if_neF (pc := 52) t28_52 rfl (by omega) ?_
                  refine zs_iconst (pc := 55) t28_55 (v := 0) (by decide) ?_
                  have w92 := zrg (zI w90M 155 2)
                  have w93 : (zI w90M 155 2).toInt = (zI w90M 155 2).toInt := (congrArg Int32.toInt rfl).trans rfl
                  exact zs_iret (pc := 56) t28_56 mr28 (by decide) (hQ _ _ w90s w90I ((((((zFr.refl).put rfl).trans (w63F.mono rfl)).put rfl).put rfl).trans (w90F.mono rfl)) (fun p hp => by obtain rfl : w11n = p := (by omega); exact Or.inl ⟨by decide, ((pIt.h (by omega) (by omega)).trans (pB.y (pRd.y w64e (by omega) (by omega) (by omega)))).trans (pB.f (pRd.f w91e))⟩) (by decide) (by decide))
                · skip
                  subst w91_4
                  refine zs_if_neT (pc := 52) t28_52 rfl (by omega) ?_
                  refine zs_aload_n (pc := 57) t28_57 rfl ?_
                  refine zs_iload (pc := 58) t28_58 rfl ?_
                  refine zs_iload (pc := 60) t28_60 rfl ?_
                  refine zs_aload_n (pc := 62) t28_62 rfl ?_
                  refine zs_invV (pc := 63) (k := 155) (as' := []) (st := [.int (1 : Int32), .int (zpt M), .ref 157]) t28_63 mf37 rfl rfl (Or.inl ⟨by decide, (zk1 (w90s.k fk_zMc_155))⟩) ⟨by decide, by decide, Nat.le_of_ble_eq_true rfl, Nat.le_of_ble_eq_true rfl⟩ (zs_in (by decide) mf37 (Nat.le_of_ble_eq_true rfl) ?_) (fun _ _ q => q)
                  show zGo X l 0 0 0 37 0 [(0, .ref 155)] [] w90M _
                  refine zs_aload_n (pc := 0) t37_0 rfl ?_
                  have w94 := ib155_4 w90I
                  refine zs_get (pc := 1) t37_1 (by decide) (zk1 (w90s.k fk_zMc_155)) (zfvi rfl rfl) ?_
                  refine zs_iret (pc := 4) t37_4 mr37 rfl ?_
                  show zGo X l 5 0 0 28 66 [(6, .int (1 : Int32)), (5, .int (3 : Int32)), (4, .int (zpt M)), (3, .int (zI M 155 2)), (0, .ref 157), (1, .ref 155), (2, .ref 19)] [.int (zI w90M 155 4), .int (1 : Int32), .int (zpt M), .ref 157] w90M _
                  refine zs_aload_n (pc := 66) t28_66 rfl ?_
                  refine zs_invV (pc := 67) (k := 157) (as' := [.int (zpt M), .int (1 : Int32), .int (zI w90M 155 4), .ref 19]) (st := []) t28_67 mf38 rfl rfl (Or.inl ⟨by decide, (zk1 (w90s.k fk_zMc_157))⟩) ⟨by decide, by decide, Nat.le_of_ble_eq_true rfl, Nat.le_of_ble_eq_true rfl⟩ (zs_in (by decide) mf38 (Nat.le_of_ble_eq_true rfl) ?_) (fun _ _ q => q)
                  show zGo X l 2 0 0 38 0 [(0, .ref 157), (1, .int (zpt M)), (2, .int (1 : Int32)), (3, .int (zI w90M 155 4)), (4, .ref 19)] [] w90M _
                  refine zs_iload_n (pc := 0) t38_0 rfl ?_
                  refine zs_lsw (pc := 1) t38_1 (off := 78) ((w12 : (zpt M).toInt = (g w11n)).trans (by omega)) rfl (pc2 := 79) rfl ?_
                  refine zs_iload_n (pc := 79) t38_79 rfl ?_
                  refine zs_iload_n (pc := 80) t38_80 rfl ?_
                  refine zs_aload (pc := 81) t38_81 rfl ?_
                  refine zs_invS (pc := 83) (as := [.int (1 : Int32), .int (zI w90M 155 4), .ref 19]) (st := []) t38_83 (by decide) mf40 rfl rfl ⟨by decide, by decide, Nat.le_of_ble_eq_true rfl, Nat.le_of_ble_eq_true rfl⟩ (zs_in (by decide) mf40 (Nat.le_of_ble_eq_true rfl) ?_) (fun _ _ q => q)
                  show zGo X l 1 0 0 40 0 [(0, .int (1 : Int32)), (1, .int (zI w90M 155 4)), (2, .ref 19)] [] w90M _
                  refine zs_iload_n (pc := 0) t40_0 rfl ?_
                  refine zs_if_neT (pc := 1) t40_1 li1 (by decide) ?_
                  refine zs_iload_n (pc := 10) t40_10 rfl ?_
                  refine zs_iconst (pc := 11) t40_11 (v := 1) (by decide) ?_
                  refine zs_icmp_neF (pc := 12) t40_12 li1 li1 (by decide) ?_
                  refine zs_iload_n (pc := 15) t40_15 rfl ?_
                  refine zs_invS (pc := 16) (as := [.int (zI w90M 155 4)]) (st := []) t40_16 (by decide) mf42 rfl rfl ⟨by decide, by decide, Nat.le_of_ble_eq_true rfl, Nat.le_of_ble_eq_true rfl⟩ (zs_in (by decide) mf42 (Nat.le_of_ble_eq_true rfl) ?_) (fun _ _ q => q)
                  show zGo X l 0 0 0 42 0 [(0, .int (zI w90M 155 4))] [] w90M _
                  refine zs_iload_n (pc := 0) t42_0 rfl ?_
                  refine zs_sipush (pc := 1) t42_1 (v := -9999) (by decide) ?_
                  refine zs_icmp_ltF (pc := 4) t42_4 rfl lin9999 (by omega) ?_
                  refine zs_iload_n (pc := 7) t42_7 rfl ?_
                  refine zs_sipush (pc := 8) t42_8 (v := 9999) (by decide) ?_
                  refine zs_icmp_gtF (pc := 11) t42_11 rfl li9999 (by omega) ?_
                  refine zs_iconst (pc := 14) t42_14 (v := 1) (by decide) ?_
                  refine zs_goto (pc := 15) t42_15 ?_
                  refine zs_iret (pc := 19) t42_19 mr42 (by decide) ?_
                  show zGo X l 1 0 0 40 19 [(0, .int (1 : Int32)), (1, .int (zI w90M 155 4)), (2, .ref 19)] [.int (1 : Int32)] w90M _
                  refine zs_goto (pc := 19) t40_19 ?_
                  refine zs_iret (pc := 30) t40_30 mr40 (by decide) ?_
                  show zGo X l 2 0 0 38 86 [(0, .ref 157), (1, .int (zpt M)), (2, .int (1 : Int32)), (3, .int (zI w90M 155 4)), (4, .ref 19)] [.int (1 : Int32)] w90M _
                  refine zs_iret (pc := 86) t38_86 mr38 (by decide) ?_
                  show zGo X l 5 0 0 28 70 [(6, .int (1 : Int32)), (5, .int (3 : Int32)), (4, .int (zpt M)), (3, .int (zI M 155 2)), (0, .ref 157), (1, .ref 155), (2, .ref 19)] [.int (1 : Int32)] w90M _
                  refine zs_if_neT (pc := 70) t28_70 li1 (by decide) ?_
                  refine zs_aload_n (pc := 82) t28_82 rfl ?_
                  refine zs_get (pc := 83) t28_83 (by decide) (zk1 (w90s.k fk_zMc_157)) (w90s.p rfl fv_zMc_157_0) ?_
                  refine zs_iload (pc := 86) t28_86 rfl ?_
                  refine zs_aload_n (pc := 88) t28_88 rfl ?_
                  refine zs_invV (pc := 89) (k := 155) (as' := []) (st := [.int (1 : Int32), .ref 158]) t28_89 mf37 rfl rfl (Or.inl ⟨by decide, (zk1 (w90s.k fk_zMc_155))⟩) ⟨by decide, by decide, Nat.le_of_ble_eq_true rfl, Nat.le_of_ble_eq_true rfl⟩ (zs_in (by decide) mf37 (Nat.le_of_ble_eq_true rfl) ?_) (fun _ _ q => q)
                  show zGo X l 0 0 0 37 0 [(0, .ref 155)] [] w90M _
                  refine zs_aload_n (pc := 0) t37_0 rfl ?_
                  refine zs_get (pc := 1) t37_1 (by decide) (zk1 (w90s.k fk_zMc_155)) (zfvi rfl rfl) ?_
                  refine zs_iret (pc := 4) t37_4 mr37 rfl ?_
                  show zGo X l 5 0 0 28 92 [(6, .int (1 : Int32)), (5, .int (3 : Int32)), (4, .int (zpt M)), (3, .int (zI M 155 2)), (0, .ref 157), (1, .ref 155), (2, .ref 19)] [.int (zI w90M 155 4), .int (1 : Int32), .ref 158] w90M _
                  have w95 : zIv cLo cHi (zsI w90M 158 1 (zI w90M 155 4)) := zIv.put w90I (show (-300000) ≤ (zI w90M 155 4).toInt ∧ (zI w90M 155 4).toInt ≤ 300000 from ⟨by omega, by omega⟩)
                  refine zs_iast (pc := 92) t28_92 (j := 1) (by decide) (zk1 (w90s.k fk_zMc_158)) li1 (zk2 (w90s.k fk_zMc_158) (by decide)) ?_
                  refine zs_aload_n (pc := 93) t28_93 rfl ?_
                  refine zs_iload (pc := 94) t28_94 rfl ?_
                  refine zs_iconst (pc := 96) t28_96 (v := 1) (by decide) ?_
                  refine zs_iadd (pc := 97) t28_97 (c := 2) (by decide) ?_
                  refine zs_iload (pc := 98) t28_98 rfl ?_
                  refine zs_icmp_geF (pc := 100) t28_100 li2 li3 (by decide) ?_
                  refine zs_bipush (pc := 103) t28_103 (v := 44) (by decide) ?_
                  refine zs_goto (pc := 105) t28_105 ?_
                  refine zs_invV (pc := 110) (k := 155) (as' := [.int (44 : Int32)]) (st := []) t28_110 mf47 rfl rfl (Or.inl ⟨by decide, (zk1 (w90s.k fk_zMc_155))⟩) ⟨by decide, by decide, Nat.le_of_ble_eq_true rfl, Nat.le_of_ble_eq_true rfl⟩ (zs_in (by decide) mf47 (Nat.le_of_ble_eq_true rfl) ?_) (fun _ _ q => q)
                  show zGo X l 1 0 0 47 0 [(0, .ref 155), (1, .int (44 : Int32))] [] (zsI w90M 158 1 (zI w90M 155 4)) _
                  refine zs_aload_n (pc := 0) t47_0 rfl ?_
                  refine zs_invV (pc := 1) (k := 155) (as' := []) (st := []) t47_1 mf31 rfl rfl (Or.inl ⟨by decide, (zk1 (w90s.k fk_zMc_155))⟩) ⟨by decide, by decide, Nat.le_of_ble_eq_true rfl, Nat.le_of_ble_eq_true rfl⟩ (P31 w90s w95 ?_) (fun _ _ q => q)
                  have w97 := zrg (zI w90M 155 2)
                  have w98 : (zI (zsI w90M 158 1 (zI w90M 155 4)) 155 2).toInt = (zI w90M 155 2).toInt := (congrArg Int32.toInt ((zIo (by decide)).trans rfl)).trans rfl
                  have w99 : (zI (zsI w90M 158 1 (zI w90M 155 4)) 155 1).toInt = (zI M 155 1).toInt := (congrArg Int32.toInt ((zIo (by decide)).trans ((w90F 155 1 rfl).trans ((zIoj (by decide)).trans ((zIo (by decide)).trans ((w63F 155 1 rfl).trans ((zIoj (by decide)).trans rfl))))))).trans rfl
                  have w96 : (zpt (zsI w90M 158 1 (zI w90M 155 4))).toInt = g w91E := zpt.tr (zTa.fr x1 (zEq.tr (zEq.tr (zEq.tr (zEq.tr (zEq.tr (zEq.put rfl) (zFr.eq w63F rfl)) (zEq.put rfl)) (zEq.put rfl)) (zFr.eq w90F rfl)) (zEq.put rfl))) (by omega)
                  have w100 := zTa.rg (M := (zsI w90M 158 1 (zI w90M 155 4))) (zTa.fr x1 (zEq.tr (zEq.tr (zEq.tr (zEq.tr (zEq.tr (zEq.put rfl) (zFr.eq w63F rfl)) (zEq.put rfl)) (zEq.put rfl)) (zFr.eq w90F rfl)) (zEq.put rfl))) w91E
                  show zGo X l 1 0 0 47 4 [(0, .ref 155), (1, .int (44 : Int32))] [.int (zpt (zsI w90M 158 1 (zI w90M 155 4)))] (zsI w90M 158 1 (zI w90M 155 4)) _
                  refine zs_iload_n (pc := 4) t47_4 rfl ?_
                  by_cases w101 : (g w91E) = 44
                  · refine zs_icmp_eqT (pc := 5) t47_5 w96 li44 (by omega) ?_
                    refine zs_aload_n (pc := 17) t47_17 rfl ?_
                    refine zs_dup (pc := 18) t47_18 rfl ?_
                    refine zs_get (pc := 19) t47_19 (by decide) (zk1 (w90s.k fk_zMc_155)) (zfvi rfl ((zIo (by decide)).trans rfl)) ?_
                    refine zs_iconst (pc := 22) t47_22 (v := 1) (by decide) ?_
                    obtain ⟨w102v, w102e, w102⟩ := ziadd (a := (zI w90M 155 2)) (b := (1 : Int32)) rfl li1 (by omega) (by omega)
                    refine zs_iadd (pc := 23) t47_23 (c := w102v) w102e ?_
                    have w103 : zIv cLo cHi (zsI (zsI w90M 158 1 (zI w90M 155 4)) 155 2 w102v) := zIv.put w95 (show (-2147483648) ≤ w102v.toInt ∧ w102v.toInt ≤ 2147483647 from zrg w102v)
                    refine zs_putI (pc := 24) t47_24 (zk1 (w90s.k fk_zMc_155)) rfl ?_
                    refine zs_iconst (pc := 27) t47_27 (v := 1) (by decide) ?_
                    refine zs_iret (pc := 28) t47_28 mr47 (by decide) ?_
                    show zGo X l 5 0 0 28 113 [(6, .int (1 : Int32)), (5, .int (3 : Int32)), (4, .int (zpt M)), (3, .int (zI M 155 2)), (0, .ref 157), (1, .ref 155), (2, .ref 19)] [.int (1 : Int32)] (zsI (zsI w90M 158 1 (zI w90M 155 4)) 155 2 w102v) _
                    refine zs_if_neT (pc := 113) t28_113 li1 (by decide) ?_
                    refine zs_iinc (pc := 118) t28_118 (ls' := [(6, .int (2 : Int32)), (5, .int (3 : Int32)), (4, .int (zpt M)), (3, .int (zI M 155 2)), (0, .ref 157), (1, .ref 155), (2, .ref 19)]) (zml mf28 (by decide)) rfl (c := 2) (by decide) rfl ?_
                    refine zs_goto (pc := 121) t28_121 ?_
                    refine zs_iload (pc := 41) t28_41 rfl ?_
                    refine zs_iload (pc := 43) t28_43 rfl ?_
                    refine zs_icmp_geF (pc := 45) t28_45 li2 li3 (by decide) ?_
                    refine zs_aload_n (pc := 48) t28_48 rfl ?_
                    have w104 : (zI (zsI (zsI w90M 158 1 (zI w90M 155 4)) 155 2 w102v) 155 2).toInt = ((zI w90M 155 2).toInt + 1) := (congrArg Int32.toInt zIs).trans w102
                    have w105 : (zI (zsI (zsI w90M 158 1 (zI w90M 155 4)) 155 2 w102v) 155 2).toInt = ((zI w90M 155 2).toInt + 1) := (congrArg Int32.toInt zIs).trans w102
                    have w106 : (zI (zsI (zsI w90M 158 1 (zI w90M 155 4)) 155 2 w102v) 155 1).toInt = (zI M 155 1).toInt := (congrArg Int32.toInt ((zIoj (by decide)).trans ((zIo (by decide)).trans ((w90F 155 1 rfl).trans ((zIoj (by decide)).trans ((zIo (by decide)).trans ((w63F 155 1 rfl).trans ((zIoj (by decide)).trans rfl)))))))).trans rfl
                    refine zs_invV (pc := 49) (k := 155) (as' := []) (st := []) t28_49 mf35 rfl rfl (Or.inl ⟨by decide, (zk1 (w90s.k fk_zMc_155))⟩) ⟨by decide, by decide, Nat.le_of_ble_eq_true rfl, Nat.le_of_ble_eq_true rfl⟩ (X35_155 w90s w103 (by omega) (by omega) (zTa.fr x1 (zEq.tr (zEq.tr (zEq.tr (zEq.tr (zEq.tr (zEq.tr (zEq.put rfl) (zFr.eq w63F rfl)) (zEq.put rfl)) (zEq.put rfl)) (zFr.eq w90F rfl)) (zEq.put rfl)) (zEq.put rfl))) ?_) (fun _ _ q => q)
                    intro w107M w107v w107s w107I w107F w107x0 w107a w107b
                    show zGo X l 5 0 0 28 52 [(6, .int (2 : Int32)), (5, .int (3 : Int32)), (4, .int (zpt M)), (3, .int (zI M 155 2)), (0, .ref 157), (1, .ref 155), (2, .ref 19)] [.int w107v] w107M _
                    rcases w107x0 (w91E + 1) (by omega) with ⟨w108v, w108e⟩ | ⟨w108v, w108E, w108x, w108e, w108_3, w108_4, w108_5, w108_6, w108_7, w108_8⟩
                    · skip
                      refine zs_if_neF (pc := 52) t28_52 rfl (by omega) ?_
                      refine zs_iconst (pc := 55) t28_55 (v := 0) (by decide) ?_
                      have w109 := zrg (zI w107M 155 2)
                      have w110 : (zI w107M 155 2).toInt = (zI w107M 155 2).toInt := (congrArg Int32.toInt rfl).trans rfl
                      exact zs_iret (pc := 56) t28_56 mr28 (by decide) (hQ _ _ w107s w107I (((((((((zFr.refl).put rfl).trans (w63F.mono rfl)).put rfl).put rfl).trans (w90F.mono rfl)).put rfl).put rfl).trans (w107F.mono rfl)) (fun p hp => by obtain rfl : w11n = p := (by omega); exact Or.inl ⟨by decide, (((pIt.h (by omega) (by omega)).trans (pB.y (pRd.y w64e (by omega) (by omega) (by omega)))).trans (pB.y (pRd.y w91e (by omega) (by omega) (by omega)))).trans (pB.f (pRd.f w108e))⟩) (by decide) (by decide))
                    · skip
                      subst w108_4
                      refine zs_if_neT (pc := 52) t28_52 rfl (by omega) ?_
                      refine zs_aload_n (pc := 57) t28_57 rfl ?_
                      refine zs_iload (pc := 58) t28_58 rfl ?_
                      refine zs_iload (pc := 60) t28_60 rfl ?_
                      refine zs_aload_n (pc := 62) t28_62 rfl ?_
                      refine zs_invV (pc := 63) (k := 155) (as' := []) (st := [.int (2 : Int32), .int (zpt M), .ref 157]) t28_63 mf37 rfl rfl (Or.inl ⟨by decide, (zk1 (w107s.k fk_zMc_155))⟩) ⟨by decide, by decide, Nat.le_of_ble_eq_true rfl, Nat.le_of_ble_eq_true rfl⟩ (zs_in (by decide) mf37 (Nat.le_of_ble_eq_true rfl) ?_) (fun _ _ q => q)
                      show zGo X l 0 0 0 37 0 [(0, .ref 155)] [] w107M _
                      refine zs_aload_n (pc := 0) t37_0 rfl ?_
                      have w111 := ib155_4 w107I
                      refine zs_get (pc := 1) t37_1 (by decide) (zk1 (w107s.k fk_zMc_155)) (zfvi rfl rfl) ?_
                      refine zs_iret (pc := 4) t37_4 mr37 rfl ?_
                      show zGo X l 5 0 0 28 66 [(6, .int (2 : Int32)), (5, .int (3 : Int32)), (4, .int (zpt M)), (3, .int (zI M 155 2)), (0, .ref 157), (1, .ref 155), (2, .ref 19)] [.int (zI w107M 155 4), .int (2 : Int32), .int (zpt M), .ref 157] w107M _
                      refine zs_aload_n (pc := 66) t28_66 rfl ?_
                      refine zs_invV (pc := 67) (k := 157) (as' := [.int (zpt M), .int (2 : Int32), .int (zI w107M 155 4), .ref 19]) (st := []) t28_67 mf38 rfl rfl (Or.inl ⟨by decide, (zk1 (w107s.k fk_zMc_157))⟩) ⟨by decide, by decide, Nat.le_of_ble_eq_true rfl, Nat.le_of_ble_eq_true rfl⟩ (zs_in (by decide) mf38 (Nat.le_of_ble_eq_true rfl) ?_) (fun _ _ q => q)
                      show zGo X l 2 0 0 38 0 [(0, .ref 157), (1, .int (zpt M)), (2, .int (2 : Int32)), (3, .int (zI w107M 155 4)), (4, .ref 19)] [] w107M _
                      refine zs_iload_n (pc := 0) t38_0 rfl ?_
                      refine zs_lsw (pc := 1) t38_1 (off := 78) ((w12 : (zpt M).toInt = (g w11n)).trans (by omega)) rfl (pc2 := 79) rfl ?_
                      refine zs_iload_n (pc := 79) t38_79 rfl ?_
                      refine zs_iload_n (pc := 80) t38_80 rfl ?_
                      refine zs_aload (pc := 81) t38_81 rfl ?_
                      refine zs_invS (pc := 83) (as := [.int (2 : Int32), .int (zI w107M 155 4), .ref 19]) (st := []) t38_83 (by decide) mf40 rfl rfl ⟨by decide, by decide, Nat.le_of_ble_eq_true rfl, Nat.le_of_ble_eq_true rfl⟩ (zs_in (by decide) mf40 (Nat.le_of_ble_eq_true rfl) ?_) (fun _ _ q => q)
                      show zGo X l 1 0 0 40 0 [(0, .int (2 : Int32)), (1, .int (zI w107M 155 4)), (2, .ref 19)] [] w107M _
                      refine zs_iload_n (pc := 0) t40_0 rfl ?_
                      refine zs_if_neT (pc := 1) t40_1 li2 (by decide) ?_
                      refine zs_iload_n (pc := 10) t40_10 rfl ?_
                      refine zs_iconst (pc := 11) t40_11 (v := 1) (by decide) ?_
                      refine zs_icmp_neT (pc := 12) t40_12 li2 li1 (by decide) ?_
                      refine zs_iload_n (pc := 22) t40_22 rfl ?_
                      refine zs_iconst (pc := 23) t40_23 (v := 0) (by decide) ?_
                      refine zs_sipush (pc := 24) t40_24 (v := 999) (by decide) ?_
                      refine zs_invS (pc := 27) (as := [.int (zI w107M 155 4), .int (0 : Int32), .int (999 : Int32)]) (st := []) t40_27 (by decide) mf39 rfl rfl ⟨by decide, by decide, Nat.le_of_ble_eq_true rfl, Nat.le_of_ble_eq_true rfl⟩ (zs_in (by decide) mf39 (Nat.le_of_ble_eq_true rfl) ?_) (fun _ _ q => q)
                      show zGo X l 0 0 0 39 0 [(0, .int (zI w107M 155 4)), (1, .int (0 : Int32)), (2, .int (999 : Int32))] [] w107M _
                      refine zs_iload_n (pc := 0) t39_0 rfl ?_
                      refine zs_iload_n (pc := 1) t39_1 rfl ?_
                      by_cases w112 : (zI w107M 155 4).toInt < 0
                      · refine zs_icmp_ltT (pc := 2) t39_2 rfl li0 (by omega) ?_
                        refine zs_iconst (pc := 14) t39_14 (v := 0) (by decide) ?_
                        refine zs_iret (pc := 15) t39_15 mr39 (by decide) ?_
                        show zGo X l 1 0 0 40 30 [(0, .int (2 : Int32)), (1, .int (zI w107M 155 4)), (2, .ref 19)] [.int (0 : Int32)] w107M _
                        refine zs_iret (pc := 30) t40_30 mr40 (by decide) ?_
                        show zGo X l 2 0 0 38 86 [(0, .ref 157), (1, .int (zpt M)), (2, .int (2 : Int32)), (3, .int (zI w107M 155 4)), (4, .ref 19)] [.int (0 : Int32)] w107M _
                        refine zs_iret (pc := 86) t38_86 mr38 (by decide) ?_
                        show zGo X l 5 0 0 28 70 [(6, .int (2 : Int32)), (5, .int (3 : Int32)), (4, .int (zpt M)), (3, .int (zI M 155 2)), (0, .ref 157), (1, .ref 155), (2, .ref 19)] [.int (0 : Int32)] w107M _
                        refine zs_if_neF (pc := 70) t28_70 li0 (by decide) ?_
                        refine zs_aload_n (pc := 73) t28_73 rfl ?_
                        refine zs_aload_n (pc := 74) t28_74 rfl ?_
                        refine zs_invV (pc := 75) (k := 155) (as' := []) (st := [.ref 155]) t28_75 mf46 rfl rfl (Or.inl ⟨by decide, (zk1 (w107s.k fk_zMc_155))⟩) ⟨by decide, by decide, Nat.le_of_ble_eq_true rfl, Nat.le_of_ble_eq_true rfl⟩ (zs_in (by decide) mf46 (Nat.le_of_ble_eq_true rfl) ?_) (fun _ _ q => q)
                        show zGo X l 0 0 0 46 0 [(0, .ref 155)] [] w107M _
                        refine zs_aload_n (pc := 0) t46_0 rfl ?_
                        have w113 := zrg (zI w107M 155 5)
                        refine zs_get (pc := 1) t46_1 (by decide) (zk1 (w107s.k fk_zMc_155)) (zfvi rfl rfl) ?_
                        refine zs_iret (pc := 4) t46_4 mr46 rfl ?_
                        show zGo X l 5 0 0 28 78 [(6, .int (2 : Int32)), (5, .int (3 : Int32)), (4, .int (zpt M)), (3, .int (zI M 155 2)), (0, .ref 157), (1, .ref 155), (2, .ref 19)] [.int (zI w107M 155 5), .ref 155] w107M _
                        refine zs_invV (pc := 78) (k := 155) (as' := [.int (zI w107M 155 5)]) (st := []) t28_78 mf34 rfl rfl (Or.inl ⟨by decide, (zk1 (w107s.k fk_zMc_155))⟩) ⟨by decide, by decide, Nat.le_of_ble_eq_true rfl, Nat.le_of_ble_eq_true rfl⟩ (zs_in (by decide) mf34 (Nat.le_of_ble_eq_true rfl) ?_) (fun _ _ q => q)
                        show zGo X l 0 0 0 34 0 [(0, .ref 155), (1, .int (zI w107M 155 5))] [] w107M _
                        refine zs_aload_n (pc := 0) t34_0 rfl ?_
                        refine zs_iload_n (pc := 1) t34_1 rfl ?_
                        have w114 : zIv cLo cHi (zsI w107M 155 3 (zI w107M 155 5)) := zIv.put w107I (show (-2147483648) ≤ (zI w107M 155 5).toInt ∧ (zI w107M 155 5).toInt ≤ 2147483647 from zrg (zI w107M 155 5))
                        refine zs_putI (pc := 2) t34_2 (zk1 (w107s.k fk_zMc_155)) rfl ?_
                        refine zs_iconst (pc := 5) t34_5 (v := 0) (by decide) ?_
                        refine zs_iret (pc := 6) t34_6 mr34 (by decide) ?_
                        show zGo X l 5 0 0 28 81 [(6, .int (2 : Int32)), (5, .int (3 : Int32)), (4, .int (zpt M)), (3, .int (zI M 155 2)), (0, .ref 157), (1, .ref 155), (2, .ref 19)] [.int (0 : Int32)] (zsI w107M 155 3 (zI w107M 155 5)) _
                        have w115 := zrg (zI w107M 155 2)
                        have w116 : (zI (zsI w107M 155 3 (zI w107M 155 5)) 155 2).toInt = (zI w107M 155 2).toInt := (congrArg Int32.toInt ((zIoj (by decide)).trans rfl)).trans rfl
                        exact zs_iret (pc := 81) t28_81 mr28 (by decide) (hQ _ _ w107s w114 ((((((((((zFr.refl).put rfl).trans (w63F.mono rfl)).put rfl).put rfl).trans (w90F.mono rfl)).put rfl).put rfl).trans (w107F.mono rfl)).put rfl) (fun p hp => by obtain rfl : w11n = p := (by omega); exact Or.inl ⟨by decide, (((pIt.h (by omega) (by omega)).trans (pB.y (pRd.y w64e (by omega) (by omega) (by omega)))).trans (pB.y (pRd.y w91e (by omega) (by omega) (by omega)))).trans (pB.f (pRd.n w108e (by omega)))⟩) (by decide) (by decide))
                      · refine zs_icmp_ltF (pc := 2) t39_2 rfl li0 (by omega) ?_
                        refine zs_iload_n (pc := 5) t39_5 rfl ?_
                        refine zs_iload_n (pc := 6) t39_6 rfl ?_
                        by_cases w117 : 999 < (zI w107M 155 4).toInt
                        · refine zs_icmp_gtT (pc := 7) t39_7 rfl li999 (by omega) ?_
                          refine zs_iconst (pc := 14) t39_14 (v := 0) (by decide) ?_
                          refine zs_iret (pc := 15) t39_15 mr39 (by decide) ?_
                          show zGo X l 1 0 0 40 30 [(0, .int (2 : Int32)), (1, .int (zI w107M 155 4)), (2, .ref 19)] [.int (0 : Int32)] w107M _
                          refine zs_iret (pc := 30) t40_30 mr40 (by decide) ?_
                          show zGo X l 2 0 0 38 86 [(0, .ref 157), (1, .int (zpt M)), (2, .int (2 : Int32)), (3, .int (zI w107M 155 4)), (4, .ref 19)] [.int (0 : Int32)] w107M _
                          refine zs_iret (pc := 86) t38_86 mr38 (by decide) ?_
                          show zGo X l 5 0 0 28 70 [(6, .int (2 : Int32)), (5, .int (3 : Int32)), (4, .int (zpt M)), (3, .int (zI M 155 2)), (0, .ref 157), (1, .ref 155), (2, .ref 19)] [.int (0 : Int32)] w107M _
                          refine zs_if_neF (pc := 70) t28_70 li0 (by decide) ?_
                          refine zs_aload_n (pc := 73) t28_73 rfl ?_
                          refine zs_aload_n (pc := 74) t28_74 rfl ?_
                          refine zs_invV (pc := 75) (k := 155) (as' := []) (st := [.ref 155]) t28_75 mf46 rfl rfl (Or.inl ⟨by decide, (zk1 (w107s.k fk_zMc_155))⟩) ⟨by decide, by decide, Nat.le_of_ble_eq_true rfl, Nat.le_of_ble_eq_true rfl⟩ (zs_in (by decide) mf46 (Nat.le_of_ble_eq_true rfl) ?_) (fun _ _ q => q)
                          show zGo X l 0 0 0 46 0 [(0, .ref 155)] [] w107M _
                          refine zs_aload_n (pc := 0) t46_0 rfl ?_
                          have w118 := zrg (zI w107M 155 5)
                          refine zs_get (pc := 1) t46_1 (by decide) (zk1 (w107s.k fk_zMc_155)) (zfvi rfl rfl) ?_
                          refine zs_iret (pc := 4) t46_4 mr46 rfl ?_
                          show zGo X l 5 0 0 28 78 [(6, .int (2 : Int32)), (5, .int (3 : Int32)), (4, .int (zpt M)), (3, .int (zI M 155 2)), (0, .ref 157), (1, .ref 155), (2, .ref 19)] [.int (zI w107M 155 5), .ref 155] w107M _
                          refine zs_invV (pc := 78) (k := 155) (as' := [.int (zI w107M 155 5)]) (st := []) t28_78 mf34 rfl rfl (Or.inl ⟨by decide, (zk1 (w107s.k fk_zMc_155))⟩) ⟨by decide, by decide, Nat.le_of_ble_eq_true rfl, Nat.le_of_ble_eq_true rfl⟩ (zs_in (by decide) mf34 (Nat.le_of_ble_eq_true rfl) ?_) (fun _ _ q => q)
                          show zGo X l 0 0 0 34 0 [(0, .ref 155), (1, .int (zI w107M 155 5))] [] w107M _
                          refine zs_aload_n (pc := 0) t34_0 rfl ?_
                          refine zs_iload_n (pc := 1) t34_1 rfl ?_
                          have w119 : zIv cLo cHi (zsI w107M 155 3 (zI w107M 155 5)) := zIv.put w107I (show (-2147483648) ≤ (zI w107M 155 5).toInt ∧ (zI w107M 155 5).toInt ≤ 2147483647 from zrg (zI w107M 155 5))
                          refine zs_putI (pc := 2) t34_2 (zk1 (w107s.k fk_zMc_155)) rfl ?_
                          refine zs_iconst (pc := 5) t34_5 (v := 0) (by decide) ?_
                          refine zs_iret (pc := 6) t34_6 mr34 (by decide) ?_
                          show zGo X l 5 0 0 28 81 [(6, .int (2 : Int32)), (5, .int (3 : Int32)), (4, .int (zpt M)), (3, .int (zI M 155 2)), (0, .ref 157), (1, .ref 155), (2, .ref 19)] [.int (0 : Int32)] (zsI w107M 155 3 (zI w107M 155 5)) _
                          have w120 := zrg (zI w107M 155 2)
                          have w121 : (zI (zsI w107M 155 3 (zI w107M 155 5)) 155 2).toInt = (zI w107M 155 2).toInt := (congrArg Int32.toInt ((zIoj (by decide)).trans rfl)).trans rfl
                          exact zs_iret (pc := 81) t28_81 mr28 (by decide) (hQ _ _ w107s w119 ((((((((((zFr.refl).put rfl).trans (w63F.mono rfl)).put rfl).put rfl).trans (w90F.mono rfl)).put rfl).put rfl).trans (w107F.mono rfl)).put rfl) (fun p hp => by obtain rfl : w11n = p := (by omega); exact Or.inl ⟨by decide, (((pIt.h (by omega) (by omega)).trans (pB.y (pRd.y w64e (by omega) (by omega) (by omega)))).trans (pB.y (pRd.y w91e (by omega) (by omega) (by omega)))).trans (pB.f (pRd.n w108e (by omega)))⟩) (by decide) (by decide))
                        · refine zs_icmp_gtF (pc := 7) t39_7 rfl li999 (by omega) ?_
                          refine zs_iconst (pc := 10) t39_10 (v := 1) (by decide) ?_
                          refine zs_goto (pc := 11) t39_11 ?_
                          refine zs_iret (pc := 15) t39_15 mr39 (by decide) ?_
                          show zGo X l 1 0 0 40 30 [(0, .int (2 : Int32)), (1, .int (zI w107M 155 4)), (2, .ref 19)] [.int (1 : Int32)] w107M _
                          refine zs_iret (pc := 30) t40_30 mr40 (by decide) ?_
                          show zGo X l 2 0 0 38 86 [(0, .ref 157), (1, .int (zpt M)), (2, .int (2 : Int32)), (3, .int (zI w107M 155 4)), (4, .ref 19)] [.int (1 : Int32)] w107M _
                          refine zs_iret (pc := 86) t38_86 mr38 (by decide) ?_
                          show zGo X l 5 0 0 28 70 [(6, .int (2 : Int32)), (5, .int (3 : Int32)), (4, .int (zpt M)), (3, .int (zI M 155 2)), (0, .ref 157), (1, .ref 155), (2, .ref 19)] [.int (1 : Int32)] w107M _
                          refine zs_if_neT (pc := 70) t28_70 li1 (by decide) ?_
                          refine zs_aload_n (pc := 82) t28_82 rfl ?_
                          refine zs_get (pc := 83) t28_83 (by decide) (zk1 (w107s.k fk_zMc_157)) (w107s.p rfl fv_zMc_157_0) ?_
                          refine zs_iload (pc := 86) t28_86 rfl ?_
                          refine zs_aload_n (pc := 88) t28_88 rfl ?_
                          refine zs_invV (pc := 89) (k := 155) (as' := []) (st := [.int (2 : Int32), .ref 158]) t28_89 mf37 rfl rfl (Or.inl ⟨by decide, (zk1 (w107s.k fk_zMc_155))⟩) ⟨by decide, by decide, Nat.le_of_ble_eq_true rfl, Nat.le_of_ble_eq_true rfl⟩ (zs_in (by decide) mf37 (Nat.le_of_ble_eq_true rfl) ?_) (fun _ _ q => q)
                          show zGo X l 0 0 0 37 0 [(0, .ref 155)] [] w107M _
                          refine zs_aload_n (pc := 0) t37_0 rfl ?_
                          refine zs_get (pc := 1) t37_1 (by decide) (zk1 (w107s.k fk_zMc_155)) (zfvi rfl rfl) ?_
                          refine zs_iret (pc := 4) t37_4 mr37 rfl ?_
                          show zGo X l 5 0 0 28 92 [(6, .int (2 : Int32)), (5, .int (3 : Int32)), (4, .int (zpt M)), (3, .int (zI M 155 2)), (0, .ref 157), (1, .ref 155), (2, .ref 19)] [.int (zI w107M 155 4), .int (2 : Int32), .ref 158] w107M _
                          have w122 : zIv cLo cHi (zsI w107M 158 2 (zI w107M 155 4)) := zIv.put w107I (show (-300000) ≤ (zI w107M 155 4).toInt ∧ (zI w107M 155 4).toInt ≤ 300000 from ⟨by omega, by omega⟩)
                          refine zs_iast (pc := 92) t28_92 (j := 2) (by decide) (zk1 (w107s.k fk_zMc_158)) li2 (zk2 (w107s.k fk_zMc_158) (by decide)) ?_
                          refine zs_aload_n (pc := 93) t28_93 rfl ?_
                          refine zs_iload (pc := 94) t28_94 rfl ?_
                          refine zs_iconst (pc := 96) t28_96 (v := 1) (by decide) ?_
                          refine zs_iadd (pc := 97) t28_97 (c := 3) (by decide) ?_
                          refine zs_iload (pc := 98) t28_98 rfl ?_
                          refine zs_icmp_geT (pc := 100) t28_100 li3 li3 (by decide) ?_
                          refine zs_bipush (pc := 108) t28_108 (v := 59) (by decide) ?_
                          refine zs_invV (pc := 110) (k := 155) (as' := [.int (59 : Int32)]) (st := []) t28_110 mf47 rfl rfl (Or.inl ⟨by decide, (zk1 (w107s.k fk_zMc_155))⟩) ⟨by decide, by decide, Nat.le_of_ble_eq_true rfl, Nat.le_of_ble_eq_true rfl⟩ (zs_in (by decide) mf47 (Nat.le_of_ble_eq_true rfl) ?_) (fun _ _ q => q)
                          show zGo X l 1 0 0 47 0 [(0, .ref 155), (1, .int (59 : Int32))] [] (zsI w107M 158 2 (zI w107M 155 4)) _
                          refine zs_aload_n (pc := 0) t47_0 rfl ?_
                          refine zs_invV (pc := 1) (k := 155) (as' := []) (st := []) t47_1 mf31 rfl rfl (Or.inl ⟨by decide, (zk1 (w107s.k fk_zMc_155))⟩) ⟨by decide, by decide, Nat.le_of_ble_eq_true rfl, Nat.le_of_ble_eq_true rfl⟩ (P31 w107s w122 ?_) (fun _ _ q => q)
                          have w124 := zrg (zI w107M 155 2)
                          have w125 : (zI (zsI w107M 158 2 (zI w107M 155 4)) 155 2).toInt = (zI w107M 155 2).toInt := (congrArg Int32.toInt ((zIo (by decide)).trans rfl)).trans rfl
                          have w126 : (zI (zsI w107M 158 2 (zI w107M 155 4)) 155 1).toInt = (zI M 155 1).toInt := (congrArg Int32.toInt ((zIo (by decide)).trans ((w107F 155 1 rfl).trans ((zIoj (by decide)).trans ((zIo (by decide)).trans ((w90F 155 1 rfl).trans ((zIoj (by decide)).trans ((zIo (by decide)).trans ((w63F 155 1 rfl).trans ((zIoj (by decide)).trans rfl)))))))))).trans rfl
                          have w123 : (zpt (zsI w107M 158 2 (zI w107M 155 4))).toInt = g w108E := zpt.tr (zTa.fr x1 (zEq.tr (zEq.tr (zEq.tr (zEq.tr (zEq.tr (zEq.tr (zEq.tr (zEq.tr (zEq.put rfl) (zFr.eq w63F rfl)) (zEq.put rfl)) (zEq.put rfl)) (zFr.eq w90F rfl)) (zEq.put rfl)) (zEq.put rfl)) (zFr.eq w107F rfl)) (zEq.put rfl))) (by omega)
                          have w127 := zTa.rg (M := (zsI w107M 158 2 (zI w107M 155 4))) (zTa.fr x1 (zEq.tr (zEq.tr (zEq.tr (zEq.tr (zEq.tr (zEq.tr (zEq.tr (zEq.tr (zEq.put rfl) (zFr.eq w63F rfl)) (zEq.put rfl)) (zEq.put rfl)) (zFr.eq w90F rfl)) (zEq.put rfl)) (zEq.put rfl)) (zFr.eq w107F rfl)) (zEq.put rfl))) w108E
                          show zGo X l 1 0 0 47 4 [(0, .ref 155), (1, .int (59 : Int32))] [.int (zpt (zsI w107M 158 2 (zI w107M 155 4)))] (zsI w107M 158 2 (zI w107M 155 4)) _
                          refine zs_iload_n (pc := 4) t47_4 rfl ?_
                          by_cases w128 : (g w108E) = 59
                          · refine zs_icmp_eqT (pc := 5) t47_5 w123 li59 (by omega) ?_
                            refine zs_aload_n (pc := 17) t47_17 rfl ?_
                            refine zs_dup (pc := 18) t47_18 rfl ?_
                            refine zs_get (pc := 19) t47_19 (by decide) (zk1 (w107s.k fk_zMc_155)) (zfvi rfl ((zIo (by decide)).trans rfl)) ?_
                            refine zs_iconst (pc := 22) t47_22 (v := 1) (by decide) ?_
                            obtain ⟨w129v, w129e, w129⟩ := ziadd (a := (zI w107M 155 2)) (b := (1 : Int32)) rfl li1 (by omega) (by omega)
                            refine zs_iadd (pc := 23) t47_23 (c := w129v) w129e ?_
                            have w130 : zIv cLo cHi (zsI (zsI w107M 158 2 (zI w107M 155 4)) 155 2 w129v) := zIv.put w122 (show (-2147483648) ≤ w129v.toInt ∧ w129v.toInt ≤ 2147483647 from zrg w129v)
                            refine zs_putI (pc := 24) t47_24 (zk1 (w107s.k fk_zMc_155)) rfl ?_
                            refine zs_iconst (pc := 27) t47_27 (v := 1) (by decide) ?_
                            refine zs_iret (pc := 28) t47_28 mr47 (by decide) ?_
                            show zGo X l 5 0 0 28 113 [(6, .int (2 : Int32)), (5, .int (3 : Int32)), (4, .int (zpt M)), (3, .int (zI M 155 2)), (0, .ref 157), (1, .ref 155), (2, .ref 19)] [.int (1 : Int32)] (zsI (zsI w107M 158 2 (zI w107M 155 4)) 155 2 w129v) _
                            refine zs_if_neT (pc := 113) t28_113 li1 (by decide) ?_
                            refine zs_iinc (pc := 118) t28_118 (ls' := [(6, .int (3 : Int32)), (5, .int (3 : Int32)), (4, .int (zpt M)), (3, .int (zI M 155 2)), (0, .ref 157), (1, .ref 155), (2, .ref 19)]) (zml mf28 (by decide)) rfl (c := 3) (by decide) rfl ?_
                            refine zs_goto (pc := 121) t28_121 ?_
                            refine zs_iload (pc := 41) t28_41 rfl ?_
                            refine zs_iload (pc := 43) t28_43 rfl ?_
                            refine zs_icmp_geT (pc := 45) t28_45 li3 li3 (by decide) ?_
                            refine zs_aload_n (pc := 124) t28_124 rfl ?_
                            refine zs_iload (pc := 125) t28_125 rfl ?_
                            refine zs_aload_n (pc := 127) t28_127 rfl ?_
                            refine zs_invV (pc := 128) (k := 157) (as' := [.int (zpt M), .ref 19]) (st := []) t28_128 mf48 rfl rfl (Or.inl ⟨by decide, (zk1 (w107s.k fk_zMc_157))⟩) ⟨by decide, by decide, Nat.le_of_ble_eq_true rfl, Nat.le_of_ble_eq_true rfl⟩ (zs_in (by decide) mf48 (Nat.le_of_ble_eq_true rfl) ?_) (fun _ _ q => q)
                            show zGo X l 4 0 0 48 0 [(0, .ref 157), (1, .int (zpt M)), (2, .ref 19)] [] (zsI (zsI w107M 158 2 (zI w107M 155 4)) 155 2 w129v) _
                            refine zs_iload_n (pc := 0) t48_0 rfl ?_
                            refine zs_lsw (pc := 1) t48_1 (off := 46) ((w12 : (zpt M).toInt = (g w11n)).trans (by omega)) rfl (pc2 := 47) rfl ?_
                            refine zs_aload_n (pc := 47) t48_47 rfl ?_
                            refine zs_aload_n (pc := 48) t48_48 rfl ?_
                            refine zs_get (pc := 49) t48_49 (by decide) (zk1 (w107s.k fk_zMc_157)) (w107s.p rfl fv_zMc_157_0) ?_
                            refine zs_iconst (pc := 52) t48_52 (v := 0) (by decide) ?_
                            refine zs_iald (pc := 53) t48_53 (j := 0) (by decide) (zk1 (w107s.k fk_zMc_158)) li0 (zk2 (w107s.k fk_zMc_158) (by decide)) ((zIo (by decide)).trans ((zIoj (by decide)).trans ((w107F 158 0 rfl).trans ((zIo (by decide)).trans ((zIoj (by decide)).trans ((w90F 158 0 rfl).trans ((zIo (by decide)).trans zIs))))))) ?_
                            refine zs_aload_n (pc := 54) t48_54 rfl ?_
                            refine zs_get (pc := 55) t48_55 (by decide) (zk1 (w107s.k fk_zMc_157)) (w107s.p rfl fv_zMc_157_0) ?_
                            refine zs_iconst (pc := 58) t48_58 (v := 1) (by decide) ?_
                            refine zs_iald (pc := 59) t48_59 (j := 1) (by decide) (zk1 (w107s.k fk_zMc_158)) li1 (zk2 (w107s.k fk_zMc_158) (by decide)) ((zIo (by decide)).trans ((zIoj (by decide)).trans ((w107F 158 1 rfl).trans ((zIo (by decide)).trans zIs)))) ?_
                            refine zs_aload_n (pc := 60) t48_60 rfl ?_
                            refine zs_get (pc := 61) t48_61 (by decide) (zk1 (w107s.k fk_zMc_157)) (w107s.p rfl fv_zMc_157_0) ?_
                            refine zs_iconst (pc := 64) t48_64 (v := 2) (by decide) ?_
                            refine zs_iald (pc := 65) t48_65 (j := 2) (by decide) (zk1 (w107s.k fk_zMc_158)) li2 (zk2 (w107s.k fk_zMc_158) (by decide)) ((zIo (by decide)).trans zIs) ?_
                            refine zs_bipush (pc := 66) t48_66 (v := -2) (by decide) ?_
                            have w131 : (-2 : Int32).toInt = (-2) := lin2
                            refine zs_invV (pc := 68) (k := 19) (as' := [.int (zI w63M 155 4), .int (zI w90M 155 4), .int (zI w107M 155 4), .int (-2 : Int32)]) (st := []) t48_68 mf50 rfl rfl (Or.inl ⟨by decide, (zk1 (w107s.k fk_zMc_19))⟩) ⟨by decide, by decide, Nat.le_of_ble_eq_true rfl, Nat.le_of_ble_eq_true rfl⟩ (X50_19 w107s w130 (zSo.fr x0 (zEq.tr (zEq.tr (zEq.tr (zEq.tr (zEq.tr (zEq.tr (zEq.tr (zEq.tr (zEq.tr (zEq.put rfl) (zFr.eq w63F rfl)) (zEq.put rfl)) (zEq.put rfl)) (zFr.eq w90F rfl)) (zEq.put rfl)) (zEq.put rfl)) (zFr.eq w107F rfl)) (zEq.put rfl)) (zEq.put rfl))) ?_) (fun _ _ q => q)
                            intro w132M w132v w132s w132I w132F w132x0
                            have w132g := zrg w132v
                            have w133 : (-2 : Int32).toInt = (-2) := lin2
                            have w132y := w132x0.resolve_left (fun q => by have z := q.2.1; omega)
                            have w132v1 := w132y.2.1
                            show zGo X l 4 0 0 48 71 [(0, .ref 157), (1, .int (zpt M)), (2, .ref 19)] [.int w132v] w132M _
                            refine zs_iconst (pc := 71) t48_71 (v := -1) (by decide) ?_
                            refine zs_icmp_eqF (pc := 72) t48_72 rfl lin1 (by omega) ?_
                            refine zs_iconst (pc := 75) t48_75 (v := 1) (by decide) ?_
                            refine zs_goto (pc := 76) t48_76 ?_
                            refine zs_iret (pc := 80) t48_80 mr48 (by decide) ?_
                            show zGo X l 5 0 0 28 131 [(6, .int (3 : Int32)), (5, .int (3 : Int32)), (4, .int (zpt M)), (3, .int (zI M 155 2)), (0, .ref 157), (1, .ref 155), (2, .ref 19)] [.int (1 : Int32)] w132M _
                            refine zs_if_neT (pc := 131) t28_131 li1 (by decide) ?_
                            refine zs_iconst (pc := 142) t28_142 (v := 1) (by decide) ?_
                            refine zs_goto (pc := 143) t28_143 ?_
                            have w134 : (zI w132M 155 2).toInt = ((zI w107M 155 2).toInt + 1) := (congrArg Int32.toInt ((w132F 155 2 rfl).trans zIs)).trans w129
                            exact zs_iret (pc := 147) t28_147 mr28 (by decide) (hQ _ _ w132s w132I ((((((((((((zFr.refl).put rfl).trans (w63F.mono rfl)).put rfl).put rfl).trans (w90F.mono rfl)).put rfl).put rfl).trans (w107F.mono rfl)).put rfl).put rfl).trans (w132F.mono rfl)) (fun p hp => by obtain rfl : w11n = p := (by omega); exact Or.inr ⟨by decide, w108E + 1, (pHit F (zI w63M 155 4).toInt (zI w90M 155 4).toInt (zI w107M 155 4).toInt (-2)), ((((pIt.h (by omega) (by omega)).trans (pB.y (pRd.y w64e (by omega) (by omega) (by omega)))).trans (pB.y (pRd.y w91e (by omega) (by omega) (by omega)))).trans (pB.y (pRd.y w108e (by omega) (by omega) (by omega)))), by omega, by omega, by omega, w132y.2.2, x2.hit (by omega) (by omega) (by omega) (by omega) (by omega) (by omega) (by omega)⟩) (by decide) (by decide))
                          · refine zs_icmp_eqF (pc := 5) t47_5 w123 li59 (by omega) ?_
                            refine zs_aload_n (pc := 8) t47_8 rfl ?_
                            refine zs_aload_n (pc := 9) t47_9 rfl ?_
                            refine zs_get (pc := 10) t47_10 (by decide) (zk1 (w107s.k fk_zMc_155)) (zfvi rfl ((zIo (by decide)).trans rfl)) ?_
                            refine zs_invV (pc := 13) (k := 155) (as' := [.int (zI w107M 155 2)]) (st := []) t47_13 mf34 rfl rfl (Or.inl ⟨by decide, (zk1 (w107s.k fk_zMc_155))⟩) ⟨by decide, by decide, Nat.le_of_ble_eq_true rfl, Nat.le_of_ble_eq_true rfl⟩ (zs_in (by decide) mf34 (Nat.le_of_ble_eq_true rfl) ?_) (fun _ _ q => q)
                            show zGo X l 0 0 0 34 0 [(0, .ref 155), (1, .int (zI w107M 155 2))] [] (zsI w107M 158 2 (zI w107M 155 4)) _
                            refine zs_aload_n (pc := 0) t34_0 rfl ?_
                            refine zs_iload_n (pc := 1) t34_1 rfl ?_
                            have w135 : zIv cLo cHi (zsI (zsI w107M 158 2 (zI w107M 155 4)) 155 3 (zI w107M 155 2)) := zIv.put w122 (show (-2147483648) ≤ (zI w107M 155 2).toInt ∧ (zI w107M 155 2).toInt ≤ 2147483647 from zrg (zI w107M 155 2))
                            refine zs_putI (pc := 2) t34_2 (zk1 (w107s.k fk_zMc_155)) rfl ?_
                            refine zs_iconst (pc := 5) t34_5 (v := 0) (by decide) ?_
                            refine zs_iret (pc := 6) t34_6 mr34 (by decide) ?_
                            show zGo X l 1 0 0 47 16 [(0, .ref 155), (1, .int (59 : Int32))] [.int (0 : Int32)] (zsI (zsI w107M 158 2 (zI w107M 155 4)) 155 3 (zI w107M 155 2)) _
                            refine zs_iret (pc := 16) t47_16 mr47 (by decide) ?_
                            show zGo X l 5 0 0 28 113 [(6, .int (2 : Int32)), (5, .int (3 : Int32)), (4, .int (zpt M)), (3, .int (zI M 155 2)), (0, .ref 157), (1, .ref 155), (2, .ref 19)] [.int (0 : Int32)] (zsI (zsI w107M 158 2 (zI w107M 155 4)) 155 3 (zI w107M 155 2)) _
                            refine zs_if_neF (pc := 113) t28_113 li0 (by decide) ?_
                            refine zs_iconst (pc := 116) t28_116 (v := 0) (by decide) ?_
                            have w136 : (zI (zsI (zsI w107M 158 2 (zI w107M 155 4)) 155 3 (zI w107M 155 2)) 155 2).toInt = (zI w107M 155 2).toInt := (congrArg Int32.toInt ((zIoj (by decide)).trans ((zIo (by decide)).trans rfl))).trans rfl
                            exact zs_iret (pc := 117) t28_117 mr28 (by decide) (hQ _ _ w107s w135 (((((((((((zFr.refl).put rfl).trans (w63F.mono rfl)).put rfl).put rfl).trans (w90F.mono rfl)).put rfl).put rfl).trans (w107F.mono rfl)).put rfl).put rfl) (fun p hp => by obtain rfl : w11n = p := (by omega); exact Or.inl ⟨by decide, (((pIt.h (by omega) (by omega)).trans (pB.y (pRd.y w64e (by omega) (by omega) (by omega)))).trans (pB.y (pRd.y w91e (by omega) (by omega) (by omega)))).trans (pB.f (pRd.n w108e (by omega)))⟩) (by decide) (by decide))
                  · refine zs_icmp_eqF (pc := 5) t47_5 w96 li44 (by omega) ?_
                    refine zs_aload_n (pc := 8) t47_8 rfl ?_
                    refine zs_aload_n (pc := 9) t47_9 rfl ?_
                    refine zs_get (pc := 10) t47_10 (by decide) (zk1 (w90s.k fk_zMc_155)) (zfvi rfl ((zIo (by decide)).trans rfl)) ?_
                    refine zs_invV (pc := 13) (k := 155) (as' := [.int (zI w90M 155 2)]) (st := []) t47_13 mf34 rfl rfl (Or.inl ⟨by decide, (zk1 (w90s.k fk_zMc_155))⟩) ⟨by decide, by decide, Nat.le_of_ble_eq_true rfl, Nat.le_of_ble_eq_true rfl⟩ (zs_in (by decide) mf34 (Nat.le_of_ble_eq_true rfl) ?_) (fun _ _ q => q)
                    show zGo X l 0 0 0 34 0 [(0, .ref 155), (1, .int (zI w90M 155 2))] [] (zsI w90M 158 1 (zI w90M 155 4)) _
                    refine zs_aload_n (pc := 0) t34_0 rfl ?_
                    refine zs_iload_n (pc := 1) t34_1 rfl ?_
                    have w137 : zIv cLo cHi (zsI (zsI w90M 158 1 (zI w90M 155 4)) 155 3 (zI w90M 155 2)) := zIv.put w95 (show (-2147483648) ≤ (zI w90M 155 2).toInt ∧ (zI w90M 155 2).toInt ≤ 2147483647 from zrg (zI w90M 155 2))
                    refine zs_putI (pc := 2) t34_2 (zk1 (w90s.k fk_zMc_155)) rfl ?_
                    refine zs_iconst (pc := 5) t34_5 (v := 0) (by decide) ?_
                    refine zs_iret (pc := 6) t34_6 mr34 (by decide) ?_
                    show zGo X l 1 0 0 47 16 [(0, .ref 155), (1, .int (44 : Int32))] [.int (0 : Int32)] (zsI (zsI w90M 158 1 (zI w90M 155 4)) 155 3 (zI w90M 155 2)) _
                    refine zs_iret (pc := 16) t47_16 mr47 (by decide) ?_
                    show zGo X l 5 0 0 28 113 [(6, .int (1 : Int32)), (5, .int (3 : Int32)), (4, .int (zpt M)), (3, .int (zI M 155 2)), (0, .ref 157), (1, .ref 155), (2, .ref 19)] [.int (0 : Int32)] (zsI (zsI w90M 158 1 (zI w90M 155 4)) 155 3 (zI w90M 155 2)) _
                    refine zs_if_neF (pc := 113) t28_113 li0 (by decide) ?_
                    refine zs_iconst (pc := 116) t28_116 (v := 0) (by decide) ?_
                    have w138 : (zI (zsI (zsI w90M 158 1 (zI w90M 155 4)) 155 3 (zI w90M 155 2)) 155 2).toInt = (zI w90M 155 2).toInt := (congrArg Int32.toInt ((zIoj (by decide)).trans ((zIo (by decide)).trans rfl))).trans rfl
                    exact zs_iret (pc := 117) t28_117 mr28 (by decide) (hQ _ _ w90s w137 ((((((((zFr.refl).put rfl).trans (w63F.mono rfl)).put rfl).put rfl).trans (w90F.mono rfl)).put rfl).put rfl) (fun p hp => by obtain rfl : w11n = p := (by omega); exact Or.inl ⟨by decide, ((pIt.h (by omega) (by omega)).trans (pB.y (pRd.y w64e (by omega) (by omega) (by omega)))).trans (pB.f (pRd.n w91e (by omega)))⟩) (by decide) (by decide))
              · refine zs_icmp_eqF (pc := 5) t47_5 w79 li44 (by omega) ?_
                refine zs_aload_n (pc := 8) t47_8 rfl ?_
                refine zs_aload_n (pc := 9) t47_9 rfl ?_
                refine zs_get (pc := 10) t47_10 (by decide) (zk1 (w63s.k fk_zMc_155)) (zfvi rfl ((zIo (by decide)).trans rfl)) ?_
                refine zs_invV (pc := 13) (k := 155) (as' := [.int (zI w63M 155 2)]) (st := []) t47_13 mf34 rfl rfl (Or.inl ⟨by decide, (zk1 (w63s.k fk_zMc_155))⟩) ⟨by decide, by decide, Nat.le_of_ble_eq_true rfl, Nat.le_of_ble_eq_true rfl⟩ (zs_in (by decide) mf34 (Nat.le_of_ble_eq_true rfl) ?_) (fun _ _ q => q)
                show zGo X l 0 0 0 34 0 [(0, .ref 155), (1, .int (zI w63M 155 2))] [] (zsI w63M 158 0 (zI w63M 155 4)) _
                refine zs_aload_n (pc := 0) t34_0 rfl ?_
                refine zs_iload_n (pc := 1) t34_1 rfl ?_
                have w139 : zIv cLo cHi (zsI (zsI w63M 158 0 (zI w63M 155 4)) 155 3 (zI w63M 155 2)) := zIv.put w78 (show (-2147483648) ≤ (zI w63M 155 2).toInt ∧ (zI w63M 155 2).toInt ≤ 2147483647 from zrg (zI w63M 155 2))
                refine zs_putI (pc := 2) t34_2 (zk1 (w63s.k fk_zMc_155)) rfl ?_
                refine zs_iconst (pc := 5) t34_5 (v := 0) (by decide) ?_
                refine zs_iret (pc := 6) t34_6 mr34 (by decide) ?_
                show zGo X l 1 0 0 47 16 [(0, .ref 155), (1, .int (44 : Int32))] [.int (0 : Int32)] (zsI (zsI w63M 158 0 (zI w63M 155 4)) 155 3 (zI w63M 155 2)) _
                refine zs_iret (pc := 16) t47_16 mr47 (by decide) ?_
                show zGo X l 5 0 0 28 113 [(6, .int (0 : Int32)), (5, .int (3 : Int32)), (4, .int (zpt M)), (3, .int (zI M 155 2)), (0, .ref 157), (1, .ref 155), (2, .ref 19)] [.int (0 : Int32)] (zsI (zsI w63M 158 0 (zI w63M 155 4)) 155 3 (zI w63M 155 2)) _
                refine zs_if_neF (pc := 113) t28_113 li0 (by decide) ?_
                refine zs_iconst (pc := 116) t28_116 (v := 0) (by decide) ?_
                have w140 : (zI (zsI (zsI w63M 158 0 (zI w63M 155 4)) 155 3 (zI w63M 155 2)) 155 2).toInt = (zI w63M 155 2).toInt := (congrArg Int32.toInt ((zIoj (by decide)).trans ((zIo (by decide)).trans rfl))).trans rfl
                exact zs_iret (pc := 117) t28_117 mr28 (by decide) (hQ _ _ w63s w139 (((((zFr.refl).put rfl).trans (w63F.mono rfl)).put rfl).put rfl) (fun p hp => by obtain rfl : w11n = p := (by omega); exact Or.inl ⟨by decide, (pIt.h (by omega) (by omega)).trans (pB.f (pRd.n w64e (by omega)))⟩) (by decide) (by decide))
      · refine zs_icmp_ltF (pc := 57) t33_57 rfl li60 (by omega) ?_
        refine zs_iconst (pc := 60) t33_60 (v := 1) (by decide) ?_
        refine zs_goto (pc := 61) t33_61 ?_
        refine zs_iret (pc := 65) t33_65 mr33 (by decide) ?_
        show zGo X l 5 0 0 28 29 [(5, .int (3 : Int32)), (4, .int (zpt M)), (3, .int (zI M 155 2)), (0, .ref 157), (1, .ref 155), (2, .ref 19)] [.int (1 : Int32)] (zsI M 155 2 w19v) _
        refine zs_if_eqF (pc := 29) t28_29 li1 (by decide) ?_
        refine zs_aload_n (pc := 32) t28_32 rfl ?_
        refine zs_iload_n (pc := 33) t28_33 rfl ?_
        refine zs_invV (pc := 34) (k := 155) (as' := [.int (zI M 155 2)]) (st := []) t28_34 mf34 rfl rfl (Or.inl ⟨by decide, (zk1 (hs.k fk_zMc_155))⟩) ⟨by decide, by decide, Nat.le_of_ble_eq_true rfl, Nat.le_of_ble_eq_true rfl⟩ (zs_in (by decide) mf34 (Nat.le_of_ble_eq_true rfl) ?_) (fun _ _ q => q)
        show zGo X l 0 0 0 34 0 [(0, .ref 155), (1, .int (zI M 155 2))] [] (zsI M 155 2 w19v) _
        refine zs_aload_n (pc := 0) t34_0 rfl ?_
        refine zs_iload_n (pc := 1) t34_1 rfl ?_
        have w141 : zIv cLo cHi (zsI (zsI M 155 2 w19v) 155 3 (zI M 155 2)) := zIv.put w20 (show (-2147483648) ≤ (zI M 155 2).toInt ∧ (zI M 155 2).toInt ≤ 2147483647 from zrg (zI M 155 2))
        refine zs_putI (pc := 2) t34_2 (zk1 (hs.k fk_zMc_155)) rfl ?_
        refine zs_iconst (pc := 5) t34_5 (v := 0) (by decide) ?_
        refine zs_iret (pc := 6) t34_6 mr34 (by decide) ?_
        show zGo X l 5 0 0 28 37 [(5, .int (3 : Int32)), (4, .int (zpt M)), (3, .int (zI M 155 2)), (0, .ref 157), (1, .ref 155), (2, .ref 19)] [.int (0 : Int32)] (zsI (zsI M 155 2 w19v) 155 3 (zI M 155 2)) _
        have w142 : (zI (zsI (zsI M 155 2 w19v) 155 3 (zI M 155 2)) 155 2).toInt = ((zI M 155 2).toInt + 1) := (congrArg Int32.toInt ((zIoj (by decide)).trans zIs)).trans w19
        exact zs_iret (pc := 37) t28_37 mr28 (by decide) (hQ _ _ hs w141 (((zFr.refl).put rfl).put rfl) (fun p hp => by obtain rfl : w11n = p := (by omega); exact Or.inl ⟨by decide, by first | exact pIt.h0 (by omega) (by omega) | exact pIt.no (by omega)⟩) (by decide) (by decide))
    by_cases w143 : (g w11n) = 105
    · refine zs_tswI (pc := 1) t32_1 ((w12 : (zpt M).toInt = (g w11n)).trans w143) (by decide) rfl (pc2 := 92) rfl ?_
      refine zs_iconst (pc := 92) t32_92 (v := 0) (by decide) ?_
      refine zs_iret (pc := 93) t32_93 mr32 (by decide) ?_
      show zGo X l 5 0 0 28 16 [(4, .int (zpt M)), (3, .int (zI M 155 2)), (0, .ref 157), (1, .ref 155), (2, .ref 19)] [.int (0 : Int32)] (zsI M 155 2 w19v) _
      refine zs_istore (pc := 16) t28_16 (ls' := [(5, .int (0 : Int32)), (4, .int (zpt M)), (3, .int (zI M 155 2)), (0, .ref 157), (1, .ref 155), (2, .ref 19)]) (zml mf28 (by decide)) rfl ?_
      refine zs_iload (pc := 18) t28_18 rfl ?_
      refine zs_if_eqT (pc := 20) t28_20 li0 (by decide) ?_
      refine zs_aload_n (pc := 32) t28_32 rfl ?_
      refine zs_iload_n (pc := 33) t28_33 rfl ?_
      refine zs_invV (pc := 34) (k := 155) (as' := [.int (zI M 155 2)]) (st := []) t28_34 mf34 rfl rfl (Or.inl ⟨by decide, (zk1 (hs.k fk_zMc_155))⟩) ⟨by decide, by decide, Nat.le_of_ble_eq_true rfl, Nat.le_of_ble_eq_true rfl⟩ (zs_in (by decide) mf34 (Nat.le_of_ble_eq_true rfl) ?_) (fun _ _ q => q)
      show zGo X l 0 0 0 34 0 [(0, .ref 155), (1, .int (zI M 155 2))] [] (zsI M 155 2 w19v) _
      refine zs_aload_n (pc := 0) t34_0 rfl ?_
      refine zs_iload_n (pc := 1) t34_1 rfl ?_
      have w144 : zIv cLo cHi (zsI (zsI M 155 2 w19v) 155 3 (zI M 155 2)) := zIv.put w20 (show (-2147483648) ≤ (zI M 155 2).toInt ∧ (zI M 155 2).toInt ≤ 2147483647 from zrg (zI M 155 2))
      refine zs_putI (pc := 2) t34_2 (zk1 (hs.k fk_zMc_155)) rfl ?_
      refine zs_iconst (pc := 5) t34_5 (v := 0) (by decide) ?_
      refine zs_iret (pc := 6) t34_6 mr34 (by decide) ?_
      show zGo X l 5 0 0 28 37 [(5, .int (0 : Int32)), (4, .int (zpt M)), (3, .int (zI M 155 2)), (0, .ref 157), (1, .ref 155), (2, .ref 19)] [.int (0 : Int32)] (zsI (zsI M 155 2 w19v) 155 3 (zI M 155 2)) _
      have w145 : (zI (zsI (zsI M 155 2 w19v) 155 3 (zI M 155 2)) 155 2).toInt = ((zI M 155 2).toInt + 1) := (congrArg Int32.toInt ((zIoj (by decide)).trans zIs)).trans w19
      exact zs_iret (pc := 37) t28_37 mr28 (by decide) (hQ _ _ hs w144 (((zFr.refl).put rfl).put rfl) (fun p hp => by obtain rfl : w11n = p := (by omega); exact Or.inl ⟨by decide, pIt.no (by omega)⟩) (by decide) (by decide))
    by_cases w146 : (g w11n) = 106
    · refine zs_tswI (pc := 1) t32_1 ((w12 : (zpt M).toInt = (g w11n)).trans w146) (by decide) rfl (pc2 := 92) rfl ?_
      refine zs_iconst (pc := 92) t32_92 (v := 0) (by decide) ?_
      refine zs_iret (pc := 93) t32_93 mr32 (by decide) ?_
      show zGo X l 5 0 0 28 16 [(4, .int (zpt M)), (3, .int (zI M 155 2)), (0, .ref 157), (1, .ref 155), (2, .ref 19)] [.int (0 : Int32)] (zsI M 155 2 w19v) _
      refine zs_istore (pc := 16) t28_16 (ls' := [(5, .int (0 : Int32)), (4, .int (zpt M)), (3, .int (zI M 155 2)), (0, .ref 157), (1, .ref 155), (2, .ref 19)]) (zml mf28 (by decide)) rfl ?_
      refine zs_iload (pc := 18) t28_18 rfl ?_
      refine zs_if_eqT (pc := 20) t28_20 li0 (by decide) ?_
      refine zs_aload_n (pc := 32) t28_32 rfl ?_
      refine zs_iload_n (pc := 33) t28_33 rfl ?_
      refine zs_invV (pc := 34) (k := 155) (as' := [.int (zI M 155 2)]) (st := []) t28_34 mf34 rfl rfl (Or.inl ⟨by decide, (zk1 (hs.k fk_zMc_155))⟩) ⟨by decide, by decide, Nat.le_of_ble_eq_true rfl, Nat.le_of_ble_eq_true rfl⟩ (zs_in (by decide) mf34 (Nat.le_of_ble_eq_true rfl) ?_) (fun _ _ q => q)
      show zGo X l 0 0 0 34 0 [(0, .ref 155), (1, .int (zI M 155 2))] [] (zsI M 155 2 w19v) _
      refine zs_aload_n (pc := 0) t34_0 rfl ?_
      refine zs_iload_n (pc := 1) t34_1 rfl ?_
      have w147 : zIv cLo cHi (zsI (zsI M 155 2 w19v) 155 3 (zI M 155 2)) := zIv.put w20 (show (-2147483648) ≤ (zI M 155 2).toInt ∧ (zI M 155 2).toInt ≤ 2147483647 from zrg (zI M 155 2))
      refine zs_putI (pc := 2) t34_2 (zk1 (hs.k fk_zMc_155)) rfl ?_
      refine zs_iconst (pc := 5) t34_5 (v := 0) (by decide) ?_
      refine zs_iret (pc := 6) t34_6 mr34 (by decide) ?_
      show zGo X l 5 0 0 28 37 [(5, .int (0 : Int32)), (4, .int (zpt M)), (3, .int (zI M 155 2)), (0, .ref 157), (1, .ref 155), (2, .ref 19)] [.int (0 : Int32)] (zsI (zsI M 155 2 w19v) 155 3 (zI M 155 2)) _
      have w148 : (zI (zsI (zsI M 155 2 w19v) 155 3 (zI M 155 2)) 155 2).toInt = ((zI M 155 2).toInt + 1) := (congrArg Int32.toInt ((zIoj (by decide)).trans zIs)).trans w19
      exact zs_iret (pc := 37) t28_37 mr28 (by decide) (hQ _ _ hs w147 (((zFr.refl).put rfl).put rfl) (fun p hp => by obtain rfl : w11n = p := (by omega); exact Or.inl ⟨by decide, pIt.no (by omega)⟩) (by decide) (by decide))
    by_cases w149 : (g w11n) = 107
    · refine zs_tswI (pc := 1) t32_1 ((w12 : (zpt M).toInt = (g w11n)).trans w149) (by decide) rfl (pc2 := 92) rfl ?_
      refine zs_iconst (pc := 92) t32_92 (v := 0) (by decide) ?_
      refine zs_iret (pc := 93) t32_93 mr32 (by decide) ?_
      show zGo X l 5 0 0 28 16 [(4, .int (zpt M)), (3, .int (zI M 155 2)), (0, .ref 157), (1, .ref 155), (2, .ref 19)] [.int (0 : Int32)] (zsI M 155 2 w19v) _
      refine zs_istore (pc := 16) t28_16 (ls' := [(5, .int (0 : Int32)), (4, .int (zpt M)), (3, .int (zI M 155 2)), (0, .ref 157), (1, .ref 155), (2, .ref 19)]) (zml mf28 (by decide)) rfl ?_
      refine zs_iload (pc := 18) t28_18 rfl ?_
      refine zs_if_eqT (pc := 20) t28_20 li0 (by decide) ?_
      refine zs_aload_n (pc := 32) t28_32 rfl ?_
      refine zs_iload_n (pc := 33) t28_33 rfl ?_
      refine zs_invV (pc := 34) (k := 155) (as' := [.int (zI M 155 2)]) (st := []) t28_34 mf34 rfl rfl (Or.inl ⟨by decide, (zk1 (hs.k fk_zMc_155))⟩) ⟨by decide, by decide, Nat.le_of_ble_eq_true rfl, Nat.le_of_ble_eq_true rfl⟩ (zs_in (by decide) mf34 (Nat.le_of_ble_eq_true rfl) ?_) (fun _ _ q => q)
      show zGo X l 0 0 0 34 0 [(0, .ref 155), (1, .int (zI M 155 2))] [] (zsI M 155 2 w19v) _
      refine zs_aload_n (pc := 0) t34_0 rfl ?_
      refine zs_iload_n (pc := 1) t34_1 rfl ?_
      have w150 : zIv cLo cHi (zsI (zsI M 155 2 w19v) 155 3 (zI M 155 2)) := zIv.put w20 (show (-2147483648) ≤ (zI M 155 2).toInt ∧ (zI M 155 2).toInt ≤ 2147483647 from zrg (zI M 155 2))
      refine zs_putI (pc := 2) t34_2 (zk1 (hs.k fk_zMc_155)) rfl ?_
      refine zs_iconst (pc := 5) t34_5 (v := 0) (by decide) ?_
      refine zs_iret (pc := 6) t34_6 mr34 (by decide) ?_
      show zGo X l 5 0 0 28 37 [(5, .int (0 : Int32)), (4, .int (zpt M)), (3, .int (zI M 155 2)), (0, .ref 157), (1, .ref 155), (2, .ref 19)] [.int (0 : Int32)] (zsI (zsI M 155 2 w19v) 155 3 (zI M 155 2)) _
      have w151 : (zI (zsI (zsI M 155 2 w19v) 155 3 (zI M 155 2)) 155 2).toInt = ((zI M 155 2).toInt + 1) := (congrArg Int32.toInt ((zIoj (by decide)).trans zIs)).trans w19
      exact zs_iret (pc := 37) t28_37 mr28 (by decide) (hQ _ _ hs w150 (((zFr.refl).put rfl).put rfl) (fun p hp => by obtain rfl : w11n = p := (by omega); exact Or.inl ⟨by decide, pIt.no (by omega)⟩) (by decide) (by decide))
    by_cases w152 : (g w11n) = 108
    · refine zs_tswI (pc := 1) t32_1 ((w12 : (zpt M).toInt = (g w11n)).trans w152) (by decide) rfl (pc2 := 92) rfl ?_
      refine zs_iconst (pc := 92) t32_92 (v := 0) (by decide) ?_
      refine zs_iret (pc := 93) t32_93 mr32 (by decide) ?_
      show zGo X l 5 0 0 28 16 [(4, .int (zpt M)), (3, .int (zI M 155 2)), (0, .ref 157), (1, .ref 155), (2, .ref 19)] [.int (0 : Int32)] (zsI M 155 2 w19v) _
      refine zs_istore (pc := 16) t28_16 (ls' := [(5, .int (0 : Int32)), (4, .int (zpt M)), (3, .int (zI M 155 2)), (0, .ref 157), (1, .ref 155), (2, .ref 19)]) (zml mf28 (by decide)) rfl ?_
      refine zs_iload (pc := 18) t28_18 rfl ?_
      refine zs_if_eqT (pc := 20) t28_20 li0 (by decide) ?_
      refine zs_aload_n (pc := 32) t28_32 rfl ?_
      refine zs_iload_n (pc := 33) t28_33 rfl ?_
      refine zs_invV (pc := 34) (k := 155) (as' := [.int (zI M 155 2)]) (st := []) t28_34 mf34 rfl rfl (Or.inl ⟨by decide, (zk1 (hs.k fk_zMc_155))⟩) ⟨by decide, by decide, Nat.le_of_ble_eq_true rfl, Nat.le_of_ble_eq_true rfl⟩ (zs_in (by decide) mf34 (Nat.le_of_ble_eq_true rfl) ?_) (fun _ _ q => q)
      show zGo X l 0 0 0 34 0 [(0, .ref 155), (1, .int (zI M 155 2))] [] (zsI M 155 2 w19v) _
      refine zs_aload_n (pc := 0) t34_0 rfl ?_
      refine zs_iload_n (pc := 1) t34_1 rfl ?_
      have w153 : zIv cLo cHi (zsI (zsI M 155 2 w19v) 155 3 (zI M 155 2)) := zIv.put w20 (show (-2147483648) ≤ (zI M 155 2).toInt ∧ (zI M 155 2).toInt ≤ 2147483647 from zrg (zI M 155 2))
      refine zs_putI (pc := 2) t34_2 (zk1 (hs.k fk_zMc_155)) rfl ?_
      refine zs_iconst (pc := 5) t34_5 (v := 0) (by decide) ?_
      refine zs_iret (pc := 6) t34_6 mr34 (by decide) ?_
      show zGo X l 5 0 0 28 37 [(5, .int (0 : Int32)), (4, .int (zpt M)), (3, .int (zI M 155 2)), (0, .ref 157), (1, .ref 155), (2, .ref 19)] [.int (0 : Int32)] (zsI (zsI M 155 2 w19v) 155 3 (zI M 155 2)) _
      have w154 : (zI (zsI (zsI M 155 2 w19v) 155 3 (zI M 155 2)) 155 2).toInt = ((zI M 155 2).toInt + 1) := (congrArg Int32.toInt ((zIoj (by decide)).trans zIs)).trans w19
      exact zs_iret (pc := 37) t28_37 mr28 (by decide) (hQ _ _ hs w153 (((zFr.refl).put rfl).put rfl) (fun p hp => by obtain rfl : w11n = p := (by omega); exact Or.inl ⟨by decide, pIt.no (by omega)⟩) (by decide) (by decide))
    by_cases w155 : (g w11n) = 109
    · refine zs_tswI (pc := 1) t32_1 ((w12 : (zpt M).toInt = (g w11n)).trans w155) (by decide) rfl (pc2 := 92) rfl ?_
      refine zs_iconst (pc := 92) t32_92 (v := 0) (by decide) ?_
      refine zs_iret (pc := 93) t32_93 mr32 (by decide) ?_
      show zGo X l 5 0 0 28 16 [(4, .int (zpt M)), (3, .int (zI M 155 2)), (0, .ref 157), (1, .ref 155), (2, .ref 19)] [.int (0 : Int32)] (zsI M 155 2 w19v) _
      refine zs_istore (pc := 16) t28_16 (ls' := [(5, .int (0 : Int32)), (4, .int (zpt M)), (3, .int (zI M 155 2)), (0, .ref 157), (1, .ref 155), (2, .ref 19)]) (zml mf28 (by decide)) rfl ?_
      refine zs_iload (pc := 18) t28_18 rfl ?_
      refine zs_if_eqT (pc := 20) t28_20 li0 (by decide) ?_
      refine zs_aload_n (pc := 32) t28_32 rfl ?_
      refine zs_iload_n (pc := 33) t28_33 rfl ?_
      refine zs_invV (pc := 34) (k := 155) (as' := [.int (zI M 155 2)]) (st := []) t28_34 mf34 rfl rfl (Or.inl ⟨by decide, (zk1 (hs.k fk_zMc_155))⟩) ⟨by decide, by decide, Nat.le_of_ble_eq_true rfl, Nat.le_of_ble_eq_true rfl⟩ (zs_in (by decide) mf34 (Nat.le_of_ble_eq_true rfl) ?_) (fun _ _ q => q)
      show zGo X l 0 0 0 34 0 [(0, .ref 155), (1, .int (zI M 155 2))] [] (zsI M 155 2 w19v) _
      refine zs_aload_n (pc := 0) t34_0 rfl ?_
      refine zs_iload_n (pc := 1) t34_1 rfl ?_
      have w156 : zIv cLo cHi (zsI (zsI M 155 2 w19v) 155 3 (zI M 155 2)) := zIv.put w20 (show (-2147483648) ≤ (zI M 155 2).toInt ∧ (zI M 155 2).toInt ≤ 2147483647 from zrg (zI M 155 2))
      refine zs_putI (pc := 2) t34_2 (zk1 (hs.k fk_zMc_155)) rfl ?_
      refine zs_iconst (pc := 5) t34_5 (v := 0) (by decide) ?_
      refine zs_iret (pc := 6) t34_6 mr34 (by decide) ?_
      show zGo X l 5 0 0 28 37 [(5, .int (0 : Int32)), (4, .int (zpt M)), (3, .int (zI M 155 2)), (0, .ref 157), (1, .ref 155), (2, .ref 19)] [.int (0 : Int32)] (zsI (zsI M 155 2 w19v) 155 3 (zI M 155 2)) _
      have w157 : (zI (zsI (zsI M 155 2 w19v) 155 3 (zI M 155 2)) 155 2).toInt = ((zI M 155 2).toInt + 1) := (congrArg Int32.toInt ((zIoj (by decide)).trans zIs)).trans w19
      exact zs_iret (pc := 37) t28_37 mr28 (by decide) (hQ _ _ hs w156 (((zFr.refl).put rfl).put rfl) (fun p hp => by obtain rfl : w11n = p := (by omega); exact Or.inl ⟨by decide, pIt.no (by omega)⟩) (by decide) (by decide))
    by_cases w158 : (g w11n) = 110
    · refine zs_tswI (pc := 1) t32_1 ((w12 : (zpt M).toInt = (g w11n)).trans w158) (by decide) rfl (pc2 := 92) rfl ?_
      refine zs_iconst (pc := 92) t32_92 (v := 0) (by decide) ?_
      refine zs_iret (pc := 93) t32_93 mr32 (by decide) ?_
      show zGo X l 5 0 0 28 16 [(4, .int (zpt M)), (3, .int (zI M 155 2)), (0, .ref 157), (1, .ref 155), (2, .ref 19)] [.int (0 : Int32)] (zsI M 155 2 w19v) _
      refine zs_istore (pc := 16) t28_16 (ls' := [(5, .int (0 : Int32)), (4, .int (zpt M)), (3, .int (zI M 155 2)), (0, .ref 157), (1, .ref 155), (2, .ref 19)]) (zml mf28 (by decide)) rfl ?_
      refine zs_iload (pc := 18) t28_18 rfl ?_
      refine zs_if_eqT (pc := 20) t28_20 li0 (by decide) ?_
      refine zs_aload_n (pc := 32) t28_32 rfl ?_
      refine zs_iload_n (pc := 33) t28_33 rfl ?_
      refine zs_invV (pc := 34) (k := 155) (as' := [.int (zI M 155 2)]) (st := []) t28_34 mf34 rfl rfl (Or.inl ⟨by decide, (zk1 (hs.k fk_zMc_155))⟩) ⟨by decide, by decide, Nat.le_of_ble_eq_true rfl, Nat.le_of_ble_eq_true rfl⟩ (zs_in (by decide) mf34 (Nat.le_of_ble_eq_true rfl) ?_) (fun _ _ q => q)
      show zGo X l 0 0 0 34 0 [(0, .ref 155), (1, .int (zI M 155 2))] [] (zsI M 155 2 w19v) _
      refine zs_aload_n (pc := 0) t34_0 rfl ?_
      refine zs_iload_n (pc := 1) t34_1 rfl ?_
      have w159 : zIv cLo cHi (zsI (zsI M 155 2 w19v) 155 3 (zI M 155 2)) := zIv.put w20 (show (-2147483648) ≤ (zI M 155 2).toInt ∧ (zI M 155 2).toInt ≤ 2147483647 from zrg (zI M 155 2))
      refine zs_putI (pc := 2) t34_2 (zk1 (hs.k fk_zMc_155)) rfl ?_
      refine zs_iconst (pc := 5) t34_5 (v := 0) (by decide) ?_
      refine zs_iret (pc := 6) t34_6 mr34 (by decide) ?_
      show zGo X l 5 0 0 28 37 [(5, .int (0 : Int32)), (4, .int (zpt M)), (3, .int (zI M 155 2)), (0, .ref 157), (1, .ref 155), (2, .ref 19)] [.int (0 : Int32)] (zsI (zsI M 155 2 w19v) 155 3 (zI M 155 2)) _
      have w160 : (zI (zsI (zsI M 155 2 w19v) 155 3 (zI M 155 2)) 155 2).toInt = ((zI M 155 2).toInt + 1) := (congrArg Int32.toInt ((zIoj (by decide)).trans zIs)).trans w19
      exact zs_iret (pc := 37) t28_37 mr28 (by decide) (hQ _ _ hs w159 (((zFr.refl).put rfl).put rfl) (fun p hp => by obtain rfl : w11n = p := (by omega); exact Or.inl ⟨by decide, pIt.no (by omega)⟩) (by decide) (by decide))
    by_cases w161 : (g w11n) = 111
    · refine zs_tswI (pc := 1) t32_1 ((w12 : (zpt M).toInt = (g w11n)).trans w161) (by decide) rfl (pc2 := 92) rfl ?_
      refine zs_iconst (pc := 92) t32_92 (v := 0) (by decide) ?_
      refine zs_iret (pc := 93) t32_93 mr32 (by decide) ?_
      show zGo X l 5 0 0 28 16 [(4, .int (zpt M)), (3, .int (zI M 155 2)), (0, .ref 157), (1, .ref 155), (2, .ref 19)] [.int (0 : Int32)] (zsI M 155 2 w19v) _
      refine zs_istore (pc := 16) t28_16 (ls' := [(5, .int (0 : Int32)), (4, .int (zpt M)), (3, .int (zI M 155 2)), (0, .ref 157), (1, .ref 155), (2, .ref 19)]) (zml mf28 (by decide)) rfl ?_
      refine zs_iload (pc := 18) t28_18 rfl ?_
      refine zs_if_eqT (pc := 20) t28_20 li0 (by decide) ?_
      refine zs_aload_n (pc := 32) t28_32 rfl ?_
      refine zs_iload_n (pc := 33) t28_33 rfl ?_
      refine zs_invV (pc := 34) (k := 155) (as' := [.int (zI M 155 2)]) (st := []) t28_34 mf34 rfl rfl (Or.inl ⟨by decide, (zk1 (hs.k fk_zMc_155))⟩) ⟨by decide, by decide, Nat.le_of_ble_eq_true rfl, Nat.le_of_ble_eq_true rfl⟩ (zs_in (by decide) mf34 (Nat.le_of_ble_eq_true rfl) ?_) (fun _ _ q => q)
      show zGo X l 0 0 0 34 0 [(0, .ref 155), (1, .int (zI M 155 2))] [] (zsI M 155 2 w19v) _
      refine zs_aload_n (pc := 0) t34_0 rfl ?_
      refine zs_iload_n (pc := 1) t34_1 rfl ?_
      have w162 : zIv cLo cHi (zsI (zsI M 155 2 w19v) 155 3 (zI M 155 2)) := zIv.put w20 (show (-2147483648) ≤ (zI M 155 2).toInt ∧ (zI M 155 2).toInt ≤ 2147483647 from zrg (zI M 155 2))
      refine zs_putI (pc := 2) t34_2 (zk1 (hs.k fk_zMc_155)) rfl ?_
      refine zs_iconst (pc := 5) t34_5 (v := 0) (by decide) ?_
      refine zs_iret (pc := 6) t34_6 mr34 (by decide) ?_
      show zGo X l 5 0 0 28 37 [(5, .int (0 : Int32)), (4, .int (zpt M)), (3, .int (zI M 155 2)), (0, .ref 157), (1, .ref 155), (2, .ref 19)] [.int (0 : Int32)] (zsI (zsI M 155 2 w19v) 155 3 (zI M 155 2)) _
      have w163 : (zI (zsI (zsI M 155 2 w19v) 155 3 (zI M 155 2)) 155 2).toInt = ((zI M 155 2).toInt + 1) := (congrArg Int32.toInt ((zIoj (by decide)).trans zIs)).trans w19
      exact zs_iret (pc := 37) t28_37 mr28 (by decide) (hQ _ _ hs w162 (((zFr.refl).put rfl).put rfl) (fun p hp => by obtain rfl : w11n = p := (by omega); exact Or.inl ⟨by decide, pIt.no (by omega)⟩) (by decide) (by decide))
    by_cases w164 : (g w11n) = 112
    · refine zs_tswI (pc := 1) t32_1 ((w12 : (zpt M).toInt = (g w11n)).trans w164) (by decide) rfl (pc2 := 88) rfl ?_
      refine zs_iconst (pc := 88) t32_88 (v := 3) (by decide) ?_
      refine zs_iret (pc := 89) t32_89 mr32 (by decide) ?_
      show zGo X l 5 0 0 28 16 [(4, .int (zpt M)), (3, .int (zI M 155 2)), (0, .ref 157), (1, .ref 155), (2, .ref 19)] [.int (3 : Int32)] (zsI M 155 2 w19v) _
      refine zs_istore (pc := 16) t28_16 (ls' := [(5, .int (3 : Int32)), (4, .int (zpt M)), (3, .int (zI M 155 2)), (0, .ref 157), (1, .ref 155), (2, .ref 19)]) (zml mf28 (by decide)) rfl ?_
      refine zs_iload (pc := 18) t28_18 rfl ?_
      refine zs_if_eqF (pc := 20) t28_20 li3 (by decide) ?_
      refine zs_iload (pc := 23) t28_23 rfl ?_
      refine zs_aload_n (pc := 25) t28_25 rfl ?_
      refine zs_invS (pc := 26) (as := [.int (zpt M), .ref 19]) (st := []) t28_26 (by decide) mf33 rfl rfl ⟨by decide, by decide, Nat.le_of_ble_eq_true rfl, Nat.le_of_ble_eq_true rfl⟩ (zs_in (by decide) mf33 (Nat.le_of_ble_eq_true rfl) ?_) (fun _ _ q => q)
      show zGo X l 0 0 0 33 0 [(0, .int (zpt M)), (1, .ref 19)] [] (zsI M 155 2 w19v) _
      refine zs_iload_n (pc := 0) t33_0 rfl ?_
      refine zs_lsw (pc := 1) t33_1 (off := 65) ((w12 : (zpt M).toInt = (g w11n)).trans (by omega)) rfl (pc2 := 66) rfl ?_
      refine zs_aload_n (pc := 66) t33_66 rfl ?_
      refine zs_get (pc := 67) t33_67 (by decide) (zk1 (hs.k fk_zMc_19)) (zfvi rfl ((zIo (by decide)).trans rfl)) ?_
      refine zs_bipush (pc := 70) t33_70 (v := 12) (by decide) ?_
      by_cases w165 : (zI M 19 8).toInt < 12
      · refine zs_icmp_ltT (pc := 72) t33_72 rfl li12 (by omega) ?_
        refine zs_iconst (pc := 79) t33_79 (v := 0) (by decide) ?_
        refine zs_iret (pc := 80) t33_80 mr33 (by decide) ?_
        show zGo X l 5 0 0 28 29 [(5, .int (3 : Int32)), (4, .int (zpt M)), (3, .int (zI M 155 2)), (0, .ref 157), (1, .ref 155), (2, .ref 19)] [.int (0 : Int32)] (zsI M 155 2 w19v) _
        refine zs_if_eqT (pc := 29) t28_29 li0 (by decide) ?_
        refine zs_iconst (pc := 38) t28_38 (v := 0) (by decide) ?_
        refine zs_istore (pc := 39) t28_39 (ls' := [(6, .int (0 : Int32)), (5, .int (3 : Int32)), (4, .int (zpt M)), (3, .int (zI M 155 2)), (0, .ref 157), (1, .ref 155), (2, .ref 19)]) (zml mf28 (by decide)) rfl ?_
        refine zs_iload (pc := 41) t28_41 rfl ?_
        refine zs_iload (pc := 43) t28_43 rfl ?_
        refine zs_icmp_geF (pc := 45) t28_45 li0 li3 (by decide) ?_
        refine zs_aload_n (pc := 48) t28_48 rfl ?_
        have w166 : (zI (zsI M 155 2 w19v) 155 2).toInt = ((zI M 155 2).toInt + 1) := (congrArg Int32.toInt zIs).trans w19
        have w167 : (zI (zsI M 155 2 w19v) 155 2).toInt = ((zI M 155 2).toInt + 1) := (congrArg Int32.toInt zIs).trans w19
        have w168 : (zI (zsI M 155 2 w19v) 155 1).toInt = (zI M 155 1).toInt := (congrArg Int32.toInt ((zIoj (by decide)).trans rfl)).trans rfl
        refine zs_invV (pc := 49) (k := 155) (as' := []) (st := []) t28_49 mf35 rfl rfl (Or.inl ⟨by decide, (zk1 (hs.k fk_zMc_155))⟩) ⟨by decide, by decide, Nat.le_of_ble_eq_true rfl, Nat.le_of_ble_eq_true rfl⟩ (X35_155 hs w20 (by omega) (by omega) (zTa.fr x1 (zEq.put rfl)) ?_) (fun _ _ q => q)
        intro w169M w169v w169s w169I w169F w169x0 w169a w169b
        show zGo X l 5 0 0 28 52 [(6, .int (0 : Int32)), (5, .int (3 : Int32)), (4, .int (zpt M)), (3, .int (zI M 155 2)), (0, .ref 157), (1, .ref 155), (2, .ref 19)] [.int w169v] w169M _
        rcases w169x0 (w11n + 1) (by omega) with ⟨w170v, w170e⟩ | ⟨w170v, w170E, w170x, w170e, w170_3, w170_4, w170_5, w170_6, w170_7, w170_8⟩
        · skip
          refine zs_if_neF (pc := 52) t28_52 rfl (by omega) ?_
          refine zs_iconst (pc := 55) t28_55 (v := 0) (by decide) ?_
          have w171 := zrg (zI w169M 155 2)
          have w172 : (zI w169M 155 2).toInt = (zI w169M 155 2).toInt := (congrArg Int32.toInt rfl).trans rfl
          exact zs_iret (pc := 56) t28_56 mr28 (by decide) (hQ _ _ w169s w169I (((zFr.refl).put rfl).trans (w169F.mono rfl)) (fun p hp => by obtain rfl : w11n = p := (by omega); exact Or.inl ⟨by decide, (pIt.p (by omega) (by omega)).trans (pB.f (pRd.f w170e))⟩) (by decide) (by decide))
        · skip
          subst w170_4
          refine zs_if_neT (pc := 52) t28_52 rfl (by omega) ?_
          refine zs_aload_n (pc := 57) t28_57 rfl ?_
          refine zs_iload (pc := 58) t28_58 rfl ?_
          refine zs_iload (pc := 60) t28_60 rfl ?_
          refine zs_aload_n (pc := 62) t28_62 rfl ?_
          refine zs_invV (pc := 63) (k := 155) (as' := []) (st := [.int (0 : Int32), .int (zpt M), .ref 157]) t28_63 mf37 rfl rfl (Or.inl ⟨by decide, (zk1 (w169s.k fk_zMc_155))⟩) ⟨by decide, by decide, Nat.le_of_ble_eq_true rfl, Nat.le_of_ble_eq_true rfl⟩ (zs_in (by decide) mf37 (Nat.le_of_ble_eq_true rfl) ?_) (fun _ _ q => q)
          show zGo X l 0 0 0 37 0 [(0, .ref 155)] [] w169M _
          refine zs_aload_n (pc := 0) t37_0 rfl ?_
          have w173 := ib155_4 w169I
          refine zs_get (pc := 1) t37_1 (by decide) (zk1 (w169s.k fk_zMc_155)) (zfvi rfl rfl) ?_
          refine zs_iret (pc := 4) t37_4 mr37 rfl ?_
          show zGo X l 5 0 0 28 66 [(6, .int (0 : Int32)), (5, .int (3 : Int32)), (4, .int (zpt M)), (3, .int (zI M 155 2)), (0, .ref 157), (1, .ref 155), (2, .ref 19)] [.int (zI w169M 155 4), .int (0 : Int32), .int (zpt M), .ref 157] w169M _
          refine zs_aload_n (pc := 66) t28_66 rfl ?_
          refine zs_invV (pc := 67) (k := 157) (as' := [.int (zpt M), .int (0 : Int32), .int (zI w169M 155 4), .ref 19]) (st := []) t28_67 mf38 rfl rfl (Or.inl ⟨by decide, (zk1 (w169s.k fk_zMc_157))⟩) ⟨by decide, by decide, Nat.le_of_ble_eq_true rfl, Nat.le_of_ble_eq_true rfl⟩ (zs_in (by decide) mf38 (Nat.le_of_ble_eq_true rfl) ?_) (fun _ _ q => q)
          show zGo X l 2 0 0 38 0 [(0, .ref 157), (1, .int (zpt M)), (2, .int (0 : Int32)), (3, .int (zI w169M 155 4)), (4, .ref 19)] [] w169M _
          refine zs_iload_n (pc := 0) t38_0 rfl ?_
          refine zs_lsw (pc := 1) t38_1 (off := 86) ((w12 : (zpt M).toInt = (g w11n)).trans (by omega)) rfl (pc2 := 87) rfl ?_
          refine zs_iload_n (pc := 87) t38_87 rfl ?_
          refine zs_iload_n (pc := 88) t38_88 rfl ?_
          refine zs_invS (pc := 89) (as := [.int (0 : Int32), .int (zI w169M 155 4)]) (st := []) t38_89 (by decide) mf43 rfl rfl ⟨by decide, by decide, Nat.le_of_ble_eq_true rfl, Nat.le_of_ble_eq_true rfl⟩ (zs_in (by decide) mf43 (Nat.le_of_ble_eq_true rfl) ?_) (fun _ _ q => q)
          show zGo X l 1 0 0 43 0 [(0, .int (0 : Int32)), (1, .int (zI w169M 155 4))] [] w169M _
          refine zs_iload_n (pc := 0) t43_0 rfl ?_
          refine zs_if_neF (pc := 1) t43_1 li0 (by decide) ?_
          refine zs_iload_n (pc := 4) t43_4 rfl ?_
          refine zs_invS (pc := 5) (as := [.int (zI w169M 155 4)]) (st := []) t43_5 (by decide) mf42 rfl rfl ⟨by decide, by decide, Nat.le_of_ble_eq_true rfl, Nat.le_of_ble_eq_true rfl⟩ (zs_in (by decide) mf42 (Nat.le_of_ble_eq_true rfl) ?_) (fun _ _ q => q)
          show zGo X l 0 0 0 42 0 [(0, .int (zI w169M 155 4))] [] w169M _
          refine zs_iload_n (pc := 0) t42_0 rfl ?_
          refine zs_sipush (pc := 1) t42_1 (v := -9999) (by decide) ?_
          refine zs_icmp_ltF (pc := 4) t42_4 rfl lin9999 (by omega) ?_
          refine zs_iload_n (pc := 7) t42_7 rfl ?_
          refine zs_sipush (pc := 8) t42_8 (v := 9999) (by decide) ?_
          refine zs_icmp_gtF (pc := 11) t42_11 rfl li9999 (by omega) ?_
          refine zs_iconst (pc := 14) t42_14 (v := 1) (by decide) ?_
          refine zs_goto (pc := 15) t42_15 ?_
          refine zs_iret (pc := 19) t42_19 mr42 (by decide) ?_
          show zGo X l 1 0 0 43 8 [(0, .int (0 : Int32)), (1, .int (zI w169M 155 4))] [.int (1 : Int32)] w169M _
          refine zs_iret (pc := 8) t43_8 mr43 (by decide) ?_
          show zGo X l 2 0 0 38 92 [(0, .ref 157), (1, .int (zpt M)), (2, .int (0 : Int32)), (3, .int (zI w169M 155 4)), (4, .ref 19)] [.int (1 : Int32)] w169M _
          refine zs_iret (pc := 92) t38_92 mr38 (by decide) ?_
          show zGo X l 5 0 0 28 70 [(6, .int (0 : Int32)), (5, .int (3 : Int32)), (4, .int (zpt M)), (3, .int (zI M 155 2)), (0, .ref 157), (1, .ref 155), (2, .ref 19)] [.int (1 : Int32)] w169M _
          refine zs_if_neT (pc := 70) t28_70 li1 (by decide) ?_
          refine zs_aload_n (pc := 82) t28_82 rfl ?_
          refine zs_get (pc := 83) t28_83 (by decide) (zk1 (w169s.k fk_zMc_157)) (w169s.p rfl fv_zMc_157_0) ?_
          refine zs_iload (pc := 86) t28_86 rfl ?_
          refine zs_aload_n (pc := 88) t28_88 rfl ?_
          refine zs_invV (pc := 89) (k := 155) (as' := []) (st := [.int (0 : Int32), .ref 158]) t28_89 mf37 rfl rfl (Or.inl ⟨by decide, (zk1 (w169s.k fk_zMc_155))⟩) ⟨by decide, by decide, Nat.le_of_ble_eq_true rfl, Nat.le_of_ble_eq_true rfl⟩ (zs_in (by decide) mf37 (Nat.le_of_ble_eq_true rfl) ?_) (fun _ _ q => q)
          show zGo X l 0 0 0 37 0 [(0, .ref 155)] [] w169M _
          refine zs_aload_n (pc := 0) t37_0 rfl ?_
          refine zs_get (pc := 1) t37_1 (by decide) (zk1 (w169s.k fk_zMc_155)) (zfvi rfl rfl) ?_
          refine zs_iret (pc := 4) t37_4 mr37 rfl ?_
          show zGo X l 5 0 0 28 92 [(6, .int (0 : Int32)), (5, .int (3 : Int32)), (4, .int (zpt M)), (3, .int (zI M 155 2)), (0, .ref 157), (1, .ref 155), (2, .ref 19)] [.int (zI w169M 155 4), .int (0 : Int32), .ref 158] w169M _
          have w174 : zIv cLo cHi (zsI w169M 158 0 (zI w169M 155 4)) := zIv.put w169I (show (-300000) ≤ (zI w169M 155 4).toInt ∧ (zI w169M 155 4).toInt ≤ 300000 from ⟨by omega, by omega⟩)
          refine zs_iast (pc := 92) t28_92 (j := 0) (by decide) (zk1 (w169s.k fk_zMc_158)) li0 (zk2 (w169s.k fk_zMc_158) (by decide)) ?_
          refine zs_aload_n (pc := 93) t28_93 rfl ?_
          refine zs_iload (pc := 94) t28_94 rfl ?_
          refine zs_iconst (pc := 96) t28_96 (v := 1) (by decide) ?_
          refine zs_iadd (pc := 97) t28_97 (c := 1) (by decide) ?_
          refine zs_iload (pc := 98) t28_98 rfl ?_
          refine zs_icmp_geF (pc := 100) t28_100 li1 li3 (by decide) ?_
          refine zs_bipush (pc := 103) t28_103 (v := 44) (by decide) ?_
          refine zs_goto (pc := 105) t28_105 ?_
          refine zs_invV (pc := 110) (k := 155) (as' := [.int (44 : Int32)]) (st := []) t28_110 mf47 rfl rfl (Or.inl ⟨by decide, (zk1 (w169s.k fk_zMc_155))⟩) ⟨by decide, by decide, Nat.le_of_ble_eq_true rfl, Nat.le_of_ble_eq_true rfl⟩ (zs_in (by decide) mf47 (Nat.le_of_ble_eq_true rfl) ?_) (fun _ _ q => q)
          show zGo X l 1 0 0 47 0 [(0, .ref 155), (1, .int (44 : Int32))] [] (zsI w169M 158 0 (zI w169M 155 4)) _
          refine zs_aload_n (pc := 0) t47_0 rfl ?_
          refine zs_invV (pc := 1) (k := 155) (as' := []) (st := []) t47_1 mf31 rfl rfl (Or.inl ⟨by decide, (zk1 (w169s.k fk_zMc_155))⟩) ⟨by decide, by decide, Nat.le_of_ble_eq_true rfl, Nat.le_of_ble_eq_true rfl⟩ (P31 w169s w174 ?_) (fun _ _ q => q)
          have w176 := zrg (zI w169M 155 2)
          have w177 : (zI (zsI w169M 158 0 (zI w169M 155 4)) 155 2).toInt = (zI w169M 155 2).toInt := (congrArg Int32.toInt ((zIo (by decide)).trans rfl)).trans rfl
          have w178 : (zI (zsI w169M 158 0 (zI w169M 155 4)) 155 1).toInt = (zI M 155 1).toInt := (congrArg Int32.toInt ((zIo (by decide)).trans ((w169F 155 1 rfl).trans ((zIoj (by decide)).trans rfl)))).trans rfl
          have w175 : (zpt (zsI w169M 158 0 (zI w169M 155 4))).toInt = g w170E := zpt.tr (zTa.fr x1 (zEq.tr (zEq.tr (zEq.put rfl) (zFr.eq w169F rfl)) (zEq.put rfl))) (by omega)
          have w179 := zTa.rg (M := (zsI w169M 158 0 (zI w169M 155 4))) (zTa.fr x1 (zEq.tr (zEq.tr (zEq.put rfl) (zFr.eq w169F rfl)) (zEq.put rfl))) w170E
          show zGo X l 1 0 0 47 4 [(0, .ref 155), (1, .int (44 : Int32))] [.int (zpt (zsI w169M 158 0 (zI w169M 155 4)))] (zsI w169M 158 0 (zI w169M 155 4)) _
          refine zs_iload_n (pc := 4) t47_4 rfl ?_
          by_cases w180 : (g w170E) = 44
          · refine zs_icmp_eqT (pc := 5) t47_5 w175 li44 (by omega) ?_
            refine zs_aload_n (pc := 17) t47_17 rfl ?_
            refine zs_dup (pc := 18) t47_18 rfl ?_
            refine zs_get (pc := 19) t47_19 (by decide) (zk1 (w169s.k fk_zMc_155)) (zfvi rfl ((zIo (by decide)).trans rfl)) ?_
            refine zs_iconst (pc := 22) t47_22 (v := 1) (by decide) ?_
            obtain ⟨w181v, w181e, w181⟩ := ziadd (a := (zI w169M 155 2)) (b := (1 : Int32)) rfl li1 (by omega) (by omega)
            refine zs_iadd (pc := 23) t47_23 (c := w181v) w181e ?_
            have w182 : zIv cLo cHi (zsI (zsI w169M 158 0 (zI w169M 155 4)) 155 2 w181v) := zIv.put w174 (show (-2147483648) ≤ w181v.toInt ∧ w181v.toInt ≤ 2147483647 from zrg w181v)
            refine zs_putI (pc := 24) t47_24 (zk1 (w169s.k fk_zMc_155)) rfl ?_
            refine zs_iconst (pc := 27) t47_27 (v := 1) (by decide) ?_
            refine zs_iret (pc := 28) t47_28 mr47 (by decide) ?_
            show zGo X l 5 0 0 28 113 [(6, .int (0 : Int32)), (5, .int (3 : Int32)), (4, .int (zpt M)), (3, .int (zI M 155 2)), (0, .ref 157), (1, .ref 155), (2, .ref 19)] [.int (1 : Int32)] (zsI (zsI w169M 158 0 (zI w169M 155 4)) 155 2 w181v) _
            refine zs_if_neT (pc := 113) t28_113 li1 (by decide) ?_
            refine zs_iinc (pc := 118) t28_118 (ls' := [(6, .int (1 : Int32)), (5, .int (3 : Int32)), (4, .int (zpt M)), (3, .int (zI M 155 2)), (0, .ref 157), (1, .ref 155), (2, .ref 19)]) (zml mf28 (by decide)) rfl (c := 1) (by decide) rfl ?_
            refine zs_goto (pc := 121) t28_121 ?_
            refine zs_iload (pc := 41) t28_41 rfl ?_
            refine zs_iload (pc := 43) t28_43 rfl ?_
            refine zs_icmp_geF (pc := 45) t28_45 li1 li3 (by decide) ?_
            refine zs_aload_n (pc := 48) t28_48 rfl ?_
            have w183 : (zI (zsI (zsI w169M 158 0 (zI w169M 155 4)) 155 2 w181v) 155 2).toInt = ((zI w169M 155 2).toInt + 1) := (congrArg Int32.toInt zIs).trans w181
            have w184 : (zI (zsI (zsI w169M 158 0 (zI w169M 155 4)) 155 2 w181v) 155 2).toInt = ((zI w169M 155 2).toInt + 1) := (congrArg Int32.toInt zIs).trans w181
            have w185 : (zI (zsI (zsI w169M 158 0 (zI w169M 155 4)) 155 2 w181v) 155 1).toInt = (zI M 155 1).toInt := (congrArg Int32.toInt ((zIoj (by decide)).trans ((zIo (by decide)).trans ((w169F 155 1 rfl).trans ((zIoj (by decide)).trans rfl))))).trans rfl
            refine zs_invV (pc := 49) (k := 155) (as' := []) (st := []) t28_49 mf35 rfl rfl (Or.inl ⟨by decide, (zk1 (w169s.k fk_zMc_155))⟩) ⟨by decide, by decide, Nat.le_of_ble_eq_true rfl, Nat.le_of_ble_eq_true rfl⟩ (X35_155 w169s w182 (by omega) (by omega) (zTa.fr x1 (zEq.tr (zEq.tr (zEq.tr (zEq.put rfl) (zFr.eq w169F rfl)) (zEq.put rfl)) (zEq.put rfl))) ?_) (fun _ _ q => q)
            intro w186M w186v w186s w186I w186F w186x0 w186a w186b
            show zGo X l 5 0 0 28 52 [(6, .int (1 : Int32)), (5, .int (3 : Int32)), (4, .int (zpt M)), (3, .int (zI M 155 2)), (0, .ref 157), (1, .ref 155), (2, .ref 19)] [.int w186v] w186M _
            rcases w186x0 (w170E + 1) (by omega) with ⟨w187v, w187e⟩ | ⟨w187v, w187E, w187x, w187e, w187_3, w187_4, w187_5, w187_6, w187_7, w187_8⟩
            · skip
              refine zs_if_neF (pc := 52) t28_52 rfl (by omega) ?_
              refine zs_iconst (pc := 55) t28_55 (v := 0) (by decide) ?_
              have w188 := zrg (zI w186M 155 2)
              have w189 : (zI w186M 155 2).toInt = (zI w186M 155 2).toInt := (congrArg Int32.toInt rfl).trans rfl
              exact zs_iret (pc := 56) t28_56 mr28 (by decide) (hQ _ _ w186s w186I ((((((zFr.refl).put rfl).trans (w169F.mono rfl)).put rfl).put rfl).trans (w186F.mono rfl)) (fun p hp => by obtain rfl : w11n = p := (by omega); exact Or.inl ⟨by decide, ((pIt.p (by omega) (by omega)).trans (pB.y (pRd.y w170e (by omega) (by omega) (by omega)))).trans (pB.f (pRd.f w187e))⟩) (by decide) (by decide))
            · skip
              subst w187_4
              refine zs_if_neT (pc := 52) t28_52 rfl (by omega) ?_
              refine zs_aload_n (pc := 57) t28_57 rfl ?_
              refine zs_iload (pc := 58) t28_58 rfl ?_
              refine zs_iload (pc := 60) t28_60 rfl ?_
              refine zs_aload_n (pc := 62) t28_62 rfl ?_
              refine zs_invV (pc := 63) (k := 155) (as' := []) (st := [.int (1 : Int32), .int (zpt M), .ref 157]) t28_63 mf37 rfl rfl (Or.inl ⟨by decide, (zk1 (w186s.k fk_zMc_155))⟩) ⟨by decide, by decide, Nat.le_of_ble_eq_true rfl, Nat.le_of_ble_eq_true rfl⟩ (zs_in (by decide) mf37 (Nat.le_of_ble_eq_true rfl) ?_) (fun _ _ q => q)
              show zGo X l 0 0 0 37 0 [(0, .ref 155)] [] w186M _
              refine zs_aload_n (pc := 0) t37_0 rfl ?_
              have w190 := ib155_4 w186I
              refine zs_get (pc := 1) t37_1 (by decide) (zk1 (w186s.k fk_zMc_155)) (zfvi rfl rfl) ?_
              refine zs_iret (pc := 4) t37_4 mr37 rfl ?_
              show zGo X l 5 0 0 28 66 [(6, .int (1 : Int32)), (5, .int (3 : Int32)), (4, .int (zpt M)), (3, .int (zI M 155 2)), (0, .ref 157), (1, .ref 155), (2, .ref 19)] [.int (zI w186M 155 4), .int (1 : Int32), .int (zpt M), .ref 157] w186M _
              refine zs_aload_n (pc := 66) t28_66 rfl ?_
              refine zs_invV (pc := 67) (k := 157) (as' := [.int (zpt M), .int (1 : Int32), .int (zI w186M 155 4), .ref 19]) (st := []) t28_67 mf38 rfl rfl (Or.inl ⟨by decide, (zk1 (w186s.k fk_zMc_157))⟩) ⟨by decide, by decide, Nat.le_of_ble_eq_true rfl, Nat.le_of_ble_eq_true rfl⟩ (zs_in (by decide) mf38 (Nat.le_of_ble_eq_true rfl) ?_) (fun _ _ q => q)
              show zGo X l 2 0 0 38 0 [(0, .ref 157), (1, .int (zpt M)), (2, .int (1 : Int32)), (3, .int (zI w186M 155 4)), (4, .ref 19)] [] w186M _
              refine zs_iload_n (pc := 0) t38_0 rfl ?_
              refine zs_lsw (pc := 1) t38_1 (off := 86) ((w12 : (zpt M).toInt = (g w11n)).trans (by omega)) rfl (pc2 := 87) rfl ?_
              refine zs_iload_n (pc := 87) t38_87 rfl ?_
              refine zs_iload_n (pc := 88) t38_88 rfl ?_
              refine zs_invS (pc := 89) (as := [.int (1 : Int32), .int (zI w186M 155 4)]) (st := []) t38_89 (by decide) mf43 rfl rfl ⟨by decide, by decide, Nat.le_of_ble_eq_true rfl, Nat.le_of_ble_eq_true rfl⟩ (zs_in (by decide) mf43 (Nat.le_of_ble_eq_true rfl) ?_) (fun _ _ q => q)
              show zGo X l 1 0 0 43 0 [(0, .int (1 : Int32)), (1, .int (zI w186M 155 4))] [] w186M _
              refine zs_iload_n (pc := 0) t43_0 rfl ?_
              refine zs_if_neT (pc := 1) t43_1 li1 (by decide) ?_
              refine zs_iload_n (pc := 9) t43_9 rfl ?_
              refine zs_iconst (pc := 10) t43_10 (v := 1) (by decide) ?_
              refine zs_icmp_neF (pc := 11) t43_11 li1 li1 (by decide) ?_
              refine zs_iload_n (pc := 14) t43_14 rfl ?_
              refine zs_bipush (pc := 15) t43_15 (v := -50) (by decide) ?_
              refine zs_bipush (pc := 17) t43_17 (v := 50) (by decide) ?_
              refine zs_invS (pc := 19) (as := [.int (zI w186M 155 4), .int (-50 : Int32), .int (50 : Int32)]) (st := []) t43_19 (by decide) mf39 rfl rfl ⟨by decide, by decide, Nat.le_of_ble_eq_true rfl, Nat.le_of_ble_eq_true rfl⟩ (zs_in (by decide) mf39 (Nat.le_of_ble_eq_true rfl) ?_) (fun _ _ q => q)
              show zGo X l 0 0 0 39 0 [(0, .int (zI w186M 155 4)), (1, .int (-50 : Int32)), (2, .int (50 : Int32))] [] w186M _
              refine zs_iload_n (pc := 0) t39_0 rfl ?_
              refine zs_iload_n (pc := 1) t39_1 rfl ?_
              by_cases w191 : (zI w186M 155 4).toInt < (-50)
              · refine zs_icmp_ltT (pc := 2) t39_2 rfl lin50 (by omega) ?_
                refine zs_iconst (pc := 14) t39_14 (v := 0) (by decide) ?_
                refine zs_iret (pc := 15) t39_15 mr39 (by decide) ?_
                show zGo X l 1 0 0 43 22 [(0, .int (1 : Int32)), (1, .int (zI w186M 155 4))] [.int (0 : Int32)] w186M _
                refine zs_goto (pc := 22) t43_22 ?_
                refine zs_iret (pc := 32) t43_32 mr43 (by decide) ?_
                show zGo X l 2 0 0 38 92 [(0, .ref 157), (1, .int (zpt M)), (2, .int (1 : Int32)), (3, .int (zI w186M 155 4)), (4, .ref 19)] [.int (0 : Int32)] w186M _
                refine zs_iret (pc := 92) t38_92 mr38 (by decide) ?_
                show zGo X l 5 0 0 28 70 [(6, .int (1 : Int32)), (5, .int (3 : Int32)), (4, .int (zpt M)), (3, .int (zI M 155 2)), (0, .ref 157), (1, .ref 155), (2, .ref 19)] [.int (0 : Int32)] w186M _
                refine zs_if_neF (pc := 70) t28_70 li0 (by decide) ?_
                refine zs_aload_n (pc := 73) t28_73 rfl ?_
                refine zs_aload_n (pc := 74) t28_74 rfl ?_
                refine zs_invV (pc := 75) (k := 155) (as' := []) (st := [.ref 155]) t28_75 mf46 rfl rfl (Or.inl ⟨by decide, (zk1 (w186s.k fk_zMc_155))⟩) ⟨by decide, by decide, Nat.le_of_ble_eq_true rfl, Nat.le_of_ble_eq_true rfl⟩ (zs_in (by decide) mf46 (Nat.le_of_ble_eq_true rfl) ?_) (fun _ _ q => q)
                show zGo X l 0 0 0 46 0 [(0, .ref 155)] [] w186M _
                refine zs_aload_n (pc := 0) t46_0 rfl ?_
                have w192 := zrg (zI w186M 155 5)
                refine zs_get (pc := 1) t46_1 (by decide) (zk1 (w186s.k fk_zMc_155)) (zfvi rfl rfl) ?_
                refine zs_iret (pc := 4) t46_4 mr46 rfl ?_
                show zGo X l 5 0 0 28 78 [(6, .int (1 : Int32)), (5, .int (3 : Int32)), (4, .int (zpt M)), (3, .int (zI M 155 2)), (0, .ref 157), (1, .ref 155), (2, .ref 19)] [.int (zI w186M 155 5), .ref 155] w186M _
                refine zs_invV (pc := 78) (k := 155) (as' := [.int (zI w186M 155 5)]) (st := []) t28_78 mf34 rfl rfl (Or.inl ⟨by decide, (zk1 (w186s.k fk_zMc_155))⟩) ⟨by decide, by decide, Nat.le_of_ble_eq_true rfl, Nat.le_of_ble_eq_true rfl⟩ (zs_in (by decide) mf34 (Nat.le_of_ble_eq_true rfl) ?_) (fun _ _ q => q)
                show zGo X l 0 0 0 34 0 [(0, .ref 155), (1, .int (zI w186M 155 5))] [] w186M _
                refine zs_aload_n (pc := 0) t34_0 rfl ?_
                refine zs_iload_n (pc := 1) t34_1 rfl ?_
                have w193 : zIv cLo cHi (zsI w186M 155 3 (zI w186M 155 5)) := zIv.put w186I (show (-2147483648) ≤ (zI w186M 155 5).toInt ∧ (zI w186M 155 5).toInt ≤ 2147483647 from zrg (zI w186M 155 5))
                refine zs_putI (pc := 2) t34_2 (zk1 (w186s.k fk_zMc_155)) rfl ?_
                refine zs_iconst (pc := 5) t34_5 (v := 0) (by decide) ?_
                refine zs_iret (pc := 6) t34_6 mr34 (by decide) ?_
                show zGo X l 5 0 0 28 81 [(6, .int (1 : Int32)), (5, .int (3 : Int32)), (4, .int (zpt M)), (3, .int (zI M 155 2)), (0, .ref 157), (1, .ref 155), (2, .ref 19)] [.int (0 : Int32)] (zsI w186M 155 3 (zI w186M 155 5)) _
                have w194 := zrg (zI w186M 155 2)
                have w195 : (zI (zsI w186M 155 3 (zI w186M 155 5)) 155 2).toInt = (zI w186M 155 2).toInt := (congrArg Int32.toInt ((zIoj (by decide)).trans rfl)).trans rfl
                exact zs_iret (pc := 81) t28_81 mr28 (by decide) (hQ _ _ w186s w193 (((((((zFr.refl).put rfl).trans (w169F.mono rfl)).put rfl).put rfl).trans (w186F.mono rfl)).put rfl) (fun p hp => by obtain rfl : w11n = p := (by omega); exact Or.inl ⟨by decide, ((pIt.p (by omega) (by omega)).trans (pB.y (pRd.y w170e (by omega) (by omega) (by omega)))).trans (pB.f (pRd.n w187e (by omega)))⟩) (by decide) (by decide))
              · refine zs_icmp_ltF (pc := 2) t39_2 rfl lin50 (by omega) ?_
                refine zs_iload_n (pc := 5) t39_5 rfl ?_
                refine zs_iload_n (pc := 6) t39_6 rfl ?_
                by_cases w196 : 50 < (zI w186M 155 4).toInt
                · refine zs_icmp_gtT (pc := 7) t39_7 rfl li50 (by omega) ?_
                  refine zs_iconst (pc := 14) t39_14 (v := 0) (by decide) ?_
                  refine zs_iret (pc := 15) t39_15 mr39 (by decide) ?_
                  show zGo X l 1 0 0 43 22 [(0, .int (1 : Int32)), (1, .int (zI w186M 155 4))] [.int (0 : Int32)] w186M _
                  refine zs_goto (pc := 22) t43_22 ?_
                  refine zs_iret (pc := 32) t43_32 mr43 (by decide) ?_
                  show zGo X l 2 0 0 38 92 [(0, .ref 157), (1, .int (zpt M)), (2, .int (1 : Int32)), (3, .int (zI w186M 155 4)), (4, .ref 19)] [.int (0 : Int32)] w186M _
                  refine zs_iret (pc := 92) t38_92 mr38 (by decide) ?_
                  show zGo X l 5 0 0 28 70 [(6, .int (1 : Int32)), (5, .int (3 : Int32)), (4, .int (zpt M)), (3, .int (zI M 155 2)), (0, .ref 157), (1, .ref 155), (2, .ref 19)] [.int (0 : Int32)] w186M _
                  refine zs_if_neF (pc := 70) t28_70 li0 (by decide) ?_
                  refine zs_aload_n (pc := 73) t28_73 rfl ?_
                  refine zs_aload_n (pc := 74) t28_74 rfl ?_
                  refine zs_invV (pc := 75) (k := 155) (as' := []) (st := [.ref 155]) t28_75 mf46 rfl rfl (Or.inl ⟨by decide, (zk1 (w186s.k fk_zMc_155))⟩) ⟨by decide, by decide, Nat.le_of_ble_eq_true rfl, Nat.le_of_ble_eq_true rfl⟩ (zs_in (by decide) mf46 (Nat.le_of_ble_eq_true rfl) ?_) (fun _ _ q => q)
                  show zGo X l 0 0 0 46 0 [(0, .ref 155)] [] w186M _
                  refine zs_aload_n (pc := 0) t46_0 rfl ?_
                  have w197 := zrg (zI w186M 155 5)
                  refine zs_get (pc := 1) t46_1 (by decide) (zk1 (w186s.k fk_zMc_155)) (zfvi rfl rfl) ?_
                  refine zs_iret (pc := 4) t46_4 mr46 rfl ?_
                  show zGo X l 5 0 0 28 78 [(6, .int (1 : Int32)), (5, .int (3 : Int32)), (4, .int (zpt M)), (3, .int (zI M 155 2)), (0, .ref 157), (1, .ref 155), (2, .ref 19)] [.int (zI w186M 155 5), .ref 155] w186M _
                  refine zs_invV (pc := 78) (k := 155) (as' := [.int (zI w186M 155 5)]) (st := []) t28_78 mf34 rfl rfl (Or.inl ⟨by decide, (zk1 (w186s.k fk_zMc_155))⟩) ⟨by decide, by decide, Nat.le_of_ble_eq_true rfl, Nat.le_of_ble_eq_true rfl⟩ (zs_in (by decide) mf34 (Nat.le_of_ble_eq_true rfl) ?_) (fun _ _ q => q)
                  show zGo X l 0 0 0 34 0 [(0, .ref 155), (1, .int (zI w186M 155 5))] [] w186M _
                  refine zs_aload_n (pc := 0) t34_0 rfl ?_
                  refine zs_iload_n (pc := 1) t34_1 rfl ?_
                  have w198 : zIv cLo cHi (zsI w186M 155 3 (zI w186M 155 5)) := zIv.put w186I (show (-2147483648) ≤ (zI w186M 155 5).toInt ∧ (zI w186M 155 5).toInt ≤ 2147483647 from zrg (zI w186M 155 5))
                  refine zs_putI (pc := 2) t34_2 (zk1 (w186s.k fk_zMc_155)) rfl ?_
                  refine zs_iconst (pc := 5) t34_5 (v := 0) (by decide) ?_
                  refine zs_iret (pc := 6) t34_6 mr34 (by decide) ?_
                  show zGo X l 5 0 0 28 81 [(6, .int (1 : Int32)), (5, .int (3 : Int32)), (4, .int (zpt M)), (3, .int (zI M 155 2)), (0, .ref 157), (1, .ref 155), (2, .ref 19)] [.int (0 : Int32)] (zsI w186M 155 3 (zI w186M 155 5)) _
                  have w199 := zrg (zI w186M 155 2)
                  have w200 : (zI (zsI w186M 155 3 (zI w186M 155 5)) 155 2).toInt = (zI w186M 155 2).toInt := (congrArg Int32.toInt ((zIoj (by decide)).trans rfl)).trans rfl
                  exact zs_iret (pc := 81) t28_81 mr28 (by decide) (hQ _ _ w186s w198 (((((((zFr.refl).put rfl).trans (w169F.mono rfl)).put rfl).put rfl).trans (w186F.mono rfl)).put rfl) (fun p hp => by obtain rfl : w11n = p := (by omega); exact Or.inl ⟨by decide, ((pIt.p (by omega) (by omega)).trans (pB.y (pRd.y w170e (by omega) (by omega) (by omega)))).trans (pB.f (pRd.n w187e (by omega)))⟩) (by decide) (by decide))
                · refine zs_icmp_gtF (pc := 7) t39_7 rfl li50 (by omega) ?_
                  refine zs_iconst (pc := 10) t39_10 (v := 1) (by decide) ?_
                  refine zs_goto (pc := 11) t39_11 ?_
                  refine zs_iret (pc := 15) t39_15 mr39 (by decide) ?_
                  show zGo X l 1 0 0 43 22 [(0, .int (1 : Int32)), (1, .int (zI w186M 155 4))] [.int (1 : Int32)] w186M _
                  refine zs_goto (pc := 22) t43_22 ?_
                  refine zs_iret (pc := 32) t43_32 mr43 (by decide) ?_
                  show zGo X l 2 0 0 38 92 [(0, .ref 157), (1, .int (zpt M)), (2, .int (1 : Int32)), (3, .int (zI w186M 155 4)), (4, .ref 19)] [.int (1 : Int32)] w186M _
                  refine zs_iret (pc := 92) t38_92 mr38 (by decide) ?_
                  show zGo X l 5 0 0 28 70 [(6, .int (1 : Int32)), (5, .int (3 : Int32)), (4, .int (zpt M)), (3, .int (zI M 155 2)), (0, .ref 157), (1, .ref 155), (2, .ref 19)] [.int (1 : Int32)] w186M _
                  refine zs_if_neT (pc := 70) t28_70 li1 (by decide) ?_
                  refine zs_aload_n (pc := 82) t28_82 rfl ?_
                  refine zs_get (pc := 83) t28_83 (by decide) (zk1 (w186s.k fk_zMc_157)) (w186s.p rfl fv_zMc_157_0) ?_
                  refine zs_iload (pc := 86) t28_86 rfl ?_
                  refine zs_aload_n (pc := 88) t28_88 rfl ?_
                  refine zs_invV (pc := 89) (k := 155) (as' := []) (st := [.int (1 : Int32), .ref 158]) t28_89 mf37 rfl rfl (Or.inl ⟨by decide, (zk1 (w186s.k fk_zMc_155))⟩) ⟨by decide, by decide, Nat.le_of_ble_eq_true rfl, Nat.le_of_ble_eq_true rfl⟩ (zs_in (by decide) mf37 (Nat.le_of_ble_eq_true rfl) ?_) (fun _ _ q => q)
                  show zGo X l 0 0 0 37 0 [(0, .ref 155)] [] w186M _
                  refine zs_aload_n (pc := 0) t37_0 rfl ?_
                  refine zs_get (pc := 1) t37_1 (by decide) (zk1 (w186s.k fk_zMc_155)) (zfvi rfl rfl) ?_
                  refine zs_iret (pc := 4) t37_4 mr37 rfl ?_
                  show zGo X l 5 0 0 28 92 [(6, .int (1 : Int32)), (5, .int (3 : Int32)), (4, .int (zpt M)), (3, .int (zI M 155 2)), (0, .ref 157), (1, .ref 155), (2, .ref 19)] [.int (zI w186M 155 4), .int (1 : Int32), .ref 158] w186M _
                  have w201 : zIv cLo cHi (zsI w186M 158 1 (zI w186M 155 4)) := zIv.put w186I (show (-300000) ≤ (zI w186M 155 4).toInt ∧ (zI w186M 155 4).toInt ≤ 300000 from ⟨by omega, by omega⟩)
                  refine zs_iast (pc := 92) t28_92 (j := 1) (by decide) (zk1 (w186s.k fk_zMc_158)) li1 (zk2 (w186s.k fk_zMc_158) (by decide)) ?_
                  refine zs_aload_n (pc := 93) t28_93 rfl ?_
                  refine zs_iload (pc := 94) t28_94 rfl ?_
                  refine zs_iconst (pc := 96) t28_96 (v := 1) (by decide) ?_
                  refine zs_iadd (pc := 97) t28_97 (c := 2) (by decide) ?_
                  refine zs_iload (pc := 98) t28_98 rfl ?_
                  refine zs_icmp_geF (pc := 100) t28_100 li2 li3 (by decide) ?_
                  refine zs_bipush (pc := 103) t28_103 (v := 44) (by decide) ?_
                  refine zs_goto (pc := 105) t28_105 ?_
                  refine zs_invV (pc := 110) (k := 155) (as' := [.int (44 : Int32)]) (st := []) t28_110 mf47 rfl rfl (Or.inl ⟨by decide, (zk1 (w186s.k fk_zMc_155))⟩) ⟨by decide, by decide, Nat.le_of_ble_eq_true rfl, Nat.le_of_ble_eq_true rfl⟩ (zs_in (by decide) mf47 (Nat.le_of_ble_eq_true rfl) ?_) (fun _ _ q => q)
                  show zGo X l 1 0 0 47 0 [(0, .ref 155), (1, .int (44 : Int32))] [] (zsI w186M 158 1 (zI w186M 155 4)) _
                  refine zs_aload_n (pc := 0) t47_0 rfl ?_
                  refine zs_invV (pc := 1) (k := 155) (as' := []) (st := []) t47_1 mf31 rfl rfl (Or.inl ⟨by decide, (zk1 (w186s.k fk_zMc_155))⟩) ⟨by decide, by decide, Nat.le_of_ble_eq_true rfl, Nat.le_of_ble_eq_true rfl⟩ (P31 w186s w201 ?_) (fun _ _ q => q)
                  have w203 := zrg (zI w186M 155 2)
                  have w204 : (zI (zsI w186M 158 1 (zI w186M 155 4)) 155 2).toInt = (zI w186M 155 2).toInt := (congrArg Int32.toInt ((zIo (by decide)).trans rfl)).trans rfl
                  have w205 : (zI (zsI w186M 158 1 (zI w186M 155 4)) 155 1).toInt = (zI M 155 1).toInt := (congrArg Int32.toInt ((zIo (by decide)).trans ((w186F 155 1 rfl).trans ((zIoj (by decide)).trans ((zIo (by decide)).trans ((w169F 155 1 rfl).trans ((zIoj (by decide)).trans rfl))))))).trans rfl
                  have w202 : (zpt (zsI w186M 158 1 (zI w186M 155 4))).toInt = g w187E := zpt.tr (zTa.fr x1 (zEq.tr (zEq.tr (zEq.tr (zEq.tr (zEq.tr (zEq.put rfl) (zFr.eq w169F rfl)) (zEq.put rfl)) (zEq.put rfl)) (zFr.eq w186F rfl)) (zEq.put rfl))) (by omega)
                  have w206 := zTa.rg (M := (zsI w186M 158 1 (zI w186M 155 4))) (zTa.fr x1 (zEq.tr (zEq.tr (zEq.tr (zEq.tr (zEq.tr (zEq.put rfl) (zFr.eq w169F rfl)) (zEq.put rfl)) (zEq.put rfl)) (zFr.eq w186F rfl)) (zEq.put rfl))) w187E
                  show zGo X l 1 0 0 47 4 [(0, .ref 155), (1, .int (44 : Int32))] [.int (zpt (zsI w186M 158 1 (zI w186M 155 4)))] (zsI w186M 158 1 (zI w186M 155 4)) _
                  refine zs_iload_n (pc := 4) t47_4 rfl ?_
                  by_cases w207 : (g w187E) = 44
                  · refine zs_icmp_eqT (pc := 5) t47_5 w202 li44 (by omega) ?_
                    refine zs_aload_n (pc := 17) t47_17 rfl ?_
                    refine zs_dup (pc := 18) t47_18 rfl ?_
                    refine zs_get (pc := 19) t47_19 (by decide) (zk1 (w186s.k fk_zMc_155)) (zfvi rfl ((zIo (by decide)).trans rfl)) ?_
                    refine zs_iconst (pc := 22) t47_22 (v := 1) (by decide) ?_
                    obtain ⟨w208v, w208e, w208⟩ := ziadd (a := (zI w186M 155 2)) (b := (1 : Int32)) rfl li1 (by omega) (by omega)
                    refine zs_iadd (pc := 23) t47_23 (c := w208v) w208e ?_
                    have w209 : zIv cLo cHi (zsI (zsI w186M 158 1 (zI w186M 155 4)) 155 2 w208v) := zIv.put w201 (show (-2147483648) ≤ w208v.toInt ∧ w208v.toInt ≤ 2147483647 from zrg w208v)
                    refine zs_putI (pc := 24) t47_24 (zk1 (w186s.k fk_zMc_155)) rfl ?_
                    refine zs_iconst (pc := 27) t47_27 (v := 1) (by decide) ?_
                    refine zs_iret (pc := 28) t47_28 mr47 (by decide) ?_
                    show zGo X l 5 0 0 28 113 [(6, .int (1 : Int32)), (5, .int (3 : Int32)), (4, .int (zpt M)), (3, .int (zI M 155 2)), (0, .ref 157), (1, .ref 155), (2, .ref 19)] [.int (1 : Int32)] (zsI (zsI w186M 158 1 (zI w186M 155 4)) 155 2 w208v) _
                    refine zs_if_neT (pc := 113) t28_113 li1 (by decide) ?_
                    refine zs_iinc (pc := 118) t28_118 (ls' := [(6, .int (2 : Int32)), (5, .int (3 : Int32)), (4, .int (zpt M)), (3, .int (zI M 155 2)), (0, .ref 157), (1, .ref 155), (2, .ref 19)]) (zml mf28 (by decide)) rfl (c := 2) (by decide) rfl ?_
                    refine zs_goto (pc := 121) t28_121 ?_
                    refine zs_iload (pc := 41) t28_41 rfl ?_
                    refine zs_iload (pc := 43) t28_43 rfl ?_
                    refine zs_icmp_geF (pc := 45) t28_45 li2 li3 (by decide) ?_
                    refine zs_aload_n (pc := 48) t28_48 rfl ?_
                    have w210 : (zI (zsI (zsI w186M 158 1 (zI w186M 155 4)) 155 2 w208v) 155 2).toInt = ((zI w186M 155 2).toInt + 1) := (congrArg Int32.toInt zIs).trans w208
                    have w211 : (zI (zsI (zsI w186M 158 1 (zI w186M 155 4)) 155 2 w208v) 155 2).toInt = ((zI w186M 155 2).toInt + 1) := (congrArg Int32.toInt zIs).trans w208
                    have w212 : (zI (zsI (zsI w186M 158 1 (zI w186M 155 4)) 155 2 w208v) 155 1).toInt = (zI M 155 1).toInt := (congrArg Int32.toInt ((zIoj (by decide)).trans ((zIo (by decide)).trans ((w186F 155 1 rfl).trans ((zIoj (by decide)).trans ((zIo (by decide)).trans ((w169F 155 1 rfl).trans ((zIoj (by decide)).trans rfl)))))))).trans rfl
                    refine zs_invV (pc := 49) (k := 155) (as' := []) (st := []) t28_49 mf35 rfl rfl (Or.inl ⟨by decide, (zk1 (w186s.k fk_zMc_155))⟩) ⟨by decide, by decide, Nat.le_of_ble_eq_true rfl, Nat.le_of_ble_eq_true rfl⟩ (X35_155 w186s w209 (by omega) (by omega) (zTa.fr x1 (zEq.tr (zEq.tr (zEq.tr (zEq.tr (zEq.tr (zEq.tr (zEq.put rfl) (zFr.eq w169F rfl)) (zEq.put rfl)) (zEq.put rfl)) (zFr.eq w186F rfl)) (zEq.put rfl)) (zEq.put rfl))) ?_) (fun _ _ q => q)
                    intro w213M w213v w213s w213I w213F w213x0 w213a w213b
                    show zGo X l 5 0 0 28 52 [(6, .int (2 : Int32)), (5, .int (3 : Int32)), (4, .int (zpt M)), (3, .int (zI M 155 2)), (0, .ref 157), (1, .ref 155), (2, .ref 19)] [.int w213v] w213M _
                    rcases w213x0 (w187E + 1) (by omega) with ⟨w214v, w214e⟩ | ⟨w214v, w214E, w214x, w214e, w214_3, w214_4, w214_5, w214_6, w214_7, w214_8⟩
                    · skip
                      refine zs_if_neF (pc := 52) t28_52 rfl (by omega) ?_
                      refine zs_iconst (pc := 55) t28_55 (v := 0) (by decide) ?_
                      have w215 := zrg (zI w213M 155 2)
                      have w216 : (zI w213M 155 2).toInt = (zI w213M 155 2).toInt := (congrArg Int32.toInt rfl).trans rfl
                      exact zs_iret (pc := 56) t28_56 mr28 (by decide) (hQ _ _ w213s w213I (((((((((zFr.refl).put rfl).trans (w169F.mono rfl)).put rfl).put rfl).trans (w186F.mono rfl)).put rfl).put rfl).trans (w213F.mono rfl)) (fun p hp => by obtain rfl : w11n = p := (by omega); exact Or.inl ⟨by decide, (((pIt.p (by omega) (by omega)).trans (pB.y (pRd.y w170e (by omega) (by omega) (by omega)))).trans (pB.y (pRd.y w187e (by omega) (by omega) (by omega)))).trans (pB.f (pRd.f w214e))⟩) (by decide) (by decide))
                    · skip
                      subst w214_4
                      refine zs_if_neT (pc := 52) t28_52 rfl (by omega) ?_
                      refine zs_aload_n (pc := 57) t28_57 rfl ?_
                      refine zs_iload (pc := 58) t28_58 rfl ?_
                      refine zs_iload (pc := 60) t28_60 rfl ?_
                      refine zs_aload_n (pc := 62) t28_62 rfl ?_
                      refine zs_invV (pc := 63) (k := 155) (as' := []) (st := [.int (2 : Int32), .int (zpt M), .ref 157]) t28_63 mf37 rfl rfl (Or.inl ⟨by decide, (zk1 (w213s.k fk_zMc_155))⟩) ⟨by decide, by decide, Nat.le_of_ble_eq_true rfl, Nat.le_of_ble_eq_true rfl⟩ (zs_in (by decide) mf37 (Nat.le_of_ble_eq_true rfl) ?_) (fun _ _ q => q)
                      show zGo X l 0 0 0 37 0 [(0, .ref 155)] [] w213M _
                      refine zs_aload_n (pc := 0) t37_0 rfl ?_
                      have w217 := ib155_4 w213I
                      refine zs_get (pc := 1) t37_1 (by decide) (zk1 (w213s.k fk_zMc_155)) (zfvi rfl rfl) ?_
                      refine zs_iret (pc := 4) t37_4 mr37 rfl ?_
                      show zGo X l 5 0 0 28 66 [(6, .int (2 : Int32)), (5, .int (3 : Int32)), (4, .int (zpt M)), (3, .int (zI M 155 2)), (0, .ref 157), (1, .ref 155), (2, .ref 19)] [.int (zI w213M 155 4), .int (2 : Int32), .int (zpt M), .ref 157] w213M _
                      refine zs_aload_n (pc := 66) t28_66 rfl ?_
                      refine zs_invV (pc := 67) (k := 157) (as' := [.int (zpt M), .int (2 : Int32), .int (zI w213M 155 4), .ref 19]) (st := []) t28_67 mf38 rfl rfl (Or.inl ⟨by decide, (zk1 (w213s.k fk_zMc_157))⟩) ⟨by decide, by decide, Nat.le_of_ble_eq_true rfl, Nat.le_of_ble_eq_true rfl⟩ (zs_in (by decide) mf38 (Nat.le_of_ble_eq_true rfl) ?_) (fun _ _ q => q)
                      show zGo X l 2 0 0 38 0 [(0, .ref 157), (1, .int (zpt M)), (2, .int (2 : Int32)), (3, .int (zI w213M 155 4)), (4, .ref 19)] [] w213M _
                      refine zs_iload_n (pc := 0) t38_0 rfl ?_
                      refine zs_lsw (pc := 1) t38_1 (off := 86) ((w12 : (zpt M).toInt = (g w11n)).trans (by omega)) rfl (pc2 := 87) rfl ?_
                      refine zs_iload_n (pc := 87) t38_87 rfl ?_
                      refine zs_iload_n (pc := 88) t38_88 rfl ?_
                      refine zs_invS (pc := 89) (as := [.int (2 : Int32), .int (zI w213M 155 4)]) (st := []) t38_89 (by decide) mf43 rfl rfl ⟨by decide, by decide, Nat.le_of_ble_eq_true rfl, Nat.le_of_ble_eq_true rfl⟩ (zs_in (by decide) mf43 (Nat.le_of_ble_eq_true rfl) ?_) (fun _ _ q => q)
                      show zGo X l 1 0 0 43 0 [(0, .int (2 : Int32)), (1, .int (zI w213M 155 4))] [] w213M _
                      refine zs_iload_n (pc := 0) t43_0 rfl ?_
                      refine zs_if_neT (pc := 1) t43_1 li2 (by decide) ?_
                      refine zs_iload_n (pc := 9) t43_9 rfl ?_
                      refine zs_iconst (pc := 10) t43_10 (v := 1) (by decide) ?_
                      refine zs_icmp_neT (pc := 11) t43_11 li2 li1 (by decide) ?_
                      refine zs_iload_n (pc := 25) t43_25 rfl ?_
                      refine zs_bipush (pc := 26) t43_26 (v := -5) (by decide) ?_
                      refine zs_iconst (pc := 28) t43_28 (v := 5) (by decide) ?_
                      refine zs_invS (pc := 29) (as := [.int (zI w213M 155 4), .int (-5 : Int32), .int (5 : Int32)]) (st := []) t43_29 (by decide) mf39 rfl rfl ⟨by decide, by decide, Nat.le_of_ble_eq_true rfl, Nat.le_of_ble_eq_true rfl⟩ (zs_in (by decide) mf39 (Nat.le_of_ble_eq_true rfl) ?_) (fun _ _ q => q)
                      show zGo X l 0 0 0 39 0 [(0, .int (zI w213M 155 4)), (1, .int (-5 : Int32)), (2, .int (5 : Int32))] [] w213M _
                      refine zs_iload_n (pc := 0) t39_0 rfl ?_
                      refine zs_iload_n (pc := 1) t39_1 rfl ?_
                      by_cases w218 : (zI w213M 155 4).toInt < (-5)
                      · refine zs_icmp_ltT (pc := 2) t39_2 rfl lin5 (by omega) ?_
                        refine zs_iconst (pc := 14) t39_14 (v := 0) (by decide) ?_
                        refine zs_iret (pc := 15) t39_15 mr39 (by decide) ?_
                        show zGo X l 1 0 0 43 32 [(0, .int (2 : Int32)), (1, .int (zI w213M 155 4))] [.int (0 : Int32)] w213M _
                        refine zs_iret (pc := 32) t43_32 mr43 (by decide) ?_
                        show zGo X l 2 0 0 38 92 [(0, .ref 157), (1, .int (zpt M)), (2, .int (2 : Int32)), (3, .int (zI w213M 155 4)), (4, .ref 19)] [.int (0 : Int32)] w213M _
                        refine zs_iret (pc := 92) t38_92 mr38 (by decide) ?_
                        show zGo X l 5 0 0 28 70 [(6, .int (2 : Int32)), (5, .int (3 : Int32)), (4, .int (zpt M)), (3, .int (zI M 155 2)), (0, .ref 157), (1, .ref 155), (2, .ref 19)] [.int (0 : Int32)] w213M _
                        refine zs_if_neF (pc := 70) t28_70 li0 (by decide) ?_
                        refine zs_aload_n (pc := 73) t28_73 rfl ?_
                        refine zs_aload_n (pc := 74) t28_74 rfl ?_
                        refine zs_invV (pc := 75) (k := 155) (as' := []) (st := [.ref 155]) t28_75 mf46 rfl rfl (Or.inl ⟨by decide, (zk1 (w213s.k fk_zMc_155))⟩) ⟨by decide, by decide, Nat.le_of_ble_eq_true rfl, Nat.le_of_ble_eq_true rfl⟩ (zs_in (by decide) mf46 (Nat.le_of_ble_eq_true rfl) ?_) (fun _ _ q => q)
                        show zGo X l 0 0 0 46 0 [(0, .ref 155)] [] w213M _
                        refine zs_aload_n (pc := 0) t46_0 rfl ?_
                        have w219 := zrg (zI w213M 155 5)
                        refine zs_get (pc := 1) t46_1 (by decide) (zk1 (w213s.k fk_zMc_155)) (zfvi rfl rfl) ?_
                        refine zs_iret (pc := 4) t46_4 mr46 rfl ?_
                        show zGo X l 5 0 0 28 78 [(6, .int (2 : Int32)), (5, .int (3 : Int32)), (4, .int (zpt M)), (3, .int (zI M 155 2)), (0, .ref 157), (1, .ref 155), (2, .ref 19)] [.int (zI w213M 155 5), .ref 155] w213M _
                        refine zs_invV (pc := 78) (k := 155) (as' := [.int (zI w213M 155 5)]) (st := []) t28_78 mf34 rfl rfl (Or.inl ⟨by decide, (zk1 (w213s.k fk_zMc_155))⟩) ⟨by decide, by decide, Nat.le_of_ble_eq_true rfl, Nat.le_of_ble_eq_true rfl⟩ (zs_in (by decide) mf34 (Nat.le_of_ble_eq_true rfl) ?_) (fun _ _ q => q)
                        show zGo X l 0 0 0 34 0 [(0, .ref 155), (1, .int (zI w213M 155 5))] [] w213M _
                        refine zs_aload_n (pc := 0) t34_0 rfl ?_
                        refine zs_iload_n (pc := 1) t34_1 rfl ?_
                        have w220 : zIv cLo cHi (zsI w213M 155 3 (zI w213M 155 5)) := zIv.put w213I (show (-2147483648) ≤ (zI w213M 155 5).toInt ∧ (zI w213M 155 5).toInt ≤ 2147483647 from zrg (zI w213M 155 5))
                        refine zs_putI (pc := 2) t34_2 (zk1 (w213s.k fk_zMc_155)) rfl ?_
                        refine zs_iconst (pc := 5) t34_5 (v := 0) (by decide) ?_
                        refine zs_iret (pc := 6) t34_6 mr34 (by decide) ?_
                        show zGo X l 5 0 0 28 81 [(6, .int (2 : Int32)), (5, .int (3 : Int32)), (4, .int (zpt M)), (3, .int (zI M 155 2)), (0, .ref 157), (1, .ref 155), (2, .ref 19)] [.int (0 : Int32)] (zsI w213M 155 3 (zI w213M 155 5)) _
                        have w221 := zrg (zI w213M 155 2)
                        have w222 : (zI (zsI w213M 155 3 (zI w213M 155 5)) 155 2).toInt = (zI w213M 155 2).toInt := (congrArg Int32.toInt ((zIoj (by decide)).trans rfl)).trans rfl
                        exact zs_iret (pc := 81) t28_81 mr28 (by decide) (hQ _ _ w213s w220 ((((((((((zFr.refl).put rfl).trans (w169F.mono rfl)).put rfl).put rfl).trans (w186F.mono rfl)).put rfl).put rfl).trans (w213F.mono rfl)).put rfl) (fun p hp => by obtain rfl : w11n = p := (by omega); exact Or.inl ⟨by decide, (((pIt.p (by omega) (by omega)).trans (pB.y (pRd.y w170e (by omega) (by omega) (by omega)))).trans (pB.y (pRd.y w187e (by omega) (by omega) (by omega)))).trans (pB.f (pRd.n w214e (by omega)))⟩) (by decide) (by decide))
                      · refine zs_icmp_ltF (pc := 2) t39_2 rfl lin5 (by omega) ?_
                        refine zs_iload_n (pc := 5) t39_5 rfl ?_
                        refine zs_iload_n (pc := 6) t39_6 rfl ?_
                        by_cases w223 : 5 < (zI w213M 155 4).toInt
                        · refine zs_icmp_gtT (pc := 7) t39_7 rfl li5 (by omega) ?_
                          refine zs_iconst (pc := 14) t39_14 (v := 0) (by decide) ?_
                          refine zs_iret (pc := 15) t39_15 mr39 (by decide) ?_
                          show zGo X l 1 0 0 43 32 [(0, .int (2 : Int32)), (1, .int (zI w213M 155 4))] [.int (0 : Int32)] w213M _
                          refine zs_iret (pc := 32) t43_32 mr43 (by decide) ?_
                          show zGo X l 2 0 0 38 92 [(0, .ref 157), (1, .int (zpt M)), (2, .int (2 : Int32)), (3, .int (zI w213M 155 4)), (4, .ref 19)] [.int (0 : Int32)] w213M _
                          refine zs_iret (pc := 92) t38_92 mr38 (by decide) ?_
                          show zGo X l 5 0 0 28 70 [(6, .int (2 : Int32)), (5, .int (3 : Int32)), (4, .int (zpt M)), (3, .int (zI M 155 2)), (0, .ref 157), (1, .ref 155), (2, .ref 19)] [.int (0 : Int32)] w213M _
                          refine zs_if_neF (pc := 70) t28_70 li0 (by decide) ?_
                          refine zs_aload_n (pc := 73) t28_73 rfl ?_
                          refine zs_aload_n (pc := 74) t28_74 rfl ?_
                          refine zs_invV (pc := 75) (k := 155) (as' := []) (st := [.ref 155]) t28_75 mf46 rfl rfl (Or.inl ⟨by decide, (zk1 (w213s.k fk_zMc_155))⟩) ⟨by decide, by decide, Nat.le_of_ble_eq_true rfl, Nat.le_of_ble_eq_true rfl⟩ (zs_in (by decide) mf46 (Nat.le_of_ble_eq_true rfl) ?_) (fun _ _ q => q)
                          show zGo X l 0 0 0 46 0 [(0, .ref 155)] [] w213M _
                          refine zs_aload_n (pc := 0) t46_0 rfl ?_
                          have w224 := zrg (zI w213M 155 5)
                          refine zs_get (pc := 1) t46_1 (by decide) (zk1 (w213s.k fk_zMc_155)) (zfvi rfl rfl) ?_
                          refine zs_iret (pc := 4) t46_4 mr46 rfl ?_
                          show zGo X l 5 0 0 28 78 [(6, .int (2 : Int32)), (5, .int (3 : Int32)), (4, .int (zpt M)), (3, .int (zI M 155 2)), (0, .ref 157), (1, .ref 155), (2, .ref 19)] [.int (zI w213M 155 5), .ref 155] w213M _
                          refine zs_invV (pc := 78) (k := 155) (as' := [.int (zI w213M 155 5)]) (st := []) t28_78 mf34 rfl rfl (Or.inl ⟨by decide, (zk1 (w213s.k fk_zMc_155))⟩) ⟨by decide, by decide, Nat.le_of_ble_eq_true rfl, Nat.le_of_ble_eq_true rfl⟩ (zs_in (by decide) mf34 (Nat.le_of_ble_eq_true rfl) ?_) (fun _ _ q => q)
                          show zGo X l 0 0 0 34 0 [(0, .ref 155), (1, .int (zI w213M 155 5))] [] w213M _
                          refine zs_aload_n (pc := 0) t34_0 rfl ?_
                          refine zs_iload_n (pc := 1) t34_1 rfl ?_
                          have w225 : zIv cLo cHi (zsI w213M 155 3 (zI w213M 155 5)) := zIv.put w213I (show (-2147483648) ≤ (zI w213M 155 5).toInt ∧ (zI w213M 155 5).toInt ≤ 2147483647 from zrg (zI w213M 155 5))
                          refine zs_putI (pc := 2) t34_2 (zk1 (w213s.k fk_zMc_155)) rfl ?_
                          refine zs_iconst (pc := 5) t34_5 (v := 0) (by decide) ?_
                          refine zs_iret (pc := 6) t34_6 mr34 (by decide) ?_
                          show zGo X l 5 0 0 28 81 [(6, .int (2 : Int32)), (5, .int (3 : Int32)), (4, .int (zpt M)), (3, .int (zI M 155 2)), (0, .ref 157), (1, .ref 155), (2, .ref 19)] [.int (0 : Int32)] (zsI w213M 155 3 (zI w213M 155 5)) _
                          have w226 := zrg (zI w213M 155 2)
                          have w227 : (zI (zsI w213M 155 3 (zI w213M 155 5)) 155 2).toInt = (zI w213M 155 2).toInt := (congrArg Int32.toInt ((zIoj (by decide)).trans rfl)).trans rfl
                          exact zs_iret (pc := 81) t28_81 mr28 (by decide) (hQ _ _ w213s w225 ((((((((((zFr.refl).put rfl).trans (w169F.mono rfl)).put rfl).put rfl).trans (w186F.mono rfl)).put rfl).put rfl).trans (w213F.mono rfl)).put rfl) (fun p hp => by obtain rfl : w11n = p := (by omega); exact Or.inl ⟨by decide, (((pIt.p (by omega) (by omega)).trans (pB.y (pRd.y w170e (by omega) (by omega) (by omega)))).trans (pB.y (pRd.y w187e (by omega) (by omega) (by omega)))).trans (pB.f (pRd.n w214e (by omega)))⟩) (by decide) (by decide))
                        · refine zs_icmp_gtF (pc := 7) t39_7 rfl li5 (by omega) ?_
                          refine zs_iconst (pc := 10) t39_10 (v := 1) (by decide) ?_
                          refine zs_goto (pc := 11) t39_11 ?_
                          refine zs_iret (pc := 15) t39_15 mr39 (by decide) ?_
                          show zGo X l 1 0 0 43 32 [(0, .int (2 : Int32)), (1, .int (zI w213M 155 4))] [.int (1 : Int32)] w213M _
                          refine zs_iret (pc := 32) t43_32 mr43 (by decide) ?_
                          show zGo X l 2 0 0 38 92 [(0, .ref 157), (1, .int (zpt M)), (2, .int (2 : Int32)), (3, .int (zI w213M 155 4)), (4, .ref 19)] [.int (1 : Int32)] w213M _
                          refine zs_iret (pc := 92) t38_92 mr38 (by decide) ?_
                          show zGo X l 5 0 0 28 70 [(6, .int (2 : Int32)), (5, .int (3 : Int32)), (4, .int (zpt M)), (3, .int (zI M 155 2)), (0, .ref 157), (1, .ref 155), (2, .ref 19)] [.int (1 : Int32)] w213M _
                          refine zs_if_neT (pc := 70) t28_70 li1 (by decide) ?_
                          refine zs_aload_n (pc := 82) t28_82 rfl ?_
                          refine zs_get (pc := 83) t28_83 (by decide) (zk1 (w213s.k fk_zMc_157)) (w213s.p rfl fv_zMc_157_0) ?_
                          refine zs_iload (pc := 86) t28_86 rfl ?_
                          refine zs_aload_n (pc := 88) t28_88 rfl ?_
                          refine zs_invV (pc := 89) (k := 155) (as' := []) (st := [.int (2 : Int32), .ref 158]) t28_89 mf37 rfl rfl (Or.inl ⟨by decide, (zk1 (w213s.k fk_zMc_155))⟩) ⟨by decide, by decide, Nat.le_of_ble_eq_true rfl, Nat.le_of_ble_eq_true rfl⟩ (zs_in (by decide) mf37 (Nat.le_of_ble_eq_true rfl) ?_) (fun _ _ q => q)
                          show zGo X l 0 0 0 37 0 [(0, .ref 155)] [] w213M _
                          refine zs_aload_n (pc := 0) t37_0 rfl ?_
                          refine zs_get (pc := 1) t37_1 (by decide) (zk1 (w213s.k fk_zMc_155)) (zfvi rfl rfl) ?_
                          refine zs_iret (pc := 4) t37_4 mr37 rfl ?_
                          show zGo X l 5 0 0 28 92 [(6, .int (2 : Int32)), (5, .int (3 : Int32)), (4, .int (zpt M)), (3, .int (zI M 155 2)), (0, .ref 157), (1, .ref 155), (2, .ref 19)] [.int (zI w213M 155 4), .int (2 : Int32), .ref 158] w213M _
                          have w228 : zIv cLo cHi (zsI w213M 158 2 (zI w213M 155 4)) := zIv.put w213I (show (-300000) ≤ (zI w213M 155 4).toInt ∧ (zI w213M 155 4).toInt ≤ 300000 from ⟨by omega, by omega⟩)
                          refine zs_iast (pc := 92) t28_92 (j := 2) (by decide) (zk1 (w213s.k fk_zMc_158)) li2 (zk2 (w213s.k fk_zMc_158) (by decide)) ?_
                          refine zs_aload_n (pc := 93) t28_93 rfl ?_
                          refine zs_iload (pc := 94) t28_94 rfl ?_
                          refine zs_iconst (pc := 96) t28_96 (v := 1) (by decide) ?_
                          refine zs_iadd (pc := 97) t28_97 (c := 3) (by decide) ?_
                          refine zs_iload (pc := 98) t28_98 rfl ?_
                          refine zs_icmp_geT (pc := 100) t28_100 li3 li3 (by decide) ?_
                          refine zs_bipush (pc := 108) t28_108 (v := 59) (by decide) ?_
                          refine zs_invV (pc := 110) (k := 155) (as' := [.int (59 : Int32)]) (st := []) t28_110 mf47 rfl rfl (Or.inl ⟨by decide, (zk1 (w213s.k fk_zMc_155))⟩) ⟨by decide, by decide, Nat.le_of_ble_eq_true rfl, Nat.le_of_ble_eq_true rfl⟩ (zs_in (by decide) mf47 (Nat.le_of_ble_eq_true rfl) ?_) (fun _ _ q => q)
                          show zGo X l 1 0 0 47 0 [(0, .ref 155), (1, .int (59 : Int32))] [] (zsI w213M 158 2 (zI w213M 155 4)) _
                          refine zs_aload_n (pc := 0) t47_0 rfl ?_
                          refine zs_invV (pc := 1) (k := 155) (as' := []) (st := []) t47_1 mf31 rfl rfl (Or.inl ⟨by decide, (zk1 (w213s.k fk_zMc_155))⟩) ⟨by decide, by decide, Nat.le_of_ble_eq_true rfl, Nat.le_of_ble_eq_true rfl⟩ (P31 w213s w228 ?_) (fun _ _ q => q)
                          have w230 := zrg (zI w213M 155 2)
                          have w231 : (zI (zsI w213M 158 2 (zI w213M 155 4)) 155 2).toInt = (zI w213M 155 2).toInt := (congrArg Int32.toInt ((zIo (by decide)).trans rfl)).trans rfl
                          have w232 : (zI (zsI w213M 158 2 (zI w213M 155 4)) 155 1).toInt = (zI M 155 1).toInt := (congrArg Int32.toInt ((zIo (by decide)).trans ((w213F 155 1 rfl).trans ((zIoj (by decide)).trans ((zIo (by decide)).trans ((w186F 155 1 rfl).trans ((zIoj (by decide)).trans ((zIo (by decide)).trans ((w169F 155 1 rfl).trans ((zIoj (by decide)).trans rfl)))))))))).trans rfl
                          have w229 : (zpt (zsI w213M 158 2 (zI w213M 155 4))).toInt = g w214E := zpt.tr (zTa.fr x1 (zEq.tr (zEq.tr (zEq.tr (zEq.tr (zEq.tr (zEq.tr (zEq.tr (zEq.tr (zEq.put rfl) (zFr.eq w169F rfl)) (zEq.put rfl)) (zEq.put rfl)) (zFr.eq w186F rfl)) (zEq.put rfl)) (zEq.put rfl)) (zFr.eq w213F rfl)) (zEq.put rfl))) (by omega)
                          have w233 := zTa.rg (M := (zsI w213M 158 2 (zI w213M 155 4))) (zTa.fr x1 (zEq.tr (zEq.tr (zEq.tr (zEq.tr (zEq.tr (zEq.tr (zEq.tr (zEq.tr (zEq.put rfl) (zFr.eq w169F rfl)) (zEq.put rfl)) (zEq.put rfl)) (zFr.eq w186F rfl)) (zEq.put rfl)) (zEq.put rfl)) (zFr.eq w213F rfl)) (zEq.put rfl))) w214E
                          show zGo X l 1 0 0 47 4 [(0, .ref 155), (1, .int (59 : Int32))] [.int (zpt (zsI w213M 158 2 (zI w213M 155 4)))] (zsI w213M 158 2 (zI w213M 155 4)) _
                          refine zs_iload_n (pc := 4) t47_4 rfl ?_
                          by_cases w234 : (g w214E) = 59
                          · refine zs_icmp_eqT (pc := 5) t47_5 w229 li59 (by omega) ?_
                            refine zs_aload_n (pc := 17) t47_17 rfl ?_
                            refine zs_dup (pc := 18) t47_18 rfl ?_
                            refine zs_get (pc := 19) t47_19 (by decide) (zk1 (w213s.k fk_zMc_155)) (zfvi rfl ((zIo (by decide)).trans rfl)) ?_
                            refine zs_iconst (pc := 22) t47_22 (v := 1) (by decide) ?_
                            obtain ⟨w235v, w235e, w235⟩ := ziadd (a := (zI w213M 155 2)) (b := (1 : Int32)) rfl li1 (by omega) (by omega)
                            refine zs_iadd (pc := 23) t47_23 (c := w235v) w235e ?_
                            have w236 : zIv cLo cHi (zsI (zsI w213M 158 2 (zI w213M 155 4)) 155 2 w235v) := zIv.put w228 (show (-2147483648) ≤ w235v.toInt ∧ w235v.toInt ≤ 2147483647 from zrg w235v)
                            refine zs_putI (pc := 24) t47_24 (zk1 (w213s.k fk_zMc_155)) rfl ?_
                            refine zs_iconst (pc := 27) t47_27 (v := 1) (by decide) ?_
                            refine zs_iret (pc := 28) t47_28 mr47 (by decide) ?_
                            show zGo X l 5 0 0 28 113 [(6, .int (2 : Int32)), (5, .int (3 : Int32)), (4, .int (zpt M)), (3, .int (zI M 155 2)), (0, .ref 157), (1, .ref 155), (2, .ref 19)] [.int (1 : Int32)] (zsI (zsI w213M 158 2 (zI w213M 155 4)) 155 2 w235v) _
                            refine zs_if_neT (pc := 113) t28_113 li1 (by decide) ?_
                            refine zs_iinc (pc := 118) t28_118 (ls' := [(6, .int (3 : Int32)), (5, .int (3 : Int32)), (4, .int (zpt M)), (3, .int (zI M 155 2)), (0, .ref 157), (1, .ref 155), (2, .ref 19)]) (zml mf28 (by decide)) rfl (c := 3) (by decide) rfl ?_
                            refine zs_goto (pc := 121) t28_121 ?_
                            refine zs_iload (pc := 41) t28_41 rfl ?_
                            refine zs_iload (pc := 43) t28_43 rfl ?_
                            refine zs_icmp_geT (pc := 45) t28_45 li3 li3 (by decide) ?_
                            refine zs_aload_n (pc := 124) t28_124 rfl ?_
                            refine zs_iload (pc := 125) t28_125 rfl ?_
                            refine zs_aload_n (pc := 127) t28_127 rfl ?_
                            refine zs_invV (pc := 128) (k := 157) (as' := [.int (zpt M), .ref 19]) (st := []) t28_128 mf48 rfl rfl (Or.inl ⟨by decide, (zk1 (w213s.k fk_zMc_157))⟩) ⟨by decide, by decide, Nat.le_of_ble_eq_true rfl, Nat.le_of_ble_eq_true rfl⟩ (zs_in (by decide) mf48 (Nat.le_of_ble_eq_true rfl) ?_) (fun _ _ q => q)
                            show zGo X l 4 0 0 48 0 [(0, .ref 157), (1, .int (zpt M)), (2, .ref 19)] [] (zsI (zsI w213M 158 2 (zI w213M 155 4)) 155 2 w235v) _
                            refine zs_iload_n (pc := 0) t48_0 rfl ?_
                            refine zs_lsw (pc := 1) t48_1 (off := 80) ((w12 : (zpt M).toInt = (g w11n)).trans (by omega)) rfl (pc2 := 81) rfl ?_
                            refine zs_aload_n (pc := 81) t48_81 rfl ?_
                            refine zs_aload_n (pc := 82) t48_82 rfl ?_
                            refine zs_get (pc := 83) t48_83 (by decide) (zk1 (w213s.k fk_zMc_157)) (w213s.p rfl fv_zMc_157_0) ?_
                            refine zs_iconst (pc := 86) t48_86 (v := 0) (by decide) ?_
                            refine zs_iald (pc := 87) t48_87 (j := 0) (by decide) (zk1 (w213s.k fk_zMc_158)) li0 (zk2 (w213s.k fk_zMc_158) (by decide)) ((zIo (by decide)).trans ((zIoj (by decide)).trans ((w213F 158 0 rfl).trans ((zIo (by decide)).trans ((zIoj (by decide)).trans ((w186F 158 0 rfl).trans ((zIo (by decide)).trans zIs))))))) ?_
                            refine zs_aload_n (pc := 88) t48_88 rfl ?_
                            refine zs_get (pc := 89) t48_89 (by decide) (zk1 (w213s.k fk_zMc_157)) (w213s.p rfl fv_zMc_157_0) ?_
                            refine zs_iconst (pc := 92) t48_92 (v := 1) (by decide) ?_
                            refine zs_iald (pc := 93) t48_93 (j := 1) (by decide) (zk1 (w213s.k fk_zMc_158)) li1 (zk2 (w213s.k fk_zMc_158) (by decide)) ((zIo (by decide)).trans ((zIoj (by decide)).trans ((w213F 158 1 rfl).trans ((zIo (by decide)).trans zIs)))) ?_
                            refine zs_aload_n (pc := 94) t48_94 rfl ?_
                            refine zs_get (pc := 95) t48_95 (by decide) (zk1 (w213s.k fk_zMc_157)) (w213s.p rfl fv_zMc_157_0) ?_
                            refine zs_iconst (pc := 98) t48_98 (v := 2) (by decide) ?_
                            refine zs_iald (pc := 99) t48_99 (j := 2) (by decide) (zk1 (w213s.k fk_zMc_158)) li2 (zk2 (w213s.k fk_zMc_158) (by decide)) ((zIo (by decide)).trans zIs) ?_
                            refine zs_invV (pc := 100) (k := 19) (as' := [.int (zI w169M 155 4), .int (zI w186M 155 4), .int (zI w213M 155 4)]) (st := []) t48_100 mf52 rfl rfl (Or.inl ⟨by decide, (zk1 (w213s.k fk_zMc_19))⟩) ⟨by decide, by decide, Nat.le_of_ble_eq_true rfl, Nat.le_of_ble_eq_true rfl⟩ (X52_19 w213s w236 ⟨by omega, by omega⟩ ⟨by omega, by omega⟩ ⟨by omega, by omega⟩ (zSo.fr x0 (zEq.tr (zEq.tr (zEq.tr (zEq.tr (zEq.tr (zEq.tr (zEq.tr (zEq.tr (zEq.tr (zEq.put rfl) (zFr.eq w169F rfl)) (zEq.put rfl)) (zEq.put rfl)) (zFr.eq w186F rfl)) (zEq.put rfl)) (zEq.put rfl)) (zFr.eq w213F rfl)) (zEq.put rfl)) (zEq.put rfl))) x2 ?_) (fun _ _ q => q)
                            intro w237M w237v w237s w237I w237F w237x0 w237a w237b
                            show zGo X l 4 0 0 48 103 [(0, .ref 157), (1, .int (zpt M)), (2, .ref 19)] [.int w237v] w237M _
                            rcases w237x0 with ⟨w238v, w238e⟩ | ⟨w238v, w238G, w238e, w238s, w238w⟩
                            · skip
                              refine zs_iret (pc := 103) t48_103 mr48 (zfb01 (by omega)) ?_
                              show zGo X l 5 0 0 28 131 [(6, .int (3 : Int32)), (5, .int (3 : Int32)), (4, .int (zpt M)), (3, .int (zI M 155 2)), (0, .ref 157), (1, .ref 155), (2, .ref 19)] [.int w237v] w237M _
                              refine zs_if_neF (pc := 131) t28_131 rfl (by omega) ?_
                              refine zs_aload_n (pc := 134) t28_134 rfl ?_
                              refine zs_iload_n (pc := 135) t28_135 rfl ?_
                              refine zs_invV (pc := 136) (k := 155) (as' := [.int (zI M 155 2)]) (st := []) t28_136 mf34 rfl rfl (Or.inl ⟨by decide, (zk1 (w237s.k fk_zMc_155))⟩) ⟨by decide, by decide, Nat.le_of_ble_eq_true rfl, Nat.le_of_ble_eq_true rfl⟩ (zs_in (by decide) mf34 (Nat.le_of_ble_eq_true rfl) ?_) (fun _ _ q => q)
                              show zGo X l 0 0 0 34 0 [(0, .ref 155), (1, .int (zI M 155 2))] [] w237M _
                              refine zs_aload_n (pc := 0) t34_0 rfl ?_
                              refine zs_iload_n (pc := 1) t34_1 rfl ?_
                              have w239 : zIv cLo cHi (zsI w237M 155 3 (zI M 155 2)) := zIv.put w237I (show (-2147483648) ≤ (zI M 155 2).toInt ∧ (zI M 155 2).toInt ≤ 2147483647 from zrg (zI M 155 2))
                              refine zs_putI (pc := 2) t34_2 (zk1 (w237s.k fk_zMc_155)) rfl ?_
                              refine zs_iconst (pc := 5) t34_5 (v := 0) (by decide) ?_
                              refine zs_iret (pc := 6) t34_6 mr34 (by decide) ?_
                              show zGo X l 5 0 0 28 139 [(6, .int (3 : Int32)), (5, .int (3 : Int32)), (4, .int (zpt M)), (3, .int (zI M 155 2)), (0, .ref 157), (1, .ref 155), (2, .ref 19)] [.int (0 : Int32)] (zsI w237M 155 3 (zI M 155 2)) _
                              refine zs_if_eqT (pc := 139) t28_139 li0 (by decide) ?_
                              refine zs_iconst (pc := 146) t28_146 (v := 0) (by decide) ?_
                              have w240 : (zI (zsI w237M 155 3 (zI M 155 2)) 155 2).toInt = ((zI w213M 155 2).toInt + 1) := (congrArg Int32.toInt ((zIoj (by decide)).trans ((w237F 155 2 rfl).trans zIs))).trans w235
                              exact zs_iret (pc := 147) t28_147 mr28 (by decide) (hQ _ _ w237s w239 (((((((((((((zFr.refl).put rfl).trans (w169F.mono rfl)).put rfl).put rfl).trans (w186F.mono rfl)).put rfl).put rfl).trans (w213F.mono rfl)).put rfl).put rfl).trans (w237F.mono rfl)).put rfl) (fun p hp => by obtain rfl : w11n = p := (by omega); exact Or.inl ⟨by decide, ((((pIt.p (by omega) (by omega)).trans (pB.y (pRd.y w170e (by omega) (by omega) (by omega)))).trans (pB.y (pRd.y w187e (by omega) (by omega) (by omega)))).trans (pB.y (pRd.y w214e (by omega) (by omega) (by omega)))).trans (pM.f (w238e.resolve_left (by omega)))⟩) (by decide) (by decide))
                            · skip
                              refine zs_iret (pc := 103) t48_103 mr48 (zfb01 (by omega)) ?_
                              show zGo X l 5 0 0 28 131 [(6, .int (3 : Int32)), (5, .int (3 : Int32)), (4, .int (zpt M)), (3, .int (zI M 155 2)), (0, .ref 157), (1, .ref 155), (2, .ref 19)] [.int w237v] w237M _
                              refine zs_if_neT (pc := 131) t28_131 rfl (by omega) ?_
                              refine zs_iconst (pc := 142) t28_142 (v := 1) (by decide) ?_
                              refine zs_goto (pc := 143) t28_143 ?_
                              have w241 : (zI w237M 155 2).toInt = ((zI w213M 155 2).toInt + 1) := (congrArg Int32.toInt ((w237F 155 2 rfl).trans zIs)).trans w235
                              exact zs_iret (pc := 147) t28_147 mr28 (by decide) (hQ _ _ w237s w237I ((((((((((((zFr.refl).put rfl).trans (w169F.mono rfl)).put rfl).put rfl).trans (w186F.mono rfl)).put rfl).put rfl).trans (w213F.mono rfl)).put rfl).put rfl).trans (w237F.mono rfl)) (fun p hp => by obtain rfl : w11n = p := (by omega); exact Or.inr ⟨by decide, w214E + 1, _, ((((pIt.p (by omega) (by omega)).trans (pB.y (pRd.y w170e (by omega) (by omega) (by omega)))).trans (pB.y (pRd.y w187e (by omega) (by omega) (by omega)))).trans (pB.y (pRd.y w214e (by omega) (by omega) (by omega)))).trans (pM.y w238e), by omega, by omega, by omega, w238s, w238w⟩) (by decide) (by decide))
                          · refine zs_icmp_eqF (pc := 5) t47_5 w229 li59 (by omega) ?_
                            refine zs_aload_n (pc := 8) t47_8 rfl ?_
                            refine zs_aload_n (pc := 9) t47_9 rfl ?_
                            refine zs_get (pc := 10) t47_10 (by decide) (zk1 (w213s.k fk_zMc_155)) (zfvi rfl ((zIo (by decide)).trans rfl)) ?_
                            refine zs_invV (pc := 13) (k := 155) (as' := [.int (zI w213M 155 2)]) (st := []) t47_13 mf34 rfl rfl (Or.inl ⟨by decide, (zk1 (w213s.k fk_zMc_155))⟩) ⟨by decide, by decide, Nat.le_of_ble_eq_true rfl, Nat.le_of_ble_eq_true rfl⟩ (zs_in (by decide) mf34 (Nat.le_of_ble_eq_true rfl) ?_) (fun _ _ q => q)
                            show zGo X l 0 0 0 34 0 [(0, .ref 155), (1, .int (zI w213M 155 2))] [] (zsI w213M 158 2 (zI w213M 155 4)) _
                            refine zs_aload_n (pc := 0) t34_0 rfl ?_
                            refine zs_iload_n (pc := 1) t34_1 rfl ?_
                            have w242 : zIv cLo cHi (zsI (zsI w213M 158 2 (zI w213M 155 4)) 155 3 (zI w213M 155 2)) := zIv.put w228 (show (-2147483648) ≤ (zI w213M 155 2).toInt ∧ (zI w213M 155 2).toInt ≤ 2147483647 from zrg (zI w213M 155 2))
                            refine zs_putI (pc := 2) t34_2 (zk1 (w213s.k fk_zMc_155)) rfl ?_
                            refine zs_iconst (pc := 5) t34_5 (v := 0) (by decide) ?_
                            refine zs_iret (pc := 6) t34_6 mr34 (by decide) ?_
                            show zGo X l 1 0 0 47 16 [(0, .ref 155), (1, .int (59 : Int32))] [.int (0 : Int32)] (zsI (zsI w213M 158 2 (zI w213M 155 4)) 155 3 (zI w213M 155 2)) _
                            refine zs_iret (pc := 16) t47_16 mr47 (by decide) ?_
                            show zGo X l 5 0 0 28 113 [(6, .int (2 : Int32)), (5, .int (3 : Int32)), (4, .int (zpt M)), (3, .int (zI M 155 2)), (0, .ref 157), (1, .ref 155), (2, .ref 19)] [.int (0 : Int32)] (zsI (zsI w213M 158 2 (zI w213M 155 4)) 155 3 (zI w213M 155 2)) _
                            refine zs_if_neF (pc := 113) t28_113 li0 (by decide) ?_
                            refine zs_iconst (pc := 116) t28_116 (v := 0) (by decide) ?_
                            have w243 : (zI (zsI (zsI w213M 158 2 (zI w213M 155 4)) 155 3 (zI w213M 155 2)) 155 2).toInt = (zI w213M 155 2).toInt := (congrArg Int32.toInt ((zIoj (by decide)).trans ((zIo (by decide)).trans rfl))).trans rfl
                            exact zs_iret (pc := 117) t28_117 mr28 (by decide) (hQ _ _ w213s w242 (((((((((((zFr.refl).put rfl).trans (w169F.mono rfl)).put rfl).put rfl).trans (w186F.mono rfl)).put rfl).put rfl).trans (w213F.mono rfl)).put rfl).put rfl) (fun p hp => by obtain rfl : w11n = p := (by omega); exact Or.inl ⟨by decide, (((pIt.p (by omega) (by omega)).trans (pB.y (pRd.y w170e (by omega) (by omega) (by omega)))).trans (pB.y (pRd.y w187e (by omega) (by omega) (by omega)))).trans (pB.f (pRd.n w214e (by omega)))⟩) (by decide) (by decide))
                  · refine zs_icmp_eqF (pc := 5) t47_5 w202 li44 (by omega) ?_
                    refine zs_aload_n (pc := 8) t47_8 rfl ?_
                    refine zs_aload_n (pc := 9) t47_9 rfl ?_
                    refine zs_get (pc := 10) t47_10 (by decide) (zk1 (w186s.k fk_zMc_155)) (zfvi rfl ((zIo (by decide)).trans rfl)) ?_
                    refine zs_invV (pc := 13) (k := 155) (as' := [.int (zI w186M 155 2)]) (st := []) t47_13 mf34 rfl rfl (Or.inl ⟨by decide, (zk1 (w186s.k fk_zMc_155))⟩) ⟨by decide, by decide, Nat.le_of_ble_eq_true rfl, Nat.le_of_ble_eq_true rfl⟩ (zs_in (by decide) mf34 (Nat.le_of_ble_eq_true rfl) ?_) (fun _ _ q => q)
                    show zGo X l 0 0 0 34 0 [(0, .ref 155), (1, .int (zI w186M 155 2))] [] (zsI w186M 158 1 (zI w186M 155 4)) _
                    refine zs_aload_n (pc := 0) t34_0 rfl ?_
                    refine zs_iload_n (pc := 1) t34_1 rfl ?_
                    have w244 : zIv cLo cHi (zsI (zsI w186M 158 1 (zI w186M 155 4)) 155 3 (zI w186M 155 2)) := zIv.put w201 (show (-2147483648) ≤ (zI w186M 155 2).toInt ∧ (zI w186M 155 2).toInt ≤ 2147483647 from zrg (zI w186M 155 2))
                    refine zs_putI (pc := 2) t34_2 (zk1 (w186s.k fk_zMc_155)) rfl ?_
                    refine zs_iconst (pc := 5) t34_5 (v := 0) (by decide) ?_
                    refine zs_iret (pc := 6) t34_6 mr34 (by decide) ?_
                    show zGo X l 1 0 0 47 16 [(0, .ref 155), (1, .int (44 : Int32))] [.int (0 : Int32)] (zsI (zsI w186M 158 1 (zI w186M 155 4)) 155 3 (zI w186M 155 2)) _
                    refine zs_iret (pc := 16) t47_16 mr47 (by decide) ?_
                    show zGo X l 5 0 0 28 113 [(6, .int (1 : Int32)), (5, .int (3 : Int32)), (4, .int (zpt M)), (3, .int (zI M 155 2)), (0, .ref 157), (1, .ref 155), (2, .ref 19)] [.int (0 : Int32)] (zsI (zsI w186M 158 1 (zI w186M 155 4)) 155 3 (zI w186M 155 2)) _
                    refine zs_if_neF (pc := 113) t28_113 li0 (by decide) ?_
                    refine zs_iconst (pc := 116) t28_116 (v := 0) (by decide) ?_
                    have w245 : (zI (zsI (zsI w186M 158 1 (zI w186M 155 4)) 155 3 (zI w186M 155 2)) 155 2).toInt = (zI w186M 155 2).toInt := (congrArg Int32.toInt ((zIoj (by decide)).trans ((zIo (by decide)).trans rfl))).trans rfl
                    exact zs_iret (pc := 117) t28_117 mr28 (by decide) (hQ _ _ w186s w244 ((((((((zFr.refl).put rfl).trans (w169F.mono rfl)).put rfl).put rfl).trans (w186F.mono rfl)).put rfl).put rfl) (fun p hp => by obtain rfl : w11n = p := (by omega); exact Or.inl ⟨by decide, ((pIt.p (by omega) (by omega)).trans (pB.y (pRd.y w170e (by omega) (by omega) (by omega)))).trans (pB.f (pRd.n w187e (by omega)))⟩) (by decide) (by decide))
          · refine zs_icmp_eqF (pc := 5) t47_5 w175 li44 (by omega) ?_
            refine zs_aload_n (pc := 8) t47_8 rfl ?_
            refine zs_aload_n (pc := 9) t47_9 rfl ?_
            refine zs_get (pc := 10) t47_10 (by decide) (zk1 (w169s.k fk_zMc_155)) (zfvi rfl ((zIo (by decide)).trans rfl)) ?_
            refine zs_invV (pc := 13) (k := 155) (as' := [.int (zI w169M 155 2)]) (st := []) t47_13 mf34 rfl rfl (Or.inl ⟨by decide, (zk1 (w169s.k fk_zMc_155))⟩) ⟨by decide, by decide, Nat.le_of_ble_eq_true rfl, Nat.le_of_ble_eq_true rfl⟩ (zs_in (by decide) mf34 (Nat.le_of_ble_eq_true rfl) ?_) (fun _ _ q => q)
            show zGo X l 0 0 0 34 0 [(0, .ref 155), (1, .int (zI w169M 155 2))] [] (zsI w169M 158 0 (zI w169M 155 4)) _
            refine zs_aload_n (pc := 0) t34_0 rfl ?_
            refine zs_iload_n (pc := 1) t34_1 rfl ?_
            have w246 : zIv cLo cHi (zsI (zsI w169M 158 0 (zI w169M 155 4)) 155 3 (zI w169M 155 2)) := zIv.put w174 (show (-2147483648) ≤ (zI w169M 155 2).toInt ∧ (zI w169M 155 2).toInt ≤ 2147483647 from zrg (zI w169M 155 2))
            refine zs_putI (pc := 2) t34_2 (zk1 (w169s.k fk_zMc_155)) rfl ?_
            refine zs_iconst (pc := 5) t34_5 (v := 0) (by decide) ?_
            refine zs_iret (pc := 6) t34_6 mr34 (by decide) ?_
            show zGo X l 1 0 0 47 16 [(0, .ref 155), (1, .int (44 : Int32))] [.int (0 : Int32)] (zsI (zsI w169M 158 0 (zI w169M 155 4)) 155 3 (zI w169M 155 2)) _
            refine zs_iret (pc := 16) t47_16 mr47 (by decide) ?_
            show zGo X l 5 0 0 28 113 [(6, .int (0 : Int32)), (5, .int (3 : Int32)), (4, .int (zpt M)), (3, .int (zI M 155 2)), (0, .ref 157), (1, .ref 155), (2, .ref 19)] [.int (0 : Int32)] (zsI (zsI w169M 158 0 (zI w169M 155 4)) 155 3 (zI w169M 155 2)) _
            refine zs_if_neF (pc := 113) t28_113 li0 (by decide) ?_
            refine zs_iconst (pc := 116) t28_116 (v := 0) (by decide) ?_
            have w247 : (zI (zsI (zsI w169M 158 0 (zI w169M 155 4)) 155 3 (zI w169M 155 2)) 155 2).toInt = (zI w169M 155 2).toInt := (congrArg Int32.toInt ((zIoj (by decide)).trans ((zIo (by decide)).trans rfl))).trans rfl
            exact zs_iret (pc := 117) t28_117 mr28 (by decide) (hQ _ _ w169s w246 (((((zFr.refl).put rfl).trans (w169F.mono rfl)).put rfl).put rfl) (fun p hp => by obtain rfl : w11n = p := (by omega); exact Or.inl ⟨by decide, (pIt.p (by omega) (by omega)).trans (pB.f (pRd.n w170e (by omega)))⟩) (by decide) (by decide))
      · refine zs_icmp_ltF (pc := 72) t33_72 rfl li12 (by omega) ?_
        refine zs_iconst (pc := 75) t33_75 (v := 1) (by decide) ?_
        refine zs_goto (pc := 76) t33_76 ?_
        refine zs_iret (pc := 80) t33_80 mr33 (by decide) ?_
        show zGo X l 5 0 0 28 29 [(5, .int (3 : Int32)), (4, .int (zpt M)), (3, .int (zI M 155 2)), (0, .ref 157), (1, .ref 155), (2, .ref 19)] [.int (1 : Int32)] (zsI M 155 2 w19v) _
        refine zs_if_eqF (pc := 29) t28_29 li1 (by decide) ?_
        refine zs_aload_n (pc := 32) t28_32 rfl ?_
        refine zs_iload_n (pc := 33) t28_33 rfl ?_
        refine zs_invV (pc := 34) (k := 155) (as' := [.int (zI M 155 2)]) (st := []) t28_34 mf34 rfl rfl (Or.inl ⟨by decide, (zk1 (hs.k fk_zMc_155))⟩) ⟨by decide, by decide, Nat.le_of_ble_eq_true rfl, Nat.le_of_ble_eq_true rfl⟩ (zs_in (by decide) mf34 (Nat.le_of_ble_eq_true rfl) ?_) (fun _ _ q => q)
        show zGo X l 0 0 0 34 0 [(0, .ref 155), (1, .int (zI M 155 2))] [] (zsI M 155 2 w19v) _
        refine zs_aload_n (pc := 0) t34_0 rfl ?_
        refine zs_iload_n (pc := 1) t34_1 rfl ?_
        have w248 : zIv cLo cHi (zsI (zsI M 155 2 w19v) 155 3 (zI M 155 2)) := zIv.put w20 (show (-2147483648) ≤ (zI M 155 2).toInt ∧ (zI M 155 2).toInt ≤ 2147483647 from zrg (zI M 155 2))
        refine zs_putI (pc := 2) t34_2 (zk1 (hs.k fk_zMc_155)) rfl ?_
        refine zs_iconst (pc := 5) t34_5 (v := 0) (by decide) ?_
        refine zs_iret (pc := 6) t34_6 mr34 (by decide) ?_
        show zGo X l 5 0 0 28 37 [(5, .int (3 : Int32)), (4, .int (zpt M)), (3, .int (zI M 155 2)), (0, .ref 157), (1, .ref 155), (2, .ref 19)] [.int (0 : Int32)] (zsI (zsI M 155 2 w19v) 155 3 (zI M 155 2)) _
        have w249 : (zI (zsI (zsI M 155 2 w19v) 155 3 (zI M 155 2)) 155 2).toInt = ((zI M 155 2).toInt + 1) := (congrArg Int32.toInt ((zIoj (by decide)).trans zIs)).trans w19
        exact zs_iret (pc := 37) t28_37 mr28 (by decide) (hQ _ _ hs w248 (((zFr.refl).put rfl).put rfl) (fun p hp => by obtain rfl : w11n = p := (by omega); exact Or.inl ⟨by decide, by first | exact pIt.p0 (by omega) (by omega) | exact pIt.no (by omega)⟩) (by decide) (by decide))
    by_cases w250 : (g w11n) = 113
    · refine zs_tswI (pc := 1) t32_1 ((w12 : (zpt M).toInt = (g w11n)).trans w250) (by decide) rfl (pc2 := 86) rfl ?_
      refine zs_iconst (pc := 86) t32_86 (v := 2) (by decide) ?_
      refine zs_iret (pc := 87) t32_87 mr32 (by decide) ?_
      show zGo X l 5 0 0 28 16 [(4, .int (zpt M)), (3, .int (zI M 155 2)), (0, .ref 157), (1, .ref 155), (2, .ref 19)] [.int (2 : Int32)] (zsI M 155 2 w19v) _
      refine zs_istore (pc := 16) t28_16 (ls' := [(5, .int (2 : Int32)), (4, .int (zpt M)), (3, .int (zI M 155 2)), (0, .ref 157), (1, .ref 155), (2, .ref 19)]) (zml mf28 (by decide)) rfl ?_
      refine zs_iload (pc := 18) t28_18 rfl ?_
      refine zs_if_eqF (pc := 20) t28_20 li2 (by decide) ?_
      refine zs_iload (pc := 23) t28_23 rfl ?_
      refine zs_aload_n (pc := 25) t28_25 rfl ?_
      refine zs_invS (pc := 26) (as := [.int (zpt M), .ref 19]) (st := []) t28_26 (by decide) mf33 rfl rfl ⟨by decide, by decide, Nat.le_of_ble_eq_true rfl, Nat.le_of_ble_eq_true rfl⟩ (zs_in (by decide) mf33 (Nat.le_of_ble_eq_true rfl) ?_) (fun _ _ q => q)
      show zGo X l 0 0 0 33 0 [(0, .int (zpt M)), (1, .ref 19)] [] (zsI M 155 2 w19v) _
      refine zs_iload_n (pc := 0) t33_0 rfl ?_
      refine zs_lsw (pc := 1) t33_1 (off := 80) w12 (by unfold zlsel; repeat (first | rfl | (rw [if_neg (by omega)]; unfold zlsel))) (pc2 := 81) rfl ?_
      refine zs_iconst (pc := 81) t33_81 (v := 0) (by decide) ?_
      refine zs_iret (pc := 82) t33_82 mr33 (by decide) ?_
      show zGo X l 5 0 0 28 29 [(5, .int (2 : Int32)), (4, .int (zpt M)), (3, .int (zI M 155 2)), (0, .ref 157), (1, .ref 155), (2, .ref 19)] [.int (0 : Int32)] (zsI M 155 2 w19v) _
      refine zs_if_eqT (pc := 29) t28_29 li0 (by decide) ?_
      refine zs_iconst (pc := 38) t28_38 (v := 0) (by decide) ?_
      refine zs_istore (pc := 39) t28_39 (ls' := [(6, .int (0 : Int32)), (5, .int (2 : Int32)), (4, .int (zpt M)), (3, .int (zI M 155 2)), (0, .ref 157), (1, .ref 155), (2, .ref 19)]) (zml mf28 (by decide)) rfl ?_
      refine zs_iload (pc := 41) t28_41 rfl ?_
      refine zs_iload (pc := 43) t28_43 rfl ?_
      refine zs_icmp_geF (pc := 45) t28_45 li0 li2 (by decide) ?_
      refine zs_aload_n (pc := 48) t28_48 rfl ?_
      have w251 : (zI (zsI M 155 2 w19v) 155 2).toInt = ((zI M 155 2).toInt + 1) := (congrArg Int32.toInt zIs).trans w19
      have w252 : (zI (zsI M 155 2 w19v) 155 2).toInt = ((zI M 155 2).toInt + 1) := (congrArg Int32.toInt zIs).trans w19
      have w253 : (zI (zsI M 155 2 w19v) 155 1).toInt = (zI M 155 1).toInt := (congrArg Int32.toInt ((zIoj (by decide)).trans rfl)).trans rfl
      refine zs_invV (pc := 49) (k := 155) (as' := []) (st := []) t28_49 mf35 rfl rfl (Or.inl ⟨by decide, (zk1 (hs.k fk_zMc_155))⟩) ⟨by decide, by decide, Nat.le_of_ble_eq_true rfl, Nat.le_of_ble_eq_true rfl⟩ (X35_155 hs w20 (by omega) (by omega) (zTa.fr x1 (zEq.put rfl)) ?_) (fun _ _ q => q)
      intro w254M w254v w254s w254I w254F w254x0 w254a w254b
      show zGo X l 5 0 0 28 52 [(6, .int (0 : Int32)), (5, .int (2 : Int32)), (4, .int (zpt M)), (3, .int (zI M 155 2)), (0, .ref 157), (1, .ref 155), (2, .ref 19)] [.int w254v] w254M _
      rcases w254x0 (w11n + 1) (by omega) with ⟨w255v, w255e⟩ | ⟨w255v, w255E, w255x, w255e, w255_3, w255_4, w255_5, w255_6, w255_7, w255_8⟩
      · skip
        refine zs_if_neF (pc := 52) t28_52 rfl (by omega) ?_
        refine zs_iconst (pc := 55) t28_55 (v := 0) (by decide) ?_
        have w256 := zrg (zI w254M 155 2)
        have w257 : (zI w254M 155 2).toInt = (zI w254M 155 2).toInt := (congrArg Int32.toInt rfl).trans rfl
        exact zs_iret (pc := 56) t28_56 mr28 (by decide) (hQ _ _ w254s w254I (((zFr.refl).put rfl).trans (w254F.mono rfl)) (fun p hp => by obtain rfl : w11n = p := (by omega); exact Or.inl ⟨by decide, (pIt.q (by omega)).trans (pB.f (pRd.f w255e))⟩) (by decide) (by decide))
      · skip
        subst w255_4
        refine zs_if_neT (pc := 52) t28_52 rfl (by omega) ?_
        refine zs_aload_n (pc := 57) t28_57 rfl ?_
        refine zs_iload (pc := 58) t28_58 rfl ?_
        refine zs_iload (pc := 60) t28_60 rfl ?_
        refine zs_aload_n (pc := 62) t28_62 rfl ?_
        refine zs_invV (pc := 63) (k := 155) (as' := []) (st := [.int (0 : Int32), .int (zpt M), .ref 157]) t28_63 mf37 rfl rfl (Or.inl ⟨by decide, (zk1 (w254s.k fk_zMc_155))⟩) ⟨by decide, by decide, Nat.le_of_ble_eq_true rfl, Nat.le_of_ble_eq_true rfl⟩ (zs_in (by decide) mf37 (Nat.le_of_ble_eq_true rfl) ?_) (fun _ _ q => q)
        show zGo X l 0 0 0 37 0 [(0, .ref 155)] [] w254M _
        refine zs_aload_n (pc := 0) t37_0 rfl ?_
        have w258 := ib155_4 w254I
        refine zs_get (pc := 1) t37_1 (by decide) (zk1 (w254s.k fk_zMc_155)) (zfvi rfl rfl) ?_
        refine zs_iret (pc := 4) t37_4 mr37 rfl ?_
        show zGo X l 5 0 0 28 66 [(6, .int (0 : Int32)), (5, .int (2 : Int32)), (4, .int (zpt M)), (3, .int (zI M 155 2)), (0, .ref 157), (1, .ref 155), (2, .ref 19)] [.int (zI w254M 155 4), .int (0 : Int32), .int (zpt M), .ref 157] w254M _
        refine zs_aload_n (pc := 66) t28_66 rfl ?_
        refine zs_invV (pc := 67) (k := 157) (as' := [.int (zpt M), .int (0 : Int32), .int (zI w254M 155 4), .ref 19]) (st := []) t28_67 mf38 rfl rfl (Or.inl ⟨by decide, (zk1 (w254s.k fk_zMc_157))⟩) ⟨by decide, by decide, Nat.le_of_ble_eq_true rfl, Nat.le_of_ble_eq_true rfl⟩ (zs_in (by decide) mf38 (Nat.le_of_ble_eq_true rfl) ?_) (fun _ _ q => q)
        show zGo X l 2 0 0 38 0 [(0, .ref 157), (1, .int (zpt M)), (2, .int (0 : Int32)), (3, .int (zI w254M 155 4)), (4, .ref 19)] [] w254M _
        refine zs_iload_n (pc := 0) t38_0 rfl ?_
        refine zs_lsw (pc := 1) t38_1 (off := 122) w12 (by unfold zlsel; repeat (first | rfl | (rw [if_neg (by omega)]; unfold zlsel))) (pc2 := 123) rfl ?_
        refine zs_iload_n (pc := 123) t38_123 rfl ?_
        refine zs_invS (pc := 124) (as := [.int (zpt M)]) (st := []) t38_124 (by decide) mf45 rfl rfl ⟨by decide, by decide, Nat.le_of_ble_eq_true rfl, Nat.le_of_ble_eq_true rfl⟩ (zs_in (by decide) mf45 (Nat.le_of_ble_eq_true rfl) ?_) (fun _ _ q => q)
        show zGo X l 0 0 0 45 0 [(0, .int (zpt M))] [] w254M _
        refine zs_iload_n (pc := 0) t45_0 rfl ?_
        refine zs_lsw (pc := 1) t45_1 (off := 49) ((w12 : (zpt M).toInt = (g w11n)).trans (by omega)) rfl (pc2 := 50) rfl ?_
        refine zs_bipush (pc := 50) t45_50 (v := 7) (by decide) ?_
        refine zs_iret (pc := 52) t45_52 mr45 (by decide) ?_
        show zGo X l 2 0 0 38 127 [(0, .ref 157), (1, .int (zpt M)), (2, .int (0 : Int32)), (3, .int (zI w254M 155 4)), (4, .ref 19)] [.int (7 : Int32)] w254M _
        refine zs_iload_n (pc := 127) t38_127 rfl ?_
        refine zs_iadd (pc := 128) t38_128 (c := 7) (by decide) ?_
        refine zs_iload_n (pc := 129) t38_129 rfl ?_
        refine zs_invS (pc := 130) (as := [.int (7 : Int32), .int (zI w254M 155 4)]) (st := []) t38_130 (by decide) mf44 rfl rfl ⟨by decide, by decide, Nat.le_of_ble_eq_true rfl, Nat.le_of_ble_eq_true rfl⟩ (zs_in (by decide) mf44 (Nat.le_of_ble_eq_true rfl) ?_) (fun _ _ q => q)
        show zGo X l 1 0 0 44 0 [(0, .int (7 : Int32)), (1, .int (zI w254M 155 4))] [] w254M _
        refine zs_iload_n (pc := 0) t44_0 rfl ?_
        refine zs_if_ltF (pc := 1) t44_1 li7 (by decide) ?_
        refine zs_iload_n (pc := 4) t44_4 rfl ?_
        refine zs_bipush (pc := 5) t44_5 (v := 9) (by decide) ?_
        refine zs_icmp_geF (pc := 7) t44_7 li7 li9 (by decide) ?_
        refine zs_iload_n (pc := 10) t44_10 rfl ?_
        refine zs_getstatic (pc := 11) t44_11 (v := .ref 2) rfl ?_
        refine zs_iload_n (pc := 14) t44_14 rfl ?_
        have w259 := zrg (zI M 2 7)
        have w260 : (zI M 2 7).toInt = 1 := by rw [x6 2 7 (by decide)]; decide
        refine zs_iald (pc := 15) t44_15 (j := 7) (by decide) (zk1 (w254s.k fk_zMc_2)) li7 (zk2 (w254s.k fk_zMc_2) (by decide)) ((w254F 2 7 rfl).trans ((zIo (by decide)).trans rfl)) ?_
        refine zs_getstatic (pc := 16) t44_16 (v := .ref 3) rfl ?_
        refine zs_iload_n (pc := 19) t44_19 rfl ?_
        have w261 := zrg (zI M 3 7)
        have w262 : (zI M 3 7).toInt = 9999 := by rw [x6 3 7 (by decide)]; decide
        refine zs_iald (pc := 20) t44_20 (j := 7) (by decide) (zk1 (w254s.k fk_zMc_3)) li7 (zk2 (w254s.k fk_zMc_3) (by decide)) ((w254F 3 7 rfl).trans ((zIo (by decide)).trans rfl)) ?_
        refine zs_invS (pc := 21) (as := [.int (zI w254M 155 4), .int (zI M 2 7), .int (zI M 3 7)]) (st := []) t44_21 (by decide) mf39 rfl rfl ⟨by decide, by decide, Nat.le_of_ble_eq_true rfl, Nat.le_of_ble_eq_true rfl⟩ (zs_in (by decide) mf39 (Nat.le_of_ble_eq_true rfl) ?_) (fun _ _ q => q)
        show zGo X l 0 0 0 39 0 [(0, .int (zI w254M 155 4)), (1, .int (zI M 2 7)), (2, .int (zI M 3 7))] [] w254M _
        refine zs_iload_n (pc := 0) t39_0 rfl ?_
        refine zs_iload_n (pc := 1) t39_1 rfl ?_
        by_cases w263 : (zI w254M 155 4).toInt < (zI M 2 7).toInt
        · refine zs_icmp_ltT (pc := 2) t39_2 rfl rfl (by omega) ?_
          refine zs_iconst (pc := 14) t39_14 (v := 0) (by decide) ?_
          refine zs_iret (pc := 15) t39_15 mr39 (by decide) ?_
          show zGo X l 1 0 0 44 24 [(0, .int (7 : Int32)), (1, .int (zI w254M 155 4))] [.int (0 : Int32)] w254M _
          refine zs_if_eqT (pc := 24) t44_24 li0 (by decide) ?_
          refine zs_iconst (pc := 31) t44_31 (v := 0) (by decide) ?_
          refine zs_iret (pc := 32) t44_32 mr44 (by decide) ?_
          show zGo X l 2 0 0 38 133 [(0, .ref 157), (1, .int (zpt M)), (2, .int (0 : Int32)), (3, .int (zI w254M 155 4)), (4, .ref 19)] [.int (0 : Int32)] w254M _
          refine zs_iret (pc := 133) t38_133 mr38 (by decide) ?_
          show zGo X l 5 0 0 28 70 [(6, .int (0 : Int32)), (5, .int (2 : Int32)), (4, .int (zpt M)), (3, .int (zI M 155 2)), (0, .ref 157), (1, .ref 155), (2, .ref 19)] [.int (0 : Int32)] w254M _
          refine zs_if_neF (pc := 70) t28_70 li0 (by decide) ?_
          refine zs_aload_n (pc := 73) t28_73 rfl ?_
          refine zs_aload_n (pc := 74) t28_74 rfl ?_
          refine zs_invV (pc := 75) (k := 155) (as' := []) (st := [.ref 155]) t28_75 mf46 rfl rfl (Or.inl ⟨by decide, (zk1 (w254s.k fk_zMc_155))⟩) ⟨by decide, by decide, Nat.le_of_ble_eq_true rfl, Nat.le_of_ble_eq_true rfl⟩ (zs_in (by decide) mf46 (Nat.le_of_ble_eq_true rfl) ?_) (fun _ _ q => q)
          show zGo X l 0 0 0 46 0 [(0, .ref 155)] [] w254M _
          refine zs_aload_n (pc := 0) t46_0 rfl ?_
          have w264 := zrg (zI w254M 155 5)
          refine zs_get (pc := 1) t46_1 (by decide) (zk1 (w254s.k fk_zMc_155)) (zfvi rfl rfl) ?_
          refine zs_iret (pc := 4) t46_4 mr46 rfl ?_
          show zGo X l 5 0 0 28 78 [(6, .int (0 : Int32)), (5, .int (2 : Int32)), (4, .int (zpt M)), (3, .int (zI M 155 2)), (0, .ref 157), (1, .ref 155), (2, .ref 19)] [.int (zI w254M 155 5), .ref 155] w254M _
          refine zs_invV (pc := 78) (k := 155) (as' := [.int (zI w254M 155 5)]) (st := []) t28_78 mf34 rfl rfl (Or.inl ⟨by decide, (zk1 (w254s.k fk_zMc_155))⟩) ⟨by decide, by decide, Nat.le_of_ble_eq_true rfl, Nat.le_of_ble_eq_true rfl⟩ (zs_in (by decide) mf34 (Nat.le_of_ble_eq_true rfl) ?_) (fun _ _ q => q)
          show zGo X l 0 0 0 34 0 [(0, .ref 155), (1, .int (zI w254M 155 5))] [] w254M _
          refine zs_aload_n (pc := 0) t34_0 rfl ?_
          refine zs_iload_n (pc := 1) t34_1 rfl ?_
          have w265 : zIv cLo cHi (zsI w254M 155 3 (zI w254M 155 5)) := zIv.put w254I (show (-2147483648) ≤ (zI w254M 155 5).toInt ∧ (zI w254M 155 5).toInt ≤ 2147483647 from zrg (zI w254M 155 5))
          refine zs_putI (pc := 2) t34_2 (zk1 (w254s.k fk_zMc_155)) rfl ?_
          refine zs_iconst (pc := 5) t34_5 (v := 0) (by decide) ?_
          refine zs_iret (pc := 6) t34_6 mr34 (by decide) ?_
          show zGo X l 5 0 0 28 81 [(6, .int (0 : Int32)), (5, .int (2 : Int32)), (4, .int (zpt M)), (3, .int (zI M 155 2)), (0, .ref 157), (1, .ref 155), (2, .ref 19)] [.int (0 : Int32)] (zsI w254M 155 3 (zI w254M 155 5)) _
          have w266 := zrg (zI w254M 155 2)
          have w267 : (zI (zsI w254M 155 3 (zI w254M 155 5)) 155 2).toInt = (zI w254M 155 2).toInt := (congrArg Int32.toInt ((zIoj (by decide)).trans rfl)).trans rfl
          exact zs_iret (pc := 81) t28_81 mr28 (by decide) (hQ _ _ w254s w265 ((((zFr.refl).put rfl).trans (w254F.mono rfl)).put rfl) (fun p hp => by obtain rfl : w11n = p := (by omega); exact Or.inl ⟨by decide, (pIt.q (by omega)).trans (pB.f (pRd.n w255e (by omega)))⟩) (by decide) (by decide))
        · refine zs_icmp_ltF (pc := 2) t39_2 rfl rfl (by omega) ?_
          refine zs_iload_n (pc := 5) t39_5 rfl ?_
          refine zs_iload_n (pc := 6) t39_6 rfl ?_
          refine zs_icmp_gtF (pc := 7) t39_7 rfl rfl (by omega) ?_
          refine zs_iconst (pc := 10) t39_10 (v := 1) (by decide) ?_
          refine zs_goto (pc := 11) t39_11 ?_
          refine zs_iret (pc := 15) t39_15 mr39 (by decide) ?_
          show zGo X l 1 0 0 44 24 [(0, .int (7 : Int32)), (1, .int (zI w254M 155 4))] [.int (1 : Int32)] w254M _
          refine zs_if_eqF (pc := 24) t44_24 li1 (by decide) ?_
          refine zs_iconst (pc := 27) t44_27 (v := 1) (by decide) ?_
          refine zs_goto (pc := 28) t44_28 ?_
          refine zs_iret (pc := 32) t44_32 mr44 (by decide) ?_
          show zGo X l 2 0 0 38 133 [(0, .ref 157), (1, .int (zpt M)), (2, .int (0 : Int32)), (3, .int (zI w254M 155 4)), (4, .ref 19)] [.int (1 : Int32)] w254M _
          refine zs_iret (pc := 133) t38_133 mr38 (by decide) ?_
          show zGo X l 5 0 0 28 70 [(6, .int (0 : Int32)), (5, .int (2 : Int32)), (4, .int (zpt M)), (3, .int (zI M 155 2)), (0, .ref 157), (1, .ref 155), (2, .ref 19)] [.int (1 : Int32)] w254M _
          refine zs_if_neT (pc := 70) t28_70 li1 (by decide) ?_
          refine zs_aload_n (pc := 82) t28_82 rfl ?_
          refine zs_get (pc := 83) t28_83 (by decide) (zk1 (w254s.k fk_zMc_157)) (w254s.p rfl fv_zMc_157_0) ?_
          refine zs_iload (pc := 86) t28_86 rfl ?_
          refine zs_aload_n (pc := 88) t28_88 rfl ?_
          refine zs_invV (pc := 89) (k := 155) (as' := []) (st := [.int (0 : Int32), .ref 158]) t28_89 mf37 rfl rfl (Or.inl ⟨by decide, (zk1 (w254s.k fk_zMc_155))⟩) ⟨by decide, by decide, Nat.le_of_ble_eq_true rfl, Nat.le_of_ble_eq_true rfl⟩ (zs_in (by decide) mf37 (Nat.le_of_ble_eq_true rfl) ?_) (fun _ _ q => q)
          show zGo X l 0 0 0 37 0 [(0, .ref 155)] [] w254M _
          refine zs_aload_n (pc := 0) t37_0 rfl ?_
          refine zs_get (pc := 1) t37_1 (by decide) (zk1 (w254s.k fk_zMc_155)) (zfvi rfl rfl) ?_
          refine zs_iret (pc := 4) t37_4 mr37 rfl ?_
          show zGo X l 5 0 0 28 92 [(6, .int (0 : Int32)), (5, .int (2 : Int32)), (4, .int (zpt M)), (3, .int (zI M 155 2)), (0, .ref 157), (1, .ref 155), (2, .ref 19)] [.int (zI w254M 155 4), .int (0 : Int32), .ref 158] w254M _
          have w268 : zIv cLo cHi (zsI w254M 158 0 (zI w254M 155 4)) := zIv.put w254I (show (-300000) ≤ (zI w254M 155 4).toInt ∧ (zI w254M 155 4).toInt ≤ 300000 from ⟨by omega, by omega⟩)
          refine zs_iast (pc := 92) t28_92 (j := 0) (by decide) (zk1 (w254s.k fk_zMc_158)) li0 (zk2 (w254s.k fk_zMc_158) (by decide)) ?_
          refine zs_aload_n (pc := 93) t28_93 rfl ?_
          refine zs_iload (pc := 94) t28_94 rfl ?_
          refine zs_iconst (pc := 96) t28_96 (v := 1) (by decide) ?_
          refine zs_iadd (pc := 97) t28_97 (c := 1) (by decide) ?_
          refine zs_iload (pc := 98) t28_98 rfl ?_
          refine zs_icmp_geF (pc := 100) t28_100 li1 li2 (by decide) ?_
          refine zs_bipush (pc := 103) t28_103 (v := 44) (by decide) ?_
          refine zs_goto (pc := 105) t28_105 ?_
          refine zs_invV (pc := 110) (k := 155) (as' := [.int (44 : Int32)]) (st := []) t28_110 mf47 rfl rfl (Or.inl ⟨by decide, (zk1 (w254s.k fk_zMc_155))⟩) ⟨by decide, by decide, Nat.le_of_ble_eq_true rfl, Nat.le_of_ble_eq_true rfl⟩ (zs_in (by decide) mf47 (Nat.le_of_ble_eq_true rfl) ?_) (fun _ _ q => q)
          show zGo X l 1 0 0 47 0 [(0, .ref 155), (1, .int (44 : Int32))] [] (zsI w254M 158 0 (zI w254M 155 4)) _
          refine zs_aload_n (pc := 0) t47_0 rfl ?_
          refine zs_invV (pc := 1) (k := 155) (as' := []) (st := []) t47_1 mf31 rfl rfl (Or.inl ⟨by decide, (zk1 (w254s.k fk_zMc_155))⟩) ⟨by decide, by decide, Nat.le_of_ble_eq_true rfl, Nat.le_of_ble_eq_true rfl⟩ (P31 w254s w268 ?_) (fun _ _ q => q)
          have w270 := zrg (zI w254M 155 2)
          have w271 : (zI (zsI w254M 158 0 (zI w254M 155 4)) 155 2).toInt = (zI w254M 155 2).toInt := (congrArg Int32.toInt ((zIo (by decide)).trans rfl)).trans rfl
          have w272 : (zI (zsI w254M 158 0 (zI w254M 155 4)) 155 1).toInt = (zI M 155 1).toInt := (congrArg Int32.toInt ((zIo (by decide)).trans ((w254F 155 1 rfl).trans ((zIoj (by decide)).trans rfl)))).trans rfl
          have w269 : (zpt (zsI w254M 158 0 (zI w254M 155 4))).toInt = g w255E := zpt.tr (zTa.fr x1 (zEq.tr (zEq.tr (zEq.put rfl) (zFr.eq w254F rfl)) (zEq.put rfl))) (by omega)
          have w273 := zTa.rg (M := (zsI w254M 158 0 (zI w254M 155 4))) (zTa.fr x1 (zEq.tr (zEq.tr (zEq.put rfl) (zFr.eq w254F rfl)) (zEq.put rfl))) w255E
          show zGo X l 1 0 0 47 4 [(0, .ref 155), (1, .int (44 : Int32))] [.int (zpt (zsI w254M 158 0 (zI w254M 155 4)))] (zsI w254M 158 0 (zI w254M 155 4)) _
          refine zs_iload_n (pc := 4) t47_4 rfl ?_
          by_cases w274 : (g w255E) = 44
          · refine zs_icmp_eqT (pc := 5) t47_5 w269 li44 (by omega) ?_
            refine zs_aload_n (pc := 17) t47_17 rfl ?_
            refine zs_dup (pc := 18) t47_18 rfl ?_
            refine zs_get (pc := 19) t47_19 (by decide) (zk1 (w254s.k fk_zMc_155)) (zfvi rfl ((zIo (by decide)).trans rfl)) ?_
            refine zs_iconst (pc := 22) t47_22 (v := 1) (by decide) ?_
            obtain ⟨w275v, w275e, w275⟩ := ziadd (a := (zI w254M 155 2)) (b := (1 : Int32)) rfl li1 (by omega) (by omega)
            refine zs_iadd (pc := 23) t47_23 (c := w275v) w275e ?_
            have w276 : zIv cLo cHi (zsI (zsI w254M 158 0 (zI w254M 155 4)) 155 2 w275v) := zIv.put w268 (show (-2147483648) ≤ w275v.toInt ∧ w275v.toInt ≤ 2147483647 from zrg w275v)
            refine zs_putI (pc := 24) t47_24 (zk1 (w254s.k fk_zMc_155)) rfl ?_
            refine zs_iconst (pc := 27) t47_27 (v := 1) (by decide) ?_
            refine zs_iret (pc := 28) t47_28 mr47 (by decide) ?_
            show zGo X l 5 0 0 28 113 [(6, .int (0 : Int32)), (5, .int (2 : Int32)), (4, .int (zpt M)), (3, .int (zI M 155 2)), (0, .ref 157), (1, .ref 155), (2, .ref 19)] [.int (1 : Int32)] (zsI (zsI w254M 158 0 (zI w254M 155 4)) 155 2 w275v) _
            refine zs_if_neT (pc := 113) t28_113 li1 (by decide) ?_
            refine zs_iinc (pc := 118) t28_118 (ls' := [(6, .int (1 : Int32)), (5, .int (2 : Int32)), (4, .int (zpt M)), (3, .int (zI M 155 2)), (0, .ref 157), (1, .ref 155), (2, .ref 19)]) (zml mf28 (by decide)) rfl (c := 1) (by decide) rfl ?_
            refine zs_goto (pc := 121) t28_121 ?_
            refine zs_iload (pc := 41) t28_41 rfl ?_
            refine zs_iload (pc := 43) t28_43 rfl ?_
            refine zs_icmp_geF (pc := 45) t28_45 li1 li2 (by decide) ?_
            refine zs_aload_n (pc := 48) t28_48 rfl ?_
            have w277 : (zI (zsI (zsI w254M 158 0 (zI w254M 155 4)) 155 2 w275v) 155 2).toInt = ((zI w254M 155 2).toInt + 1) := (congrArg Int32.toInt zIs).trans w275
            have w278 : (zI (zsI (zsI w254M 158 0 (zI w254M 155 4)) 155 2 w275v) 155 2).toInt = ((zI w254M 155 2).toInt + 1) := (congrArg Int32.toInt zIs).trans w275
            have w279 : (zI (zsI (zsI w254M 158 0 (zI w254M 155 4)) 155 2 w275v) 155 1).toInt = (zI M 155 1).toInt := (congrArg Int32.toInt ((zIoj (by decide)).trans ((zIo (by decide)).trans ((w254F 155 1 rfl).trans ((zIoj (by decide)).trans rfl))))).trans rfl
            refine zs_invV (pc := 49) (k := 155) (as' := []) (st := []) t28_49 mf35 rfl rfl (Or.inl ⟨by decide, (zk1 (w254s.k fk_zMc_155))⟩) ⟨by decide, by decide, Nat.le_of_ble_eq_true rfl, Nat.le_of_ble_eq_true rfl⟩ (X35_155 w254s w276 (by omega) (by omega) (zTa.fr x1 (zEq.tr (zEq.tr (zEq.tr (zEq.put rfl) (zFr.eq w254F rfl)) (zEq.put rfl)) (zEq.put rfl))) ?_) (fun _ _ q => q)
            intro w280M w280v w280s w280I w280F w280x0 w280a w280b
            show zGo X l 5 0 0 28 52 [(6, .int (1 : Int32)), (5, .int (2 : Int32)), (4, .int (zpt M)), (3, .int (zI M 155 2)), (0, .ref 157), (1, .ref 155), (2, .ref 19)] [.int w280v] w280M _
            rcases w280x0 (w255E + 1) (by omega) with ⟨w281v, w281e⟩ | ⟨w281v, w281E, w281x, w281e, w281_3, w281_4, w281_5, w281_6, w281_7, w281_8⟩
            · skip
              refine zs_if_neF (pc := 52) t28_52 rfl (by omega) ?_
              refine zs_iconst (pc := 55) t28_55 (v := 0) (by decide) ?_
              have w282 := zrg (zI w280M 155 2)
              have w283 : (zI w280M 155 2).toInt = (zI w280M 155 2).toInt := (congrArg Int32.toInt rfl).trans rfl
              exact zs_iret (pc := 56) t28_56 mr28 (by decide) (hQ _ _ w280s w280I ((((((zFr.refl).put rfl).trans (w254F.mono rfl)).put rfl).put rfl).trans (w280F.mono rfl)) (fun p hp => by obtain rfl : w11n = p := (by omega); exact Or.inl ⟨by decide, ((pIt.q (by omega)).trans (pB.y (pRd.y w255e (by omega) (by omega) (by omega)))).trans (pB.f (pRd.f w281e))⟩) (by decide) (by decide))
            · skip
              subst w281_4
              refine zs_if_neT (pc := 52) t28_52 rfl (by omega) ?_
              refine zs_aload_n (pc := 57) t28_57 rfl ?_
              refine zs_iload (pc := 58) t28_58 rfl ?_
              refine zs_iload (pc := 60) t28_60 rfl ?_
              refine zs_aload_n (pc := 62) t28_62 rfl ?_
              refine zs_invV (pc := 63) (k := 155) (as' := []) (st := [.int (1 : Int32), .int (zpt M), .ref 157]) t28_63 mf37 rfl rfl (Or.inl ⟨by decide, (zk1 (w280s.k fk_zMc_155))⟩) ⟨by decide, by decide, Nat.le_of_ble_eq_true rfl, Nat.le_of_ble_eq_true rfl⟩ (zs_in (by decide) mf37 (Nat.le_of_ble_eq_true rfl) ?_) (fun _ _ q => q)
              show zGo X l 0 0 0 37 0 [(0, .ref 155)] [] w280M _
              refine zs_aload_n (pc := 0) t37_0 rfl ?_
              have w284 := ib155_4 w280I
              refine zs_get (pc := 1) t37_1 (by decide) (zk1 (w280s.k fk_zMc_155)) (zfvi rfl rfl) ?_
              refine zs_iret (pc := 4) t37_4 mr37 rfl ?_
              show zGo X l 5 0 0 28 66 [(6, .int (1 : Int32)), (5, .int (2 : Int32)), (4, .int (zpt M)), (3, .int (zI M 155 2)), (0, .ref 157), (1, .ref 155), (2, .ref 19)] [.int (zI w280M 155 4), .int (1 : Int32), .int (zpt M), .ref 157] w280M _
              refine zs_aload_n (pc := 66) t28_66 rfl ?_
              refine zs_invV (pc := 67) (k := 157) (as' := [.int (zpt M), .int (1 : Int32), .int (zI w280M 155 4), .ref 19]) (st := []) t28_67 mf38 rfl rfl (Or.inl ⟨by decide, (zk1 (w280s.k fk_zMc_157))⟩) ⟨by decide, by decide, Nat.le_of_ble_eq_true rfl, Nat.le_of_ble_eq_true rfl⟩ (zs_in (by decide) mf38 (Nat.le_of_ble_eq_true rfl) ?_) (fun _ _ q => q)
              show zGo X l 2 0 0 38 0 [(0, .ref 157), (1, .int (zpt M)), (2, .int (1 : Int32)), (3, .int (zI w280M 155 4)), (4, .ref 19)] [] w280M _
              refine zs_iload_n (pc := 0) t38_0 rfl ?_
              refine zs_lsw (pc := 1) t38_1 (off := 122) w12 (by unfold zlsel; repeat (first | rfl | (rw [if_neg (by omega)]; unfold zlsel))) (pc2 := 123) rfl ?_
              refine zs_iload_n (pc := 123) t38_123 rfl ?_
              refine zs_invS (pc := 124) (as := [.int (zpt M)]) (st := []) t38_124 (by decide) mf45 rfl rfl ⟨by decide, by decide, Nat.le_of_ble_eq_true rfl, Nat.le_of_ble_eq_true rfl⟩ (zs_in (by decide) mf45 (Nat.le_of_ble_eq_true rfl) ?_) (fun _ _ q => q)
              show zGo X l 0 0 0 45 0 [(0, .int (zpt M))] [] w280M _
              refine zs_iload_n (pc := 0) t45_0 rfl ?_
              refine zs_lsw (pc := 1) t45_1 (off := 49) ((w12 : (zpt M).toInt = (g w11n)).trans (by omega)) rfl (pc2 := 50) rfl ?_
              refine zs_bipush (pc := 50) t45_50 (v := 7) (by decide) ?_
              refine zs_iret (pc := 52) t45_52 mr45 (by decide) ?_
              show zGo X l 2 0 0 38 127 [(0, .ref 157), (1, .int (zpt M)), (2, .int (1 : Int32)), (3, .int (zI w280M 155 4)), (4, .ref 19)] [.int (7 : Int32)] w280M _
              refine zs_iload_n (pc := 127) t38_127 rfl ?_
              refine zs_iadd (pc := 128) t38_128 (c := 8) (by decide) ?_
              refine zs_iload_n (pc := 129) t38_129 rfl ?_
              refine zs_invS (pc := 130) (as := [.int (8 : Int32), .int (zI w280M 155 4)]) (st := []) t38_130 (by decide) mf44 rfl rfl ⟨by decide, by decide, Nat.le_of_ble_eq_true rfl, Nat.le_of_ble_eq_true rfl⟩ (zs_in (by decide) mf44 (Nat.le_of_ble_eq_true rfl) ?_) (fun _ _ q => q)
              show zGo X l 1 0 0 44 0 [(0, .int (8 : Int32)), (1, .int (zI w280M 155 4))] [] w280M _
              refine zs_iload_n (pc := 0) t44_0 rfl ?_
              refine zs_if_ltF (pc := 1) t44_1 li8 (by decide) ?_
              refine zs_iload_n (pc := 4) t44_4 rfl ?_
              refine zs_bipush (pc := 5) t44_5 (v := 9) (by decide) ?_
              refine zs_icmp_geF (pc := 7) t44_7 li8 li9 (by decide) ?_
              refine zs_iload_n (pc := 10) t44_10 rfl ?_
              refine zs_getstatic (pc := 11) t44_11 (v := .ref 2) rfl ?_
              refine zs_iload_n (pc := 14) t44_14 rfl ?_
              have w285 := zrg (zI M 2 8)
              have w286 : (zI M 2 8).toInt = 0 := by rw [x6 2 8 (by decide)]; decide
              refine zs_iald (pc := 15) t44_15 (j := 8) (by decide) (zk1 (w280s.k fk_zMc_2)) li8 (zk2 (w280s.k fk_zMc_2) (by decide)) ((w280F 2 8 rfl).trans ((zIo (by decide)).trans ((zIo (by decide)).trans ((w254F 2 8 rfl).trans ((zIo (by decide)).trans rfl))))) ?_
              refine zs_getstatic (pc := 16) t44_16 (v := .ref 3) rfl ?_
              refine zs_iload_n (pc := 19) t44_19 rfl ?_
              have w287 := zrg (zI M 3 8)
              have w288 : (zI M 3 8).toInt = 9999 := by rw [x6 3 8 (by decide)]; decide
              refine zs_iald (pc := 20) t44_20 (j := 8) (by decide) (zk1 (w280s.k fk_zMc_3)) li8 (zk2 (w280s.k fk_zMc_3) (by decide)) ((w280F 3 8 rfl).trans ((zIo (by decide)).trans ((zIo (by decide)).trans ((w254F 3 8 rfl).trans ((zIo (by decide)).trans rfl))))) ?_
              refine zs_invS (pc := 21) (as := [.int (zI w280M 155 4), .int (zI M 2 8), .int (zI M 3 8)]) (st := []) t44_21 (by decide) mf39 rfl rfl ⟨by decide, by decide, Nat.le_of_ble_eq_true rfl, Nat.le_of_ble_eq_true rfl⟩ (zs_in (by decide) mf39 (Nat.le_of_ble_eq_true rfl) ?_) (fun _ _ q => q)
              show zGo X l 0 0 0 39 0 [(0, .int (zI w280M 155 4)), (1, .int (zI M 2 8)), (2, .int (zI M 3 8))] [] w280M _
              refine zs_iload_n (pc := 0) t39_0 rfl ?_
              refine zs_iload_n (pc := 1) t39_1 rfl ?_
              by_cases w289 : (zI w280M 155 4).toInt < (zI M 2 8).toInt
              · refine zs_icmp_ltT (pc := 2) t39_2 rfl rfl (by omega) ?_
                refine zs_iconst (pc := 14) t39_14 (v := 0) (by decide) ?_
                refine zs_iret (pc := 15) t39_15 mr39 (by decide) ?_
                show zGo X l 1 0 0 44 24 [(0, .int (8 : Int32)), (1, .int (zI w280M 155 4))] [.int (0 : Int32)] w280M _
                refine zs_if_eqT (pc := 24) t44_24 li0 (by decide) ?_
                refine zs_iconst (pc := 31) t44_31 (v := 0) (by decide) ?_
                refine zs_iret (pc := 32) t44_32 mr44 (by decide) ?_
                show zGo X l 2 0 0 38 133 [(0, .ref 157), (1, .int (zpt M)), (2, .int (1 : Int32)), (3, .int (zI w280M 155 4)), (4, .ref 19)] [.int (0 : Int32)] w280M _
                refine zs_iret (pc := 133) t38_133 mr38 (by decide) ?_
                show zGo X l 5 0 0 28 70 [(6, .int (1 : Int32)), (5, .int (2 : Int32)), (4, .int (zpt M)), (3, .int (zI M 155 2)), (0, .ref 157), (1, .ref 155), (2, .ref 19)] [.int (0 : Int32)] w280M _
                refine zs_if_neF (pc := 70) t28_70 li0 (by decide) ?_
                refine zs_aload_n (pc := 73) t28_73 rfl ?_
                refine zs_aload_n (pc := 74) t28_74 rfl ?_
                refine zs_invV (pc := 75) (k := 155) (as' := []) (st := [.ref 155]) t28_75 mf46 rfl rfl (Or.inl ⟨by decide, (zk1 (w280s.k fk_zMc_155))⟩) ⟨by decide, by decide, Nat.le_of_ble_eq_true rfl, Nat.le_of_ble_eq_true rfl⟩ (zs_in (by decide) mf46 (Nat.le_of_ble_eq_true rfl) ?_) (fun _ _ q => q)
                show zGo X l 0 0 0 46 0 [(0, .ref 155)] [] w280M _
                refine zs_aload_n (pc := 0) t46_0 rfl ?_
                have w290 := zrg (zI w280M 155 5)
                refine zs_get (pc := 1) t46_1 (by decide) (zk1 (w280s.k fk_zMc_155)) (zfvi rfl rfl) ?_
                refine zs_iret (pc := 4) t46_4 mr46 rfl ?_
                show zGo X l 5 0 0 28 78 [(6, .int (1 : Int32)), (5, .int (2 : Int32)), (4, .int (zpt M)), (3, .int (zI M 155 2)), (0, .ref 157), (1, .ref 155), (2, .ref 19)] [.int (zI w280M 155 5), .ref 155] w280M _
                refine zs_invV (pc := 78) (k := 155) (as' := [.int (zI w280M 155 5)]) (st := []) t28_78 mf34 rfl rfl (Or.inl ⟨by decide, (zk1 (w280s.k fk_zMc_155))⟩) ⟨by decide, by decide, Nat.le_of_ble_eq_true rfl, Nat.le_of_ble_eq_true rfl⟩ (zs_in (by decide) mf34 (Nat.le_of_ble_eq_true rfl) ?_) (fun _ _ q => q)
                show zGo X l 0 0 0 34 0 [(0, .ref 155), (1, .int (zI w280M 155 5))] [] w280M _
                refine zs_aload_n (pc := 0) t34_0 rfl ?_
                refine zs_iload_n (pc := 1) t34_1 rfl ?_
                have w291 : zIv cLo cHi (zsI w280M 155 3 (zI w280M 155 5)) := zIv.put w280I (show (-2147483648) ≤ (zI w280M 155 5).toInt ∧ (zI w280M 155 5).toInt ≤ 2147483647 from zrg (zI w280M 155 5))
                refine zs_putI (pc := 2) t34_2 (zk1 (w280s.k fk_zMc_155)) rfl ?_
                refine zs_iconst (pc := 5) t34_5 (v := 0) (by decide) ?_
                refine zs_iret (pc := 6) t34_6 mr34 (by decide) ?_
                show zGo X l 5 0 0 28 81 [(6, .int (1 : Int32)), (5, .int (2 : Int32)), (4, .int (zpt M)), (3, .int (zI M 155 2)), (0, .ref 157), (1, .ref 155), (2, .ref 19)] [.int (0 : Int32)] (zsI w280M 155 3 (zI w280M 155 5)) _
                have w292 := zrg (zI w280M 155 2)
                have w293 : (zI (zsI w280M 155 3 (zI w280M 155 5)) 155 2).toInt = (zI w280M 155 2).toInt := (congrArg Int32.toInt ((zIoj (by decide)).trans rfl)).trans rfl
                exact zs_iret (pc := 81) t28_81 mr28 (by decide) (hQ _ _ w280s w291 (((((((zFr.refl).put rfl).trans (w254F.mono rfl)).put rfl).put rfl).trans (w280F.mono rfl)).put rfl) (fun p hp => by obtain rfl : w11n = p := (by omega); exact Or.inl ⟨by decide, ((pIt.q (by omega)).trans (pB.y (pRd.y w255e (by omega) (by omega) (by omega)))).trans (pB.f (pRd.n w281e (by omega)))⟩) (by decide) (by decide))
              · refine zs_icmp_ltF (pc := 2) t39_2 rfl rfl (by omega) ?_
                refine zs_iload_n (pc := 5) t39_5 rfl ?_
                refine zs_iload_n (pc := 6) t39_6 rfl ?_
                refine zs_icmp_gtF (pc := 7) t39_7 rfl rfl (by omega) ?_
                refine zs_iconst (pc := 10) t39_10 (v := 1) (by decide) ?_
                refine zs_goto (pc := 11) t39_11 ?_
                refine zs_iret (pc := 15) t39_15 mr39 (by decide) ?_
                show zGo X l 1 0 0 44 24 [(0, .int (8 : Int32)), (1, .int (zI w280M 155 4))] [.int (1 : Int32)] w280M _
                refine zs_if_eqF (pc := 24) t44_24 li1 (by decide) ?_
                refine zs_iconst (pc := 27) t44_27 (v := 1) (by decide) ?_
                refine zs_goto (pc := 28) t44_28 ?_
                refine zs_iret (pc := 32) t44_32 mr44 (by decide) ?_
                show zGo X l 2 0 0 38 133 [(0, .ref 157), (1, .int (zpt M)), (2, .int (1 : Int32)), (3, .int (zI w280M 155 4)), (4, .ref 19)] [.int (1 : Int32)] w280M _
                refine zs_iret (pc := 133) t38_133 mr38 (by decide) ?_
                show zGo X l 5 0 0 28 70 [(6, .int (1 : Int32)), (5, .int (2 : Int32)), (4, .int (zpt M)), (3, .int (zI M 155 2)), (0, .ref 157), (1, .ref 155), (2, .ref 19)] [.int (1 : Int32)] w280M _
                refine zs_if_neT (pc := 70) t28_70 li1 (by decide) ?_
                refine zs_aload_n (pc := 82) t28_82 rfl ?_
                refine zs_get (pc := 83) t28_83 (by decide) (zk1 (w280s.k fk_zMc_157)) (w280s.p rfl fv_zMc_157_0) ?_
                refine zs_iload (pc := 86) t28_86 rfl ?_
                refine zs_aload_n (pc := 88) t28_88 rfl ?_
                refine zs_invV (pc := 89) (k := 155) (as' := []) (st := [.int (1 : Int32), .ref 158]) t28_89 mf37 rfl rfl (Or.inl ⟨by decide, (zk1 (w280s.k fk_zMc_155))⟩) ⟨by decide, by decide, Nat.le_of_ble_eq_true rfl, Nat.le_of_ble_eq_true rfl⟩ (zs_in (by decide) mf37 (Nat.le_of_ble_eq_true rfl) ?_) (fun _ _ q => q)
                show zGo X l 0 0 0 37 0 [(0, .ref 155)] [] w280M _
                refine zs_aload_n (pc := 0) t37_0 rfl ?_
                refine zs_get (pc := 1) t37_1 (by decide) (zk1 (w280s.k fk_zMc_155)) (zfvi rfl rfl) ?_
                refine zs_iret (pc := 4) t37_4 mr37 rfl ?_
                show zGo X l 5 0 0 28 92 [(6, .int (1 : Int32)), (5, .int (2 : Int32)), (4, .int (zpt M)), (3, .int (zI M 155 2)), (0, .ref 157), (1, .ref 155), (2, .ref 19)] [.int (zI w280M 155 4), .int (1 : Int32), .ref 158] w280M _
                have w294 : zIv cLo cHi (zsI w280M 158 1 (zI w280M 155 4)) := zIv.put w280I (show (-300000) ≤ (zI w280M 155 4).toInt ∧ (zI w280M 155 4).toInt ≤ 300000 from ⟨by omega, by omega⟩)
                refine zs_iast (pc := 92) t28_92 (j := 1) (by decide) (zk1 (w280s.k fk_zMc_158)) li1 (zk2 (w280s.k fk_zMc_158) (by decide)) ?_
                refine zs_aload_n (pc := 93) t28_93 rfl ?_
                refine zs_iload (pc := 94) t28_94 rfl ?_
                refine zs_iconst (pc := 96) t28_96 (v := 1) (by decide) ?_
                refine zs_iadd (pc := 97) t28_97 (c := 2) (by decide) ?_
                refine zs_iload (pc := 98) t28_98 rfl ?_
                refine zs_icmp_geT (pc := 100) t28_100 li2 li2 (by decide) ?_
                refine zs_bipush (pc := 108) t28_108 (v := 59) (by decide) ?_
                refine zs_invV (pc := 110) (k := 155) (as' := [.int (59 : Int32)]) (st := []) t28_110 mf47 rfl rfl (Or.inl ⟨by decide, (zk1 (w280s.k fk_zMc_155))⟩) ⟨by decide, by decide, Nat.le_of_ble_eq_true rfl, Nat.le_of_ble_eq_true rfl⟩ (zs_in (by decide) mf47 (Nat.le_of_ble_eq_true rfl) ?_) (fun _ _ q => q)
                show zGo X l 1 0 0 47 0 [(0, .ref 155), (1, .int (59 : Int32))] [] (zsI w280M 158 1 (zI w280M 155 4)) _
                refine zs_aload_n (pc := 0) t47_0 rfl ?_
                refine zs_invV (pc := 1) (k := 155) (as' := []) (st := []) t47_1 mf31 rfl rfl (Or.inl ⟨by decide, (zk1 (w280s.k fk_zMc_155))⟩) ⟨by decide, by decide, Nat.le_of_ble_eq_true rfl, Nat.le_of_ble_eq_true rfl⟩ (P31 w280s w294 ?_) (fun _ _ q => q)
                have w296 := zrg (zI w280M 155 2)
                have w297 : (zI (zsI w280M 158 1 (zI w280M 155 4)) 155 2).toInt = (zI w280M 155 2).toInt := (congrArg Int32.toInt ((zIo (by decide)).trans rfl)).trans rfl
                have w298 : (zI (zsI w280M 158 1 (zI w280M 155 4)) 155 1).toInt = (zI M 155 1).toInt := (congrArg Int32.toInt ((zIo (by decide)).trans ((w280F 155 1 rfl).trans ((zIoj (by decide)).trans ((zIo (by decide)).trans ((w254F 155 1 rfl).trans ((zIoj (by decide)).trans rfl))))))).trans rfl
                have w295 : (zpt (zsI w280M 158 1 (zI w280M 155 4))).toInt = g w281E := zpt.tr (zTa.fr x1 (zEq.tr (zEq.tr (zEq.tr (zEq.tr (zEq.tr (zEq.put rfl) (zFr.eq w254F rfl)) (zEq.put rfl)) (zEq.put rfl)) (zFr.eq w280F rfl)) (zEq.put rfl))) (by omega)
                have w299 := zTa.rg (M := (zsI w280M 158 1 (zI w280M 155 4))) (zTa.fr x1 (zEq.tr (zEq.tr (zEq.tr (zEq.tr (zEq.tr (zEq.put rfl) (zFr.eq w254F rfl)) (zEq.put rfl)) (zEq.put rfl)) (zFr.eq w280F rfl)) (zEq.put rfl))) w281E
                show zGo X l 1 0 0 47 4 [(0, .ref 155), (1, .int (59 : Int32))] [.int (zpt (zsI w280M 158 1 (zI w280M 155 4)))] (zsI w280M 158 1 (zI w280M 155 4)) _
                refine zs_iload_n (pc := 4) t47_4 rfl ?_
                by_cases w300 : (g w281E) = 59
                · refine zs_icmp_eqT (pc := 5) t47_5 w295 li59 (by omega) ?_
                  refine zs_aload_n (pc := 17) t47_17 rfl ?_
                  refine zs_dup (pc := 18) t47_18 rfl ?_
                  refine zs_get (pc := 19) t47_19 (by decide) (zk1 (w280s.k fk_zMc_155)) (zfvi rfl ((zIo (by decide)).trans rfl)) ?_
                  refine zs_iconst (pc := 22) t47_22 (v := 1) (by decide) ?_
                  obtain ⟨w301v, w301e, w301⟩ := ziadd (a := (zI w280M 155 2)) (b := (1 : Int32)) rfl li1 (by omega) (by omega)
                  refine zs_iadd (pc := 23) t47_23 (c := w301v) w301e ?_
                  have w302 : zIv cLo cHi (zsI (zsI w280M 158 1 (zI w280M 155 4)) 155 2 w301v) := zIv.put w294 (show (-2147483648) ≤ w301v.toInt ∧ w301v.toInt ≤ 2147483647 from zrg w301v)
                  refine zs_putI (pc := 24) t47_24 (zk1 (w280s.k fk_zMc_155)) rfl ?_
                  refine zs_iconst (pc := 27) t47_27 (v := 1) (by decide) ?_
                  refine zs_iret (pc := 28) t47_28 mr47 (by decide) ?_
                  show zGo X l 5 0 0 28 113 [(6, .int (1 : Int32)), (5, .int (2 : Int32)), (4, .int (zpt M)), (3, .int (zI M 155 2)), (0, .ref 157), (1, .ref 155), (2, .ref 19)] [.int (1 : Int32)] (zsI (zsI w280M 158 1 (zI w280M 155 4)) 155 2 w301v) _
                  refine zs_if_neT (pc := 113) t28_113 li1 (by decide) ?_
                  refine zs_iinc (pc := 118) t28_118 (ls' := [(6, .int (2 : Int32)), (5, .int (2 : Int32)), (4, .int (zpt M)), (3, .int (zI M 155 2)), (0, .ref 157), (1, .ref 155), (2, .ref 19)]) (zml mf28 (by decide)) rfl (c := 2) (by decide) rfl ?_
                  refine zs_goto (pc := 121) t28_121 ?_
                  refine zs_iload (pc := 41) t28_41 rfl ?_
                  refine zs_iload (pc := 43) t28_43 rfl ?_
                  refine zs_icmp_geT (pc := 45) t28_45 li2 li2 (by decide) ?_
                  refine zs_aload_n (pc := 124) t28_124 rfl ?_
                  refine zs_iload (pc := 125) t28_125 rfl ?_
                  refine zs_aload_n (pc := 127) t28_127 rfl ?_
                  refine zs_invV (pc := 128) (k := 157) (as' := [.int (zpt M), .ref 19]) (st := []) t28_128 mf48 rfl rfl (Or.inl ⟨by decide, (zk1 (w280s.k fk_zMc_157))⟩) ⟨by decide, by decide, Nat.le_of_ble_eq_true rfl, Nat.le_of_ble_eq_true rfl⟩ (zs_in (by decide) mf48 (Nat.le_of_ble_eq_true rfl) ?_) (fun _ _ q => q)
                  show zGo X l 4 0 0 48 0 [(0, .ref 157), (1, .int (zpt M)), (2, .ref 19)] [] (zsI (zsI w280M 158 1 (zI w280M 155 4)) 155 2 w301v) _
                  refine zs_iload_n (pc := 0) t48_0 rfl ?_
                  refine zs_lsw (pc := 1) t48_1 (off := 103) w12 (by unfold zlsel; repeat (first | rfl | (rw [if_neg (by omega)]; unfold zlsel))) (pc2 := 104) rfl ?_
                  refine zs_iconst (pc := 104) t48_104 (v := 0) (by decide) ?_
                  refine zs_istore_n (pc := 105) t48_105 (ls' := [(3, .int (0 : Int32)), (0, .ref 157), (1, .int (zpt M)), (2, .ref 19)]) (zml mf48 (by decide)) rfl ?_
                  refine zs_iload_n (pc := 106) t48_106 rfl ?_
                  refine zs_iload_n (pc := 107) t48_107 rfl ?_
                  refine zs_invS (pc := 108) (as := [.int (zpt M)]) (st := [.int (0 : Int32)]) t48_108 (by decide) mf32 rfl rfl ⟨by decide, by decide, Nat.le_of_ble_eq_true rfl, Nat.le_of_ble_eq_true rfl⟩ (zs_in (by decide) mf32 (Nat.le_of_ble_eq_true rfl) ?_) (fun _ _ q => q)
                  show zGo X l 0 0 0 32 0 [(0, .int (zpt M))] [] (zsI (zsI w280M 158 1 (zI w280M 155 4)) 155 2 w301v) _
                  refine zs_iload_n (pc := 0) t32_0 rfl ?_
                  refine zs_tswI (pc := 1) t32_1 ((w12 : (zpt M).toInt = (g w11n)).trans (by omega)) (by decide) rfl (pc2 := 86) rfl ?_
                  refine zs_iconst (pc := 86) t32_86 (v := 2) (by decide) ?_
                  refine zs_iret (pc := 87) t32_87 mr32 (by decide) ?_
                  show zGo X l 4 0 0 48 111 [(3, .int (0 : Int32)), (0, .ref 157), (1, .int (zpt M)), (2, .ref 19)] [.int (2 : Int32), .int (0 : Int32)] (zsI (zsI w280M 158 1 (zI w280M 155 4)) 155 2 w301v) _
                  refine zs_icmp_geF (pc := 111) t48_111 li0 li2 (by decide) ?_
                  refine zs_aload_n (pc := 114) t48_114 rfl ?_
                  refine zs_iload_n (pc := 115) t48_115 rfl ?_
                  refine zs_invS (pc := 116) (as := [.int (zpt M)]) (st := [.ref 19]) t48_116 (by decide) mf45 rfl rfl ⟨by decide, by decide, Nat.le_of_ble_eq_true rfl, Nat.le_of_ble_eq_true rfl⟩ (zs_in (by decide) mf45 (Nat.le_of_ble_eq_true rfl) ?_) (fun _ _ q => q)
                  show zGo X l 0 0 0 45 0 [(0, .int (zpt M))] [] (zsI (zsI w280M 158 1 (zI w280M 155 4)) 155 2 w301v) _
                  refine zs_iload_n (pc := 0) t45_0 rfl ?_
                  refine zs_lsw (pc := 1) t45_1 (off := 49) ((w12 : (zpt M).toInt = (g w11n)).trans (by omega)) rfl (pc2 := 50) rfl ?_
                  refine zs_bipush (pc := 50) t45_50 (v := 7) (by decide) ?_
                  refine zs_iret (pc := 52) t45_52 mr45 (by decide) ?_
                  show zGo X l 4 0 0 48 119 [(3, .int (0 : Int32)), (0, .ref 157), (1, .int (zpt M)), (2, .ref 19)] [.int (7 : Int32), .ref 19] (zsI (zsI w280M 158 1 (zI w280M 155 4)) 155 2 w301v) _
                  refine zs_iload_n (pc := 119) t48_119 rfl ?_
                  refine zs_iadd (pc := 120) t48_120 (c := 7) (by decide) ?_
                  refine zs_aload_n (pc := 121) t48_121 rfl ?_
                  refine zs_get (pc := 122) t48_122 (by decide) (zk1 (w280s.k fk_zMc_157)) (w280s.p rfl fv_zMc_157_0) ?_
                  refine zs_iload_n (pc := 125) t48_125 rfl ?_
                  refine zs_iald (pc := 126) t48_126 (j := 0) (by decide) (zk1 (w280s.k fk_zMc_158)) li0 (zk2 (w280s.k fk_zMc_158) (by decide)) ((zIo (by decide)).trans ((zIoj (by decide)).trans ((w280F 158 0 rfl).trans ((zIo (by decide)).trans zIs)))) ?_
                  refine zs_invV (pc := 127) (k := 19) (as' := [.int (7 : Int32), .int (zI w254M 155 4)]) (st := []) t48_127 mf56 rfl rfl (Or.inl ⟨by decide, (zk1 (w280s.k fk_zMc_19))⟩) ⟨by decide, by decide, Nat.le_of_ble_eq_true rfl, Nat.le_of_ble_eq_true rfl⟩ (zs_in (by decide) mf56 (Nat.le_of_ble_eq_true rfl) ?_) (fun _ _ q => q)
                  show zGo X l 0 0 0 56 0 [(0, .ref 19), (1, .int (7 : Int32)), (2, .int (zI w254M 155 4))] [] (zsI (zsI w280M 158 1 (zI w280M 155 4)) 155 2 w301v) _
                  refine zs_iload_n (pc := 0) t56_0 rfl ?_
                  refine zs_if_ltF (pc := 1) t56_1 li7 (by decide) ?_
                  refine zs_iload_n (pc := 4) t56_4 rfl ?_
                  refine zs_bipush (pc := 5) t56_5 (v := 9) (by decide) ?_
                  refine zs_icmp_geF (pc := 7) t56_7 li7 li9 (by decide) ?_
                  refine zs_aload_n (pc := 10) t56_10 rfl ?_
                  refine zs_get (pc := 11) t56_11 (by decide) (zk1 (w280s.k fk_zMc_19)) (w280s.p rfl fv_zMc_19_12) ?_
                  refine zs_iload_n (pc := 14) t56_14 rfl ?_
                  refine zs_iload_n (pc := 15) t56_15 rfl ?_
                  have w303 : zIv cLo cHi (zsI (zsI (zsI w280M 158 1 (zI w280M 155 4)) 155 2 w301v) 29 7 (zI w254M 155 4)) := zIv.put w302 (show (-300000) ≤ (zI w254M 155 4).toInt ∧ (zI w254M 155 4).toInt ≤ 300000 from ⟨by omega, by omega⟩)
                  have w304 : zSo (zsI (zsI (zsI w280M 158 1 (zI w280M 155 4)) 155 2 w301v) 29 7 (zI w254M 155 4)) 19 (uS F (5 + 7) (zI w254M 155 4).toInt) := zSo.se (zSo.fr x0 (zEq.tr (zEq.tr (zEq.tr (zEq.tr (zEq.tr (zEq.tr (zEq.put rfl) (zFr.eq w254F rfl)) (zEq.put rfl)) (zEq.put rfl)) (zFr.eq w280F rfl)) (zEq.put rfl)) (zEq.put rfl))) rfl (by decide) rfl
                  refine zs_iast (pc := 16) t56_16 (j := 7) (by decide) (zk1 (w280s.k fk_zMc_29)) li7 (zk2 (w280s.k fk_zMc_29) (by decide)) ?_
                  refine zs_vret (pc := 17) t56_17 mr56 ?_
                  show zGo X l 4 0 0 48 130 [(3, .int (0 : Int32)), (0, .ref 157), (1, .int (zpt M)), (2, .ref 19)] [] (zsI (zsI (zsI w280M 158 1 (zI w280M 155 4)) 155 2 w301v) 29 7 (zI w254M 155 4)) _
                  refine zs_iinc (pc := 130) t48_130 (ls' := [(3, .int (1 : Int32)), (0, .ref 157), (1, .int (zpt M)), (2, .ref 19)]) (zml mf48 (by decide)) rfl (c := 1) (by decide) rfl ?_
                  refine zs_goto (pc := 133) t48_133 ?_
                  refine zs_iload_n (pc := 106) t48_106 rfl ?_
                  refine zs_iload_n (pc := 107) t48_107 rfl ?_
                  refine zs_invS (pc := 108) (as := [.int (zpt M)]) (st := [.int (1 : Int32)]) t48_108 (by decide) mf32 rfl rfl ⟨by decide, by decide, Nat.le_of_ble_eq_true rfl, Nat.le_of_ble_eq_true rfl⟩ (zs_in (by decide) mf32 (Nat.le_of_ble_eq_true rfl) ?_) (fun _ _ q => q)
                  show zGo X l 0 0 0 32 0 [(0, .int (zpt M))] [] (zsI (zsI (zsI w280M 158 1 (zI w280M 155 4)) 155 2 w301v) 29 7 (zI w254M 155 4)) _
                  refine zs_iload_n (pc := 0) t32_0 rfl ?_
                  refine zs_tswI (pc := 1) t32_1 ((w12 : (zpt M).toInt = (g w11n)).trans (by omega)) (by decide) rfl (pc2 := 86) rfl ?_
                  refine zs_iconst (pc := 86) t32_86 (v := 2) (by decide) ?_
                  refine zs_iret (pc := 87) t32_87 mr32 (by decide) ?_
                  show zGo X l 4 0 0 48 111 [(3, .int (1 : Int32)), (0, .ref 157), (1, .int (zpt M)), (2, .ref 19)] [.int (2 : Int32), .int (1 : Int32)] (zsI (zsI (zsI w280M 158 1 (zI w280M 155 4)) 155 2 w301v) 29 7 (zI w254M 155 4)) _
                  refine zs_icmp_geF (pc := 111) t48_111 li1 li2 (by decide) ?_
                  refine zs_aload_n (pc := 114) t48_114 rfl ?_
                  refine zs_iload_n (pc := 115) t48_115 rfl ?_
                  refine zs_invS (pc := 116) (as := [.int (zpt M)]) (st := [.ref 19]) t48_116 (by decide) mf45 rfl rfl ⟨by decide, by decide, Nat.le_of_ble_eq_true rfl, Nat.le_of_ble_eq_true rfl⟩ (zs_in (by decide) mf45 (Nat.le_of_ble_eq_true rfl) ?_) (fun _ _ q => q)
                  show zGo X l 0 0 0 45 0 [(0, .int (zpt M))] [] (zsI (zsI (zsI w280M 158 1 (zI w280M 155 4)) 155 2 w301v) 29 7 (zI w254M 155 4)) _
                  refine zs_iload_n (pc := 0) t45_0 rfl ?_
                  refine zs_lsw (pc := 1) t45_1 (off := 49) ((w12 : (zpt M).toInt = (g w11n)).trans (by omega)) rfl (pc2 := 50) rfl ?_
                  refine zs_bipush (pc := 50) t45_50 (v := 7) (by decide) ?_
                  refine zs_iret (pc := 52) t45_52 mr45 (by decide) ?_
                  show zGo X l 4 0 0 48 119 [(3, .int (1 : Int32)), (0, .ref 157), (1, .int (zpt M)), (2, .ref 19)] [.int (7 : Int32), .ref 19] (zsI (zsI (zsI w280M 158 1 (zI w280M 155 4)) 155 2 w301v) 29 7 (zI w254M 155 4)) _
                  refine zs_iload_n (pc := 119) t48_119 rfl ?_
                  refine zs_iadd (pc := 120) t48_120 (c := 8) (by decide) ?_
                  refine zs_aload_n (pc := 121) t48_121 rfl ?_
                  refine zs_get (pc := 122) t48_122 (by decide) (zk1 (w280s.k fk_zMc_157)) (w280s.p rfl fv_zMc_157_0) ?_
                  refine zs_iload_n (pc := 125) t48_125 rfl ?_
                  refine zs_iald (pc := 126) t48_126 (j := 1) (by decide) (zk1 (w280s.k fk_zMc_158)) li1 (zk2 (w280s.k fk_zMc_158) (by decide)) ((zIo (by decide)).trans ((zIo (by decide)).trans zIs)) ?_
                  refine zs_invV (pc := 127) (k := 19) (as' := [.int (8 : Int32), .int (zI w280M 155 4)]) (st := []) t48_127 mf56 rfl rfl (Or.inl ⟨by decide, (zk1 (w280s.k fk_zMc_19))⟩) ⟨by decide, by decide, Nat.le_of_ble_eq_true rfl, Nat.le_of_ble_eq_true rfl⟩ (zs_in (by decide) mf56 (Nat.le_of_ble_eq_true rfl) ?_) (fun _ _ q => q)
                  show zGo X l 0 0 0 56 0 [(0, .ref 19), (1, .int (8 : Int32)), (2, .int (zI w280M 155 4))] [] (zsI (zsI (zsI w280M 158 1 (zI w280M 155 4)) 155 2 w301v) 29 7 (zI w254M 155 4)) _
                  refine zs_iload_n (pc := 0) t56_0 rfl ?_
                  refine zs_if_ltF (pc := 1) t56_1 li8 (by decide) ?_
                  refine zs_iload_n (pc := 4) t56_4 rfl ?_
                  refine zs_bipush (pc := 5) t56_5 (v := 9) (by decide) ?_
                  refine zs_icmp_geF (pc := 7) t56_7 li8 li9 (by decide) ?_
                  refine zs_aload_n (pc := 10) t56_10 rfl ?_
                  refine zs_get (pc := 11) t56_11 (by decide) (zk1 (w280s.k fk_zMc_19)) (w280s.p rfl fv_zMc_19_12) ?_
                  refine zs_iload_n (pc := 14) t56_14 rfl ?_
                  refine zs_iload_n (pc := 15) t56_15 rfl ?_
                  have w305 : zIv cLo cHi (zsI (zsI (zsI (zsI w280M 158 1 (zI w280M 155 4)) 155 2 w301v) 29 7 (zI w254M 155 4)) 29 8 (zI w280M 155 4)) := zIv.put w303 (show (-300000) ≤ (zI w280M 155 4).toInt ∧ (zI w280M 155 4).toInt ≤ 300000 from ⟨by omega, by omega⟩)
                  have w306 : zSo (zsI (zsI (zsI (zsI w280M 158 1 (zI w280M 155 4)) 155 2 w301v) 29 7 (zI w254M 155 4)) 29 8 (zI w280M 155 4)) 19 (uS (uS F (5 + 7) (zI w254M 155 4).toInt) (5 + 8) (zI w280M 155 4).toInt) := zSo.se w304 rfl (by decide) rfl
                  refine zs_iast (pc := 16) t56_16 (j := 8) (by decide) (zk1 (w280s.k fk_zMc_29)) li8 (zk2 (w280s.k fk_zMc_29) (by decide)) ?_
                  refine zs_vret (pc := 17) t56_17 mr56 ?_
                  show zGo X l 4 0 0 48 130 [(3, .int (1 : Int32)), (0, .ref 157), (1, .int (zpt M)), (2, .ref 19)] [] (zsI (zsI (zsI (zsI w280M 158 1 (zI w280M 155 4)) 155 2 w301v) 29 7 (zI w254M 155 4)) 29 8 (zI w280M 155 4)) _
                  refine zs_iinc (pc := 130) t48_130 (ls' := [(3, .int (2 : Int32)), (0, .ref 157), (1, .int (zpt M)), (2, .ref 19)]) (zml mf48 (by decide)) rfl (c := 2) (by decide) rfl ?_
                  refine zs_goto (pc := 133) t48_133 ?_
                  refine zs_iload_n (pc := 106) t48_106 rfl ?_
                  refine zs_iload_n (pc := 107) t48_107 rfl ?_
                  refine zs_invS (pc := 108) (as := [.int (zpt M)]) (st := [.int (2 : Int32)]) t48_108 (by decide) mf32 rfl rfl ⟨by decide, by decide, Nat.le_of_ble_eq_true rfl, Nat.le_of_ble_eq_true rfl⟩ (zs_in (by decide) mf32 (Nat.le_of_ble_eq_true rfl) ?_) (fun _ _ q => q)
                  show zGo X l 0 0 0 32 0 [(0, .int (zpt M))] [] (zsI (zsI (zsI (zsI w280M 158 1 (zI w280M 155 4)) 155 2 w301v) 29 7 (zI w254M 155 4)) 29 8 (zI w280M 155 4)) _
                  refine zs_iload_n (pc := 0) t32_0 rfl ?_
                  refine zs_tswI (pc := 1) t32_1 ((w12 : (zpt M).toInt = (g w11n)).trans (by omega)) (by decide) rfl (pc2 := 86) rfl ?_
                  refine zs_iconst (pc := 86) t32_86 (v := 2) (by decide) ?_
                  refine zs_iret (pc := 87) t32_87 mr32 (by decide) ?_
                  show zGo X l 4 0 0 48 111 [(3, .int (2 : Int32)), (0, .ref 157), (1, .int (zpt M)), (2, .ref 19)] [.int (2 : Int32), .int (2 : Int32)] (zsI (zsI (zsI (zsI w280M 158 1 (zI w280M 155 4)) 155 2 w301v) 29 7 (zI w254M 155 4)) 29 8 (zI w280M 155 4)) _
                  refine zs_icmp_geT (pc := 111) t48_111 li2 li2 (by decide) ?_
                  refine zs_iconst (pc := 136) t48_136 (v := 1) (by decide) ?_
                  refine zs_iret (pc := 137) t48_137 mr48 (by decide) ?_
                  show zGo X l 5 0 0 28 131 [(6, .int (2 : Int32)), (5, .int (2 : Int32)), (4, .int (zpt M)), (3, .int (zI M 155 2)), (0, .ref 157), (1, .ref 155), (2, .ref 19)] [.int (1 : Int32)] (zsI (zsI (zsI (zsI w280M 158 1 (zI w280M 155 4)) 155 2 w301v) 29 7 (zI w254M 155 4)) 29 8 (zI w280M 155 4)) _
                  refine zs_if_neT (pc := 131) t28_131 li1 (by decide) ?_
                  refine zs_iconst (pc := 142) t28_142 (v := 1) (by decide) ?_
                  refine zs_goto (pc := 143) t28_143 ?_
                  have w307 : (zI (zsI (zsI (zsI (zsI w280M 158 1 (zI w280M 155 4)) 155 2 w301v) 29 7 (zI w254M 155 4)) 29 8 (zI w280M 155 4)) 155 2).toInt = ((zI w280M 155 2).toInt + 1) := (congrArg Int32.toInt ((zIo (by decide)).trans ((zIo (by decide)).trans zIs))).trans w301
                  exact zs_iret (pc := 147) t28_147 mr28 (by decide) (hQ _ _ w280s w305 ((((((((((zFr.refl).put rfl).trans (w254F.mono rfl)).put rfl).put rfl).trans (w280F.mono rfl)).put rfl).put rfl).put rfl).put rfl) (fun p hp => by obtain rfl : w11n = p := (by omega); exact Or.inr ⟨by decide, w281E + 1, (uS (uS F (5 + 7) (zI w254M 155 4).toInt) (5 + 8) (zI w280M 155 4).toInt), (((pIt.q (by omega)).trans (pB.y (pRd.y w255e (by omega) (by omega) (by omega)))).trans (pB.y (pRd.y w281e (by omega) (by omega) (by omega)))), by omega, by omega, by omega, w306, x2.qq (by omega)⟩) (by decide) (by decide))
                · refine zs_icmp_eqF (pc := 5) t47_5 w295 li59 (by omega) ?_
                  refine zs_aload_n (pc := 8) t47_8 rfl ?_
                  refine zs_aload_n (pc := 9) t47_9 rfl ?_
                  refine zs_get (pc := 10) t47_10 (by decide) (zk1 (w280s.k fk_zMc_155)) (zfvi rfl ((zIo (by decide)).trans rfl)) ?_
                  refine zs_invV (pc := 13) (k := 155) (as' := [.int (zI w280M 155 2)]) (st := []) t47_13 mf34 rfl rfl (Or.inl ⟨by decide, (zk1 (w280s.k fk_zMc_155))⟩) ⟨by decide, by decide, Nat.le_of_ble_eq_true rfl, Nat.le_of_ble_eq_true rfl⟩ (zs_in (by decide) mf34 (Nat.le_of_ble_eq_true rfl) ?_) (fun _ _ q => q)
                  show zGo X l 0 0 0 34 0 [(0, .ref 155), (1, .int (zI w280M 155 2))] [] (zsI w280M 158 1 (zI w280M 155 4)) _
                  refine zs_aload_n (pc := 0) t34_0 rfl ?_
                  refine zs_iload_n (pc := 1) t34_1 rfl ?_
                  have w308 : zIv cLo cHi (zsI (zsI w280M 158 1 (zI w280M 155 4)) 155 3 (zI w280M 155 2)) := zIv.put w294 (show (-2147483648) ≤ (zI w280M 155 2).toInt ∧ (zI w280M 155 2).toInt ≤ 2147483647 from zrg (zI w280M 155 2))
                  refine zs_putI (pc := 2) t34_2 (zk1 (w280s.k fk_zMc_155)) rfl ?_
                  refine zs_iconst (pc := 5) t34_5 (v := 0) (by decide) ?_
                  refine zs_iret (pc := 6) t34_6 mr34 (by decide) ?_
                  show zGo X l 1 0 0 47 16 [(0, .ref 155), (1, .int (59 : Int32))] [.int (0 : Int32)] (zsI (zsI w280M 158 1 (zI w280M 155 4)) 155 3 (zI w280M 155 2)) _
                  refine zs_iret (pc := 16) t47_16 mr47 (by decide) ?_
                  show zGo X l 5 0 0 28 113 [(6, .int (1 : Int32)), (5, .int (2 : Int32)), (4, .int (zpt M)), (3, .int (zI M 155 2)), (0, .ref 157), (1, .ref 155), (2, .ref 19)] [.int (0 : Int32)] (zsI (zsI w280M 158 1 (zI w280M 155 4)) 155 3 (zI w280M 155 2)) _
                  refine zs_if_neF (pc := 113) t28_113 li0 (by decide) ?_
                  refine zs_iconst (pc := 116) t28_116 (v := 0) (by decide) ?_
                  have w309 : (zI (zsI (zsI w280M 158 1 (zI w280M 155 4)) 155 3 (zI w280M 155 2)) 155 2).toInt = (zI w280M 155 2).toInt := (congrArg Int32.toInt ((zIoj (by decide)).trans ((zIo (by decide)).trans rfl))).trans rfl
                  exact zs_iret (pc := 117) t28_117 mr28 (by decide) (hQ _ _ w280s w308 ((((((((zFr.refl).put rfl).trans (w254F.mono rfl)).put rfl).put rfl).trans (w280F.mono rfl)).put rfl).put rfl) (fun p hp => by obtain rfl : w11n = p := (by omega); exact Or.inl ⟨by decide, ((pIt.q (by omega)).trans (pB.y (pRd.y w255e (by omega) (by omega) (by omega)))).trans (pB.f (pRd.n w281e (by omega)))⟩) (by decide) (by decide))
          · refine zs_icmp_eqF (pc := 5) t47_5 w269 li44 (by omega) ?_
            refine zs_aload_n (pc := 8) t47_8 rfl ?_
            refine zs_aload_n (pc := 9) t47_9 rfl ?_
            refine zs_get (pc := 10) t47_10 (by decide) (zk1 (w254s.k fk_zMc_155)) (zfvi rfl ((zIo (by decide)).trans rfl)) ?_
            refine zs_invV (pc := 13) (k := 155) (as' := [.int (zI w254M 155 2)]) (st := []) t47_13 mf34 rfl rfl (Or.inl ⟨by decide, (zk1 (w254s.k fk_zMc_155))⟩) ⟨by decide, by decide, Nat.le_of_ble_eq_true rfl, Nat.le_of_ble_eq_true rfl⟩ (zs_in (by decide) mf34 (Nat.le_of_ble_eq_true rfl) ?_) (fun _ _ q => q)
            show zGo X l 0 0 0 34 0 [(0, .ref 155), (1, .int (zI w254M 155 2))] [] (zsI w254M 158 0 (zI w254M 155 4)) _
            refine zs_aload_n (pc := 0) t34_0 rfl ?_
            refine zs_iload_n (pc := 1) t34_1 rfl ?_
            have w310 : zIv cLo cHi (zsI (zsI w254M 158 0 (zI w254M 155 4)) 155 3 (zI w254M 155 2)) := zIv.put w268 (show (-2147483648) ≤ (zI w254M 155 2).toInt ∧ (zI w254M 155 2).toInt ≤ 2147483647 from zrg (zI w254M 155 2))
            refine zs_putI (pc := 2) t34_2 (zk1 (w254s.k fk_zMc_155)) rfl ?_
            refine zs_iconst (pc := 5) t34_5 (v := 0) (by decide) ?_
            refine zs_iret (pc := 6) t34_6 mr34 (by decide) ?_
            show zGo X l 1 0 0 47 16 [(0, .ref 155), (1, .int (44 : Int32))] [.int (0 : Int32)] (zsI (zsI w254M 158 0 (zI w254M 155 4)) 155 3 (zI w254M 155 2)) _
            refine zs_iret (pc := 16) t47_16 mr47 (by decide) ?_
            show zGo X l 5 0 0 28 113 [(6, .int (0 : Int32)), (5, .int (2 : Int32)), (4, .int (zpt M)), (3, .int (zI M 155 2)), (0, .ref 157), (1, .ref 155), (2, .ref 19)] [.int (0 : Int32)] (zsI (zsI w254M 158 0 (zI w254M 155 4)) 155 3 (zI w254M 155 2)) _
            refine zs_if_neF (pc := 113) t28_113 li0 (by decide) ?_
            refine zs_iconst (pc := 116) t28_116 (v := 0) (by decide) ?_
            have w311 : (zI (zsI (zsI w254M 158 0 (zI w254M 155 4)) 155 3 (zI w254M 155 2)) 155 2).toInt = (zI w254M 155 2).toInt := (congrArg Int32.toInt ((zIoj (by decide)).trans ((zIo (by decide)).trans rfl))).trans rfl
            exact zs_iret (pc := 117) t28_117 mr28 (by decide) (hQ _ _ w254s w310 (((((zFr.refl).put rfl).trans (w254F.mono rfl)).put rfl).put rfl) (fun p hp => by obtain rfl : w11n = p := (by omega); exact Or.inl ⟨by decide, (pIt.q (by omega)).trans (pB.f (pRd.n w255e (by omega)))⟩) (by decide) (by decide))
    by_cases w312 : (g w11n) = 114
    · refine zs_tswI (pc := 1) t32_1 ((w12 : (zpt M).toInt = (g w11n)).trans w312) (by decide) rfl (pc2 := 84) rfl ?_
      refine zs_iconst (pc := 84) t32_84 (v := 1) (by decide) ?_
      refine zs_iret (pc := 85) t32_85 mr32 (by decide) ?_
      show zGo X l 5 0 0 28 16 [(4, .int (zpt M)), (3, .int (zI M 155 2)), (0, .ref 157), (1, .ref 155), (2, .ref 19)] [.int (1 : Int32)] (zsI M 155 2 w19v) _
      refine zs_istore (pc := 16) t28_16 (ls' := [(5, .int (1 : Int32)), (4, .int (zpt M)), (3, .int (zI M 155 2)), (0, .ref 157), (1, .ref 155), (2, .ref 19)]) (zml mf28 (by decide)) rfl ?_
      refine zs_iload (pc := 18) t28_18 rfl ?_
      refine zs_if_eqF (pc := 20) t28_20 li1 (by decide) ?_
      refine zs_iload (pc := 23) t28_23 rfl ?_
      refine zs_aload_n (pc := 25) t28_25 rfl ?_
      refine zs_invS (pc := 26) (as := [.int (zpt M), .ref 19]) (st := []) t28_26 (by decide) mf33 rfl rfl ⟨by decide, by decide, Nat.le_of_ble_eq_true rfl, Nat.le_of_ble_eq_true rfl⟩ (zs_in (by decide) mf33 (Nat.le_of_ble_eq_true rfl) ?_) (fun _ _ q => q)
      show zGo X l 0 0 0 33 0 [(0, .int (zpt M)), (1, .ref 19)] [] (zsI M 155 2 w19v) _
      refine zs_iload_n (pc := 0) t33_0 rfl ?_
      refine zs_lsw (pc := 1) t33_1 (off := 35) ((w12 : (zpt M).toInt = (g w11n)).trans (by omega)) rfl (pc2 := 36) rfl ?_
      refine zs_aload_n (pc := 36) t33_36 rfl ?_
      refine zs_get (pc := 37) t33_37 (by decide) (zk1 (hs.k fk_zMc_19)) (zfvi rfl ((zIo (by decide)).trans rfl)) ?_
      refine zs_bipush (pc := 40) t33_40 (v := 8) (by decide) ?_
      by_cases w313 : (zI M 19 0).toInt < 8
      · refine zs_icmp_ltT (pc := 42) t33_42 rfl li8 (by omega) ?_
        refine zs_iconst (pc := 49) t33_49 (v := 0) (by decide) ?_
        refine zs_iret (pc := 50) t33_50 mr33 (by decide) ?_
        show zGo X l 5 0 0 28 29 [(5, .int (1 : Int32)), (4, .int (zpt M)), (3, .int (zI M 155 2)), (0, .ref 157), (1, .ref 155), (2, .ref 19)] [.int (0 : Int32)] (zsI M 155 2 w19v) _
        refine zs_if_eqT (pc := 29) t28_29 li0 (by decide) ?_
        refine zs_iconst (pc := 38) t28_38 (v := 0) (by decide) ?_
        refine zs_istore (pc := 39) t28_39 (ls' := [(6, .int (0 : Int32)), (5, .int (1 : Int32)), (4, .int (zpt M)), (3, .int (zI M 155 2)), (0, .ref 157), (1, .ref 155), (2, .ref 19)]) (zml mf28 (by decide)) rfl ?_
        refine zs_iload (pc := 41) t28_41 rfl ?_
        refine zs_iload (pc := 43) t28_43 rfl ?_
        refine zs_icmp_geF (pc := 45) t28_45 li0 li1 (by decide) ?_
        refine zs_aload_n (pc := 48) t28_48 rfl ?_
        have w314 : (zI (zsI M 155 2 w19v) 155 2).toInt = ((zI M 155 2).toInt + 1) := (congrArg Int32.toInt zIs).trans w19
        have w315 : (zI (zsI M 155 2 w19v) 155 2).toInt = ((zI M 155 2).toInt + 1) := (congrArg Int32.toInt zIs).trans w19
        have w316 : (zI (zsI M 155 2 w19v) 155 1).toInt = (zI M 155 1).toInt := (congrArg Int32.toInt ((zIoj (by decide)).trans rfl)).trans rfl
        refine zs_invV (pc := 49) (k := 155) (as' := []) (st := []) t28_49 mf35 rfl rfl (Or.inl ⟨by decide, (zk1 (hs.k fk_zMc_155))⟩) ⟨by decide, by decide, Nat.le_of_ble_eq_true rfl, Nat.le_of_ble_eq_true rfl⟩ (X35_155 hs w20 (by omega) (by omega) (zTa.fr x1 (zEq.put rfl)) ?_) (fun _ _ q => q)
        intro w317M w317v w317s w317I w317F w317x0 w317a w317b
        show zGo X l 5 0 0 28 52 [(6, .int (0 : Int32)), (5, .int (1 : Int32)), (4, .int (zpt M)), (3, .int (zI M 155 2)), (0, .ref 157), (1, .ref 155), (2, .ref 19)] [.int w317v] w317M _
        rcases w317x0 (w11n + 1) (by omega) with ⟨w318v, w318e⟩ | ⟨w318v, w318E, w318x, w318e, w318_3, w318_4, w318_5, w318_6, w318_7, w318_8⟩
        · skip
          refine zs_if_neF (pc := 52) t28_52 rfl (by omega) ?_
          refine zs_iconst (pc := 55) t28_55 (v := 0) (by decide) ?_
          have w319 := zrg (zI w317M 155 2)
          have w320 : (zI w317M 155 2).toInt = (zI w317M 155 2).toInt := (congrArg Int32.toInt rfl).trans rfl
          have w321 : F 0 = 0 → pLo F = 1 := fun q => pLo.z q
          exact zs_iret (pc := 56) t28_56 mr28 (by decide) (hQ _ _ w317s w317I (((zFr.refl).put rfl).trans (w317F.mono rfl)) (fun p hp => by obtain rfl : w11n = p := (by omega); exact Or.inl ⟨by decide, (pIt.r (by omega) (by omega)).trans (pB.f (pRd.f w318e))⟩) (by decide) (by decide))
        · skip
          subst w318_4
          refine zs_if_neT (pc := 52) t28_52 rfl (by omega) ?_
          refine zs_aload_n (pc := 57) t28_57 rfl ?_
          refine zs_iload (pc := 58) t28_58 rfl ?_
          refine zs_iload (pc := 60) t28_60 rfl ?_
          refine zs_aload_n (pc := 62) t28_62 rfl ?_
          refine zs_invV (pc := 63) (k := 155) (as' := []) (st := [.int (0 : Int32), .int (zpt M), .ref 157]) t28_63 mf37 rfl rfl (Or.inl ⟨by decide, (zk1 (w317s.k fk_zMc_155))⟩) ⟨by decide, by decide, Nat.le_of_ble_eq_true rfl, Nat.le_of_ble_eq_true rfl⟩ (zs_in (by decide) mf37 (Nat.le_of_ble_eq_true rfl) ?_) (fun _ _ q => q)
          show zGo X l 0 0 0 37 0 [(0, .ref 155)] [] w317M _
          refine zs_aload_n (pc := 0) t37_0 rfl ?_
          have w322 := ib155_4 w317I
          refine zs_get (pc := 1) t37_1 (by decide) (zk1 (w317s.k fk_zMc_155)) (zfvi rfl rfl) ?_
          refine zs_iret (pc := 4) t37_4 mr37 rfl ?_
          show zGo X l 5 0 0 28 66 [(6, .int (0 : Int32)), (5, .int (1 : Int32)), (4, .int (zpt M)), (3, .int (zI M 155 2)), (0, .ref 157), (1, .ref 155), (2, .ref 19)] [.int (zI w317M 155 4), .int (0 : Int32), .int (zpt M), .ref 157] w317M _
          refine zs_aload_n (pc := 66) t28_66 rfl ?_
          refine zs_invV (pc := 67) (k := 157) (as' := [.int (zpt M), .int (0 : Int32), .int (zI w317M 155 4), .ref 19]) (st := []) t28_67 mf38 rfl rfl (Or.inl ⟨by decide, (zk1 (w317s.k fk_zMc_157))⟩) ⟨by decide, by decide, Nat.le_of_ble_eq_true rfl, Nat.le_of_ble_eq_true rfl⟩ (zs_in (by decide) mf38 (Nat.le_of_ble_eq_true rfl) ?_) (fun _ _ q => q)
          show zGo X l 2 0 0 38 0 [(0, .ref 157), (1, .int (zpt M)), (2, .int (0 : Int32)), (3, .int (zI w317M 155 4)), (4, .ref 19)] [] w317M _
          refine zs_iload_n (pc := 0) t38_0 rfl ?_
          refine zs_lsw (pc := 1) t38_1 (off := 43) ((w12 : (zpt M).toInt = (g w11n)).trans (by omega)) rfl (pc2 := 44) rfl ?_
          refine zs_iload_n (pc := 44) t38_44 rfl ?_
          refine zs_aload (pc := 45) t38_45 rfl ?_
          refine zs_get (pc := 47) t38_47 (by decide) (zk1 (w317s.k fk_zMc_19)) (zfvi rfl ((w317F 19 0 rfl).trans ((zIo (by decide)).trans rfl))) ?_
          by_cases w323 : (zI M 19 0).toInt ≠ 0
          · refine zs_if_neT (pc := 50) t38_50 rfl (by omega) ?_
            refine zs_aload (pc := 57) t38_57 rfl ?_
            refine zs_get (pc := 59) t38_59 (by decide) (zk1 (w317s.k fk_zMc_19)) (w317s.p rfl fv_zMc_19_1) ?_
            refine zs_aload (pc := 62) t38_62 rfl ?_
            refine zs_get (pc := 64) t38_64 (by decide) (zk1 (w317s.k fk_zMc_19)) (zfvi rfl ((w317F 19 0 rfl).trans ((zIo (by decide)).trans rfl))) ?_
            refine zs_iconst (pc := 67) t38_67 (v := 1) (by decide) ?_
            obtain ⟨w324v, w324e, w324⟩ := zisub (a := (zI M 19 0)) (b := (1 : Int32)) rfl li1 (by omega) (by omega)
            refine zs_isub (pc := 68) t38_68 (c := w324v) w324e ?_
            obtain ⟨w325n, w325⟩ : ∃ n : Nat, w324v.toInt = (n : Int) := ⟨w324v.toInt.toNat, by omega⟩
            have w326 := zrg (zI M 20 w325n)
            have w327 : (zI M 20 w325n).toInt = F (14 + 2 * w325n) ∧ (zI M 21 w325n).toInt = F (15 + 2 * w325n) := x0.2.1 w325n (by omega)
            have w328 := x2.2.1 w325n (by omega)
            refine zs_iald (pc := 69) t38_69 (j := w325n) (by decide) (zk1 (w317s.k fk_zMc_20)) w325 (zk2 (w317s.k fk_zMc_20) (by omega)) ((w317F 20 w325n rfl).trans ((zIo (by decide)).trans rfl)) ?_
            refine zs_iconst (pc := 70) t38_70 (v := 1) (by decide) ?_
            obtain ⟨w329v, w329e, w329⟩ := ziadd (a := (zI M 20 w325n)) (b := (1 : Int32)) rfl li1 (by omega) (by omega)
            refine zs_iadd (pc := 71) t38_71 (c := w329v) w329e ?_
            refine zs_sipush (pc := 72) t38_72 (v := 999) (by decide) ?_
            refine zs_invS (pc := 75) (as := [.int (zI w317M 155 4), .int w329v, .int (999 : Int32)]) (st := []) t38_75 (by decide) mf39 rfl rfl ⟨by decide, by decide, Nat.le_of_ble_eq_true rfl, Nat.le_of_ble_eq_true rfl⟩ (zs_in (by decide) mf39 (Nat.le_of_ble_eq_true rfl) ?_) (fun _ _ q => q)
            show zGo X l 0 0 0 39 0 [(0, .int (zI w317M 155 4)), (1, .int w329v), (2, .int (999 : Int32))] [] w317M _
            refine zs_iload_n (pc := 0) t39_0 rfl ?_
            refine zs_iload_n (pc := 1) t39_1 rfl ?_
            by_cases w330 : (zI w317M 155 4).toInt < ((zI M 20 w325n).toInt + 1)
            · refine zs_icmp_ltT (pc := 2) t39_2 rfl w329 (by omega) ?_
              refine zs_iconst (pc := 14) t39_14 (v := 0) (by decide) ?_
              refine zs_iret (pc := 15) t39_15 mr39 (by decide) ?_
              show zGo X l 2 0 0 38 78 [(0, .ref 157), (1, .int (zpt M)), (2, .int (0 : Int32)), (3, .int (zI w317M 155 4)), (4, .ref 19)] [.int (0 : Int32)] w317M _
              refine zs_iret (pc := 78) t38_78 mr38 (by decide) ?_
              show zGo X l 5 0 0 28 70 [(6, .int (0 : Int32)), (5, .int (1 : Int32)), (4, .int (zpt M)), (3, .int (zI M 155 2)), (0, .ref 157), (1, .ref 155), (2, .ref 19)] [.int (0 : Int32)] w317M _
              refine zs_if_neF (pc := 70) t28_70 li0 (by decide) ?_
              refine zs_aload_n (pc := 73) t28_73 rfl ?_
              refine zs_aload_n (pc := 74) t28_74 rfl ?_
              refine zs_invV (pc := 75) (k := 155) (as' := []) (st := [.ref 155]) t28_75 mf46 rfl rfl (Or.inl ⟨by decide, (zk1 (w317s.k fk_zMc_155))⟩) ⟨by decide, by decide, Nat.le_of_ble_eq_true rfl, Nat.le_of_ble_eq_true rfl⟩ (zs_in (by decide) mf46 (Nat.le_of_ble_eq_true rfl) ?_) (fun _ _ q => q)
              show zGo X l 0 0 0 46 0 [(0, .ref 155)] [] w317M _
              refine zs_aload_n (pc := 0) t46_0 rfl ?_
              have w331 := zrg (zI w317M 155 5)
              refine zs_get (pc := 1) t46_1 (by decide) (zk1 (w317s.k fk_zMc_155)) (zfvi rfl rfl) ?_
              refine zs_iret (pc := 4) t46_4 mr46 rfl ?_
              show zGo X l 5 0 0 28 78 [(6, .int (0 : Int32)), (5, .int (1 : Int32)), (4, .int (zpt M)), (3, .int (zI M 155 2)), (0, .ref 157), (1, .ref 155), (2, .ref 19)] [.int (zI w317M 155 5), .ref 155] w317M _
              refine zs_invV (pc := 78) (k := 155) (as' := [.int (zI w317M 155 5)]) (st := []) t28_78 mf34 rfl rfl (Or.inl ⟨by decide, (zk1 (w317s.k fk_zMc_155))⟩) ⟨by decide, by decide, Nat.le_of_ble_eq_true rfl, Nat.le_of_ble_eq_true rfl⟩ (zs_in (by decide) mf34 (Nat.le_of_ble_eq_true rfl) ?_) (fun _ _ q => q)
              show zGo X l 0 0 0 34 0 [(0, .ref 155), (1, .int (zI w317M 155 5))] [] w317M _
              refine zs_aload_n (pc := 0) t34_0 rfl ?_
              refine zs_iload_n (pc := 1) t34_1 rfl ?_
              have w332 : zIv cLo cHi (zsI w317M 155 3 (zI w317M 155 5)) := zIv.put w317I (show (-2147483648) ≤ (zI w317M 155 5).toInt ∧ (zI w317M 155 5).toInt ≤ 2147483647 from zrg (zI w317M 155 5))
              refine zs_putI (pc := 2) t34_2 (zk1 (w317s.k fk_zMc_155)) rfl ?_
              refine zs_iconst (pc := 5) t34_5 (v := 0) (by decide) ?_
              refine zs_iret (pc := 6) t34_6 mr34 (by decide) ?_
              show zGo X l 5 0 0 28 81 [(6, .int (0 : Int32)), (5, .int (1 : Int32)), (4, .int (zpt M)), (3, .int (zI M 155 2)), (0, .ref 157), (1, .ref 155), (2, .ref 19)] [.int (0 : Int32)] (zsI w317M 155 3 (zI w317M 155 5)) _
              have w333 := zrg (zI w317M 155 2)
              have w334 : (zI (zsI w317M 155 3 (zI w317M 155 5)) 155 2).toInt = (zI w317M 155 2).toInt := (congrArg Int32.toInt ((zIoj (by decide)).trans rfl)).trans rfl
              have w335 : F 0 = 0 → pLo F = 1 := fun q => pLo.z q
              have w336 : F 0 = ((w325n : Nat) : Int) + 1 → pLo F = F (14 + 2 * w325n) + 1 := fun q => pLo.e q
              exact zs_iret (pc := 81) t28_81 mr28 (by decide) (hQ _ _ w317s w332 ((((zFr.refl).put rfl).trans (w317F.mono rfl)).put rfl) (fun p hp => by obtain rfl : w11n = p := (by omega); exact Or.inl ⟨by decide, (pIt.r (by omega) (by omega)).trans (pB.f (pRd.n w318e (by omega)))⟩) (by decide) (by decide))
            · refine zs_icmp_ltF (pc := 2) t39_2 rfl w329 (by omega) ?_
              refine zs_iload_n (pc := 5) t39_5 rfl ?_
              refine zs_iload_n (pc := 6) t39_6 rfl ?_
              by_cases w337 : 999 < (zI w317M 155 4).toInt
              · refine zs_icmp_gtT (pc := 7) t39_7 rfl li999 (by omega) ?_
                refine zs_iconst (pc := 14) t39_14 (v := 0) (by decide) ?_
                refine zs_iret (pc := 15) t39_15 mr39 (by decide) ?_
                show zGo X l 2 0 0 38 78 [(0, .ref 157), (1, .int (zpt M)), (2, .int (0 : Int32)), (3, .int (zI w317M 155 4)), (4, .ref 19)] [.int (0 : Int32)] w317M _
                refine zs_iret (pc := 78) t38_78 mr38 (by decide) ?_
                show zGo X l 5 0 0 28 70 [(6, .int (0 : Int32)), (5, .int (1 : Int32)), (4, .int (zpt M)), (3, .int (zI M 155 2)), (0, .ref 157), (1, .ref 155), (2, .ref 19)] [.int (0 : Int32)] w317M _
                refine zs_if_neF (pc := 70) t28_70 li0 (by decide) ?_
                refine zs_aload_n (pc := 73) t28_73 rfl ?_
                refine zs_aload_n (pc := 74) t28_74 rfl ?_
                refine zs_invV (pc := 75) (k := 155) (as' := []) (st := [.ref 155]) t28_75 mf46 rfl rfl (Or.inl ⟨by decide, (zk1 (w317s.k fk_zMc_155))⟩) ⟨by decide, by decide, Nat.le_of_ble_eq_true rfl, Nat.le_of_ble_eq_true rfl⟩ (zs_in (by decide) mf46 (Nat.le_of_ble_eq_true rfl) ?_) (fun _ _ q => q)
                show zGo X l 0 0 0 46 0 [(0, .ref 155)] [] w317M _
                refine zs_aload_n (pc := 0) t46_0 rfl ?_
                have w338 := zrg (zI w317M 155 5)
                refine zs_get (pc := 1) t46_1 (by decide) (zk1 (w317s.k fk_zMc_155)) (zfvi rfl rfl) ?_
                refine zs_iret (pc := 4) t46_4 mr46 rfl ?_
                show zGo X l 5 0 0 28 78 [(6, .int (0 : Int32)), (5, .int (1 : Int32)), (4, .int (zpt M)), (3, .int (zI M 155 2)), (0, .ref 157), (1, .ref 155), (2, .ref 19)] [.int (zI w317M 155 5), .ref 155] w317M _
                refine zs_invV (pc := 78) (k := 155) (as' := [.int (zI w317M 155 5)]) (st := []) t28_78 mf34 rfl rfl (Or.inl ⟨by decide, (zk1 (w317s.k fk_zMc_155))⟩) ⟨by decide, by decide, Nat.le_of_ble_eq_true rfl, Nat.le_of_ble_eq_true rfl⟩ (zs_in (by decide) mf34 (Nat.le_of_ble_eq_true rfl) ?_) (fun _ _ q => q)
                show zGo X l 0 0 0 34 0 [(0, .ref 155), (1, .int (zI w317M 155 5))] [] w317M _
                refine zs_aload_n (pc := 0) t34_0 rfl ?_
                refine zs_iload_n (pc := 1) t34_1 rfl ?_
                have w339 : zIv cLo cHi (zsI w317M 155 3 (zI w317M 155 5)) := zIv.put w317I (show (-2147483648) ≤ (zI w317M 155 5).toInt ∧ (zI w317M 155 5).toInt ≤ 2147483647 from zrg (zI w317M 155 5))
                refine zs_putI (pc := 2) t34_2 (zk1 (w317s.k fk_zMc_155)) rfl ?_
                refine zs_iconst (pc := 5) t34_5 (v := 0) (by decide) ?_
                refine zs_iret (pc := 6) t34_6 mr34 (by decide) ?_
                show zGo X l 5 0 0 28 81 [(6, .int (0 : Int32)), (5, .int (1 : Int32)), (4, .int (zpt M)), (3, .int (zI M 155 2)), (0, .ref 157), (1, .ref 155), (2, .ref 19)] [.int (0 : Int32)] (zsI w317M 155 3 (zI w317M 155 5)) _
                have w340 := zrg (zI w317M 155 2)
                have w341 : (zI (zsI w317M 155 3 (zI w317M 155 5)) 155 2).toInt = (zI w317M 155 2).toInt := (congrArg Int32.toInt ((zIoj (by decide)).trans rfl)).trans rfl
                have w342 : F 0 = 0 → pLo F = 1 := fun q => pLo.z q
                have w343 : F 0 = ((w325n : Nat) : Int) + 1 → pLo F = F (14 + 2 * w325n) + 1 := fun q => pLo.e q
                exact zs_iret (pc := 81) t28_81 mr28 (by decide) (hQ _ _ w317s w339 ((((zFr.refl).put rfl).trans (w317F.mono rfl)).put rfl) (fun p hp => by obtain rfl : w11n = p := (by omega); exact Or.inl ⟨by decide, (pIt.r (by omega) (by omega)).trans (pB.f (pRd.n w318e (by omega)))⟩) (by decide) (by decide))
              · refine zs_icmp_gtF (pc := 7) t39_7 rfl li999 (by omega) ?_
                refine zs_iconst (pc := 10) t39_10 (v := 1) (by decide) ?_
                refine zs_goto (pc := 11) t39_11 ?_
                refine zs_iret (pc := 15) t39_15 mr39 (by decide) ?_
                show zGo X l 2 0 0 38 78 [(0, .ref 157), (1, .int (zpt M)), (2, .int (0 : Int32)), (3, .int (zI w317M 155 4)), (4, .ref 19)] [.int (1 : Int32)] w317M _
                refine zs_iret (pc := 78) t38_78 mr38 (by decide) ?_
                show zGo X l 5 0 0 28 70 [(6, .int (0 : Int32)), (5, .int (1 : Int32)), (4, .int (zpt M)), (3, .int (zI M 155 2)), (0, .ref 157), (1, .ref 155), (2, .ref 19)] [.int (1 : Int32)] w317M _
                refine zs_if_neT (pc := 70) t28_70 li1 (by decide) ?_
                refine zs_aload_n (pc := 82) t28_82 rfl ?_
                refine zs_get (pc := 83) t28_83 (by decide) (zk1 (w317s.k fk_zMc_157)) (w317s.p rfl fv_zMc_157_0) ?_
                refine zs_iload (pc := 86) t28_86 rfl ?_
                refine zs_aload_n (pc := 88) t28_88 rfl ?_
                refine zs_invV (pc := 89) (k := 155) (as' := []) (st := [.int (0 : Int32), .ref 158]) t28_89 mf37 rfl rfl (Or.inl ⟨by decide, (zk1 (w317s.k fk_zMc_155))⟩) ⟨by decide, by decide, Nat.le_of_ble_eq_true rfl, Nat.le_of_ble_eq_true rfl⟩ (zs_in (by decide) mf37 (Nat.le_of_ble_eq_true rfl) ?_) (fun _ _ q => q)
                show zGo X l 0 0 0 37 0 [(0, .ref 155)] [] w317M _
                refine zs_aload_n (pc := 0) t37_0 rfl ?_
                refine zs_get (pc := 1) t37_1 (by decide) (zk1 (w317s.k fk_zMc_155)) (zfvi rfl rfl) ?_
                refine zs_iret (pc := 4) t37_4 mr37 rfl ?_
                show zGo X l 5 0 0 28 92 [(6, .int (0 : Int32)), (5, .int (1 : Int32)), (4, .int (zpt M)), (3, .int (zI M 155 2)), (0, .ref 157), (1, .ref 155), (2, .ref 19)] [.int (zI w317M 155 4), .int (0 : Int32), .ref 158] w317M _
                have w344 : zIv cLo cHi (zsI w317M 158 0 (zI w317M 155 4)) := zIv.put w317I (show (-300000) ≤ (zI w317M 155 4).toInt ∧ (zI w317M 155 4).toInt ≤ 300000 from ⟨by omega, by omega⟩)
                refine zs_iast (pc := 92) t28_92 (j := 0) (by decide) (zk1 (w317s.k fk_zMc_158)) li0 (zk2 (w317s.k fk_zMc_158) (by decide)) ?_
                refine zs_aload_n (pc := 93) t28_93 rfl ?_
                refine zs_iload (pc := 94) t28_94 rfl ?_
                refine zs_iconst (pc := 96) t28_96 (v := 1) (by decide) ?_
                refine zs_iadd (pc := 97) t28_97 (c := 1) (by decide) ?_
                refine zs_iload (pc := 98) t28_98 rfl ?_
                refine zs_icmp_geT (pc := 100) t28_100 li1 li1 (by decide) ?_
                refine zs_bipush (pc := 108) t28_108 (v := 59) (by decide) ?_
                refine zs_invV (pc := 110) (k := 155) (as' := [.int (59 : Int32)]) (st := []) t28_110 mf47 rfl rfl (Or.inl ⟨by decide, (zk1 (w317s.k fk_zMc_155))⟩) ⟨by decide, by decide, Nat.le_of_ble_eq_true rfl, Nat.le_of_ble_eq_true rfl⟩ (zs_in (by decide) mf47 (Nat.le_of_ble_eq_true rfl) ?_) (fun _ _ q => q)
                show zGo X l 1 0 0 47 0 [(0, .ref 155), (1, .int (59 : Int32))] [] (zsI w317M 158 0 (zI w317M 155 4)) _
                refine zs_aload_n (pc := 0) t47_0 rfl ?_
                refine zs_invV (pc := 1) (k := 155) (as' := []) (st := []) t47_1 mf31 rfl rfl (Or.inl ⟨by decide, (zk1 (w317s.k fk_zMc_155))⟩) ⟨by decide, by decide, Nat.le_of_ble_eq_true rfl, Nat.le_of_ble_eq_true rfl⟩ (P31 w317s w344 ?_) (fun _ _ q => q)
                have w346 := zrg (zI w317M 155 2)
                have w347 : (zI (zsI w317M 158 0 (zI w317M 155 4)) 155 2).toInt = (zI w317M 155 2).toInt := (congrArg Int32.toInt ((zIo (by decide)).trans rfl)).trans rfl
                have w348 : (zI (zsI w317M 158 0 (zI w317M 155 4)) 155 1).toInt = (zI M 155 1).toInt := (congrArg Int32.toInt ((zIo (by decide)).trans ((w317F 155 1 rfl).trans ((zIoj (by decide)).trans rfl)))).trans rfl
                have w345 : (zpt (zsI w317M 158 0 (zI w317M 155 4))).toInt = g w318E := zpt.tr (zTa.fr x1 (zEq.tr (zEq.tr (zEq.put rfl) (zFr.eq w317F rfl)) (zEq.put rfl))) (by omega)
                have w349 := zTa.rg (M := (zsI w317M 158 0 (zI w317M 155 4))) (zTa.fr x1 (zEq.tr (zEq.tr (zEq.put rfl) (zFr.eq w317F rfl)) (zEq.put rfl))) w318E
                show zGo X l 1 0 0 47 4 [(0, .ref 155), (1, .int (59 : Int32))] [.int (zpt (zsI w317M 158 0 (zI w317M 155 4)))] (zsI w317M 158 0 (zI w317M 155 4)) _
                refine zs_iload_n (pc := 4) t47_4 rfl ?_
                by_cases w350 : (g w318E) = 59
                · refine zs_icmp_eqT (pc := 5) t47_5 w345 li59 (by omega) ?_
                  refine zs_aload_n (pc := 17) t47_17 rfl ?_
                  refine zs_dup (pc := 18) t47_18 rfl ?_
                  refine zs_get (pc := 19) t47_19 (by decide) (zk1 (w317s.k fk_zMc_155)) (zfvi rfl ((zIo (by decide)).trans rfl)) ?_
                  refine zs_iconst (pc := 22) t47_22 (v := 1) (by decide) ?_
                  obtain ⟨w351v, w351e, w351⟩ := ziadd (a := (zI w317M 155 2)) (b := (1 : Int32)) rfl li1 (by omega) (by omega)
                  refine zs_iadd (pc := 23) t47_23 (c := w351v) w351e ?_
                  have w352 : zIv cLo cHi (zsI (zsI w317M 158 0 (zI w317M 155 4)) 155 2 w351v) := zIv.put w344 (show (-2147483648) ≤ w351v.toInt ∧ w351v.toInt ≤ 2147483647 from zrg w351v)
                  refine zs_putI (pc := 24) t47_24 (zk1 (w317s.k fk_zMc_155)) rfl ?_
                  refine zs_iconst (pc := 27) t47_27 (v := 1) (by decide) ?_
                  refine zs_iret (pc := 28) t47_28 mr47 (by decide) ?_
                  show zGo X l 5 0 0 28 113 [(6, .int (0 : Int32)), (5, .int (1 : Int32)), (4, .int (zpt M)), (3, .int (zI M 155 2)), (0, .ref 157), (1, .ref 155), (2, .ref 19)] [.int (1 : Int32)] (zsI (zsI w317M 158 0 (zI w317M 155 4)) 155 2 w351v) _
                  refine zs_if_neT (pc := 113) t28_113 li1 (by decide) ?_
                  refine zs_iinc (pc := 118) t28_118 (ls' := [(6, .int (1 : Int32)), (5, .int (1 : Int32)), (4, .int (zpt M)), (3, .int (zI M 155 2)), (0, .ref 157), (1, .ref 155), (2, .ref 19)]) (zml mf28 (by decide)) rfl (c := 1) (by decide) rfl ?_
                  refine zs_goto (pc := 121) t28_121 ?_
                  refine zs_iload (pc := 41) t28_41 rfl ?_
                  refine zs_iload (pc := 43) t28_43 rfl ?_
                  refine zs_icmp_geT (pc := 45) t28_45 li1 li1 (by decide) ?_
                  refine zs_aload_n (pc := 124) t28_124 rfl ?_
                  refine zs_iload (pc := 125) t28_125 rfl ?_
                  refine zs_aload_n (pc := 127) t28_127 rfl ?_
                  refine zs_invV (pc := 128) (k := 157) (as' := [.int (zpt M), .ref 19]) (st := []) t28_128 mf48 rfl rfl (Or.inl ⟨by decide, (zk1 (w317s.k fk_zMc_157))⟩) ⟨by decide, by decide, Nat.le_of_ble_eq_true rfl, Nat.le_of_ble_eq_true rfl⟩ (zs_in (by decide) mf48 (Nat.le_of_ble_eq_true rfl) ?_) (fun _ _ q => q)
                  show zGo X l 4 0 0 48 0 [(0, .ref 157), (1, .int (zpt M)), (2, .ref 19)] [] (zsI (zsI w317M 158 0 (zI w317M 155 4)) 155 2 w351v) _
                  refine zs_iload_n (pc := 0) t48_0 rfl ?_
                  refine zs_lsw (pc := 1) t48_1 (off := 35) ((w12 : (zpt M).toInt = (g w11n)).trans (by omega)) rfl (pc2 := 36) rfl ?_
                  refine zs_aload_n (pc := 36) t48_36 rfl ?_
                  refine zs_aload_n (pc := 37) t48_37 rfl ?_
                  refine zs_get (pc := 38) t48_38 (by decide) (zk1 (w317s.k fk_zMc_157)) (w317s.p rfl fv_zMc_157_0) ?_
                  refine zs_iconst (pc := 41) t48_41 (v := 0) (by decide) ?_
                  refine zs_iald (pc := 42) t48_42 (j := 0) (by decide) (zk1 (w317s.k fk_zMc_158)) li0 (zk2 (w317s.k fk_zMc_158) (by decide)) ((zIo (by decide)).trans zIs) ?_
                  refine zs_invV (pc := 43) (k := 19) (as' := [.int (zI w317M 155 4)]) (st := []) t48_43 mf49 rfl rfl (Or.inl ⟨by decide, (zk1 (w317s.k fk_zMc_19))⟩) ⟨by decide, by decide, Nat.le_of_ble_eq_true rfl, Nat.le_of_ble_eq_true rfl⟩ (X49_19 w317s w352 (zSo.fr x0 (zEq.tr (zEq.tr (zEq.tr (zEq.put rfl) (zFr.eq w317F rfl)) (zEq.put rfl)) (zEq.put rfl))) ?_) (fun _ _ q => q)
                  intro w353M w353v w353s w353I w353F w353x0 w353a w353b
                  have w353y := w353x0.resolve_left (fun q => by have z := q.2.1; omega)
                  have w353v1 := w353y.1
                  show zGo X l 4 0 0 48 46 [(0, .ref 157), (1, .int (zpt M)), (2, .ref 19)] [.int w353v] w353M _
                  refine zs_iret (pc := 46) t48_46 mr48 (zfb01 (by omega)) ?_
                  show zGo X l 5 0 0 28 131 [(6, .int (1 : Int32)), (5, .int (1 : Int32)), (4, .int (zpt M)), (3, .int (zI M 155 2)), (0, .ref 157), (1, .ref 155), (2, .ref 19)] [.int w353v] w353M _
                  by_cases w354 : w353v.toInt ≠ 0
                  · refine zs_if_neT (pc := 131) t28_131 rfl (by omega) ?_
                    refine zs_iconst (pc := 142) t28_142 (v := 1) (by decide) ?_
                    refine zs_goto (pc := 143) t28_143 ?_
                    have w355 : (zI w353M 155 2).toInt = ((zI w317M 155 2).toInt + 1) := (congrArg Int32.toInt ((w353F 155 2 rfl).trans zIs)).trans w351
                    have w356 : F 0 = 0 → pLo F = 1 := fun q => pLo.z q
                    have w357 : F 0 = ((w325n : Nat) : Int) + 1 → pLo F = F (14 + 2 * w325n) + 1 := fun q => pLo.e q
                    exact zs_iret (pc := 147) t28_147 mr28 (by decide) (hQ _ _ w353s w353I ((((((zFr.refl).put rfl).trans (w317F.mono rfl)).put rfl).put rfl).trans (w353F.mono rfl)) (fun p hp => by obtain rfl : w11n = p := (by omega); exact Or.inr ⟨by decide, w318E + 1, (pLay F (zI w317M 155 4).toInt), ((pIt.r (by omega) (by omega)).trans (pB.y (pRd.y w318e (by omega) (by omega) (by omega)))), by omega, by omega, by omega, w353y.2.2, x2.lay (by omega) (by omega) (by omega)⟩) (by decide) (by decide))
                  · refine zs_if_neF (pc := 131) t28_131 rfl (by omega) ?_
                    refine zs_aload_n (pc := 134) t28_134 rfl ?_
                    refine zs_iload_n (pc := 135) t28_135 rfl ?_
                    refine zs_invV (pc := 136) (k := 155) (as' := [.int (zI M 155 2)]) (st := []) t28_136 mf34 rfl rfl (Or.inl ⟨by decide, (zk1 (w353s.k fk_zMc_155))⟩) ⟨by decide, by decide, Nat.le_of_ble_eq_true rfl, Nat.le_of_ble_eq_true rfl⟩ (zs_in (by decide) mf34 (Nat.le_of_ble_eq_true rfl) ?_) (fun _ _ q => q)
                    show zGo X l 0 0 0 34 0 [(0, .ref 155), (1, .int (zI M 155 2))] [] w353M _
                    refine zs_aload_n (pc := 0) t34_0 rfl ?_
                    refine zs_iload_n (pc := 1) t34_1 rfl ?_
                    have w358 : zIv cLo cHi (zsI w353M 155 3 (zI M 155 2)) := zIv.put w353I (show (-2147483648) ≤ (zI M 155 2).toInt ∧ (zI M 155 2).toInt ≤ 2147483647 from zrg (zI M 155 2))
                    refine zs_putI (pc := 2) t34_2 (zk1 (w353s.k fk_zMc_155)) rfl ?_
                    refine zs_iconst (pc := 5) t34_5 (v := 0) (by decide) ?_
                    refine zs_iret (pc := 6) t34_6 mr34 (by decide) ?_
                    show zGo X l 5 0 0 28 139 [(6, .int (1 : Int32)), (5, .int (1 : Int32)), (4, .int (zpt M)), (3, .int (zI M 155 2)), (0, .ref 157), (1, .ref 155), (2, .ref 19)] [.int (0 : Int32)] (zsI w353M 155 3 (zI M 155 2)) _
                    refine zs_if_eqT (pc := 139) t28_139 li0 (by decide) ?_
                    refine zs_iconst (pc := 146) t28_146 (v := 0) (by decide) ?_
                    have w359 : (zI (zsI w353M 155 3 (zI M 155 2)) 155 2).toInt = ((zI w317M 155 2).toInt + 1) := (congrArg Int32.toInt ((zIoj (by decide)).trans ((w353F 155 2 rfl).trans zIs))).trans w351
                    have w360 : F 0 = 0 → pLo F = 1 := fun q => pLo.z q
                    have w361 : F 0 = ((w325n : Nat) : Int) + 1 → pLo F = F (14 + 2 * w325n) + 1 := fun q => pLo.e q
                    exact zs_iret (pc := 147) t28_147 mr28 (by decide) (hQ _ _ w353s w358 (((((((zFr.refl).put rfl).trans (w317F.mono rfl)).put rfl).put rfl).trans (w353F.mono rfl)).put rfl) (fun p hp => by obtain rfl : w11n = p := (by omega); exact Or.inl ⟨by decide, (pIt.r (by omega) (by omega)).trans (pB.f (pRd.n w318e (by omega)))⟩) (by decide) (by decide))
                · refine zs_icmp_eqF (pc := 5) t47_5 w345 li59 (by omega) ?_
                  refine zs_aload_n (pc := 8) t47_8 rfl ?_
                  refine zs_aload_n (pc := 9) t47_9 rfl ?_
                  refine zs_get (pc := 10) t47_10 (by decide) (zk1 (w317s.k fk_zMc_155)) (zfvi rfl ((zIo (by decide)).trans rfl)) ?_
                  refine zs_invV (pc := 13) (k := 155) (as' := [.int (zI w317M 155 2)]) (st := []) t47_13 mf34 rfl rfl (Or.inl ⟨by decide, (zk1 (w317s.k fk_zMc_155))⟩) ⟨by decide, by decide, Nat.le_of_ble_eq_true rfl, Nat.le_of_ble_eq_true rfl⟩ (zs_in (by decide) mf34 (Nat.le_of_ble_eq_true rfl) ?_) (fun _ _ q => q)
                  show zGo X l 0 0 0 34 0 [(0, .ref 155), (1, .int (zI w317M 155 2))] [] (zsI w317M 158 0 (zI w317M 155 4)) _
                  refine zs_aload_n (pc := 0) t34_0 rfl ?_
                  refine zs_iload_n (pc := 1) t34_1 rfl ?_
                  have w362 : zIv cLo cHi (zsI (zsI w317M 158 0 (zI w317M 155 4)) 155 3 (zI w317M 155 2)) := zIv.put w344 (show (-2147483648) ≤ (zI w317M 155 2).toInt ∧ (zI w317M 155 2).toInt ≤ 2147483647 from zrg (zI w317M 155 2))
                  refine zs_putI (pc := 2) t34_2 (zk1 (w317s.k fk_zMc_155)) rfl ?_
                  refine zs_iconst (pc := 5) t34_5 (v := 0) (by decide) ?_
                  refine zs_iret (pc := 6) t34_6 mr34 (by decide) ?_
                  show zGo X l 1 0 0 47 16 [(0, .ref 155), (1, .int (59 : Int32))] [.int (0 : Int32)] (zsI (zsI w317M 158 0 (zI w317M 155 4)) 155 3 (zI w317M 155 2)) _
                  refine zs_iret (pc := 16) t47_16 mr47 (by decide) ?_
                  show zGo X l 5 0 0 28 113 [(6, .int (0 : Int32)), (5, .int (1 : Int32)), (4, .int (zpt M)), (3, .int (zI M 155 2)), (0, .ref 157), (1, .ref 155), (2, .ref 19)] [.int (0 : Int32)] (zsI (zsI w317M 158 0 (zI w317M 155 4)) 155 3 (zI w317M 155 2)) _
                  refine zs_if_neF (pc := 113) t28_113 li0 (by decide) ?_
                  refine zs_iconst (pc := 116) t28_116 (v := 0) (by decide) ?_
                  have w363 : (zI (zsI (zsI w317M 158 0 (zI w317M 155 4)) 155 3 (zI w317M 155 2)) 155 2).toInt = (zI w317M 155 2).toInt := (congrArg Int32.toInt ((zIoj (by decide)).trans ((zIo (by decide)).trans rfl))).trans rfl
                  have w364 : F 0 = 0 → pLo F = 1 := fun q => pLo.z q
                  have w365 : F 0 = ((w325n : Nat) : Int) + 1 → pLo F = F (14 + 2 * w325n) + 1 := fun q => pLo.e q
                  exact zs_iret (pc := 117) t28_117 mr28 (by decide) (hQ _ _ w317s w362 (((((zFr.refl).put rfl).trans (w317F.mono rfl)).put rfl).put rfl) (fun p hp => by obtain rfl : w11n = p := (by omega); exact Or.inl ⟨by decide, (pIt.r (by omega) (by omega)).trans (pB.f (pRd.n w318e (by omega)))⟩) (by decide) (by decide))
          · refine zs_if_neF (pc := 50) t38_50 rfl (by omega) ?_
            refine zs_iconst (pc := 53) t38_53 (v := 1) (by decide) ?_
            refine zs_goto (pc := 54) t38_54 ?_
            refine zs_sipush (pc := 72) t38_72 (v := 999) (by decide) ?_
            refine zs_invS (pc := 75) (as := [.int (zI w317M 155 4), .int (1 : Int32), .int (999 : Int32)]) (st := []) t38_75 (by decide) mf39 rfl rfl ⟨by decide, by decide, Nat.le_of_ble_eq_true rfl, Nat.le_of_ble_eq_true rfl⟩ (zs_in (by decide) mf39 (Nat.le_of_ble_eq_true rfl) ?_) (fun _ _ q => q)
            show zGo X l 0 0 0 39 0 [(0, .int (zI w317M 155 4)), (1, .int (1 : Int32)), (2, .int (999 : Int32))] [] w317M _
            refine zs_iload_n (pc := 0) t39_0 rfl ?_
            refine zs_iload_n (pc := 1) t39_1 rfl ?_
            by_cases w366 : (zI w317M 155 4).toInt < 1
            · refine zs_icmp_ltT (pc := 2) t39_2 rfl li1 (by omega) ?_
              refine zs_iconst (pc := 14) t39_14 (v := 0) (by decide) ?_
              refine zs_iret (pc := 15) t39_15 mr39 (by decide) ?_
              show zGo X l 2 0 0 38 78 [(0, .ref 157), (1, .int (zpt M)), (2, .int (0 : Int32)), (3, .int (zI w317M 155 4)), (4, .ref 19)] [.int (0 : Int32)] w317M _
              refine zs_iret (pc := 78) t38_78 mr38 (by decide) ?_
              show zGo X l 5 0 0 28 70 [(6, .int (0 : Int32)), (5, .int (1 : Int32)), (4, .int (zpt M)), (3, .int (zI M 155 2)), (0, .ref 157), (1, .ref 155), (2, .ref 19)] [.int (0 : Int32)] w317M _
              refine zs_if_neF (pc := 70) t28_70 li0 (by decide) ?_
              refine zs_aload_n (pc := 73) t28_73 rfl ?_
              refine zs_aload_n (pc := 74) t28_74 rfl ?_
              refine zs_invV (pc := 75) (k := 155) (as' := []) (st := [.ref 155]) t28_75 mf46 rfl rfl (Or.inl ⟨by decide, (zk1 (w317s.k fk_zMc_155))⟩) ⟨by decide, by decide, Nat.le_of_ble_eq_true rfl, Nat.le_of_ble_eq_true rfl⟩ (zs_in (by decide) mf46 (Nat.le_of_ble_eq_true rfl) ?_) (fun _ _ q => q)
              show zGo X l 0 0 0 46 0 [(0, .ref 155)] [] w317M _
              refine zs_aload_n (pc := 0) t46_0 rfl ?_
              have w367 := zrg (zI w317M 155 5)
              refine zs_get (pc := 1) t46_1 (by decide) (zk1 (w317s.k fk_zMc_155)) (zfvi rfl rfl) ?_
              refine zs_iret (pc := 4) t46_4 mr46 rfl ?_
              show zGo X l 5 0 0 28 78 [(6, .int (0 : Int32)), (5, .int (1 : Int32)), (4, .int (zpt M)), (3, .int (zI M 155 2)), (0, .ref 157), (1, .ref 155), (2, .ref 19)] [.int (zI w317M 155 5), .ref 155] w317M _
              refine zs_invV (pc := 78) (k := 155) (as' := [.int (zI w317M 155 5)]) (st := []) t28_78 mf34 rfl rfl (Or.inl ⟨by decide, (zk1 (w317s.k fk_zMc_155))⟩) ⟨by decide, by decide, Nat.le_of_ble_eq_true rfl, Nat.le_of_ble_eq_true rfl⟩ (zs_in (by decide) mf34 (Nat.le_of_ble_eq_true rfl) ?_) (fun _ _ q => q)
              show zGo X l 0 0 0 34 0 [(0, .ref 155), (1, .int (zI w317M 155 5))] [] w317M _
              refine zs_aload_n (pc := 0) t34_0 rfl ?_
              refine zs_iload_n (pc := 1) t34_1 rfl ?_
              have w368 : zIv cLo cHi (zsI w317M 155 3 (zI w317M 155 5)) := zIv.put w317I (show (-2147483648) ≤ (zI w317M 155 5).toInt ∧ (zI w317M 155 5).toInt ≤ 2147483647 from zrg (zI w317M 155 5))
              refine zs_putI (pc := 2) t34_2 (zk1 (w317s.k fk_zMc_155)) rfl ?_
              refine zs_iconst (pc := 5) t34_5 (v := 0) (by decide) ?_
              refine zs_iret (pc := 6) t34_6 mr34 (by decide) ?_
              show zGo X l 5 0 0 28 81 [(6, .int (0 : Int32)), (5, .int (1 : Int32)), (4, .int (zpt M)), (3, .int (zI M 155 2)), (0, .ref 157), (1, .ref 155), (2, .ref 19)] [.int (0 : Int32)] (zsI w317M 155 3 (zI w317M 155 5)) _
              have w369 := zrg (zI w317M 155 2)
              have w370 : (zI (zsI w317M 155 3 (zI w317M 155 5)) 155 2).toInt = (zI w317M 155 2).toInt := (congrArg Int32.toInt ((zIoj (by decide)).trans rfl)).trans rfl
              have w371 : F 0 = 0 → pLo F = 1 := fun q => pLo.z q
              exact zs_iret (pc := 81) t28_81 mr28 (by decide) (hQ _ _ w317s w368 ((((zFr.refl).put rfl).trans (w317F.mono rfl)).put rfl) (fun p hp => by obtain rfl : w11n = p := (by omega); exact Or.inl ⟨by decide, (pIt.r (by omega) (by omega)).trans (pB.f (pRd.n w318e (by omega)))⟩) (by decide) (by decide))
            · refine zs_icmp_ltF (pc := 2) t39_2 rfl li1 (by omega) ?_
              refine zs_iload_n (pc := 5) t39_5 rfl ?_
              refine zs_iload_n (pc := 6) t39_6 rfl ?_
              by_cases w372 : 999 < (zI w317M 155 4).toInt
              · refine zs_icmp_gtT (pc := 7) t39_7 rfl li999 (by omega) ?_
                refine zs_iconst (pc := 14) t39_14 (v := 0) (by decide) ?_
                refine zs_iret (pc := 15) t39_15 mr39 (by decide) ?_
                show zGo X l 2 0 0 38 78 [(0, .ref 157), (1, .int (zpt M)), (2, .int (0 : Int32)), (3, .int (zI w317M 155 4)), (4, .ref 19)] [.int (0 : Int32)] w317M _
                refine zs_iret (pc := 78) t38_78 mr38 (by decide) ?_
                show zGo X l 5 0 0 28 70 [(6, .int (0 : Int32)), (5, .int (1 : Int32)), (4, .int (zpt M)), (3, .int (zI M 155 2)), (0, .ref 157), (1, .ref 155), (2, .ref 19)] [.int (0 : Int32)] w317M _
                refine zs_if_neF (pc := 70) t28_70 li0 (by decide) ?_
                refine zs_aload_n (pc := 73) t28_73 rfl ?_
                refine zs_aload_n (pc := 74) t28_74 rfl ?_
                refine zs_invV (pc := 75) (k := 155) (as' := []) (st := [.ref 155]) t28_75 mf46 rfl rfl (Or.inl ⟨by decide, (zk1 (w317s.k fk_zMc_155))⟩) ⟨by decide, by decide, Nat.le_of_ble_eq_true rfl, Nat.le_of_ble_eq_true rfl⟩ (zs_in (by decide) mf46 (Nat.le_of_ble_eq_true rfl) ?_) (fun _ _ q => q)
                show zGo X l 0 0 0 46 0 [(0, .ref 155)] [] w317M _
                refine zs_aload_n (pc := 0) t46_0 rfl ?_
                have w373 := zrg (zI w317M 155 5)
                refine zs_get (pc := 1) t46_1 (by decide) (zk1 (w317s.k fk_zMc_155)) (zfvi rfl rfl) ?_
                refine zs_iret (pc := 4) t46_4 mr46 rfl ?_
                show zGo X l 5 0 0 28 78 [(6, .int (0 : Int32)), (5, .int (1 : Int32)), (4, .int (zpt M)), (3, .int (zI M 155 2)), (0, .ref 157), (1, .ref 155), (2, .ref 19)] [.int (zI w317M 155 5), .ref 155] w317M _
                refine zs_invV (pc := 78) (k := 155) (as' := [.int (zI w317M 155 5)]) (st := []) t28_78 mf34 rfl rfl (Or.inl ⟨by decide, (zk1 (w317s.k fk_zMc_155))⟩) ⟨by decide, by decide, Nat.le_of_ble_eq_true rfl, Nat.le_of_ble_eq_true rfl⟩ (zs_in (by decide) mf34 (Nat.le_of_ble_eq_true rfl) ?_) (fun _ _ q => q)
                show zGo X l 0 0 0 34 0 [(0, .ref 155), (1, .int (zI w317M 155 5))] [] w317M _
                refine zs_aload_n (pc := 0) t34_0 rfl ?_
                refine zs_iload_n (pc := 1) t34_1 rfl ?_
                have w374 : zIv cLo cHi (zsI w317M 155 3 (zI w317M 155 5)) := zIv.put w317I (show (-2147483648) ≤ (zI w317M 155 5).toInt ∧ (zI w317M 155 5).toInt ≤ 2147483647 from zrg (zI w317M 155 5))
                refine zs_putI (pc := 2) t34_2 (zk1 (w317s.k fk_zMc_155)) rfl ?_
                refine zs_iconst (pc := 5) t34_5 (v := 0) (by decide) ?_
                refine zs_iret (pc := 6) t34_6 mr34 (by decide) ?_
                show zGo X l 5 0 0 28 81 [(6, .int (0 : Int32)), (5, .int (1 : Int32)), (4, .int (zpt M)), (3, .int (zI M 155 2)), (0, .ref 157), (1, .ref 155), (2, .ref 19)] [.int (0 : Int32)] (zsI w317M 155 3 (zI w317M 155 5)) _
                have w375 := zrg (zI w317M 155 2)
                have w376 : (zI (zsI w317M 155 3 (zI w317M 155 5)) 155 2).toInt = (zI w317M 155 2).toInt := (congrArg Int32.toInt ((zIoj (by decide)).trans rfl)).trans rfl
                have w377 : F 0 = 0 → pLo F = 1 := fun q => pLo.z q
                exact zs_iret (pc := 81) t28_81 mr28 (by decide) (hQ _ _ w317s w374 ((((zFr.refl).put rfl).trans (w317F.mono rfl)).put rfl) (fun p hp => by obtain rfl : w11n = p := (by omega); exact Or.inl ⟨by decide, (pIt.r (by omega) (by omega)).trans (pB.f (pRd.n w318e (by omega)))⟩) (by decide) (by decide))
              · refine zs_icmp_gtF (pc := 7) t39_7 rfl li999 (by omega) ?_
                refine zs_iconst (pc := 10) t39_10 (v := 1) (by decide) ?_
                refine zs_goto (pc := 11) t39_11 ?_
                refine zs_iret (pc := 15) t39_15 mr39 (by decide) ?_
                show zGo X l 2 0 0 38 78 [(0, .ref 157), (1, .int (zpt M)), (2, .int (0 : Int32)), (3, .int (zI w317M 155 4)), (4, .ref 19)] [.int (1 : Int32)] w317M _
                refine zs_iret (pc := 78) t38_78 mr38 (by decide) ?_
                show zGo X l 5 0 0 28 70 [(6, .int (0 : Int32)), (5, .int (1 : Int32)), (4, .int (zpt M)), (3, .int (zI M 155 2)), (0, .ref 157), (1, .ref 155), (2, .ref 19)] [.int (1 : Int32)] w317M _
                refine zs_if_neT (pc := 70) t28_70 li1 (by decide) ?_
                refine zs_aload_n (pc := 82) t28_82 rfl ?_
                refine zs_get (pc := 83) t28_83 (by decide) (zk1 (w317s.k fk_zMc_157)) (w317s.p rfl fv_zMc_157_0) ?_
                refine zs_iload (pc := 86) t28_86 rfl ?_
                refine zs_aload_n (pc := 88) t28_88 rfl ?_
                refine zs_invV (pc := 89) (k := 155) (as' := []) (st := [.int (0 : Int32), .ref 158]) t28_89 mf37 rfl rfl (Or.inl ⟨by decide, (zk1 (w317s.k fk_zMc_155))⟩) ⟨by decide, by decide, Nat.le_of_ble_eq_true rfl, Nat.le_of_ble_eq_true rfl⟩ (zs_in (by decide) mf37 (Nat.le_of_ble_eq_true rfl) ?_) (fun _ _ q => q)
                show zGo X l 0 0 0 37 0 [(0, .ref 155)] [] w317M _
                refine zs_aload_n (pc := 0) t37_0 rfl ?_
                refine zs_get (pc := 1) t37_1 (by decide) (zk1 (w317s.k fk_zMc_155)) (zfvi rfl rfl) ?_
                refine zs_iret (pc := 4) t37_4 mr37 rfl ?_
                show zGo X l 5 0 0 28 92 [(6, .int (0 : Int32)), (5, .int (1 : Int32)), (4, .int (zpt M)), (3, .int (zI M 155 2)), (0, .ref 157), (1, .ref 155), (2, .ref 19)] [.int (zI w317M 155 4), .int (0 : Int32), .ref 158] w317M _
                have w378 : zIv cLo cHi (zsI w317M 158 0 (zI w317M 155 4)) := zIv.put w317I (show (-300000) ≤ (zI w317M 155 4).toInt ∧ (zI w317M 155 4).toInt ≤ 300000 from ⟨by omega, by omega⟩)
                refine zs_iast (pc := 92) t28_92 (j := 0) (by decide) (zk1 (w317s.k fk_zMc_158)) li0 (zk2 (w317s.k fk_zMc_158) (by decide)) ?_
                refine zs_aload_n (pc := 93) t28_93 rfl ?_
                refine zs_iload (pc := 94) t28_94 rfl ?_
                refine zs_iconst (pc := 96) t28_96 (v := 1) (by decide) ?_
                refine zs_iadd (pc := 97) t28_97 (c := 1) (by decide) ?_
                refine zs_iload (pc := 98) t28_98 rfl ?_
                refine zs_icmp_geT (pc := 100) t28_100 li1 li1 (by decide) ?_
                refine zs_bipush (pc := 108) t28_108 (v := 59) (by decide) ?_
                refine zs_invV (pc := 110) (k := 155) (as' := [.int (59 : Int32)]) (st := []) t28_110 mf47 rfl rfl (Or.inl ⟨by decide, (zk1 (w317s.k fk_zMc_155))⟩) ⟨by decide, by decide, Nat.le_of_ble_eq_true rfl, Nat.le_of_ble_eq_true rfl⟩ (zs_in (by decide) mf47 (Nat.le_of_ble_eq_true rfl) ?_) (fun _ _ q => q)
                show zGo X l 1 0 0 47 0 [(0, .ref 155), (1, .int (59 : Int32))] [] (zsI w317M 158 0 (zI w317M 155 4)) _
                refine zs_aload_n (pc := 0) t47_0 rfl ?_
                refine zs_invV (pc := 1) (k := 155) (as' := []) (st := []) t47_1 mf31 rfl rfl (Or.inl ⟨by decide, (zk1 (w317s.k fk_zMc_155))⟩) ⟨by decide, by decide, Nat.le_of_ble_eq_true rfl, Nat.le_of_ble_eq_true rfl⟩ (P31 w317s w378 ?_) (fun _ _ q => q)
                have w380 := zrg (zI w317M 155 2)
                have w381 : (zI (zsI w317M 158 0 (zI w317M 155 4)) 155 2).toInt = (zI w317M 155 2).toInt := (congrArg Int32.toInt ((zIo (by decide)).trans rfl)).trans rfl
                have w382 : (zI (zsI w317M 158 0 (zI w317M 155 4)) 155 1).toInt = (zI M 155 1).toInt := (congrArg Int32.toInt ((zIo (by decide)).trans ((w317F 155 1 rfl).trans ((zIoj (by decide)).trans rfl)))).trans rfl
                have w379 : (zpt (zsI w317M 158 0 (zI w317M 155 4))).toInt = g w318E := zpt.tr (zTa.fr x1 (zEq.tr (zEq.tr (zEq.put rfl) (zFr.eq w317F rfl)) (zEq.put rfl))) (by omega)
                have w383 := zTa.rg (M := (zsI w317M 158 0 (zI w317M 155 4))) (zTa.fr x1 (zEq.tr (zEq.tr (zEq.put rfl) (zFr.eq w317F rfl)) (zEq.put rfl))) w318E
                show zGo X l 1 0 0 47 4 [(0, .ref 155), (1, .int (59 : Int32))] [.int (zpt (zsI w317M 158 0 (zI w317M 155 4)))] (zsI w317M 158 0 (zI w317M 155 4)) _
                refine zs_iload_n (pc := 4) t47_4 rfl ?_
                by_cases w384 : (g w318E) = 59
                · refine zs_icmp_eqT (pc := 5) t47_5 w379 li59 (by omega) ?_
                  refine zs_aload_n (pc := 17) t47_17 rfl ?_
                  refine zs_dup (pc := 18) t47_18 rfl ?_
                  refine zs_get (pc := 19) t47_19 (by decide) (zk1 (w317s.k fk_zMc_155)) (zfvi rfl ((zIo (by decide)).trans rfl)) ?_
                  refine zs_iconst (pc := 22) t47_22 (v := 1) (by decide) ?_
                  obtain ⟨w385v, w385e, w385⟩ := ziadd (a := (zI w317M 155 2)) (b := (1 : Int32)) rfl li1 (by omega) (by omega)
                  refine zs_iadd (pc := 23) t47_23 (c := w385v) w385e ?_
                  have w386 : zIv cLo cHi (zsI (zsI w317M 158 0 (zI w317M 155 4)) 155 2 w385v) := zIv.put w378 (show (-2147483648) ≤ w385v.toInt ∧ w385v.toInt ≤ 2147483647 from zrg w385v)
                  refine zs_putI (pc := 24) t47_24 (zk1 (w317s.k fk_zMc_155)) rfl ?_
                  refine zs_iconst (pc := 27) t47_27 (v := 1) (by decide) ?_
                  refine zs_iret (pc := 28) t47_28 mr47 (by decide) ?_
                  show zGo X l 5 0 0 28 113 [(6, .int (0 : Int32)), (5, .int (1 : Int32)), (4, .int (zpt M)), (3, .int (zI M 155 2)), (0, .ref 157), (1, .ref 155), (2, .ref 19)] [.int (1 : Int32)] (zsI (zsI w317M 158 0 (zI w317M 155 4)) 155 2 w385v) _
                  refine zs_if_neT (pc := 113) t28_113 li1 (by decide) ?_
                  refine zs_iinc (pc := 118) t28_118 (ls' := [(6, .int (1 : Int32)), (5, .int (1 : Int32)), (4, .int (zpt M)), (3, .int (zI M 155 2)), (0, .ref 157), (1, .ref 155), (2, .ref 19)]) (zml mf28 (by decide)) rfl (c := 1) (by decide) rfl ?_
                  refine zs_goto (pc := 121) t28_121 ?_
                  refine zs_iload (pc := 41) t28_41 rfl ?_
                  refine zs_iload (pc := 43) t28_43 rfl ?_
                  refine zs_icmp_geT (pc := 45) t28_45 li1 li1 (by decide) ?_
                  refine zs_aload_n (pc := 124) t28_124 rfl ?_
                  refine zs_iload (pc := 125) t28_125 rfl ?_
                  refine zs_aload_n (pc := 127) t28_127 rfl ?_
                  refine zs_invV (pc := 128) (k := 157) (as' := [.int (zpt M), .ref 19]) (st := []) t28_128 mf48 rfl rfl (Or.inl ⟨by decide, (zk1 (w317s.k fk_zMc_157))⟩) ⟨by decide, by decide, Nat.le_of_ble_eq_true rfl, Nat.le_of_ble_eq_true rfl⟩ (zs_in (by decide) mf48 (Nat.le_of_ble_eq_true rfl) ?_) (fun _ _ q => q)
                  show zGo X l 4 0 0 48 0 [(0, .ref 157), (1, .int (zpt M)), (2, .ref 19)] [] (zsI (zsI w317M 158 0 (zI w317M 155 4)) 155 2 w385v) _
                  refine zs_iload_n (pc := 0) t48_0 rfl ?_
                  refine zs_lsw (pc := 1) t48_1 (off := 35) ((w12 : (zpt M).toInt = (g w11n)).trans (by omega)) rfl (pc2 := 36) rfl ?_
                  refine zs_aload_n (pc := 36) t48_36 rfl ?_
                  refine zs_aload_n (pc := 37) t48_37 rfl ?_
                  refine zs_get (pc := 38) t48_38 (by decide) (zk1 (w317s.k fk_zMc_157)) (w317s.p rfl fv_zMc_157_0) ?_
                  refine zs_iconst (pc := 41) t48_41 (v := 0) (by decide) ?_
                  refine zs_iald (pc := 42) t48_42 (j := 0) (by decide) (zk1 (w317s.k fk_zMc_158)) li0 (zk2 (w317s.k fk_zMc_158) (by decide)) ((zIo (by decide)).trans zIs) ?_
                  refine zs_invV (pc := 43) (k := 19) (as' := [.int (zI w317M 155 4)]) (st := []) t48_43 mf49 rfl rfl (Or.inl ⟨by decide, (zk1 (w317s.k fk_zMc_19))⟩) ⟨by decide, by decide, Nat.le_of_ble_eq_true rfl, Nat.le_of_ble_eq_true rfl⟩ (X49_19 w317s w386 (zSo.fr x0 (zEq.tr (zEq.tr (zEq.tr (zEq.put rfl) (zFr.eq w317F rfl)) (zEq.put rfl)) (zEq.put rfl))) ?_) (fun _ _ q => q)
                  intro w387M w387v w387s w387I w387F w387x0 w387a w387b
                  have w387y := w387x0.resolve_left (fun q => by have z := q.2.1; omega)
                  have w387v1 := w387y.1
                  show zGo X l 4 0 0 48 46 [(0, .ref 157), (1, .int (zpt M)), (2, .ref 19)] [.int w387v] w387M _
                  refine zs_iret (pc := 46) t48_46 mr48 (zfb01 (by omega)) ?_
                  show zGo X l 5 0 0 28 131 [(6, .int (1 : Int32)), (5, .int (1 : Int32)), (4, .int (zpt M)), (3, .int (zI M 155 2)), (0, .ref 157), (1, .ref 155), (2, .ref 19)] [.int w387v] w387M _
                  by_cases w388 : w387v.toInt ≠ 0
                  · refine zs_if_neT (pc := 131) t28_131 rfl (by omega) ?_
                    refine zs_iconst (pc := 142) t28_142 (v := 1) (by decide) ?_
                    refine zs_goto (pc := 143) t28_143 ?_
                    have w389 : (zI w387M 155 2).toInt = ((zI w317M 155 2).toInt + 1) := (congrArg Int32.toInt ((w387F 155 2 rfl).trans zIs)).trans w385
                    have w390 : F 0 = 0 → pLo F = 1 := fun q => pLo.z q
                    exact zs_iret (pc := 147) t28_147 mr28 (by decide) (hQ _ _ w387s w387I ((((((zFr.refl).put rfl).trans (w317F.mono rfl)).put rfl).put rfl).trans (w387F.mono rfl)) (fun p hp => by obtain rfl : w11n = p := (by omega); exact Or.inr ⟨by decide, w318E + 1, (pLay F (zI w317M 155 4).toInt), ((pIt.r (by omega) (by omega)).trans (pB.y (pRd.y w318e (by omega) (by omega) (by omega)))), by omega, by omega, by omega, w387y.2.2, x2.lay (by omega) (by omega) (by omega)⟩) (by decide) (by decide))
                  · refine zs_if_neF (pc := 131) t28_131 rfl (by omega) ?_
                    refine zs_aload_n (pc := 134) t28_134 rfl ?_
                    refine zs_iload_n (pc := 135) t28_135 rfl ?_
                    refine zs_invV (pc := 136) (k := 155) (as' := [.int (zI M 155 2)]) (st := []) t28_136 mf34 rfl rfl (Or.inl ⟨by decide, (zk1 (w387s.k fk_zMc_155))⟩) ⟨by decide, by decide, Nat.le_of_ble_eq_true rfl, Nat.le_of_ble_eq_true rfl⟩ (zs_in (by decide) mf34 (Nat.le_of_ble_eq_true rfl) ?_) (fun _ _ q => q)
                    show zGo X l 0 0 0 34 0 [(0, .ref 155), (1, .int (zI M 155 2))] [] w387M _
                    refine zs_aload_n (pc := 0) t34_0 rfl ?_
                    refine zs_iload_n (pc := 1) t34_1 rfl ?_
                    have w391 : zIv cLo cHi (zsI w387M 155 3 (zI M 155 2)) := zIv.put w387I (show (-2147483648) ≤ (zI M 155 2).toInt ∧ (zI M 155 2).toInt ≤ 2147483647 from zrg (zI M 155 2))
                    refine zs_putI (pc := 2) t34_2 (zk1 (w387s.k fk_zMc_155)) rfl ?_
                    refine zs_iconst (pc := 5) t34_5 (v := 0) (by decide) ?_
                    refine zs_iret (pc := 6) t34_6 mr34 (by decide) ?_
                    show zGo X l 5 0 0 28 139 [(6, .int (1 : Int32)), (5, .int (1 : Int32)), (4, .int (zpt M)), (3, .int (zI M 155 2)), (0, .ref 157), (1, .ref 155), (2, .ref 19)] [.int (0 : Int32)] (zsI w387M 155 3 (zI M 155 2)) _
                    refine zs_if_eqT (pc := 139) t28_139 li0 (by decide) ?_
                    refine zs_iconst (pc := 146) t28_146 (v := 0) (by decide) ?_
                    have w392 : (zI (zsI w387M 155 3 (zI M 155 2)) 155 2).toInt = ((zI w317M 155 2).toInt + 1) := (congrArg Int32.toInt ((zIoj (by decide)).trans ((w387F 155 2 rfl).trans zIs))).trans w385
                    have w393 : F 0 = 0 → pLo F = 1 := fun q => pLo.z q
                    exact zs_iret (pc := 147) t28_147 mr28 (by decide) (hQ _ _ w387s w391 (((((((zFr.refl).put rfl).trans (w317F.mono rfl)).put rfl).put rfl).trans (w387F.mono rfl)).put rfl) (fun p hp => by obtain rfl : w11n = p := (by omega); exact Or.inl ⟨by decide, (pIt.r (by omega) (by omega)).trans (pB.f (pRd.n w318e (by omega)))⟩) (by decide) (by decide))
                · refine zs_icmp_eqF (pc := 5) t47_5 w379 li59 (by omega) ?_
                  refine zs_aload_n (pc := 8) t47_8 rfl ?_
                  refine zs_aload_n (pc := 9) t47_9 rfl ?_
                  refine zs_get (pc := 10) t47_10 (by decide) (zk1 (w317s.k fk_zMc_155)) (zfvi rfl ((zIo (by decide)).trans rfl)) ?_
                  refine zs_invV (pc := 13) (k := 155) (as' := [.int (zI w317M 155 2)]) (st := []) t47_13 mf34 rfl rfl (Or.inl ⟨by decide, (zk1 (w317s.k fk_zMc_155))⟩) ⟨by decide, by decide, Nat.le_of_ble_eq_true rfl, Nat.le_of_ble_eq_true rfl⟩ (zs_in (by decide) mf34 (Nat.le_of_ble_eq_true rfl) ?_) (fun _ _ q => q)
                  show zGo X l 0 0 0 34 0 [(0, .ref 155), (1, .int (zI w317M 155 2))] [] (zsI w317M 158 0 (zI w317M 155 4)) _
                  refine zs_aload_n (pc := 0) t34_0 rfl ?_
                  refine zs_iload_n (pc := 1) t34_1 rfl ?_
                  have w394 : zIv cLo cHi (zsI (zsI w317M 158 0 (zI w317M 155 4)) 155 3 (zI w317M 155 2)) := zIv.put w378 (show (-2147483648) ≤ (zI w317M 155 2).toInt ∧ (zI w317M 155 2).toInt ≤ 2147483647 from zrg (zI w317M 155 2))
                  refine zs_putI (pc := 2) t34_2 (zk1 (w317s.k fk_zMc_155)) rfl ?_
                  refine zs_iconst (pc := 5) t34_5 (v := 0) (by decide) ?_
                  refine zs_iret (pc := 6) t34_6 mr34 (by decide) ?_
                  show zGo X l 1 0 0 47 16 [(0, .ref 155), (1, .int (59 : Int32))] [.int (0 : Int32)] (zsI (zsI w317M 158 0 (zI w317M 155 4)) 155 3 (zI w317M 155 2)) _
                  refine zs_iret (pc := 16) t47_16 mr47 (by decide) ?_
                  show zGo X l 5 0 0 28 113 [(6, .int (0 : Int32)), (5, .int (1 : Int32)), (4, .int (zpt M)), (3, .int (zI M 155 2)), (0, .ref 157), (1, .ref 155), (2, .ref 19)] [.int (0 : Int32)] (zsI (zsI w317M 158 0 (zI w317M 155 4)) 155 3 (zI w317M 155 2)) _
                  refine zs_if_neF (pc := 113) t28_113 li0 (by decide) ?_
                  refine zs_iconst (pc := 116) t28_116 (v := 0) (by decide) ?_
                  have w395 : (zI (zsI (zsI w317M 158 0 (zI w317M 155 4)) 155 3 (zI w317M 155 2)) 155 2).toInt = (zI w317M 155 2).toInt := (congrArg Int32.toInt ((zIoj (by decide)).trans ((zIo (by decide)).trans rfl))).trans rfl
                  have w396 : F 0 = 0 → pLo F = 1 := fun q => pLo.z q
                  exact zs_iret (pc := 117) t28_117 mr28 (by decide) (hQ _ _ w317s w394 (((((zFr.refl).put rfl).trans (w317F.mono rfl)).put rfl).put rfl) (fun p hp => by obtain rfl : w11n = p := (by omega); exact Or.inl ⟨by decide, (pIt.r (by omega) (by omega)).trans (pB.f (pRd.n w318e (by omega)))⟩) (by decide) (by decide))
      · refine zs_icmp_ltF (pc := 42) t33_42 rfl li8 (by omega) ?_
        refine zs_iconst (pc := 45) t33_45 (v := 1) (by decide) ?_
        refine zs_goto (pc := 46) t33_46 ?_
        refine zs_iret (pc := 50) t33_50 mr33 (by decide) ?_
        show zGo X l 5 0 0 28 29 [(5, .int (1 : Int32)), (4, .int (zpt M)), (3, .int (zI M 155 2)), (0, .ref 157), (1, .ref 155), (2, .ref 19)] [.int (1 : Int32)] (zsI M 155 2 w19v) _
        refine zs_if_eqF (pc := 29) t28_29 li1 (by decide) ?_
        refine zs_aload_n (pc := 32) t28_32 rfl ?_
        refine zs_iload_n (pc := 33) t28_33 rfl ?_
        refine zs_invV (pc := 34) (k := 155) (as' := [.int (zI M 155 2)]) (st := []) t28_34 mf34 rfl rfl (Or.inl ⟨by decide, (zk1 (hs.k fk_zMc_155))⟩) ⟨by decide, by decide, Nat.le_of_ble_eq_true rfl, Nat.le_of_ble_eq_true rfl⟩ (zs_in (by decide) mf34 (Nat.le_of_ble_eq_true rfl) ?_) (fun _ _ q => q)
        show zGo X l 0 0 0 34 0 [(0, .ref 155), (1, .int (zI M 155 2))] [] (zsI M 155 2 w19v) _
        refine zs_aload_n (pc := 0) t34_0 rfl ?_
        refine zs_iload_n (pc := 1) t34_1 rfl ?_
        have w397 : zIv cLo cHi (zsI (zsI M 155 2 w19v) 155 3 (zI M 155 2)) := zIv.put w20 (show (-2147483648) ≤ (zI M 155 2).toInt ∧ (zI M 155 2).toInt ≤ 2147483647 from zrg (zI M 155 2))
        refine zs_putI (pc := 2) t34_2 (zk1 (hs.k fk_zMc_155)) rfl ?_
        refine zs_iconst (pc := 5) t34_5 (v := 0) (by decide) ?_
        refine zs_iret (pc := 6) t34_6 mr34 (by decide) ?_
        show zGo X l 5 0 0 28 37 [(5, .int (1 : Int32)), (4, .int (zpt M)), (3, .int (zI M 155 2)), (0, .ref 157), (1, .ref 155), (2, .ref 19)] [.int (0 : Int32)] (zsI (zsI M 155 2 w19v) 155 3 (zI M 155 2)) _
        have w398 : (zI (zsI (zsI M 155 2 w19v) 155 3 (zI M 155 2)) 155 2).toInt = ((zI M 155 2).toInt + 1) := (congrArg Int32.toInt ((zIoj (by decide)).trans zIs)).trans w19
        exact zs_iret (pc := 37) t28_37 mr28 (by decide) (hQ _ _ hs w397 (((zFr.refl).put rfl).put rfl) (fun p hp => by obtain rfl : w11n = p := (by omega); exact Or.inl ⟨by decide, by first | exact pIt.r0 (by omega) (by omega) | exact pIt.no (by omega)⟩) (by decide) (by decide))
    by_cases w399 : (g w11n) = 115
    · refine zs_tswI (pc := 1) t32_1 ((w12 : (zpt M).toInt = (g w11n)).trans w399) (by decide) rfl (pc2 := 90) rfl ?_
      refine zs_iconst (pc := 90) t32_90 (v := 4) (by decide) ?_
      refine zs_iret (pc := 91) t32_91 mr32 (by decide) ?_
      show zGo X l 5 0 0 28 16 [(4, .int (zpt M)), (3, .int (zI M 155 2)), (0, .ref 157), (1, .ref 155), (2, .ref 19)] [.int (4 : Int32)] (zsI M 155 2 w19v) _
      refine zs_istore (pc := 16) t28_16 (ls' := [(5, .int (4 : Int32)), (4, .int (zpt M)), (3, .int (zI M 155 2)), (0, .ref 157), (1, .ref 155), (2, .ref 19)]) (zml mf28 (by decide)) rfl ?_
      refine zs_iload (pc := 18) t28_18 rfl ?_
      refine zs_if_eqF (pc := 20) t28_20 li4 (by decide) ?_
      refine zs_iload (pc := 23) t28_23 rfl ?_
      refine zs_aload_n (pc := 25) t28_25 rfl ?_
      refine zs_invS (pc := 26) (as := [.int (zpt M), .ref 19]) (st := []) t28_26 (by decide) mf33 rfl rfl ⟨by decide, by decide, Nat.le_of_ble_eq_true rfl, Nat.le_of_ble_eq_true rfl⟩ (zs_in (by decide) mf33 (Nat.le_of_ble_eq_true rfl) ?_) (fun _ _ q => q)
      show zGo X l 0 0 0 33 0 [(0, .int (zpt M)), (1, .ref 19)] [] (zsI M 155 2 w19v) _
      refine zs_iload_n (pc := 0) t33_0 rfl ?_
      refine zs_lsw (pc := 1) t33_1 (off := 80) w12 (by unfold zlsel; repeat (first | rfl | (rw [if_neg (by omega)]; unfold zlsel))) (pc2 := 81) rfl ?_
      refine zs_iconst (pc := 81) t33_81 (v := 0) (by decide) ?_
      refine zs_iret (pc := 82) t33_82 mr33 (by decide) ?_
      show zGo X l 5 0 0 28 29 [(5, .int (4 : Int32)), (4, .int (zpt M)), (3, .int (zI M 155 2)), (0, .ref 157), (1, .ref 155), (2, .ref 19)] [.int (0 : Int32)] (zsI M 155 2 w19v) _
      refine zs_if_eqT (pc := 29) t28_29 li0 (by decide) ?_
      refine zs_iconst (pc := 38) t28_38 (v := 0) (by decide) ?_
      refine zs_istore (pc := 39) t28_39 (ls' := [(6, .int (0 : Int32)), (5, .int (4 : Int32)), (4, .int (zpt M)), (3, .int (zI M 155 2)), (0, .ref 157), (1, .ref 155), (2, .ref 19)]) (zml mf28 (by decide)) rfl ?_
      refine zs_iload (pc := 41) t28_41 rfl ?_
      refine zs_iload (pc := 43) t28_43 rfl ?_
      refine zs_icmp_geF (pc := 45) t28_45 li0 li4 (by decide) ?_
      refine zs_aload_n (pc := 48) t28_48 rfl ?_
      have w400 : (zI (zsI M 155 2 w19v) 155 2).toInt = ((zI M 155 2).toInt + 1) := (congrArg Int32.toInt zIs).trans w19
      have w401 : (zI (zsI M 155 2 w19v) 155 2).toInt = ((zI M 155 2).toInt + 1) := (congrArg Int32.toInt zIs).trans w19
      have w402 : (zI (zsI M 155 2 w19v) 155 1).toInt = (zI M 155 1).toInt := (congrArg Int32.toInt ((zIoj (by decide)).trans rfl)).trans rfl
      refine zs_invV (pc := 49) (k := 155) (as' := []) (st := []) t28_49 mf35 rfl rfl (Or.inl ⟨by decide, (zk1 (hs.k fk_zMc_155))⟩) ⟨by decide, by decide, Nat.le_of_ble_eq_true rfl, Nat.le_of_ble_eq_true rfl⟩ (X35_155 hs w20 (by omega) (by omega) (zTa.fr x1 (zEq.put rfl)) ?_) (fun _ _ q => q)
      intro w403M w403v w403s w403I w403F w403x0 w403a w403b
      show zGo X l 5 0 0 28 52 [(6, .int (0 : Int32)), (5, .int (4 : Int32)), (4, .int (zpt M)), (3, .int (zI M 155 2)), (0, .ref 157), (1, .ref 155), (2, .ref 19)] [.int w403v] w403M _
      rcases w403x0 (w11n + 1) (by omega) with ⟨w404v, w404e⟩ | ⟨w404v, w404E, w404x, w404e, w404_3, w404_4, w404_5, w404_6, w404_7, w404_8⟩
      · skip
        refine zs_if_neF (pc := 52) t28_52 rfl (by omega) ?_
        refine zs_iconst (pc := 55) t28_55 (v := 0) (by decide) ?_
        have w405 := zrg (zI w403M 155 2)
        have w406 : (zI w403M 155 2).toInt = (zI w403M 155 2).toInt := (congrArg Int32.toInt rfl).trans rfl
        exact zs_iret (pc := 56) t28_56 mr28 (by decide) (hQ _ _ w403s w403I (((zFr.refl).put rfl).trans (w403F.mono rfl)) (fun p hp => by obtain rfl : w11n = p := (by omega); exact Or.inl ⟨by decide, (pIt.s (by omega)).trans (pB.f (pRd.f w404e))⟩) (by decide) (by decide))
      · skip
        subst w404_4
        refine zs_if_neT (pc := 52) t28_52 rfl (by omega) ?_
        refine zs_aload_n (pc := 57) t28_57 rfl ?_
        refine zs_iload (pc := 58) t28_58 rfl ?_
        refine zs_iload (pc := 60) t28_60 rfl ?_
        refine zs_aload_n (pc := 62) t28_62 rfl ?_
        refine zs_invV (pc := 63) (k := 155) (as' := []) (st := [.int (0 : Int32), .int (zpt M), .ref 157]) t28_63 mf37 rfl rfl (Or.inl ⟨by decide, (zk1 (w403s.k fk_zMc_155))⟩) ⟨by decide, by decide, Nat.le_of_ble_eq_true rfl, Nat.le_of_ble_eq_true rfl⟩ (zs_in (by decide) mf37 (Nat.le_of_ble_eq_true rfl) ?_) (fun _ _ q => q)
        show zGo X l 0 0 0 37 0 [(0, .ref 155)] [] w403M _
        refine zs_aload_n (pc := 0) t37_0 rfl ?_
        have w407 := ib155_4 w403I
        refine zs_get (pc := 1) t37_1 (by decide) (zk1 (w403s.k fk_zMc_155)) (zfvi rfl rfl) ?_
        refine zs_iret (pc := 4) t37_4 mr37 rfl ?_
        show zGo X l 5 0 0 28 66 [(6, .int (0 : Int32)), (5, .int (4 : Int32)), (4, .int (zpt M)), (3, .int (zI M 155 2)), (0, .ref 157), (1, .ref 155), (2, .ref 19)] [.int (zI w403M 155 4), .int (0 : Int32), .int (zpt M), .ref 157] w403M _
        refine zs_aload_n (pc := 66) t28_66 rfl ?_
        refine zs_invV (pc := 67) (k := 157) (as' := [.int (zpt M), .int (0 : Int32), .int (zI w403M 155 4), .ref 19]) (st := []) t28_67 mf38 rfl rfl (Or.inl ⟨by decide, (zk1 (w403s.k fk_zMc_157))⟩) ⟨by decide, by decide, Nat.le_of_ble_eq_true rfl, Nat.le_of_ble_eq_true rfl⟩ (zs_in (by decide) mf38 (Nat.le_of_ble_eq_true rfl) ?_) (fun _ _ q => q)
        show zGo X l 2 0 0 38 0 [(0, .ref 157), (1, .int (zpt M)), (2, .int (0 : Int32)), (3, .int (zI w403M 155 4)), (4, .ref 19)] [] w403M _
        refine zs_iload_n (pc := 0) t38_0 rfl ?_
        refine zs_lsw (pc := 1) t38_1 (off := 122) w12 (by unfold zlsel; repeat (first | rfl | (rw [if_neg (by omega)]; unfold zlsel))) (pc2 := 123) rfl ?_
        refine zs_iload_n (pc := 123) t38_123 rfl ?_
        refine zs_invS (pc := 124) (as := [.int (zpt M)]) (st := []) t38_124 (by decide) mf45 rfl rfl ⟨by decide, by decide, Nat.le_of_ble_eq_true rfl, Nat.le_of_ble_eq_true rfl⟩ (zs_in (by decide) mf45 (Nat.le_of_ble_eq_true rfl) ?_) (fun _ _ q => q)
        show zGo X l 0 0 0 45 0 [(0, .int (zpt M))] [] w403M _
        refine zs_iload_n (pc := 0) t45_0 rfl ?_
        refine zs_lsw (pc := 1) t45_1 (off := 43) ((w12 : (zpt M).toInt = (g w11n)).trans (by omega)) rfl (pc2 := 44) rfl ?_
        refine zs_iconst (pc := 44) t45_44 (v := 0) (by decide) ?_
        refine zs_iret (pc := 45) t45_45 mr45 (by decide) ?_
        show zGo X l 2 0 0 38 127 [(0, .ref 157), (1, .int (zpt M)), (2, .int (0 : Int32)), (3, .int (zI w403M 155 4)), (4, .ref 19)] [.int (0 : Int32)] w403M _
        refine zs_iload_n (pc := 127) t38_127 rfl ?_
        refine zs_iadd (pc := 128) t38_128 (c := 0) (by decide) ?_
        refine zs_iload_n (pc := 129) t38_129 rfl ?_
        refine zs_invS (pc := 130) (as := [.int (0 : Int32), .int (zI w403M 155 4)]) (st := []) t38_130 (by decide) mf44 rfl rfl ⟨by decide, by decide, Nat.le_of_ble_eq_true rfl, Nat.le_of_ble_eq_true rfl⟩ (zs_in (by decide) mf44 (Nat.le_of_ble_eq_true rfl) ?_) (fun _ _ q => q)
        show zGo X l 1 0 0 44 0 [(0, .int (0 : Int32)), (1, .int (zI w403M 155 4))] [] w403M _
        refine zs_iload_n (pc := 0) t44_0 rfl ?_
        refine zs_if_ltF (pc := 1) t44_1 li0 (by decide) ?_
        refine zs_iload_n (pc := 4) t44_4 rfl ?_
        refine zs_bipush (pc := 5) t44_5 (v := 9) (by decide) ?_
        refine zs_icmp_geF (pc := 7) t44_7 li0 li9 (by decide) ?_
        refine zs_iload_n (pc := 10) t44_10 rfl ?_
        refine zs_getstatic (pc := 11) t44_11 (v := .ref 2) rfl ?_
        refine zs_iload_n (pc := 14) t44_14 rfl ?_
        have w408 := zrg (zI M 2 0)
        have w409 : (zI M 2 0).toInt = 0 := by rw [x6 2 0 (by decide)]; decide
        refine zs_iald (pc := 15) t44_15 (j := 0) (by decide) (zk1 (w403s.k fk_zMc_2)) li0 (zk2 (w403s.k fk_zMc_2) (by decide)) ((w403F 2 0 rfl).trans ((zIo (by decide)).trans rfl)) ?_
        refine zs_getstatic (pc := 16) t44_16 (v := .ref 3) rfl ?_
        refine zs_iload_n (pc := 19) t44_19 rfl ?_
        have w410 := zrg (zI M 3 0)
        have w411 : (zI M 3 0).toInt = 3 := by rw [x6 3 0 (by decide)]; decide
        refine zs_iald (pc := 20) t44_20 (j := 0) (by decide) (zk1 (w403s.k fk_zMc_3)) li0 (zk2 (w403s.k fk_zMc_3) (by decide)) ((w403F 3 0 rfl).trans ((zIo (by decide)).trans rfl)) ?_
        refine zs_invS (pc := 21) (as := [.int (zI w403M 155 4), .int (zI M 2 0), .int (zI M 3 0)]) (st := []) t44_21 (by decide) mf39 rfl rfl ⟨by decide, by decide, Nat.le_of_ble_eq_true rfl, Nat.le_of_ble_eq_true rfl⟩ (zs_in (by decide) mf39 (Nat.le_of_ble_eq_true rfl) ?_) (fun _ _ q => q)
        show zGo X l 0 0 0 39 0 [(0, .int (zI w403M 155 4)), (1, .int (zI M 2 0)), (2, .int (zI M 3 0))] [] w403M _
        refine zs_iload_n (pc := 0) t39_0 rfl ?_
        refine zs_iload_n (pc := 1) t39_1 rfl ?_
        by_cases w412 : (zI w403M 155 4).toInt < (zI M 2 0).toInt
        · refine zs_icmp_ltT (pc := 2) t39_2 rfl rfl (by omega) ?_
          refine zs_iconst (pc := 14) t39_14 (v := 0) (by decide) ?_
          refine zs_iret (pc := 15) t39_15 mr39 (by decide) ?_
          show zGo X l 1 0 0 44 24 [(0, .int (0 : Int32)), (1, .int (zI w403M 155 4))] [.int (0 : Int32)] w403M _
          refine zs_if_eqT (pc := 24) t44_24 li0 (by decide) ?_
          refine zs_iconst (pc := 31) t44_31 (v := 0) (by decide) ?_
          refine zs_iret (pc := 32) t44_32 mr44 (by decide) ?_
          show zGo X l 2 0 0 38 133 [(0, .ref 157), (1, .int (zpt M)), (2, .int (0 : Int32)), (3, .int (zI w403M 155 4)), (4, .ref 19)] [.int (0 : Int32)] w403M _
          refine zs_iret (pc := 133) t38_133 mr38 (by decide) ?_
          show zGo X l 5 0 0 28 70 [(6, .int (0 : Int32)), (5, .int (4 : Int32)), (4, .int (zpt M)), (3, .int (zI M 155 2)), (0, .ref 157), (1, .ref 155), (2, .ref 19)] [.int (0 : Int32)] w403M _
          refine zs_if_neF (pc := 70) t28_70 li0 (by decide) ?_
          refine zs_aload_n (pc := 73) t28_73 rfl ?_
          refine zs_aload_n (pc := 74) t28_74 rfl ?_
          refine zs_invV (pc := 75) (k := 155) (as' := []) (st := [.ref 155]) t28_75 mf46 rfl rfl (Or.inl ⟨by decide, (zk1 (w403s.k fk_zMc_155))⟩) ⟨by decide, by decide, Nat.le_of_ble_eq_true rfl, Nat.le_of_ble_eq_true rfl⟩ (zs_in (by decide) mf46 (Nat.le_of_ble_eq_true rfl) ?_) (fun _ _ q => q)
          show zGo X l 0 0 0 46 0 [(0, .ref 155)] [] w403M _
          refine zs_aload_n (pc := 0) t46_0 rfl ?_
          have w413 := zrg (zI w403M 155 5)
          refine zs_get (pc := 1) t46_1 (by decide) (zk1 (w403s.k fk_zMc_155)) (zfvi rfl rfl) ?_
          refine zs_iret (pc := 4) t46_4 mr46 rfl ?_
          show zGo X l 5 0 0 28 78 [(6, .int (0 : Int32)), (5, .int (4 : Int32)), (4, .int (zpt M)), (3, .int (zI M 155 2)), (0, .ref 157), (1, .ref 155), (2, .ref 19)] [.int (zI w403M 155 5), .ref 155] w403M _
          refine zs_invV (pc := 78) (k := 155) (as' := [.int (zI w403M 155 5)]) (st := []) t28_78 mf34 rfl rfl (Or.inl ⟨by decide, (zk1 (w403s.k fk_zMc_155))⟩) ⟨by decide, by decide, Nat.le_of_ble_eq_true rfl, Nat.le_of_ble_eq_true rfl⟩ (zs_in (by decide) mf34 (Nat.le_of_ble_eq_true rfl) ?_) (fun _ _ q => q)
          show zGo X l 0 0 0 34 0 [(0, .ref 155), (1, .int (zI w403M 155 5))] [] w403M _
          refine zs_aload_n (pc := 0) t34_0 rfl ?_
          refine zs_iload_n (pc := 1) t34_1 rfl ?_
          have w414 : zIv cLo cHi (zsI w403M 155 3 (zI w403M 155 5)) := zIv.put w403I (show (-2147483648) ≤ (zI w403M 155 5).toInt ∧ (zI w403M 155 5).toInt ≤ 2147483647 from zrg (zI w403M 155 5))
          refine zs_putI (pc := 2) t34_2 (zk1 (w403s.k fk_zMc_155)) rfl ?_
          refine zs_iconst (pc := 5) t34_5 (v := 0) (by decide) ?_
          refine zs_iret (pc := 6) t34_6 mr34 (by decide) ?_
          show zGo X l 5 0 0 28 81 [(6, .int (0 : Int32)), (5, .int (4 : Int32)), (4, .int (zpt M)), (3, .int (zI M 155 2)), (0, .ref 157), (1, .ref 155), (2, .ref 19)] [.int (0 : Int32)] (zsI w403M 155 3 (zI w403M 155 5)) _
          have w415 := zrg (zI w403M 155 2)
          have w416 : (zI (zsI w403M 155 3 (zI w403M 155 5)) 155 2).toInt = (zI w403M 155 2).toInt := (congrArg Int32.toInt ((zIoj (by decide)).trans rfl)).trans rfl
          exact zs_iret (pc := 81) t28_81 mr28 (by decide) (hQ _ _ w403s w414 ((((zFr.refl).put rfl).trans (w403F.mono rfl)).put rfl) (fun p hp => by obtain rfl : w11n = p := (by omega); exact Or.inl ⟨by decide, (pIt.s (by omega)).trans (pB.f (pRd.n w404e (by omega)))⟩) (by decide) (by decide))
        · refine zs_icmp_ltF (pc := 2) t39_2 rfl rfl (by omega) ?_
          refine zs_iload_n (pc := 5) t39_5 rfl ?_
          refine zs_iload_n (pc := 6) t39_6 rfl ?_
          by_cases w417 : (zI M 3 0).toInt < (zI w403M 155 4).toInt
          · refine zs_icmp_gtT (pc := 7) t39_7 rfl rfl (by omega) ?_
            refine zs_iconst (pc := 14) t39_14 (v := 0) (by decide) ?_
            refine zs_iret (pc := 15) t39_15 mr39 (by decide) ?_
            show zGo X l 1 0 0 44 24 [(0, .int (0 : Int32)), (1, .int (zI w403M 155 4))] [.int (0 : Int32)] w403M _
            refine zs_if_eqT (pc := 24) t44_24 li0 (by decide) ?_
            refine zs_iconst (pc := 31) t44_31 (v := 0) (by decide) ?_
            refine zs_iret (pc := 32) t44_32 mr44 (by decide) ?_
            show zGo X l 2 0 0 38 133 [(0, .ref 157), (1, .int (zpt M)), (2, .int (0 : Int32)), (3, .int (zI w403M 155 4)), (4, .ref 19)] [.int (0 : Int32)] w403M _
            refine zs_iret (pc := 133) t38_133 mr38 (by decide) ?_
            show zGo X l 5 0 0 28 70 [(6, .int (0 : Int32)), (5, .int (4 : Int32)), (4, .int (zpt M)), (3, .int (zI M 155 2)), (0, .ref 157), (1, .ref 155), (2, .ref 19)] [.int (0 : Int32)] w403M _
            refine zs_if_neF (pc := 70) t28_70 li0 (by decide) ?_
            refine zs_aload_n (pc := 73) t28_73 rfl ?_
            refine zs_aload_n (pc := 74) t28_74 rfl ?_
            refine zs_invV (pc := 75) (k := 155) (as' := []) (st := [.ref 155]) t28_75 mf46 rfl rfl (Or.inl ⟨by decide, (zk1 (w403s.k fk_zMc_155))⟩) ⟨by decide, by decide, Nat.le_of_ble_eq_true rfl, Nat.le_of_ble_eq_true rfl⟩ (zs_in (by decide) mf46 (Nat.le_of_ble_eq_true rfl) ?_) (fun _ _ q => q)
            show zGo X l 0 0 0 46 0 [(0, .ref 155)] [] w403M _
            refine zs_aload_n (pc := 0) t46_0 rfl ?_
            have w418 := zrg (zI w403M 155 5)
            refine zs_get (pc := 1) t46_1 (by decide) (zk1 (w403s.k fk_zMc_155)) (zfvi rfl rfl) ?_
            refine zs_iret (pc := 4) t46_4 mr46 rfl ?_
            show zGo X l 5 0 0 28 78 [(6, .int (0 : Int32)), (5, .int (4 : Int32)), (4, .int (zpt M)), (3, .int (zI M 155 2)), (0, .ref 157), (1, .ref 155), (2, .ref 19)] [.int (zI w403M 155 5), .ref 155] w403M _
            refine zs_invV (pc := 78) (k := 155) (as' := [.int (zI w403M 155 5)]) (st := []) t28_78 mf34 rfl rfl (Or.inl ⟨by decide, (zk1 (w403s.k fk_zMc_155))⟩) ⟨by decide, by decide, Nat.le_of_ble_eq_true rfl, Nat.le_of_ble_eq_true rfl⟩ (zs_in (by decide) mf34 (Nat.le_of_ble_eq_true rfl) ?_) (fun _ _ q => q)
            show zGo X l 0 0 0 34 0 [(0, .ref 155), (1, .int (zI w403M 155 5))] [] w403M _
            refine zs_aload_n (pc := 0) t34_0 rfl ?_
            refine zs_iload_n (pc := 1) t34_1 rfl ?_
            have w419 : zIv cLo cHi (zsI w403M 155 3 (zI w403M 155 5)) := zIv.put w403I (show (-2147483648) ≤ (zI w403M 155 5).toInt ∧ (zI w403M 155 5).toInt ≤ 2147483647 from zrg (zI w403M 155 5))
            refine zs_putI (pc := 2) t34_2 (zk1 (w403s.k fk_zMc_155)) rfl ?_
            refine zs_iconst (pc := 5) t34_5 (v := 0) (by decide) ?_
            refine zs_iret (pc := 6) t34_6 mr34 (by decide) ?_
            show zGo X l 5 0 0 28 81 [(6, .int (0 : Int32)), (5, .int (4 : Int32)), (4, .int (zpt M)), (3, .int (zI M 155 2)), (0, .ref 157), (1, .ref 155), (2, .ref 19)] [.int (0 : Int32)] (zsI w403M 155 3 (zI w403M 155 5)) _
            have w420 := zrg (zI w403M 155 2)
            have w421 : (zI (zsI w403M 155 3 (zI w403M 155 5)) 155 2).toInt = (zI w403M 155 2).toInt := (congrArg Int32.toInt ((zIoj (by decide)).trans rfl)).trans rfl
            exact zs_iret (pc := 81) t28_81 mr28 (by decide) (hQ _ _ w403s w419 ((((zFr.refl).put rfl).trans (w403F.mono rfl)).put rfl) (fun p hp => by obtain rfl : w11n = p := (by omega); exact Or.inl ⟨by decide, (pIt.s (by omega)).trans (pB.f (pRd.n w404e (by omega)))⟩) (by decide) (by decide))
          · refine zs_icmp_gtF (pc := 7) t39_7 rfl rfl (by omega) ?_
            refine zs_iconst (pc := 10) t39_10 (v := 1) (by decide) ?_
            refine zs_goto (pc := 11) t39_11 ?_
            refine zs_iret (pc := 15) t39_15 mr39 (by decide) ?_
            show zGo X l 1 0 0 44 24 [(0, .int (0 : Int32)), (1, .int (zI w403M 155 4))] [.int (1 : Int32)] w403M _
            refine zs_if_eqF (pc := 24) t44_24 li1 (by decide) ?_
            refine zs_iconst (pc := 27) t44_27 (v := 1) (by decide) ?_
            refine zs_goto (pc := 28) t44_28 ?_
            refine zs_iret (pc := 32) t44_32 mr44 (by decide) ?_
            show zGo X l 2 0 0 38 133 [(0, .ref 157), (1, .int (zpt M)), (2, .int (0 : Int32)), (3, .int (zI w403M 155 4)), (4, .ref 19)] [.int (1 : Int32)] w403M _
            refine zs_iret (pc := 133) t38_133 mr38 (by decide) ?_
            show zGo X l 5 0 0 28 70 [(6, .int (0 : Int32)), (5, .int (4 : Int32)), (4, .int (zpt M)), (3, .int (zI M 155 2)), (0, .ref 157), (1, .ref 155), (2, .ref 19)] [.int (1 : Int32)] w403M _
            refine zs_if_neT (pc := 70) t28_70 li1 (by decide) ?_
            refine zs_aload_n (pc := 82) t28_82 rfl ?_
            refine zs_get (pc := 83) t28_83 (by decide) (zk1 (w403s.k fk_zMc_157)) (w403s.p rfl fv_zMc_157_0) ?_
            refine zs_iload (pc := 86) t28_86 rfl ?_
            refine zs_aload_n (pc := 88) t28_88 rfl ?_
            refine zs_invV (pc := 89) (k := 155) (as' := []) (st := [.int (0 : Int32), .ref 158]) t28_89 mf37 rfl rfl (Or.inl ⟨by decide, (zk1 (w403s.k fk_zMc_155))⟩) ⟨by decide, by decide, Nat.le_of_ble_eq_true rfl, Nat.le_of_ble_eq_true rfl⟩ (zs_in (by decide) mf37 (Nat.le_of_ble_eq_true rfl) ?_) (fun _ _ q => q)
            show zGo X l 0 0 0 37 0 [(0, .ref 155)] [] w403M _
            refine zs_aload_n (pc := 0) t37_0 rfl ?_
            refine zs_get (pc := 1) t37_1 (by decide) (zk1 (w403s.k fk_zMc_155)) (zfvi rfl rfl) ?_
            refine zs_iret (pc := 4) t37_4 mr37 rfl ?_
            show zGo X l 5 0 0 28 92 [(6, .int (0 : Int32)), (5, .int (4 : Int32)), (4, .int (zpt M)), (3, .int (zI M 155 2)), (0, .ref 157), (1, .ref 155), (2, .ref 19)] [.int (zI w403M 155 4), .int (0 : Int32), .ref 158] w403M _
            have w422 : zIv cLo cHi (zsI w403M 158 0 (zI w403M 155 4)) := zIv.put w403I (show (-300000) ≤ (zI w403M 155 4).toInt ∧ (zI w403M 155 4).toInt ≤ 300000 from ⟨by omega, by omega⟩)
            refine zs_iast (pc := 92) t28_92 (j := 0) (by decide) (zk1 (w403s.k fk_zMc_158)) li0 (zk2 (w403s.k fk_zMc_158) (by decide)) ?_
            refine zs_aload_n (pc := 93) t28_93 rfl ?_
            refine zs_iload (pc := 94) t28_94 rfl ?_
            refine zs_iconst (pc := 96) t28_96 (v := 1) (by decide) ?_
            refine zs_iadd (pc := 97) t28_97 (c := 1) (by decide) ?_
            refine zs_iload (pc := 98) t28_98 rfl ?_
            refine zs_icmp_geF (pc := 100) t28_100 li1 li4 (by decide) ?_
            refine zs_bipush (pc := 103) t28_103 (v := 44) (by decide) ?_
            refine zs_goto (pc := 105) t28_105 ?_
            refine zs_invV (pc := 110) (k := 155) (as' := [.int (44 : Int32)]) (st := []) t28_110 mf47 rfl rfl (Or.inl ⟨by decide, (zk1 (w403s.k fk_zMc_155))⟩) ⟨by decide, by decide, Nat.le_of_ble_eq_true rfl, Nat.le_of_ble_eq_true rfl⟩ (zs_in (by decide) mf47 (Nat.le_of_ble_eq_true rfl) ?_) (fun _ _ q => q)
            show zGo X l 1 0 0 47 0 [(0, .ref 155), (1, .int (44 : Int32))] [] (zsI w403M 158 0 (zI w403M 155 4)) _
            refine zs_aload_n (pc := 0) t47_0 rfl ?_
            refine zs_invV (pc := 1) (k := 155) (as' := []) (st := []) t47_1 mf31 rfl rfl (Or.inl ⟨by decide, (zk1 (w403s.k fk_zMc_155))⟩) ⟨by decide, by decide, Nat.le_of_ble_eq_true rfl, Nat.le_of_ble_eq_true rfl⟩ (P31 w403s w422 ?_) (fun _ _ q => q)
            have w424 := zrg (zI w403M 155 2)
            have w425 : (zI (zsI w403M 158 0 (zI w403M 155 4)) 155 2).toInt = (zI w403M 155 2).toInt := (congrArg Int32.toInt ((zIo (by decide)).trans rfl)).trans rfl
            have w426 : (zI (zsI w403M 158 0 (zI w403M 155 4)) 155 1).toInt = (zI M 155 1).toInt := (congrArg Int32.toInt ((zIo (by decide)).trans ((w403F 155 1 rfl).trans ((zIoj (by decide)).trans rfl)))).trans rfl
            have w423 : (zpt (zsI w403M 158 0 (zI w403M 155 4))).toInt = g w404E := zpt.tr (zTa.fr x1 (zEq.tr (zEq.tr (zEq.put rfl) (zFr.eq w403F rfl)) (zEq.put rfl))) (by omega)
            have w427 := zTa.rg (M := (zsI w403M 158 0 (zI w403M 155 4))) (zTa.fr x1 (zEq.tr (zEq.tr (zEq.put rfl) (zFr.eq w403F rfl)) (zEq.put rfl))) w404E
            show zGo X l 1 0 0 47 4 [(0, .ref 155), (1, .int (44 : Int32))] [.int (zpt (zsI w403M 158 0 (zI w403M 155 4)))] (zsI w403M 158 0 (zI w403M 155 4)) _
            refine zs_iload_n (pc := 4) t47_4 rfl ?_
            by_cases w428 : (g w404E) = 44
            · refine zs_icmp_eqT (pc := 5) t47_5 w423 li44 (by omega) ?_
              refine zs_aload_n (pc := 17) t47_17 rfl ?_
              refine zs_dup (pc := 18) t47_18 rfl ?_
              refine zs_get (pc := 19) t47_19 (by decide) (zk1 (w403s.k fk_zMc_155)) (zfvi rfl ((zIo (by decide)).trans rfl)) ?_
              refine zs_iconst (pc := 22) t47_22 (v := 1) (by decide) ?_
              obtain ⟨w429v, w429e, w429⟩ := ziadd (a := (zI w403M 155 2)) (b := (1 : Int32)) rfl li1 (by omega) (by omega)
              refine zs_iadd (pc := 23) t47_23 (c := w429v) w429e ?_
              have w430 : zIv cLo cHi (zsI (zsI w403M 158 0 (zI w403M 155 4)) 155 2 w429v) := zIv.put w422 (show (-2147483648) ≤ w429v.toInt ∧ w429v.toInt ≤ 2147483647 from zrg w429v)
              refine zs_putI (pc := 24) t47_24 (zk1 (w403s.k fk_zMc_155)) rfl ?_
              refine zs_iconst (pc := 27) t47_27 (v := 1) (by decide) ?_
              refine zs_iret (pc := 28) t47_28 mr47 (by decide) ?_
              show zGo X l 5 0 0 28 113 [(6, .int (0 : Int32)), (5, .int (4 : Int32)), (4, .int (zpt M)), (3, .int (zI M 155 2)), (0, .ref 157), (1, .ref 155), (2, .ref 19)] [.int (1 : Int32)] (zsI (zsI w403M 158 0 (zI w403M 155 4)) 155 2 w429v) _
              refine zs_if_neT (pc := 113) t28_113 li1 (by decide) ?_
              refine zs_iinc (pc := 118) t28_118 (ls' := [(6, .int (1 : Int32)), (5, .int (4 : Int32)), (4, .int (zpt M)), (3, .int (zI M 155 2)), (0, .ref 157), (1, .ref 155), (2, .ref 19)]) (zml mf28 (by decide)) rfl (c := 1) (by decide) rfl ?_
              refine zs_goto (pc := 121) t28_121 ?_
              refine zs_iload (pc := 41) t28_41 rfl ?_
              refine zs_iload (pc := 43) t28_43 rfl ?_
              refine zs_icmp_geF (pc := 45) t28_45 li1 li4 (by decide) ?_
              refine zs_aload_n (pc := 48) t28_48 rfl ?_
              have w431 : (zI (zsI (zsI w403M 158 0 (zI w403M 155 4)) 155 2 w429v) 155 2).toInt = ((zI w403M 155 2).toInt + 1) := (congrArg Int32.toInt zIs).trans w429
              have w432 : (zI (zsI (zsI w403M 158 0 (zI w403M 155 4)) 155 2 w429v) 155 2).toInt = ((zI w403M 155 2).toInt + 1) := (congrArg Int32.toInt zIs).trans w429
              have w433 : (zI (zsI (zsI w403M 158 0 (zI w403M 155 4)) 155 2 w429v) 155 1).toInt = (zI M 155 1).toInt := (congrArg Int32.toInt ((zIoj (by decide)).trans ((zIo (by decide)).trans ((w403F 155 1 rfl).trans ((zIoj (by decide)).trans rfl))))).trans rfl
              refine zs_invV (pc := 49) (k := 155) (as' := []) (st := []) t28_49 mf35 rfl rfl (Or.inl ⟨by decide, (zk1 (w403s.k fk_zMc_155))⟩) ⟨by decide, by decide, Nat.le_of_ble_eq_true rfl, Nat.le_of_ble_eq_true rfl⟩ (X35_155 w403s w430 (by omega) (by omega) (zTa.fr x1 (zEq.tr (zEq.tr (zEq.tr (zEq.put rfl) (zFr.eq w403F rfl)) (zEq.put rfl)) (zEq.put rfl))) ?_) (fun _ _ q => q)
              intro w434M w434v w434s w434I w434F w434x0 w434a w434b
              show zGo X l 5 0 0 28 52 [(6, .int (1 : Int32)), (5, .int (4 : Int32)), (4, .int (zpt M)), (3, .int (zI M 155 2)), (0, .ref 157), (1, .ref 155), (2, .ref 19)] [.int w434v] w434M _
              rcases w434x0 (w404E + 1) (by omega) with ⟨w435v, w435e⟩ | ⟨w435v, w435E, w435x, w435e, w435_3, w435_4, w435_5, w435_6, w435_7, w435_8⟩
              · skip
                refine zs_if_neF (pc := 52) t28_52 rfl (by omega) ?_
                refine zs_iconst (pc := 55) t28_55 (v := 0) (by decide) ?_
                have w436 := zrg (zI w434M 155 2)
                have w437 : (zI w434M 155 2).toInt = (zI w434M 155 2).toInt := (congrArg Int32.toInt rfl).trans rfl
                exact zs_iret (pc := 56) t28_56 mr28 (by decide) (hQ _ _ w434s w434I ((((((zFr.refl).put rfl).trans (w403F.mono rfl)).put rfl).put rfl).trans (w434F.mono rfl)) (fun p hp => by obtain rfl : w11n = p := (by omega); exact Or.inl ⟨by decide, ((pIt.s (by omega)).trans (pB.y (pRd.y w404e (by omega) (by omega) (by omega)))).trans (pB.f (pRd.f w435e))⟩) (by decide) (by decide))
              · skip
                subst w435_4
                refine zs_if_neT (pc := 52) t28_52 rfl (by omega) ?_
                refine zs_aload_n (pc := 57) t28_57 rfl ?_
                refine zs_iload (pc := 58) t28_58 rfl ?_
                refine zs_iload (pc := 60) t28_60 rfl ?_
                refine zs_aload_n (pc := 62) t28_62 rfl ?_
                refine zs_invV (pc := 63) (k := 155) (as' := []) (st := [.int (1 : Int32), .int (zpt M), .ref 157]) t28_63 mf37 rfl rfl (Or.inl ⟨by decide, (zk1 (w434s.k fk_zMc_155))⟩) ⟨by decide, by decide, Nat.le_of_ble_eq_true rfl, Nat.le_of_ble_eq_true rfl⟩ (zs_in (by decide) mf37 (Nat.le_of_ble_eq_true rfl) ?_) (fun _ _ q => q)
                show zGo X l 0 0 0 37 0 [(0, .ref 155)] [] w434M _
                refine zs_aload_n (pc := 0) t37_0 rfl ?_
                have w438 := ib155_4 w434I
                refine zs_get (pc := 1) t37_1 (by decide) (zk1 (w434s.k fk_zMc_155)) (zfvi rfl rfl) ?_
                refine zs_iret (pc := 4) t37_4 mr37 rfl ?_
                show zGo X l 5 0 0 28 66 [(6, .int (1 : Int32)), (5, .int (4 : Int32)), (4, .int (zpt M)), (3, .int (zI M 155 2)), (0, .ref 157), (1, .ref 155), (2, .ref 19)] [.int (zI w434M 155 4), .int (1 : Int32), .int (zpt M), .ref 157] w434M _
                refine zs_aload_n (pc := 66) t28_66 rfl ?_
                refine zs_invV (pc := 67) (k := 157) (as' := [.int (zpt M), .int (1 : Int32), .int (zI w434M 155 4), .ref 19]) (st := []) t28_67 mf38 rfl rfl (Or.inl ⟨by decide, (zk1 (w434s.k fk_zMc_157))⟩) ⟨by decide, by decide, Nat.le_of_ble_eq_true rfl, Nat.le_of_ble_eq_true rfl⟩ (zs_in (by decide) mf38 (Nat.le_of_ble_eq_true rfl) ?_) (fun _ _ q => q)
                show zGo X l 2 0 0 38 0 [(0, .ref 157), (1, .int (zpt M)), (2, .int (1 : Int32)), (3, .int (zI w434M 155 4)), (4, .ref 19)] [] w434M _
                refine zs_iload_n (pc := 0) t38_0 rfl ?_
                refine zs_lsw (pc := 1) t38_1 (off := 122) w12 (by unfold zlsel; repeat (first | rfl | (rw [if_neg (by omega)]; unfold zlsel))) (pc2 := 123) rfl ?_
                refine zs_iload_n (pc := 123) t38_123 rfl ?_
                refine zs_invS (pc := 124) (as := [.int (zpt M)]) (st := []) t38_124 (by decide) mf45 rfl rfl ⟨by decide, by decide, Nat.le_of_ble_eq_true rfl, Nat.le_of_ble_eq_true rfl⟩ (zs_in (by decide) mf45 (Nat.le_of_ble_eq_true rfl) ?_) (fun _ _ q => q)
                show zGo X l 0 0 0 45 0 [(0, .int (zpt M))] [] w434M _
                refine zs_iload_n (pc := 0) t45_0 rfl ?_
                refine zs_lsw (pc := 1) t45_1 (off := 43) ((w12 : (zpt M).toInt = (g w11n)).trans (by omega)) rfl (pc2 := 44) rfl ?_
                refine zs_iconst (pc := 44) t45_44 (v := 0) (by decide) ?_
                refine zs_iret (pc := 45) t45_45 mr45 (by decide) ?_
                show zGo X l 2 0 0 38 127 [(0, .ref 157), (1, .int (zpt M)), (2, .int (1 : Int32)), (3, .int (zI w434M 155 4)), (4, .ref 19)] [.int (0 : Int32)] w434M _
                refine zs_iload_n (pc := 127) t38_127 rfl ?_
                refine zs_iadd (pc := 128) t38_128 (c := 1) (by decide) ?_
                refine zs_iload_n (pc := 129) t38_129 rfl ?_
                refine zs_invS (pc := 130) (as := [.int (1 : Int32), .int (zI w434M 155 4)]) (st := []) t38_130 (by decide) mf44 rfl rfl ⟨by decide, by decide, Nat.le_of_ble_eq_true rfl, Nat.le_of_ble_eq_true rfl⟩ (zs_in (by decide) mf44 (Nat.le_of_ble_eq_true rfl) ?_) (fun _ _ q => q)
                show zGo X l 1 0 0 44 0 [(0, .int (1 : Int32)), (1, .int (zI w434M 155 4))] [] w434M _
                refine zs_iload_n (pc := 0) t44_0 rfl ?_
                refine zs_if_ltF (pc := 1) t44_1 li1 (by decide) ?_
                refine zs_iload_n (pc := 4) t44_4 rfl ?_
                refine zs_bipush (pc := 5) t44_5 (v := 9) (by decide) ?_
                refine zs_icmp_geF (pc := 7) t44_7 li1 li9 (by decide) ?_
                refine zs_iload_n (pc := 10) t44_10 rfl ?_
                refine zs_getstatic (pc := 11) t44_11 (v := .ref 2) rfl ?_
                refine zs_iload_n (pc := 14) t44_14 rfl ?_
                have w439 := zrg (zI M 2 1)
                have w440 : (zI M 2 1).toInt = 0 := by rw [x6 2 1 (by decide)]; decide
                refine zs_iald (pc := 15) t44_15 (j := 1) (by decide) (zk1 (w434s.k fk_zMc_2)) li1 (zk2 (w434s.k fk_zMc_2) (by decide)) ((w434F 2 1 rfl).trans ((zIo (by decide)).trans ((zIo (by decide)).trans ((w403F 2 1 rfl).trans ((zIo (by decide)).trans rfl))))) ?_
                refine zs_getstatic (pc := 16) t44_16 (v := .ref 3) rfl ?_
                refine zs_iload_n (pc := 19) t44_19 rfl ?_
                have w441 := zrg (zI M 3 1)
                have w442 : (zI M 3 1).toInt = 20 := by rw [x6 3 1 (by decide)]; decide
                refine zs_iald (pc := 20) t44_20 (j := 1) (by decide) (zk1 (w434s.k fk_zMc_3)) li1 (zk2 (w434s.k fk_zMc_3) (by decide)) ((w434F 3 1 rfl).trans ((zIo (by decide)).trans ((zIo (by decide)).trans ((w403F 3 1 rfl).trans ((zIo (by decide)).trans rfl))))) ?_
                refine zs_invS (pc := 21) (as := [.int (zI w434M 155 4), .int (zI M 2 1), .int (zI M 3 1)]) (st := []) t44_21 (by decide) mf39 rfl rfl ⟨by decide, by decide, Nat.le_of_ble_eq_true rfl, Nat.le_of_ble_eq_true rfl⟩ (zs_in (by decide) mf39 (Nat.le_of_ble_eq_true rfl) ?_) (fun _ _ q => q)
                show zGo X l 0 0 0 39 0 [(0, .int (zI w434M 155 4)), (1, .int (zI M 2 1)), (2, .int (zI M 3 1))] [] w434M _
                refine zs_iload_n (pc := 0) t39_0 rfl ?_
                refine zs_iload_n (pc := 1) t39_1 rfl ?_
                by_cases w443 : (zI w434M 155 4).toInt < (zI M 2 1).toInt
                · refine zs_icmp_ltT (pc := 2) t39_2 rfl rfl (by omega) ?_
                  refine zs_iconst (pc := 14) t39_14 (v := 0) (by decide) ?_
                  refine zs_iret (pc := 15) t39_15 mr39 (by decide) ?_
                  show zGo X l 1 0 0 44 24 [(0, .int (1 : Int32)), (1, .int (zI w434M 155 4))] [.int (0 : Int32)] w434M _
                  refine zs_if_eqT (pc := 24) t44_24 li0 (by decide) ?_
                  refine zs_iconst (pc := 31) t44_31 (v := 0) (by decide) ?_
                  refine zs_iret (pc := 32) t44_32 mr44 (by decide) ?_
                  show zGo X l 2 0 0 38 133 [(0, .ref 157), (1, .int (zpt M)), (2, .int (1 : Int32)), (3, .int (zI w434M 155 4)), (4, .ref 19)] [.int (0 : Int32)] w434M _
                  refine zs_iret (pc := 133) t38_133 mr38 (by decide) ?_
                  show zGo X l 5 0 0 28 70 [(6, .int (1 : Int32)), (5, .int (4 : Int32)), (4, .int (zpt M)), (3, .int (zI M 155 2)), (0, .ref 157), (1, .ref 155), (2, .ref 19)] [.int (0 : Int32)] w434M _
                  refine zs_if_neF (pc := 70) t28_70 li0 (by decide) ?_
                  refine zs_aload_n (pc := 73) t28_73 rfl ?_
                  refine zs_aload_n (pc := 74) t28_74 rfl ?_
                  refine zs_invV (pc := 75) (k := 155) (as' := []) (st := [.ref 155]) t28_75 mf46 rfl rfl (Or.inl ⟨by decide, (zk1 (w434s.k fk_zMc_155))⟩) ⟨by decide, by decide, Nat.le_of_ble_eq_true rfl, Nat.le_of_ble_eq_true rfl⟩ (zs_in (by decide) mf46 (Nat.le_of_ble_eq_true rfl) ?_) (fun _ _ q => q)
                  show zGo X l 0 0 0 46 0 [(0, .ref 155)] [] w434M _
                  refine zs_aload_n (pc := 0) t46_0 rfl ?_
                  have w444 := zrg (zI w434M 155 5)
                  refine zs_get (pc := 1) t46_1 (by decide) (zk1 (w434s.k fk_zMc_155)) (zfvi rfl rfl) ?_
                  refine zs_iret (pc := 4) t46_4 mr46 rfl ?_
                  show zGo X l 5 0 0 28 78 [(6, .int (1 : Int32)), (5, .int (4 : Int32)), (4, .int (zpt M)), (3, .int (zI M 155 2)), (0, .ref 157), (1, .ref 155), (2, .ref 19)] [.int (zI w434M 155 5), .ref 155] w434M _
                  refine zs_invV (pc := 78) (k := 155) (as' := [.int (zI w434M 155 5)]) (st := []) t28_78 mf34 rfl rfl (Or.inl ⟨by decide, (zk1 (w434s.k fk_zMc_155))⟩) ⟨by decide, by decide, Nat.le_of_ble_eq_true rfl, Nat.le_of_ble_eq_true rfl⟩ (zs_in (by decide) mf34 (Nat.le_of_ble_eq_true rfl) ?_) (fun _ _ q => q)
                  show zGo X l 0 0 0 34 0 [(0, .ref 155), (1, .int (zI w434M 155 5))] [] w434M _
                  refine zs_aload_n (pc := 0) t34_0 rfl ?_
                  refine zs_iload_n (pc := 1) t34_1 rfl ?_
                  have w445 : zIv cLo cHi (zsI w434M 155 3 (zI w434M 155 5)) := zIv.put w434I (show (-2147483648) ≤ (zI w434M 155 5).toInt ∧ (zI w434M 155 5).toInt ≤ 2147483647 from zrg (zI w434M 155 5))
                  refine zs_putI (pc := 2) t34_2 (zk1 (w434s.k fk_zMc_155)) rfl ?_
                  refine zs_iconst (pc := 5) t34_5 (v := 0) (by decide) ?_
                  refine zs_iret (pc := 6) t34_6 mr34 (by decide) ?_
                  show zGo X l 5 0 0 28 81 [(6, .int (1 : Int32)), (5, .int (4 : Int32)), (4, .int (zpt M)), (3, .int (zI M 155 2)), (0, .ref 157), (1, .ref 155), (2, .ref 19)] [.int (0 : Int32)] (zsI w434M 155 3 (zI w434M 155 5)) _
                  have w446 := zrg (zI w434M 155 2)
                  have w447 : (zI (zsI w434M 155 3 (zI w434M 155 5)) 155 2).toInt = (zI w434M 155 2).toInt := (congrArg Int32.toInt ((zIoj (by decide)).trans rfl)).trans rfl
                  exact zs_iret (pc := 81) t28_81 mr28 (by decide) (hQ _ _ w434s w445 (((((((zFr.refl).put rfl).trans (w403F.mono rfl)).put rfl).put rfl).trans (w434F.mono rfl)).put rfl) (fun p hp => by obtain rfl : w11n = p := (by omega); exact Or.inl ⟨by decide, ((pIt.s (by omega)).trans (pB.y (pRd.y w404e (by omega) (by omega) (by omega)))).trans (pB.f (pRd.n w435e (by omega)))⟩) (by decide) (by decide))
                · refine zs_icmp_ltF (pc := 2) t39_2 rfl rfl (by omega) ?_
                  refine zs_iload_n (pc := 5) t39_5 rfl ?_
                  refine zs_iload_n (pc := 6) t39_6 rfl ?_
                  by_cases w448 : (zI M 3 1).toInt < (zI w434M 155 4).toInt
                  · refine zs_icmp_gtT (pc := 7) t39_7 rfl rfl (by omega) ?_
                    refine zs_iconst (pc := 14) t39_14 (v := 0) (by decide) ?_
                    refine zs_iret (pc := 15) t39_15 mr39 (by decide) ?_
                    show zGo X l 1 0 0 44 24 [(0, .int (1 : Int32)), (1, .int (zI w434M 155 4))] [.int (0 : Int32)] w434M _
                    refine zs_if_eqT (pc := 24) t44_24 li0 (by decide) ?_
                    refine zs_iconst (pc := 31) t44_31 (v := 0) (by decide) ?_
                    refine zs_iret (pc := 32) t44_32 mr44 (by decide) ?_
                    show zGo X l 2 0 0 38 133 [(0, .ref 157), (1, .int (zpt M)), (2, .int (1 : Int32)), (3, .int (zI w434M 155 4)), (4, .ref 19)] [.int (0 : Int32)] w434M _
                    refine zs_iret (pc := 133) t38_133 mr38 (by decide) ?_
                    show zGo X l 5 0 0 28 70 [(6, .int (1 : Int32)), (5, .int (4 : Int32)), (4, .int (zpt M)), (3, .int (zI M 155 2)), (0, .ref 157), (1, .ref 155), (2, .ref 19)] [.int (0 : Int32)] w434M _
                    refine zs_if_neF (pc := 70) t28_70 li0 (by decide) ?_
                    refine zs_aload_n (pc := 73) t28_73 rfl ?_
                    refine zs_aload_n (pc := 74) t28_74 rfl ?_
                    refine zs_invV (pc := 75) (k := 155) (as' := []) (st := [.ref 155]) t28_75 mf46 rfl rfl (Or.inl ⟨by decide, (zk1 (w434s.k fk_zMc_155))⟩) ⟨by decide, by decide, Nat.le_of_ble_eq_true rfl, Nat.le_of_ble_eq_true rfl⟩ (zs_in (by decide) mf46 (Nat.le_of_ble_eq_true rfl) ?_) (fun _ _ q => q)
                    show zGo X l 0 0 0 46 0 [(0, .ref 155)] [] w434M _
                    refine zs_aload_n (pc := 0) t46_0 rfl ?_
                    have w449 := zrg (zI w434M 155 5)
                    refine zs_get (pc := 1) t46_1 (by decide) (zk1 (w434s.k fk_zMc_155)) (zfvi rfl rfl) ?_
                    refine zs_iret (pc := 4) t46_4 mr46 rfl ?_
                    show zGo X l 5 0 0 28 78 [(6, .int (1 : Int32)), (5, .int (4 : Int32)), (4, .int (zpt M)), (3, .int (zI M 155 2)), (0, .ref 157), (1, .ref 155), (2, .ref 19)] [.int (zI w434M 155 5), .ref 155] w434M _
                    refine zs_invV (pc := 78) (k := 155) (as' := [.int (zI w434M 155 5)]) (st := []) t28_78 mf34 rfl rfl (Or.inl ⟨by decide, (zk1 (w434s.k fk_zMc_155))⟩) ⟨by decide, by decide, Nat.le_of_ble_eq_true rfl, Nat.le_of_ble_eq_true rfl⟩ (zs_in (by decide) mf34 (Nat.le_of_ble_eq_true rfl) ?_) (fun _ _ q => q)
                    show zGo X l 0 0 0 34 0 [(0, .ref 155), (1, .int (zI w434M 155 5))] [] w434M _
                    refine zs_aload_n (pc := 0) t34_0 rfl ?_
                    refine zs_iload_n (pc := 1) t34_1 rfl ?_
                    have w450 : zIv cLo cHi (zsI w434M 155 3 (zI w434M 155 5)) := zIv.put w434I (show (-2147483648) ≤ (zI w434M 155 5).toInt ∧ (zI w434M 155 5).toInt ≤ 2147483647 from zrg (zI w434M 155 5))
                    refine zs_putI (pc := 2) t34_2 (zk1 (w434s.k fk_zMc_155)) rfl ?_
                    refine zs_iconst (pc := 5) t34_5 (v := 0) (by decide) ?_
                    refine zs_iret (pc := 6) t34_6 mr34 (by decide) ?_
                    show zGo X l 5 0 0 28 81 [(6, .int (1 : Int32)), (5, .int (4 : Int32)), (4, .int (zpt M)), (3, .int (zI M 155 2)), (0, .ref 157), (1, .ref 155), (2, .ref 19)] [.int (0 : Int32)] (zsI w434M 155 3 (zI w434M 155 5)) _
                    have w451 := zrg (zI w434M 155 2)
                    have w452 : (zI (zsI w434M 155 3 (zI w434M 155 5)) 155 2).toInt = (zI w434M 155 2).toInt := (congrArg Int32.toInt ((zIoj (by decide)).trans rfl)).trans rfl
                    exact zs_iret (pc := 81) t28_81 mr28 (by decide) (hQ _ _ w434s w450 (((((((zFr.refl).put rfl).trans (w403F.mono rfl)).put rfl).put rfl).trans (w434F.mono rfl)).put rfl) (fun p hp => by obtain rfl : w11n = p := (by omega); exact Or.inl ⟨by decide, ((pIt.s (by omega)).trans (pB.y (pRd.y w404e (by omega) (by omega) (by omega)))).trans (pB.f (pRd.n w435e (by omega)))⟩) (by decide) (by decide))
                  · refine zs_icmp_gtF (pc := 7) t39_7 rfl rfl (by omega) ?_
                    refine zs_iconst (pc := 10) t39_10 (v := 1) (by decide) ?_
                    refine zs_goto (pc := 11) t39_11 ?_
                    refine zs_iret (pc := 15) t39_15 mr39 (by decide) ?_
                    show zGo X l 1 0 0 44 24 [(0, .int (1 : Int32)), (1, .int (zI w434M 155 4))] [.int (1 : Int32)] w434M _
                    refine zs_if_eqF (pc := 24) t44_24 li1 (by decide) ?_
                    refine zs_iconst (pc := 27) t44_27 (v := 1) (by decide) ?_
                    refine zs_goto (pc := 28) t44_28 ?_
                    refine zs_iret (pc := 32) t44_32 mr44 (by decide) ?_
                    show zGo X l 2 0 0 38 133 [(0, .ref 157), (1, .int (zpt M)), (2, .int (1 : Int32)), (3, .int (zI w434M 155 4)), (4, .ref 19)] [.int (1 : Int32)] w434M _
                    refine zs_iret (pc := 133) t38_133 mr38 (by decide) ?_
                    show zGo X l 5 0 0 28 70 [(6, .int (1 : Int32)), (5, .int (4 : Int32)), (4, .int (zpt M)), (3, .int (zI M 155 2)), (0, .ref 157), (1, .ref 155), (2, .ref 19)] [.int (1 : Int32)] w434M _
                    refine zs_if_neT (pc := 70) t28_70 li1 (by decide) ?_
                    refine zs_aload_n (pc := 82) t28_82 rfl ?_
                    refine zs_get (pc := 83) t28_83 (by decide) (zk1 (w434s.k fk_zMc_157)) (w434s.p rfl fv_zMc_157_0) ?_
                    refine zs_iload (pc := 86) t28_86 rfl ?_
                    refine zs_aload_n (pc := 88) t28_88 rfl ?_
                    refine zs_invV (pc := 89) (k := 155) (as' := []) (st := [.int (1 : Int32), .ref 158]) t28_89 mf37 rfl rfl (Or.inl ⟨by decide, (zk1 (w434s.k fk_zMc_155))⟩) ⟨by decide, by decide, Nat.le_of_ble_eq_true rfl, Nat.le_of_ble_eq_true rfl⟩ (zs_in (by decide) mf37 (Nat.le_of_ble_eq_true rfl) ?_) (fun _ _ q => q)
                    show zGo X l 0 0 0 37 0 [(0, .ref 155)] [] w434M _
                    refine zs_aload_n (pc := 0) t37_0 rfl ?_
                    refine zs_get (pc := 1) t37_1 (by decide) (zk1 (w434s.k fk_zMc_155)) (zfvi rfl rfl) ?_
                    refine zs_iret (pc := 4) t37_4 mr37 rfl ?_
                    show zGo X l 5 0 0 28 92 [(6, .int (1 : Int32)), (5, .int (4 : Int32)), (4, .int (zpt M)), (3, .int (zI M 155 2)), (0, .ref 157), (1, .ref 155), (2, .ref 19)] [.int (zI w434M 155 4), .int (1 : Int32), .ref 158] w434M _
                    have w453 : zIv cLo cHi (zsI w434M 158 1 (zI w434M 155 4)) := zIv.put w434I (show (-300000) ≤ (zI w434M 155 4).toInt ∧ (zI w434M 155 4).toInt ≤ 300000 from ⟨by omega, by omega⟩)
                    refine zs_iast (pc := 92) t28_92 (j := 1) (by decide) (zk1 (w434s.k fk_zMc_158)) li1 (zk2 (w434s.k fk_zMc_158) (by decide)) ?_
                    refine zs_aload_n (pc := 93) t28_93 rfl ?_
                    refine zs_iload (pc := 94) t28_94 rfl ?_
                    refine zs_iconst (pc := 96) t28_96 (v := 1) (by decide) ?_
                    refine zs_iadd (pc := 97) t28_97 (c := 2) (by decide) ?_
                    refine zs_iload (pc := 98) t28_98 rfl ?_
                    refine zs_icmp_geF (pc := 100) t28_100 li2 li4 (by decide) ?_
                    refine zs_bipush (pc := 103) t28_103 (v := 44) (by decide) ?_
                    refine zs_goto (pc := 105) t28_105 ?_
                    refine zs_invV (pc := 110) (k := 155) (as' := [.int (44 : Int32)]) (st := []) t28_110 mf47 rfl rfl (Or.inl ⟨by decide, (zk1 (w434s.k fk_zMc_155))⟩) ⟨by decide, by decide, Nat.le_of_ble_eq_true rfl, Nat.le_of_ble_eq_true rfl⟩ (zs_in (by decide) mf47 (Nat.le_of_ble_eq_true rfl) ?_) (fun _ _ q => q)
                    show zGo X l 1 0 0 47 0 [(0, .ref 155), (1, .int (44 : Int32))] [] (zsI w434M 158 1 (zI w434M 155 4)) _
                    refine zs_aload_n (pc := 0) t47_0 rfl ?_
                    refine zs_invV (pc := 1) (k := 155) (as' := []) (st := []) t47_1 mf31 rfl rfl (Or.inl ⟨by decide, (zk1 (w434s.k fk_zMc_155))⟩) ⟨by decide, by decide, Nat.le_of_ble_eq_true rfl, Nat.le_of_ble_eq_true rfl⟩ (P31 w434s w453 ?_) (fun _ _ q => q)
                    have w455 := zrg (zI w434M 155 2)
                    have w456 : (zI (zsI w434M 158 1 (zI w434M 155 4)) 155 2).toInt = (zI w434M 155 2).toInt := (congrArg Int32.toInt ((zIo (by decide)).trans rfl)).trans rfl
                    have w457 : (zI (zsI w434M 158 1 (zI w434M 155 4)) 155 1).toInt = (zI M 155 1).toInt := (congrArg Int32.toInt ((zIo (by decide)).trans ((w434F 155 1 rfl).trans ((zIoj (by decide)).trans ((zIo (by decide)).trans ((w403F 155 1 rfl).trans ((zIoj (by decide)).trans rfl))))))).trans rfl
                    have w454 : (zpt (zsI w434M 158 1 (zI w434M 155 4))).toInt = g w435E := zpt.tr (zTa.fr x1 (zEq.tr (zEq.tr (zEq.tr (zEq.tr (zEq.tr (zEq.put rfl) (zFr.eq w403F rfl)) (zEq.put rfl)) (zEq.put rfl)) (zFr.eq w434F rfl)) (zEq.put rfl))) (by omega)
                    have w458 := zTa.rg (M := (zsI w434M 158 1 (zI w434M 155 4))) (zTa.fr x1 (zEq.tr (zEq.tr (zEq.tr (zEq.tr (zEq.tr (zEq.put rfl) (zFr.eq w403F rfl)) (zEq.put rfl)) (zEq.put rfl)) (zFr.eq w434F rfl)) (zEq.put rfl))) w435E
                    show zGo X l 1 0 0 47 4 [(0, .ref 155), (1, .int (44 : Int32))] [.int (zpt (zsI w434M 158 1 (zI w434M 155 4)))] (zsI w434M 158 1 (zI w434M 155 4)) _
                    refine zs_iload_n (pc := 4) t47_4 rfl ?_
                    by_cases w459 : (g w435E) = 44
                    · refine zs_icmp_eqT (pc := 5) t47_5 w454 li44 (by omega) ?_
                      refine zs_aload_n (pc := 17) t47_17 rfl ?_
                      refine zs_dup (pc := 18) t47_18 rfl ?_
                      refine zs_get (pc := 19) t47_19 (by decide) (zk1 (w434s.k fk_zMc_155)) (zfvi rfl ((zIo (by decide)).trans rfl)) ?_
                      refine zs_iconst (pc := 22) t47_22 (v := 1) (by decide) ?_
                      obtain ⟨w460v, w460e, w460⟩ := ziadd (a := (zI w434M 155 2)) (b := (1 : Int32)) rfl li1 (by omega) (by omega)
                      refine zs_iadd (pc := 23) t47_23 (c := w460v) w460e ?_
                      have w461 : zIv cLo cHi (zsI (zsI w434M 158 1 (zI w434M 155 4)) 155 2 w460v) := zIv.put w453 (show (-2147483648) ≤ w460v.toInt ∧ w460v.toInt ≤ 2147483647 from zrg w460v)
                      refine zs_putI (pc := 24) t47_24 (zk1 (w434s.k fk_zMc_155)) rfl ?_
                      refine zs_iconst (pc := 27) t47_27 (v := 1) (by decide) ?_
                      refine zs_iret (pc := 28) t47_28 mr47 (by decide) ?_
                      show zGo X l 5 0 0 28 113 [(6, .int (1 : Int32)), (5, .int (4 : Int32)), (4, .int (zpt M)), (3, .int (zI M 155 2)), (0, .ref 157), (1, .ref 155), (2, .ref 19)] [.int (1 : Int32)] (zsI (zsI w434M 158 1 (zI w434M 155 4)) 155 2 w460v) _
                      refine zs_if_neT (pc := 113) t28_113 li1 (by decide) ?_
                      refine zs_iinc (pc := 118) t28_118 (ls' := [(6, .int (2 : Int32)), (5, .int (4 : Int32)), (4, .int (zpt M)), (3, .int (zI M 155 2)), (0, .ref 157), (1, .ref 155), (2, .ref 19)]) (zml mf28 (by decide)) rfl (c := 2) (by decide) rfl ?_
                      refine zs_goto (pc := 121) t28_121 ?_
                      refine zs_iload (pc := 41) t28_41 rfl ?_
                      refine zs_iload (pc := 43) t28_43 rfl ?_
                      refine zs_icmp_geF (pc := 45) t28_45 li2 li4 (by decide) ?_
                      refine zs_aload_n (pc := 48) t28_48 rfl ?_
                      have w462 : (zI (zsI (zsI w434M 158 1 (zI w434M 155 4)) 155 2 w460v) 155 2).toInt = ((zI w434M 155 2).toInt + 1) := (congrArg Int32.toInt zIs).trans w460
                      have w463 : (zI (zsI (zsI w434M 158 1 (zI w434M 155 4)) 155 2 w460v) 155 2).toInt = ((zI w434M 155 2).toInt + 1) := (congrArg Int32.toInt zIs).trans w460
                      have w464 : (zI (zsI (zsI w434M 158 1 (zI w434M 155 4)) 155 2 w460v) 155 1).toInt = (zI M 155 1).toInt := (congrArg Int32.toInt ((zIoj (by decide)).trans ((zIo (by decide)).trans ((w434F 155 1 rfl).trans ((zIoj (by decide)).trans ((zIo (by decide)).trans ((w403F 155 1 rfl).trans ((zIoj (by decide)).trans rfl)))))))).trans rfl
                      refine zs_invV (pc := 49) (k := 155) (as' := []) (st := []) t28_49 mf35 rfl rfl (Or.inl ⟨by decide, (zk1 (w434s.k fk_zMc_155))⟩) ⟨by decide, by decide, Nat.le_of_ble_eq_true rfl, Nat.le_of_ble_eq_true rfl⟩ (X35_155 w434s w461 (by omega) (by omega) (zTa.fr x1 (zEq.tr (zEq.tr (zEq.tr (zEq.tr (zEq.tr (zEq.tr (zEq.put rfl) (zFr.eq w403F rfl)) (zEq.put rfl)) (zEq.put rfl)) (zFr.eq w434F rfl)) (zEq.put rfl)) (zEq.put rfl))) ?_) (fun _ _ q => q)
                      intro w465M w465v w465s w465I w465F w465x0 w465a w465b
                      show zGo X l 5 0 0 28 52 [(6, .int (2 : Int32)), (5, .int (4 : Int32)), (4, .int (zpt M)), (3, .int (zI M 155 2)), (0, .ref 157), (1, .ref 155), (2, .ref 19)] [.int w465v] w465M _
                      rcases w465x0 (w435E + 1) (by omega) with ⟨w466v, w466e⟩ | ⟨w466v, w466E, w466x, w466e, w466_3, w466_4, w466_5, w466_6, w466_7, w466_8⟩
                      · skip
                        refine zs_if_neF (pc := 52) t28_52 rfl (by omega) ?_
                        refine zs_iconst (pc := 55) t28_55 (v := 0) (by decide) ?_
                        have w467 := zrg (zI w465M 155 2)
                        have w468 : (zI w465M 155 2).toInt = (zI w465M 155 2).toInt := (congrArg Int32.toInt rfl).trans rfl
                        exact zs_iret (pc := 56) t28_56 mr28 (by decide) (hQ _ _ w465s w465I (((((((((zFr.refl).put rfl).trans (w403F.mono rfl)).put rfl).put rfl).trans (w434F.mono rfl)).put rfl).put rfl).trans (w465F.mono rfl)) (fun p hp => by obtain rfl : w11n = p := (by omega); exact Or.inl ⟨by decide, (((pIt.s (by omega)).trans (pB.y (pRd.y w404e (by omega) (by omega) (by omega)))).trans (pB.y (pRd.y w435e (by omega) (by omega) (by omega)))).trans (pB.f (pRd.f w466e))⟩) (by decide) (by decide))
                      · skip
                        subst w466_4
                        refine zs_if_neT (pc := 52) t28_52 rfl (by omega) ?_
                        refine zs_aload_n (pc := 57) t28_57 rfl ?_
                        refine zs_iload (pc := 58) t28_58 rfl ?_
                        refine zs_iload (pc := 60) t28_60 rfl ?_
                        refine zs_aload_n (pc := 62) t28_62 rfl ?_
                        refine zs_invV (pc := 63) (k := 155) (as' := []) (st := [.int (2 : Int32), .int (zpt M), .ref 157]) t28_63 mf37 rfl rfl (Or.inl ⟨by decide, (zk1 (w465s.k fk_zMc_155))⟩) ⟨by decide, by decide, Nat.le_of_ble_eq_true rfl, Nat.le_of_ble_eq_true rfl⟩ (zs_in (by decide) mf37 (Nat.le_of_ble_eq_true rfl) ?_) (fun _ _ q => q)
                        show zGo X l 0 0 0 37 0 [(0, .ref 155)] [] w465M _
                        refine zs_aload_n (pc := 0) t37_0 rfl ?_
                        have w469 := ib155_4 w465I
                        refine zs_get (pc := 1) t37_1 (by decide) (zk1 (w465s.k fk_zMc_155)) (zfvi rfl rfl) ?_
                        refine zs_iret (pc := 4) t37_4 mr37 rfl ?_
                        show zGo X l 5 0 0 28 66 [(6, .int (2 : Int32)), (5, .int (4 : Int32)), (4, .int (zpt M)), (3, .int (zI M 155 2)), (0, .ref 157), (1, .ref 155), (2, .ref 19)] [.int (zI w465M 155 4), .int (2 : Int32), .int (zpt M), .ref 157] w465M _
                        refine zs_aload_n (pc := 66) t28_66 rfl ?_
                        refine zs_invV (pc := 67) (k := 157) (as' := [.int (zpt M), .int (2 : Int32), .int (zI w465M 155 4), .ref 19]) (st := []) t28_67 mf38 rfl rfl (Or.inl ⟨by decide, (zk1 (w465s.k fk_zMc_157))⟩) ⟨by decide, by decide, Nat.le_of_ble_eq_true rfl, Nat.le_of_ble_eq_true rfl⟩ (zs_in (by decide) mf38 (Nat.le_of_ble_eq_true rfl) ?_) (fun _ _ q => q)
                        show zGo X l 2 0 0 38 0 [(0, .ref 157), (1, .int (zpt M)), (2, .int (2 : Int32)), (3, .int (zI w465M 155 4)), (4, .ref 19)] [] w465M _
                        refine zs_iload_n (pc := 0) t38_0 rfl ?_
                        refine zs_lsw (pc := 1) t38_1 (off := 122) w12 (by unfold zlsel; repeat (first | rfl | (rw [if_neg (by omega)]; unfold zlsel))) (pc2 := 123) rfl ?_
                        refine zs_iload_n (pc := 123) t38_123 rfl ?_
                        refine zs_invS (pc := 124) (as := [.int (zpt M)]) (st := []) t38_124 (by decide) mf45 rfl rfl ⟨by decide, by decide, Nat.le_of_ble_eq_true rfl, Nat.le_of_ble_eq_true rfl⟩ (zs_in (by decide) mf45 (Nat.le_of_ble_eq_true rfl) ?_) (fun _ _ q => q)
                        show zGo X l 0 0 0 45 0 [(0, .int (zpt M))] [] w465M _
                        refine zs_iload_n (pc := 0) t45_0 rfl ?_
                        refine zs_lsw (pc := 1) t45_1 (off := 43) ((w12 : (zpt M).toInt = (g w11n)).trans (by omega)) rfl (pc2 := 44) rfl ?_
                        refine zs_iconst (pc := 44) t45_44 (v := 0) (by decide) ?_
                        refine zs_iret (pc := 45) t45_45 mr45 (by decide) ?_
                        show zGo X l 2 0 0 38 127 [(0, .ref 157), (1, .int (zpt M)), (2, .int (2 : Int32)), (3, .int (zI w465M 155 4)), (4, .ref 19)] [.int (0 : Int32)] w465M _
                        refine zs_iload_n (pc := 127) t38_127 rfl ?_
                        refine zs_iadd (pc := 128) t38_128 (c := 2) (by decide) ?_
                        refine zs_iload_n (pc := 129) t38_129 rfl ?_
                        refine zs_invS (pc := 130) (as := [.int (2 : Int32), .int (zI w465M 155 4)]) (st := []) t38_130 (by decide) mf44 rfl rfl ⟨by decide, by decide, Nat.le_of_ble_eq_true rfl, Nat.le_of_ble_eq_true rfl⟩ (zs_in (by decide) mf44 (Nat.le_of_ble_eq_true rfl) ?_) (fun _ _ q => q)
                        show zGo X l 1 0 0 44 0 [(0, .int (2 : Int32)), (1, .int (zI w465M 155 4))] [] w465M _
                        refine zs_iload_n (pc := 0) t44_0 rfl ?_
                        refine zs_if_ltF (pc := 1) t44_1 li2 (by decide) ?_
                        refine zs_iload_n (pc := 4) t44_4 rfl ?_
                        refine zs_bipush (pc := 5) t44_5 (v := 9) (by decide) ?_
                        refine zs_icmp_geF (pc := 7) t44_7 li2 li9 (by decide) ?_
                        refine zs_iload_n (pc := 10) t44_10 rfl ?_
                        refine zs_getstatic (pc := 11) t44_11 (v := .ref 2) rfl ?_
                        refine zs_iload_n (pc := 14) t44_14 rfl ?_
                        have w470 := zrg (zI M 2 2)
                        have w471 : (zI M 2 2).toInt = 1 := by rw [x6 2 2 (by decide)]; decide
                        refine zs_iald (pc := 15) t44_15 (j := 2) (by decide) (zk1 (w465s.k fk_zMc_2)) li2 (zk2 (w465s.k fk_zMc_2) (by decide)) ((w465F 2 2 rfl).trans ((zIo (by decide)).trans ((zIo (by decide)).trans ((w434F 2 2 rfl).trans ((zIo (by decide)).trans ((zIo (by decide)).trans ((w403F 2 2 rfl).trans ((zIo (by decide)).trans rfl)))))))) ?_
                        refine zs_getstatic (pc := 16) t44_16 (v := .ref 3) rfl ?_
                        refine zs_iload_n (pc := 19) t44_19 rfl ?_
                        have w472 := zrg (zI M 3 2)
                        have w473 : (zI M 3 2).toInt = 500 := by rw [x6 3 2 (by decide)]; decide
                        refine zs_iald (pc := 20) t44_20 (j := 2) (by decide) (zk1 (w465s.k fk_zMc_3)) li2 (zk2 (w465s.k fk_zMc_3) (by decide)) ((w465F 3 2 rfl).trans ((zIo (by decide)).trans ((zIo (by decide)).trans ((w434F 3 2 rfl).trans ((zIo (by decide)).trans ((zIo (by decide)).trans ((w403F 3 2 rfl).trans ((zIo (by decide)).trans rfl)))))))) ?_
                        refine zs_invS (pc := 21) (as := [.int (zI w465M 155 4), .int (zI M 2 2), .int (zI M 3 2)]) (st := []) t44_21 (by decide) mf39 rfl rfl ⟨by decide, by decide, Nat.le_of_ble_eq_true rfl, Nat.le_of_ble_eq_true rfl⟩ (zs_in (by decide) mf39 (Nat.le_of_ble_eq_true rfl) ?_) (fun _ _ q => q)
                        show zGo X l 0 0 0 39 0 [(0, .int (zI w465M 155 4)), (1, .int (zI M 2 2)), (2, .int (zI M 3 2))] [] w465M _
                        refine zs_iload_n (pc := 0) t39_0 rfl ?_
                        refine zs_iload_n (pc := 1) t39_1 rfl ?_
                        by_cases w474 : (zI w465M 155 4).toInt < (zI M 2 2).toInt
                        · refine zs_icmp_ltT (pc := 2) t39_2 rfl rfl (by omega) ?_
                          refine zs_iconst (pc := 14) t39_14 (v := 0) (by decide) ?_
                          refine zs_iret (pc := 15) t39_15 mr39 (by decide) ?_
                          show zGo X l 1 0 0 44 24 [(0, .int (2 : Int32)), (1, .int (zI w465M 155 4))] [.int (0 : Int32)] w465M _
                          refine zs_if_eqT (pc := 24) t44_24 li0 (by decide) ?_
                          refine zs_iconst (pc := 31) t44_31 (v := 0) (by decide) ?_
                          refine zs_iret (pc := 32) t44_32 mr44 (by decide) ?_
                          show zGo X l 2 0 0 38 133 [(0, .ref 157), (1, .int (zpt M)), (2, .int (2 : Int32)), (3, .int (zI w465M 155 4)), (4, .ref 19)] [.int (0 : Int32)] w465M _
                          refine zs_iret (pc := 133) t38_133 mr38 (by decide) ?_
                          show zGo X l 5 0 0 28 70 [(6, .int (2 : Int32)), (5, .int (4 : Int32)), (4, .int (zpt M)), (3, .int (zI M 155 2)), (0, .ref 157), (1, .ref 155), (2, .ref 19)] [.int (0 : Int32)] w465M _
                          refine zs_if_neF (pc := 70) t28_70 li0 (by decide) ?_
                          refine zs_aload_n (pc := 73) t28_73 rfl ?_
                          refine zs_aload_n (pc := 74) t28_74 rfl ?_
                          refine zs_invV (pc := 75) (k := 155) (as' := []) (st := [.ref 155]) t28_75 mf46 rfl rfl (Or.inl ⟨by decide, (zk1 (w465s.k fk_zMc_155))⟩) ⟨by decide, by decide, Nat.le_of_ble_eq_true rfl, Nat.le_of_ble_eq_true rfl⟩ (zs_in (by decide) mf46 (Nat.le_of_ble_eq_true rfl) ?_) (fun _ _ q => q)
                          show zGo X l 0 0 0 46 0 [(0, .ref 155)] [] w465M _
                          refine zs_aload_n (pc := 0) t46_0 rfl ?_
                          have w475 := zrg (zI w465M 155 5)
                          refine zs_get (pc := 1) t46_1 (by decide) (zk1 (w465s.k fk_zMc_155)) (zfvi rfl rfl) ?_
                          refine zs_iret (pc := 4) t46_4 mr46 rfl ?_
                          show zGo X l 5 0 0 28 78 [(6, .int (2 : Int32)), (5, .int (4 : Int32)), (4, .int (zpt M)), (3, .int (zI M 155 2)), (0, .ref 157), (1, .ref 155), (2, .ref 19)] [.int (zI w465M 155 5), .ref 155] w465M _
                          refine zs_invV (pc := 78) (k := 155) (as' := [.int (zI w465M 155 5)]) (st := []) t28_78 mf34 rfl rfl (Or.inl ⟨by decide, (zk1 (w465s.k fk_zMc_155))⟩) ⟨by decide, by decide, Nat.le_of_ble_eq_true rfl, Nat.le_of_ble_eq_true rfl⟩ (zs_in (by decide) mf34 (Nat.le_of_ble_eq_true rfl) ?_) (fun _ _ q => q)
                          show zGo X l 0 0 0 34 0 [(0, .ref 155), (1, .int (zI w465M 155 5))] [] w465M _
                          refine zs_aload_n (pc := 0) t34_0 rfl ?_
                          refine zs_iload_n (pc := 1) t34_1 rfl ?_
                          have w476 : zIv cLo cHi (zsI w465M 155 3 (zI w465M 155 5)) := zIv.put w465I (show (-2147483648) ≤ (zI w465M 155 5).toInt ∧ (zI w465M 155 5).toInt ≤ 2147483647 from zrg (zI w465M 155 5))
                          refine zs_putI (pc := 2) t34_2 (zk1 (w465s.k fk_zMc_155)) rfl ?_
                          refine zs_iconst (pc := 5) t34_5 (v := 0) (by decide) ?_
                          refine zs_iret (pc := 6) t34_6 mr34 (by decide) ?_
                          show zGo X l 5 0 0 28 81 [(6, .int (2 : Int32)), (5, .int (4 : Int32)), (4, .int (zpt M)), (3, .int (zI M 155 2)), (0, .ref 157), (1, .ref 155), (2, .ref 19)] [.int (0 : Int32)] (zsI w465M 155 3 (zI w465M 155 5)) _
                          have w477 := zrg (zI w465M 155 2)
                          have w478 : (zI (zsI w465M 155 3 (zI w465M 155 5)) 155 2).toInt = (zI w465M 155 2).toInt := (congrArg Int32.toInt ((zIoj (by decide)).trans rfl)).trans rfl
                          exact zs_iret (pc := 81) t28_81 mr28 (by decide) (hQ _ _ w465s w476 ((((((((((zFr.refl).put rfl).trans (w403F.mono rfl)).put rfl).put rfl).trans (w434F.mono rfl)).put rfl).put rfl).trans (w465F.mono rfl)).put rfl) (fun p hp => by obtain rfl : w11n = p := (by omega); exact Or.inl ⟨by decide, (((pIt.s (by omega)).trans (pB.y (pRd.y w404e (by omega) (by omega) (by omega)))).trans (pB.y (pRd.y w435e (by omega) (by omega) (by omega)))).trans (pB.f (pRd.n w466e (by omega)))⟩) (by decide) (by decide))
                        · refine zs_icmp_ltF (pc := 2) t39_2 rfl rfl (by omega) ?_
                          refine zs_iload_n (pc := 5) t39_5 rfl ?_
                          refine zs_iload_n (pc := 6) t39_6 rfl ?_
                          by_cases w479 : (zI M 3 2).toInt < (zI w465M 155 4).toInt
                          · refine zs_icmp_gtT (pc := 7) t39_7 rfl rfl (by omega) ?_
                            refine zs_iconst (pc := 14) t39_14 (v := 0) (by decide) ?_
                            refine zs_iret (pc := 15) t39_15 mr39 (by decide) ?_
                            show zGo X l 1 0 0 44 24 [(0, .int (2 : Int32)), (1, .int (zI w465M 155 4))] [.int (0 : Int32)] w465M _
                            refine zs_if_eqT (pc := 24) t44_24 li0 (by decide) ?_
                            refine zs_iconst (pc := 31) t44_31 (v := 0) (by decide) ?_
                            refine zs_iret (pc := 32) t44_32 mr44 (by decide) ?_
                            show zGo X l 2 0 0 38 133 [(0, .ref 157), (1, .int (zpt M)), (2, .int (2 : Int32)), (3, .int (zI w465M 155 4)), (4, .ref 19)] [.int (0 : Int32)] w465M _
                            refine zs_iret (pc := 133) t38_133 mr38 (by decide) ?_
                            show zGo X l 5 0 0 28 70 [(6, .int (2 : Int32)), (5, .int (4 : Int32)), (4, .int (zpt M)), (3, .int (zI M 155 2)), (0, .ref 157), (1, .ref 155), (2, .ref 19)] [.int (0 : Int32)] w465M _
                            refine zs_if_neF (pc := 70) t28_70 li0 (by decide) ?_
                            refine zs_aload_n (pc := 73) t28_73 rfl ?_
                            refine zs_aload_n (pc := 74) t28_74 rfl ?_
                            refine zs_invV (pc := 75) (k := 155) (as' := []) (st := [.ref 155]) t28_75 mf46 rfl rfl (Or.inl ⟨by decide, (zk1 (w465s.k fk_zMc_155))⟩) ⟨by decide, by decide, Nat.le_of_ble_eq_true rfl, Nat.le_of_ble_eq_true rfl⟩ (zs_in (by decide) mf46 (Nat.le_of_ble_eq_true rfl) ?_) (fun _ _ q => q)
                            show zGo X l 0 0 0 46 0 [(0, .ref 155)] [] w465M _
                            refine zs_aload_n (pc := 0) t46_0 rfl ?_
                            have w480 := zrg (zI w465M 155 5)
                            refine zs_get (pc := 1) t46_1 (by decide) (zk1 (w465s.k fk_zMc_155)) (zfvi rfl rfl) ?_
                            refine zs_iret (pc := 4) t46_4 mr46 rfl ?_
                            show zGo X l 5 0 0 28 78 [(6, .int (2 : Int32)), (5, .int (4 : Int32)), (4, .int (zpt M)), (3, .int (zI M 155 2)), (0, .ref 157), (1, .ref 155), (2, .ref 19)] [.int (zI w465M 155 5), .ref 155] w465M _
                            refine zs_invV (pc := 78) (k := 155) (as' := [.int (zI w465M 155 5)]) (st := []) t28_78 mf34 rfl rfl (Or.inl ⟨by decide, (zk1 (w465s.k fk_zMc_155))⟩) ⟨by decide, by decide, Nat.le_of_ble_eq_true rfl, Nat.le_of_ble_eq_true rfl⟩ (zs_in (by decide) mf34 (Nat.le_of_ble_eq_true rfl) ?_) (fun _ _ q => q)
                            show zGo X l 0 0 0 34 0 [(0, .ref 155), (1, .int (zI w465M 155 5))] [] w465M _
                            refine zs_aload_n (pc := 0) t34_0 rfl ?_
                            refine zs_iload_n (pc := 1) t34_1 rfl ?_
                            have w481 : zIv cLo cHi (zsI w465M 155 3 (zI w465M 155 5)) := zIv.put w465I (show (-2147483648) ≤ (zI w465M 155 5).toInt ∧ (zI w465M 155 5).toInt ≤ 2147483647 from zrg (zI w465M 155 5))
                            refine zs_putI (pc := 2) t34_2 (zk1 (w465s.k fk_zMc_155)) rfl ?_
                            refine zs_iconst (pc := 5) t34_5 (v := 0) (by decide) ?_
                            refine zs_iret (pc := 6) t34_6 mr34 (by decide) ?_
                            show zGo X l 5 0 0 28 81 [(6, .int (2 : Int32)), (5, .int (4 : Int32)), (4, .int (zpt M)), (3, .int (zI M 155 2)), (0, .ref 157), (1, .ref 155), (2, .ref 19)] [.int (0 : Int32)] (zsI w465M 155 3 (zI w465M 155 5)) _
                            have w482 := zrg (zI w465M 155 2)
                            have w483 : (zI (zsI w465M 155 3 (zI w465M 155 5)) 155 2).toInt = (zI w465M 155 2).toInt := (congrArg Int32.toInt ((zIoj (by decide)).trans rfl)).trans rfl
                            exact zs_iret (pc := 81) t28_81 mr28 (by decide) (hQ _ _ w465s w481 ((((((((((zFr.refl).put rfl).trans (w403F.mono rfl)).put rfl).put rfl).trans (w434F.mono rfl)).put rfl).put rfl).trans (w465F.mono rfl)).put rfl) (fun p hp => by obtain rfl : w11n = p := (by omega); exact Or.inl ⟨by decide, (((pIt.s (by omega)).trans (pB.y (pRd.y w404e (by omega) (by omega) (by omega)))).trans (pB.y (pRd.y w435e (by omega) (by omega) (by omega)))).trans (pB.f (pRd.n w466e (by omega)))⟩) (by decide) (by decide))
                          · refine zs_icmp_gtF (pc := 7) t39_7 rfl rfl (by omega) ?_
                            refine zs_iconst (pc := 10) t39_10 (v := 1) (by decide) ?_
                            refine zs_goto (pc := 11) t39_11 ?_
                            refine zs_iret (pc := 15) t39_15 mr39 (by decide) ?_
                            show zGo X l 1 0 0 44 24 [(0, .int (2 : Int32)), (1, .int (zI w465M 155 4))] [.int (1 : Int32)] w465M _
                            refine zs_if_eqF (pc := 24) t44_24 li1 (by decide) ?_
                            refine zs_iconst (pc := 27) t44_27 (v := 1) (by decide) ?_
                            refine zs_goto (pc := 28) t44_28 ?_
                            refine zs_iret (pc := 32) t44_32 mr44 (by decide) ?_
                            show zGo X l 2 0 0 38 133 [(0, .ref 157), (1, .int (zpt M)), (2, .int (2 : Int32)), (3, .int (zI w465M 155 4)), (4, .ref 19)] [.int (1 : Int32)] w465M _
                            refine zs_iret (pc := 133) t38_133 mr38 (by decide) ?_
                            show zGo X l 5 0 0 28 70 [(6, .int (2 : Int32)), (5, .int (4 : Int32)), (4, .int (zpt M)), (3, .int (zI M 155 2)), (0, .ref 157), (1, .ref 155), (2, .ref 19)] [.int (1 : Int32)] w465M _
                            refine zs_if_neT (pc := 70) t28_70 li1 (by decide) ?_
                            refine zs_aload_n (pc := 82) t28_82 rfl ?_
                            refine zs_get (pc := 83) t28_83 (by decide) (zk1 (w465s.k fk_zMc_157)) (w465s.p rfl fv_zMc_157_0) ?_
                            refine zs_iload (pc := 86) t28_86 rfl ?_
                            refine zs_aload_n (pc := 88) t28_88 rfl ?_
                            refine zs_invV (pc := 89) (k := 155) (as' := []) (st := [.int (2 : Int32), .ref 158]) t28_89 mf37 rfl rfl (Or.inl ⟨by decide, (zk1 (w465s.k fk_zMc_155))⟩) ⟨by decide, by decide, Nat.le_of_ble_eq_true rfl, Nat.le_of_ble_eq_true rfl⟩ (zs_in (by decide) mf37 (Nat.le_of_ble_eq_true rfl) ?_) (fun _ _ q => q)
                            show zGo X l 0 0 0 37 0 [(0, .ref 155)] [] w465M _
                            refine zs_aload_n (pc := 0) t37_0 rfl ?_
                            refine zs_get (pc := 1) t37_1 (by decide) (zk1 (w465s.k fk_zMc_155)) (zfvi rfl rfl) ?_
                            refine zs_iret (pc := 4) t37_4 mr37 rfl ?_
                            show zGo X l 5 0 0 28 92 [(6, .int (2 : Int32)), (5, .int (4 : Int32)), (4, .int (zpt M)), (3, .int (zI M 155 2)), (0, .ref 157), (1, .ref 155), (2, .ref 19)] [.int (zI w465M 155 4), .int (2 : Int32), .ref 158] w465M _
                            have w484 : zIv cLo cHi (zsI w465M 158 2 (zI w465M 155 4)) := zIv.put w465I (show (-300000) ≤ (zI w465M 155 4).toInt ∧ (zI w465M 155 4).toInt ≤ 300000 from ⟨by omega, by omega⟩)
                            refine zs_iast (pc := 92) t28_92 (j := 2) (by decide) (zk1 (w465s.k fk_zMc_158)) li2 (zk2 (w465s.k fk_zMc_158) (by decide)) ?_
                            refine zs_aload_n (pc := 93) t28_93 rfl ?_
                            refine zs_iload (pc := 94) t28_94 rfl ?_
                            refine zs_iconst (pc := 96) t28_96 (v := 1) (by decide) ?_
                            refine zs_iadd (pc := 97) t28_97 (c := 3) (by decide) ?_
                            refine zs_iload (pc := 98) t28_98 rfl ?_
                            refine zs_icmp_geF (pc := 100) t28_100 li3 li4 (by decide) ?_
                            refine zs_bipush (pc := 103) t28_103 (v := 44) (by decide) ?_
                            refine zs_goto (pc := 105) t28_105 ?_
                            refine zs_invV (pc := 110) (k := 155) (as' := [.int (44 : Int32)]) (st := []) t28_110 mf47 rfl rfl (Or.inl ⟨by decide, (zk1 (w465s.k fk_zMc_155))⟩) ⟨by decide, by decide, Nat.le_of_ble_eq_true rfl, Nat.le_of_ble_eq_true rfl⟩ (zs_in (by decide) mf47 (Nat.le_of_ble_eq_true rfl) ?_) (fun _ _ q => q)
                            show zGo X l 1 0 0 47 0 [(0, .ref 155), (1, .int (44 : Int32))] [] (zsI w465M 158 2 (zI w465M 155 4)) _
                            refine zs_aload_n (pc := 0) t47_0 rfl ?_
                            refine zs_invV (pc := 1) (k := 155) (as' := []) (st := []) t47_1 mf31 rfl rfl (Or.inl ⟨by decide, (zk1 (w465s.k fk_zMc_155))⟩) ⟨by decide, by decide, Nat.le_of_ble_eq_true rfl, Nat.le_of_ble_eq_true rfl⟩ (P31 w465s w484 ?_) (fun _ _ q => q)
                            have w486 := zrg (zI w465M 155 2)
                            have w487 : (zI (zsI w465M 158 2 (zI w465M 155 4)) 155 2).toInt = (zI w465M 155 2).toInt := (congrArg Int32.toInt ((zIo (by decide)).trans rfl)).trans rfl
                            have w488 : (zI (zsI w465M 158 2 (zI w465M 155 4)) 155 1).toInt = (zI M 155 1).toInt := (congrArg Int32.toInt ((zIo (by decide)).trans ((w465F 155 1 rfl).trans ((zIoj (by decide)).trans ((zIo (by decide)).trans ((w434F 155 1 rfl).trans ((zIoj (by decide)).trans ((zIo (by decide)).trans ((w403F 155 1 rfl).trans ((zIoj (by decide)).trans rfl)))))))))).trans rfl
                            have w485 : (zpt (zsI w465M 158 2 (zI w465M 155 4))).toInt = g w466E := zpt.tr (zTa.fr x1 (zEq.tr (zEq.tr (zEq.tr (zEq.tr (zEq.tr (zEq.tr (zEq.tr (zEq.tr (zEq.put rfl) (zFr.eq w403F rfl)) (zEq.put rfl)) (zEq.put rfl)) (zFr.eq w434F rfl)) (zEq.put rfl)) (zEq.put rfl)) (zFr.eq w465F rfl)) (zEq.put rfl))) (by omega)
                            have w489 := zTa.rg (M := (zsI w465M 158 2 (zI w465M 155 4))) (zTa.fr x1 (zEq.tr (zEq.tr (zEq.tr (zEq.tr (zEq.tr (zEq.tr (zEq.tr (zEq.tr (zEq.put rfl) (zFr.eq w403F rfl)) (zEq.put rfl)) (zEq.put rfl)) (zFr.eq w434F rfl)) (zEq.put rfl)) (zEq.put rfl)) (zFr.eq w465F rfl)) (zEq.put rfl))) w466E
                            show zGo X l 1 0 0 47 4 [(0, .ref 155), (1, .int (44 : Int32))] [.int (zpt (zsI w465M 158 2 (zI w465M 155 4)))] (zsI w465M 158 2 (zI w465M 155 4)) _
                            refine zs_iload_n (pc := 4) t47_4 rfl ?_
                            by_cases w490 : (g w466E) = 44
                            · refine zs_icmp_eqT (pc := 5) t47_5 w485 li44 (by omega) ?_
                              refine zs_aload_n (pc := 17) t47_17 rfl ?_
                              refine zs_dup (pc := 18) t47_18 rfl ?_
                              refine zs_get (pc := 19) t47_19 (by decide) (zk1 (w465s.k fk_zMc_155)) (zfvi rfl ((zIo (by decide)).trans rfl)) ?_
                              refine zs_iconst (pc := 22) t47_22 (v := 1) (by decide) ?_
                              obtain ⟨w491v, w491e, w491⟩ := ziadd (a := (zI w465M 155 2)) (b := (1 : Int32)) rfl li1 (by omega) (by omega)
                              refine zs_iadd (pc := 23) t47_23 (c := w491v) w491e ?_
                              have w492 : zIv cLo cHi (zsI (zsI w465M 158 2 (zI w465M 155 4)) 155 2 w491v) := zIv.put w484 (show (-2147483648) ≤ w491v.toInt ∧ w491v.toInt ≤ 2147483647 from zrg w491v)
                              refine zs_putI (pc := 24) t47_24 (zk1 (w465s.k fk_zMc_155)) rfl ?_
                              refine zs_iconst (pc := 27) t47_27 (v := 1) (by decide) ?_
                              refine zs_iret (pc := 28) t47_28 mr47 (by decide) ?_
                              show zGo X l 5 0 0 28 113 [(6, .int (2 : Int32)), (5, .int (4 : Int32)), (4, .int (zpt M)), (3, .int (zI M 155 2)), (0, .ref 157), (1, .ref 155), (2, .ref 19)] [.int (1 : Int32)] (zsI (zsI w465M 158 2 (zI w465M 155 4)) 155 2 w491v) _
                              refine zs_if_neT (pc := 113) t28_113 li1 (by decide) ?_
                              refine zs_iinc (pc := 118) t28_118 (ls' := [(6, .int (3 : Int32)), (5, .int (4 : Int32)), (4, .int (zpt M)), (3, .int (zI M 155 2)), (0, .ref 157), (1, .ref 155), (2, .ref 19)]) (zml mf28 (by decide)) rfl (c := 3) (by decide) rfl ?_
                              refine zs_goto (pc := 121) t28_121 ?_
                              refine zs_iload (pc := 41) t28_41 rfl ?_
                              refine zs_iload (pc := 43) t28_43 rfl ?_
                              refine zs_icmp_geF (pc := 45) t28_45 li3 li4 (by decide) ?_
                              refine zs_aload_n (pc := 48) t28_48 rfl ?_
                              have w493 : (zI (zsI (zsI w465M 158 2 (zI w465M 155 4)) 155 2 w491v) 155 2).toInt = ((zI w465M 155 2).toInt + 1) := (congrArg Int32.toInt zIs).trans w491
                              have w494 : (zI (zsI (zsI w465M 158 2 (zI w465M 155 4)) 155 2 w491v) 155 2).toInt = ((zI w465M 155 2).toInt + 1) := (congrArg Int32.toInt zIs).trans w491
                              have w495 : (zI (zsI (zsI w465M 158 2 (zI w465M 155 4)) 155 2 w491v) 155 1).toInt = (zI M 155 1).toInt := (congrArg Int32.toInt ((zIoj (by decide)).trans ((zIo (by decide)).trans ((w465F 155 1 rfl).trans ((zIoj (by decide)).trans ((zIo (by decide)).trans ((w434F 155 1 rfl).trans ((zIoj (by decide)).trans ((zIo (by decide)).trans ((w403F 155 1 rfl).trans ((zIoj (by decide)).trans rfl))))))))))).trans rfl
                              refine zs_invV (pc := 49) (k := 155) (as' := []) (st := []) t28_49 mf35 rfl rfl (Or.inl ⟨by decide, (zk1 (w465s.k fk_zMc_155))⟩) ⟨by decide, by decide, Nat.le_of_ble_eq_true rfl, Nat.le_of_ble_eq_true rfl⟩ (X35_155 w465s w492 (by omega) (by omega) (zTa.fr x1 (zEq.tr (zEq.tr (zEq.tr (zEq.tr (zEq.tr (zEq.tr (zEq.tr (zEq.tr (zEq.tr (zEq.put rfl) (zFr.eq w403F rfl)) (zEq.put rfl)) (zEq.put rfl)) (zFr.eq w434F rfl)) (zEq.put rfl)) (zEq.put rfl)) (zFr.eq w465F rfl)) (zEq.put rfl)) (zEq.put rfl))) ?_) (fun _ _ q => q)
                              intro w496M w496v w496s w496I w496F w496x0 w496a w496b
                              show zGo X l 5 0 0 28 52 [(6, .int (3 : Int32)), (5, .int (4 : Int32)), (4, .int (zpt M)), (3, .int (zI M 155 2)), (0, .ref 157), (1, .ref 155), (2, .ref 19)] [.int w496v] w496M _
                              rcases w496x0 (w466E + 1) (by omega) with ⟨w497v, w497e⟩ | ⟨w497v, w497E, w497x, w497e, w497_3, w497_4, w497_5, w497_6, w497_7, w497_8⟩
                              · skip
                                refine zs_if_neF (pc := 52) t28_52 rfl (by omega) ?_
                                refine zs_iconst (pc := 55) t28_55 (v := 0) (by decide) ?_
                                have w498 := zrg (zI w496M 155 2)
                                have w499 : (zI w496M 155 2).toInt = (zI w496M 155 2).toInt := (congrArg Int32.toInt rfl).trans rfl
                                exact zs_iret (pc := 56) t28_56 mr28 (by decide) (hQ _ _ w496s w496I ((((((((((((zFr.refl).put rfl).trans (w403F.mono rfl)).put rfl).put rfl).trans (w434F.mono rfl)).put rfl).put rfl).trans (w465F.mono rfl)).put rfl).put rfl).trans (w496F.mono rfl)) (fun p hp => by obtain rfl : w11n = p := (by omega); exact Or.inl ⟨by decide, ((((pIt.s (by omega)).trans (pB.y (pRd.y w404e (by omega) (by omega) (by omega)))).trans (pB.y (pRd.y w435e (by omega) (by omega) (by omega)))).trans (pB.y (pRd.y w466e (by omega) (by omega) (by omega)))).trans (pB.f (pRd.f w497e))⟩) (by decide) (by decide))
                              · skip
                                subst w497_4
                                refine zs_if_neT (pc := 52) t28_52 rfl (by omega) ?_
                                refine zs_aload_n (pc := 57) t28_57 rfl ?_
                                refine zs_iload (pc := 58) t28_58 rfl ?_
                                refine zs_iload (pc := 60) t28_60 rfl ?_
                                refine zs_aload_n (pc := 62) t28_62 rfl ?_
                                refine zs_invV (pc := 63) (k := 155) (as' := []) (st := [.int (3 : Int32), .int (zpt M), .ref 157]) t28_63 mf37 rfl rfl (Or.inl ⟨by decide, (zk1 (w496s.k fk_zMc_155))⟩) ⟨by decide, by decide, Nat.le_of_ble_eq_true rfl, Nat.le_of_ble_eq_true rfl⟩ (zs_in (by decide) mf37 (Nat.le_of_ble_eq_true rfl) ?_) (fun _ _ q => q)
                                show zGo X l 0 0 0 37 0 [(0, .ref 155)] [] w496M _
                                refine zs_aload_n (pc := 0) t37_0 rfl ?_
                                have w500 := ib155_4 w496I
                                refine zs_get (pc := 1) t37_1 (by decide) (zk1 (w496s.k fk_zMc_155)) (zfvi rfl rfl) ?_
                                refine zs_iret (pc := 4) t37_4 mr37 rfl ?_
                                show zGo X l 5 0 0 28 66 [(6, .int (3 : Int32)), (5, .int (4 : Int32)), (4, .int (zpt M)), (3, .int (zI M 155 2)), (0, .ref 157), (1, .ref 155), (2, .ref 19)] [.int (zI w496M 155 4), .int (3 : Int32), .int (zpt M), .ref 157] w496M _
                                refine zs_aload_n (pc := 66) t28_66 rfl ?_
                                refine zs_invV (pc := 67) (k := 157) (as' := [.int (zpt M), .int (3 : Int32), .int (zI w496M 155 4), .ref 19]) (st := []) t28_67 mf38 rfl rfl (Or.inl ⟨by decide, (zk1 (w496s.k fk_zMc_157))⟩) ⟨by decide, by decide, Nat.le_of_ble_eq_true rfl, Nat.le_of_ble_eq_true rfl⟩ (zs_in (by decide) mf38 (Nat.le_of_ble_eq_true rfl) ?_) (fun _ _ q => q)
                                show zGo X l 2 0 0 38 0 [(0, .ref 157), (1, .int (zpt M)), (2, .int (3 : Int32)), (3, .int (zI w496M 155 4)), (4, .ref 19)] [] w496M _
                                refine zs_iload_n (pc := 0) t38_0 rfl ?_
                                refine zs_lsw (pc := 1) t38_1 (off := 122) w12 (by unfold zlsel; repeat (first | rfl | (rw [if_neg (by omega)]; unfold zlsel))) (pc2 := 123) rfl ?_
                                refine zs_iload_n (pc := 123) t38_123 rfl ?_
                                refine zs_invS (pc := 124) (as := [.int (zpt M)]) (st := []) t38_124 (by decide) mf45 rfl rfl ⟨by decide, by decide, Nat.le_of_ble_eq_true rfl, Nat.le_of_ble_eq_true rfl⟩ (zs_in (by decide) mf45 (Nat.le_of_ble_eq_true rfl) ?_) (fun _ _ q => q)
                                show zGo X l 0 0 0 45 0 [(0, .int (zpt M))] [] w496M _
                                refine zs_iload_n (pc := 0) t45_0 rfl ?_
                                refine zs_lsw (pc := 1) t45_1 (off := 43) ((w12 : (zpt M).toInt = (g w11n)).trans (by omega)) rfl (pc2 := 44) rfl ?_
                                refine zs_iconst (pc := 44) t45_44 (v := 0) (by decide) ?_
                                refine zs_iret (pc := 45) t45_45 mr45 (by decide) ?_
                                show zGo X l 2 0 0 38 127 [(0, .ref 157), (1, .int (zpt M)), (2, .int (3 : Int32)), (3, .int (zI w496M 155 4)), (4, .ref 19)] [.int (0 : Int32)] w496M _
                                refine zs_iload_n (pc := 127) t38_127 rfl ?_
                                refine zs_iadd (pc := 128) t38_128 (c := 3) (by decide) ?_
                                refine zs_iload_n (pc := 129) t38_129 rfl ?_
                                refine zs_invS (pc := 130) (as := [.int (3 : Int32), .int (zI w496M 155 4)]) (st := []) t38_130 (by decide) mf44 rfl rfl ⟨by decide, by decide, Nat.le_of_ble_eq_true rfl, Nat.le_of_ble_eq_true rfl⟩ (zs_in (by decide) mf44 (Nat.le_of_ble_eq_true rfl) ?_) (fun _ _ q => q)
                                show zGo X l 1 0 0 44 0 [(0, .int (3 : Int32)), (1, .int (zI w496M 155 4))] [] w496M _
                                refine zs_iload_n (pc := 0) t44_0 rfl ?_
                                refine zs_if_ltF (pc := 1) t44_1 li3 (by decide) ?_
                                refine zs_iload_n (pc := 4) t44_4 rfl ?_
                                refine zs_bipush (pc := 5) t44_5 (v := 9) (by decide) ?_
                                refine zs_icmp_geF (pc := 7) t44_7 li3 li9 (by decide) ?_
                                refine zs_iload_n (pc := 10) t44_10 rfl ?_
                                refine zs_getstatic (pc := 11) t44_11 (v := .ref 2) rfl ?_
                                refine zs_iload_n (pc := 14) t44_14 rfl ?_
                                have w501 := zrg (zI M 2 3)
                                have w502 : (zI M 2 3).toInt = 2 := by rw [x6 2 3 (by decide)]; decide
                                refine zs_iald (pc := 15) t44_15 (j := 3) (by decide) (zk1 (w496s.k fk_zMc_2)) li3 (zk2 (w496s.k fk_zMc_2) (by decide)) ((w496F 2 3 rfl).trans ((zIo (by decide)).trans ((zIo (by decide)).trans ((w465F 2 3 rfl).trans ((zIo (by decide)).trans ((zIo (by decide)).trans ((w434F 2 3 rfl).trans ((zIo (by decide)).trans ((zIo (by decide)).trans ((w403F 2 3 rfl).trans ((zIo (by decide)).trans rfl))))))))))) ?_
                                refine zs_getstatic (pc := 16) t44_16 (v := .ref 3) rfl ?_
                                refine zs_iload_n (pc := 19) t44_19 rfl ?_
                                have w503 := zrg (zI M 3 3)
                                have w504 : (zI M 3 3).toInt = 8 := by rw [x6 3 3 (by decide)]; decide
                                refine zs_iald (pc := 20) t44_20 (j := 3) (by decide) (zk1 (w496s.k fk_zMc_3)) li3 (zk2 (w496s.k fk_zMc_3) (by decide)) ((w496F 3 3 rfl).trans ((zIo (by decide)).trans ((zIo (by decide)).trans ((w465F 3 3 rfl).trans ((zIo (by decide)).trans ((zIo (by decide)).trans ((w434F 3 3 rfl).trans ((zIo (by decide)).trans ((zIo (by decide)).trans ((w403F 3 3 rfl).trans ((zIo (by decide)).trans rfl))))))))))) ?_
                                refine zs_invS (pc := 21) (as := [.int (zI w496M 155 4), .int (zI M 2 3), .int (zI M 3 3)]) (st := []) t44_21 (by decide) mf39 rfl rfl ⟨by decide, by decide, Nat.le_of_ble_eq_true rfl, Nat.le_of_ble_eq_true rfl⟩ (zs_in (by decide) mf39 (Nat.le_of_ble_eq_true rfl) ?_) (fun _ _ q => q)
                                show zGo X l 0 0 0 39 0 [(0, .int (zI w496M 155 4)), (1, .int (zI M 2 3)), (2, .int (zI M 3 3))] [] w496M _
                                refine zs_iload_n (pc := 0) t39_0 rfl ?_
                                refine zs_iload_n (pc := 1) t39_1 rfl ?_
                                by_cases w505 : (zI w496M 155 4).toInt < (zI M 2 3).toInt
                                · refine zs_icmp_ltT (pc := 2) t39_2 rfl rfl (by omega) ?_
                                  refine zs_iconst (pc := 14) t39_14 (v := 0) (by decide) ?_
                                  refine zs_iret (pc := 15) t39_15 mr39 (by decide) ?_
                                  show zGo X l 1 0 0 44 24 [(0, .int (3 : Int32)), (1, .int (zI w496M 155 4))] [.int (0 : Int32)] w496M _
                                  refine zs_if_eqT (pc := 24) t44_24 li0 (by decide) ?_
                                  refine zs_iconst (pc := 31) t44_31 (v := 0) (by decide) ?_
                                  refine zs_iret (pc := 32) t44_32 mr44 (by decide) ?_
                                  show zGo X l 2 0 0 38 133 [(0, .ref 157), (1, .int (zpt M)), (2, .int (3 : Int32)), (3, .int (zI w496M 155 4)), (4, .ref 19)] [.int (0 : Int32)] w496M _
                                  refine zs_iret (pc := 133) t38_133 mr38 (by decide) ?_
                                  show zGo X l 5 0 0 28 70 [(6, .int (3 : Int32)), (5, .int (4 : Int32)), (4, .int (zpt M)), (3, .int (zI M 155 2)), (0, .ref 157), (1, .ref 155), (2, .ref 19)] [.int (0 : Int32)] w496M _
                                  refine zs_if_neF (pc := 70) t28_70 li0 (by decide) ?_
                                  refine zs_aload_n (pc := 73) t28_73 rfl ?_
                                  refine zs_aload_n (pc := 74) t28_74 rfl ?_
                                  refine zs_invV (pc := 75) (k := 155) (as' := []) (st := [.ref 155]) t28_75 mf46 rfl rfl (Or.inl ⟨by decide, (zk1 (w496s.k fk_zMc_155))⟩) ⟨by decide, by decide, Nat.le_of_ble_eq_true rfl, Nat.le_of_ble_eq_true rfl⟩ (zs_in (by decide) mf46 (Nat.le_of_ble_eq_true rfl) ?_) (fun _ _ q => q)
                                  show zGo X l 0 0 0 46 0 [(0, .ref 155)] [] w496M _
                                  refine zs_aload_n (pc := 0) t46_0 rfl ?_
                                  have w506 := zrg (zI w496M 155 5)
                                  refine zs_get (pc := 1) t46_1 (by decide) (zk1 (w496s.k fk_zMc_155)) (zfvi rfl rfl) ?_
                                  refine zs_iret (pc := 4) t46_4 mr46 rfl ?_
                                  show zGo X l 5 0 0 28 78 [(6, .int (3 : Int32)), (5, .int (4 : Int32)), (4, .int (zpt M)), (3, .int (zI M 155 2)), (0, .ref 157), (1, .ref 155), (2, .ref 19)] [.int (zI w496M 155 5), .ref 155] w496M _
                                  refine zs_invV (pc := 78) (k := 155) (as' := [.int (zI w496M 155 5)]) (st := []) t28_78 mf34 rfl rfl (Or.inl ⟨by decide, (zk1 (w496s.k fk_zMc_155))⟩) ⟨by decide, by decide, Nat.le_of_ble_eq_true rfl, Nat.le_of_ble_eq_true rfl⟩ (zs_in (by decide) mf34 (Nat.le_of_ble_eq_true rfl) ?_) (fun _ _ q => q)
                                  show zGo X l 0 0 0 34 0 [(0, .ref 155), (1, .int (zI w496M 155 5))] [] w496M _
                                  refine zs_aload_n (pc := 0) t34_0 rfl ?_
                                  refine zs_iload_n (pc := 1) t34_1 rfl ?_
                                  have w507 : zIv cLo cHi (zsI w496M 155 3 (zI w496M 155 5)) := zIv.put w496I (show (-2147483648) ≤ (zI w496M 155 5).toInt ∧ (zI w496M 155 5).toInt ≤ 2147483647 from zrg (zI w496M 155 5))
                                  refine zs_putI (pc := 2) t34_2 (zk1 (w496s.k fk_zMc_155)) rfl ?_
                                  refine zs_iconst (pc := 5) t34_5 (v := 0) (by decide) ?_
                                  refine zs_iret (pc := 6) t34_6 mr34 (by decide) ?_
                                  show zGo X l 5 0 0 28 81 [(6, .int (3 : Int32)), (5, .int (4 : Int32)), (4, .int (zpt M)), (3, .int (zI M 155 2)), (0, .ref 157), (1, .ref 155), (2, .ref 19)] [.int (0 : Int32)] (zsI w496M 155 3 (zI w496M 155 5)) _
                                  have w508 := zrg (zI w496M 155 2)
                                  have w509 : (zI (zsI w496M 155 3 (zI w496M 155 5)) 155 2).toInt = (zI w496M 155 2).toInt := (congrArg Int32.toInt ((zIoj (by decide)).trans rfl)).trans rfl
                                  exact zs_iret (pc := 81) t28_81 mr28 (by decide) (hQ _ _ w496s w507 (((((((((((((zFr.refl).put rfl).trans (w403F.mono rfl)).put rfl).put rfl).trans (w434F.mono rfl)).put rfl).put rfl).trans (w465F.mono rfl)).put rfl).put rfl).trans (w496F.mono rfl)).put rfl) (fun p hp => by obtain rfl : w11n = p := (by omega); exact Or.inl ⟨by decide, ((((pIt.s (by omega)).trans (pB.y (pRd.y w404e (by omega) (by omega) (by omega)))).trans (pB.y (pRd.y w435e (by omega) (by omega) (by omega)))).trans (pB.y (pRd.y w466e (by omega) (by omega) (by omega)))).trans (pB.f (pRd.n w497e (by omega)))⟩) (by decide) (by decide))
                                · refine zs_icmp_ltF (pc := 2) t39_2 rfl rfl (by omega) ?_
                                  refine zs_iload_n (pc := 5) t39_5 rfl ?_
                                  refine zs_iload_n (pc := 6) t39_6 rfl ?_
                                  by_cases w510 : (zI M 3 3).toInt < (zI w496M 155 4).toInt
                                  · refine zs_icmp_gtT (pc := 7) t39_7 rfl rfl (by omega) ?_
                                    refine zs_iconst (pc := 14) t39_14 (v := 0) (by decide) ?_
                                    refine zs_iret (pc := 15) t39_15 mr39 (by decide) ?_
                                    show zGo X l 1 0 0 44 24 [(0, .int (3 : Int32)), (1, .int (zI w496M 155 4))] [.int (0 : Int32)] w496M _
                                    refine zs_if_eqT (pc := 24) t44_24 li0 (by decide) ?_
                                    refine zs_iconst (pc := 31) t44_31 (v := 0) (by decide) ?_
                                    refine zs_iret (pc := 32) t44_32 mr44 (by decide) ?_
                                    show zGo X l 2 0 0 38 133 [(0, .ref 157), (1, .int (zpt M)), (2, .int (3 : Int32)), (3, .int (zI w496M 155 4)), (4, .ref 19)] [.int (0 : Int32)] w496M _
                                    refine zs_iret (pc := 133) t38_133 mr38 (by decide) ?_
                                    show zGo X l 5 0 0 28 70 [(6, .int (3 : Int32)), (5, .int (4 : Int32)), (4, .int (zpt M)), (3, .int (zI M 155 2)), (0, .ref 157), (1, .ref 155), (2, .ref 19)] [.int (0 : Int32)] w496M _
                                    refine zs_if_neF (pc := 70) t28_70 li0 (by decide) ?_
                                    refine zs_aload_n (pc := 73) t28_73 rfl ?_
                                    refine zs_aload_n (pc := 74) t28_74 rfl ?_
                                    refine zs_invV (pc := 75) (k := 155) (as' := []) (st := [.ref 155]) t28_75 mf46 rfl rfl (Or.inl ⟨by decide, (zk1 (w496s.k fk_zMc_155))⟩) ⟨by decide, by decide, Nat.le_of_ble_eq_true rfl, Nat.le_of_ble_eq_true rfl⟩ (zs_in (by decide) mf46 (Nat.le_of_ble_eq_true rfl) ?_) (fun _ _ q => q)
                                    show zGo X l 0 0 0 46 0 [(0, .ref 155)] [] w496M _
                                    refine zs_aload_n (pc := 0) t46_0 rfl ?_
                                    have w511 := zrg (zI w496M 155 5)
                                    refine zs_get (pc := 1) t46_1 (by decide) (zk1 (w496s.k fk_zMc_155)) (zfvi rfl rfl) ?_
                                    refine zs_iret (pc := 4) t46_4 mr46 rfl ?_
                                    show zGo X l 5 0 0 28 78 [(6, .int (3 : Int32)), (5, .int (4 : Int32)), (4, .int (zpt M)), (3, .int (zI M 155 2)), (0, .ref 157), (1, .ref 155), (2, .ref 19)] [.int (zI w496M 155 5), .ref 155] w496M _
                                    refine zs_invV (pc := 78) (k := 155) (as' := [.int (zI w496M 155 5)]) (st := []) t28_78 mf34 rfl rfl (Or.inl ⟨by decide, (zk1 (w496s.k fk_zMc_155))⟩) ⟨by decide, by decide, Nat.le_of_ble_eq_true rfl, Nat.le_of_ble_eq_true rfl⟩ (zs_in (by decide) mf34 (Nat.le_of_ble_eq_true rfl) ?_) (fun _ _ q => q)
                                    show zGo X l 0 0 0 34 0 [(0, .ref 155), (1, .int (zI w496M 155 5))] [] w496M _
                                    refine zs_aload_n (pc := 0) t34_0 rfl ?_
                                    refine zs_iload_n (pc := 1) t34_1 rfl ?_
                                    have w512 : zIv cLo cHi (zsI w496M 155 3 (zI w496M 155 5)) := zIv.put w496I (show (-2147483648) ≤ (zI w496M 155 5).toInt ∧ (zI w496M 155 5).toInt ≤ 2147483647 from zrg (zI w496M 155 5))
                                    refine zs_putI (pc := 2) t34_2 (zk1 (w496s.k fk_zMc_155)) rfl ?_
                                    refine zs_iconst (pc := 5) t34_5 (v := 0) (by decide) ?_
                                    refine zs_iret (pc := 6) t34_6 mr34 (by decide) ?_
                                    show zGo X l 5 0 0 28 81 [(6, .int (3 : Int32)), (5, .int (4 : Int32)), (4, .int (zpt M)), (3, .int (zI M 155 2)), (0, .ref 157), (1, .ref 155), (2, .ref 19)] [.int (0 : Int32)] (zsI w496M 155 3 (zI w496M 155 5)) _
                                    have w513 := zrg (zI w496M 155 2)
                                    have w514 : (zI (zsI w496M 155 3 (zI w496M 155 5)) 155 2).toInt = (zI w496M 155 2).toInt := (congrArg Int32.toInt ((zIoj (by decide)).trans rfl)).trans rfl
                                    exact zs_iret (pc := 81) t28_81 mr28 (by decide) (hQ _ _ w496s w512 (((((((((((((zFr.refl).put rfl).trans (w403F.mono rfl)).put rfl).put rfl).trans (w434F.mono rfl)).put rfl).put rfl).trans (w465F.mono rfl)).put rfl).put rfl).trans (w496F.mono rfl)).put rfl) (fun p hp => by obtain rfl : w11n = p := (by omega); exact Or.inl ⟨by decide, ((((pIt.s (by omega)).trans (pB.y (pRd.y w404e (by omega) (by omega) (by omega)))).trans (pB.y (pRd.y w435e (by omega) (by omega) (by omega)))).trans (pB.y (pRd.y w466e (by omega) (by omega) (by omega)))).trans (pB.f (pRd.n w497e (by omega)))⟩) (by decide) (by decide))
                                  · refine zs_icmp_gtF (pc := 7) t39_7 rfl rfl (by omega) ?_
                                    refine zs_iconst (pc := 10) t39_10 (v := 1) (by decide) ?_
                                    refine zs_goto (pc := 11) t39_11 ?_
                                    refine zs_iret (pc := 15) t39_15 mr39 (by decide) ?_
                                    show zGo X l 1 0 0 44 24 [(0, .int (3 : Int32)), (1, .int (zI w496M 155 4))] [.int (1 : Int32)] w496M _
                                    refine zs_if_eqF (pc := 24) t44_24 li1 (by decide) ?_
                                    refine zs_iconst (pc := 27) t44_27 (v := 1) (by decide) ?_
                                    refine zs_goto (pc := 28) t44_28 ?_
                                    refine zs_iret (pc := 32) t44_32 mr44 (by decide) ?_
                                    show zGo X l 2 0 0 38 133 [(0, .ref 157), (1, .int (zpt M)), (2, .int (3 : Int32)), (3, .int (zI w496M 155 4)), (4, .ref 19)] [.int (1 : Int32)] w496M _
                                    refine zs_iret (pc := 133) t38_133 mr38 (by decide) ?_
                                    show zGo X l 5 0 0 28 70 [(6, .int (3 : Int32)), (5, .int (4 : Int32)), (4, .int (zpt M)), (3, .int (zI M 155 2)), (0, .ref 157), (1, .ref 155), (2, .ref 19)] [.int (1 : Int32)] w496M _
                                    refine zs_if_neT (pc := 70) t28_70 li1 (by decide) ?_
                                    refine zs_aload_n (pc := 82) t28_82 rfl ?_
                                    refine zs_get (pc := 83) t28_83 (by decide) (zk1 (w496s.k fk_zMc_157)) (w496s.p rfl fv_zMc_157_0) ?_
                                    refine zs_iload (pc := 86) t28_86 rfl ?_
                                    refine zs_aload_n (pc := 88) t28_88 rfl ?_
                                    refine zs_invV (pc := 89) (k := 155) (as' := []) (st := [.int (3 : Int32), .ref 158]) t28_89 mf37 rfl rfl (Or.inl ⟨by decide, (zk1 (w496s.k fk_zMc_155))⟩) ⟨by decide, by decide, Nat.le_of_ble_eq_true rfl, Nat.le_of_ble_eq_true rfl⟩ (zs_in (by decide) mf37 (Nat.le_of_ble_eq_true rfl) ?_) (fun _ _ q => q)
                                    show zGo X l 0 0 0 37 0 [(0, .ref 155)] [] w496M _
                                    refine zs_aload_n (pc := 0) t37_0 rfl ?_
                                    refine zs_get (pc := 1) t37_1 (by decide) (zk1 (w496s.k fk_zMc_155)) (zfvi rfl rfl) ?_
                                    refine zs_iret (pc := 4) t37_4 mr37 rfl ?_
                                    show zGo X l 5 0 0 28 92 [(6, .int (3 : Int32)), (5, .int (4 : Int32)), (4, .int (zpt M)), (3, .int (zI M 155 2)), (0, .ref 157), (1, .ref 155), (2, .ref 19)] [.int (zI w496M 155 4), .int (3 : Int32), .ref 158] w496M _
                                    have w515 : zIv cLo cHi (zsI w496M 158 3 (zI w496M 155 4)) := zIv.put w496I (show (-300000) ≤ (zI w496M 155 4).toInt ∧ (zI w496M 155 4).toInt ≤ 300000 from ⟨by omega, by omega⟩)
                                    refine zs_iast (pc := 92) t28_92 (j := 3) (by decide) (zk1 (w496s.k fk_zMc_158)) li3 (zk2 (w496s.k fk_zMc_158) (by decide)) ?_
                                    refine zs_aload_n (pc := 93) t28_93 rfl ?_
                                    refine zs_iload (pc := 94) t28_94 rfl ?_
                                    refine zs_iconst (pc := 96) t28_96 (v := 1) (by decide) ?_
                                    refine zs_iadd (pc := 97) t28_97 (c := 4) (by decide) ?_
                                    refine zs_iload (pc := 98) t28_98 rfl ?_
                                    refine zs_icmp_geT (pc := 100) t28_100 li4 li4 (by decide) ?_
                                    refine zs_bipush (pc := 108) t28_108 (v := 59) (by decide) ?_
                                    refine zs_invV (pc := 110) (k := 155) (as' := [.int (59 : Int32)]) (st := []) t28_110 mf47 rfl rfl (Or.inl ⟨by decide, (zk1 (w496s.k fk_zMc_155))⟩) ⟨by decide, by decide, Nat.le_of_ble_eq_true rfl, Nat.le_of_ble_eq_true rfl⟩ (zs_in (by decide) mf47 (Nat.le_of_ble_eq_true rfl) ?_) (fun _ _ q => q)
                                    show zGo X l 1 0 0 47 0 [(0, .ref 155), (1, .int (59 : Int32))] [] (zsI w496M 158 3 (zI w496M 155 4)) _
                                    refine zs_aload_n (pc := 0) t47_0 rfl ?_
                                    refine zs_invV (pc := 1) (k := 155) (as' := []) (st := []) t47_1 mf31 rfl rfl (Or.inl ⟨by decide, (zk1 (w496s.k fk_zMc_155))⟩) ⟨by decide, by decide, Nat.le_of_ble_eq_true rfl, Nat.le_of_ble_eq_true rfl⟩ (P31 w496s w515 ?_) (fun _ _ q => q)
                                    have w517 := zrg (zI w496M 155 2)
                                    have w518 : (zI (zsI w496M 158 3 (zI w496M 155 4)) 155 2).toInt = (zI w496M 155 2).toInt := (congrArg Int32.toInt ((zIo (by decide)).trans rfl)).trans rfl
                                    have w519 : (zI (zsI w496M 158 3 (zI w496M 155 4)) 155 1).toInt = (zI M 155 1).toInt := (congrArg Int32.toInt ((zIo (by decide)).trans ((w496F 155 1 rfl).trans ((zIoj (by decide)).trans ((zIo (by decide)).trans ((w465F 155 1 rfl).trans ((zIoj (by decide)).trans ((zIo (by decide)).trans ((w434F 155 1 rfl).trans ((zIoj (by decide)).trans ((zIo (by decide)).trans ((w403F 155 1 rfl).trans ((zIoj (by decide)).trans rfl))))))))))))).trans rfl
                                    have w516 : (zpt (zsI w496M 158 3 (zI w496M 155 4))).toInt = g w497E := zpt.tr (zTa.fr x1 (zEq.tr (zEq.tr (zEq.tr (zEq.tr (zEq.tr (zEq.tr (zEq.tr (zEq.tr (zEq.tr (zEq.tr (zEq.tr (zEq.put rfl) (zFr.eq w403F rfl)) (zEq.put rfl)) (zEq.put rfl)) (zFr.eq w434F rfl)) (zEq.put rfl)) (zEq.put rfl)) (zFr.eq w465F rfl)) (zEq.put rfl)) (zEq.put rfl)) (zFr.eq w496F rfl)) (zEq.put rfl))) (by omega)
                                    have w520 := zTa.rg (M := (zsI w496M 158 3 (zI w496M 155 4))) (zTa.fr x1 (zEq.tr (zEq.tr (zEq.tr (zEq.tr (zEq.tr (zEq.tr (zEq.tr (zEq.tr (zEq.tr (zEq.tr (zEq.tr (zEq.put rfl) (zFr.eq w403F rfl)) (zEq.put rfl)) (zEq.put rfl)) (zFr.eq w434F rfl)) (zEq.put rfl)) (zEq.put rfl)) (zFr.eq w465F rfl)) (zEq.put rfl)) (zEq.put rfl)) (zFr.eq w496F rfl)) (zEq.put rfl))) w497E
                                    show zGo X l 1 0 0 47 4 [(0, .ref 155), (1, .int (59 : Int32))] [.int (zpt (zsI w496M 158 3 (zI w496M 155 4)))] (zsI w496M 158 3 (zI w496M 155 4)) _
                                    refine zs_iload_n (pc := 4) t47_4 rfl ?_
                                    by_cases w521 : (g w497E) = 59
                                    · refine zs_icmp_eqT (pc := 5) t47_5 w516 li59 (by omega) ?_
                                      refine zs_aload_n (pc := 17) t47_17 rfl ?_
                                      refine zs_dup (pc := 18) t47_18 rfl ?_
                                      refine zs_get (pc := 19) t47_19 (by decide) (zk1 (w496s.k fk_zMc_155)) (zfvi rfl ((zIo (by decide)).trans rfl)) ?_
                                      refine zs_iconst (pc := 22) t47_22 (v := 1) (by decide) ?_
                                      obtain ⟨w522v, w522e, w522⟩ := ziadd (a := (zI w496M 155 2)) (b := (1 : Int32)) rfl li1 (by omega) (by omega)
                                      refine zs_iadd (pc := 23) t47_23 (c := w522v) w522e ?_
                                      have w523 : zIv cLo cHi (zsI (zsI w496M 158 3 (zI w496M 155 4)) 155 2 w522v) := zIv.put w515 (show (-2147483648) ≤ w522v.toInt ∧ w522v.toInt ≤ 2147483647 from zrg w522v)
                                      refine zs_putI (pc := 24) t47_24 (zk1 (w496s.k fk_zMc_155)) rfl ?_
                                      refine zs_iconst (pc := 27) t47_27 (v := 1) (by decide) ?_
                                      refine zs_iret (pc := 28) t47_28 mr47 (by decide) ?_
                                      show zGo X l 5 0 0 28 113 [(6, .int (3 : Int32)), (5, .int (4 : Int32)), (4, .int (zpt M)), (3, .int (zI M 155 2)), (0, .ref 157), (1, .ref 155), (2, .ref 19)] [.int (1 : Int32)] (zsI (zsI w496M 158 3 (zI w496M 155 4)) 155 2 w522v) _
                                      refine zs_if_neT (pc := 113) t28_113 li1 (by decide) ?_
                                      refine zs_iinc (pc := 118) t28_118 (ls' := [(6, .int (4 : Int32)), (5, .int (4 : Int32)), (4, .int (zpt M)), (3, .int (zI M 155 2)), (0, .ref 157), (1, .ref 155), (2, .ref 19)]) (zml mf28 (by decide)) rfl (c := 4) (by decide) rfl ?_
                                      refine zs_goto (pc := 121) t28_121 ?_
                                      refine zs_iload (pc := 41) t28_41 rfl ?_
                                      refine zs_iload (pc := 43) t28_43 rfl ?_
                                      refine zs_icmp_geT (pc := 45) t28_45 li4 li4 (by decide) ?_
                                      refine zs_aload_n (pc := 124) t28_124 rfl ?_
                                      refine zs_iload (pc := 125) t28_125 rfl ?_
                                      refine zs_aload_n (pc := 127) t28_127 rfl ?_
                                      refine zs_invV (pc := 128) (k := 157) (as' := [.int (zpt M), .ref 19]) (st := []) t28_128 mf48 rfl rfl (Or.inl ⟨by decide, (zk1 (w496s.k fk_zMc_157))⟩) ⟨by decide, by decide, Nat.le_of_ble_eq_true rfl, Nat.le_of_ble_eq_true rfl⟩ (zs_in (by decide) mf48 (Nat.le_of_ble_eq_true rfl) ?_) (fun _ _ q => q)
                                      show zGo X l 4 0 0 48 0 [(0, .ref 157), (1, .int (zpt M)), (2, .ref 19)] [] (zsI (zsI w496M 158 3 (zI w496M 155 4)) 155 2 w522v) _
                                      refine zs_iload_n (pc := 0) t48_0 rfl ?_
                                      refine zs_lsw (pc := 1) t48_1 (off := 103) w12 (by unfold zlsel; repeat (first | rfl | (rw [if_neg (by omega)]; unfold zlsel))) (pc2 := 104) rfl ?_
                                      refine zs_iconst (pc := 104) t48_104 (v := 0) (by decide) ?_
                                      refine zs_istore_n (pc := 105) t48_105 (ls' := [(3, .int (0 : Int32)), (0, .ref 157), (1, .int (zpt M)), (2, .ref 19)]) (zml mf48 (by decide)) rfl ?_
                                      refine zs_iload_n (pc := 106) t48_106 rfl ?_
                                      refine zs_iload_n (pc := 107) t48_107 rfl ?_
                                      refine zs_invS (pc := 108) (as := [.int (zpt M)]) (st := [.int (0 : Int32)]) t48_108 (by decide) mf32 rfl rfl ⟨by decide, by decide, Nat.le_of_ble_eq_true rfl, Nat.le_of_ble_eq_true rfl⟩ (zs_in (by decide) mf32 (Nat.le_of_ble_eq_true rfl) ?_) (fun _ _ q => q)
                                      show zGo X l 0 0 0 32 0 [(0, .int (zpt M))] [] (zsI (zsI w496M 158 3 (zI w496M 155 4)) 155 2 w522v) _
                                      refine zs_iload_n (pc := 0) t32_0 rfl ?_
                                      refine zs_tswI (pc := 1) t32_1 ((w12 : (zpt M).toInt = (g w11n)).trans (by omega)) (by decide) rfl (pc2 := 90) rfl ?_
                                      refine zs_iconst (pc := 90) t32_90 (v := 4) (by decide) ?_
                                      refine zs_iret (pc := 91) t32_91 mr32 (by decide) ?_
                                      show zGo X l 4 0 0 48 111 [(3, .int (0 : Int32)), (0, .ref 157), (1, .int (zpt M)), (2, .ref 19)] [.int (4 : Int32), .int (0 : Int32)] (zsI (zsI w496M 158 3 (zI w496M 155 4)) 155 2 w522v) _
                                      refine zs_icmp_geF (pc := 111) t48_111 li0 li4 (by decide) ?_
                                      refine zs_aload_n (pc := 114) t48_114 rfl ?_
                                      refine zs_iload_n (pc := 115) t48_115 rfl ?_
                                      refine zs_invS (pc := 116) (as := [.int (zpt M)]) (st := [.ref 19]) t48_116 (by decide) mf45 rfl rfl ⟨by decide, by decide, Nat.le_of_ble_eq_true rfl, Nat.le_of_ble_eq_true rfl⟩ (zs_in (by decide) mf45 (Nat.le_of_ble_eq_true rfl) ?_) (fun _ _ q => q)
                                      show zGo X l 0 0 0 45 0 [(0, .int (zpt M))] [] (zsI (zsI w496M 158 3 (zI w496M 155 4)) 155 2 w522v) _
                                      refine zs_iload_n (pc := 0) t45_0 rfl ?_
                                      refine zs_lsw (pc := 1) t45_1 (off := 43) ((w12 : (zpt M).toInt = (g w11n)).trans (by omega)) rfl (pc2 := 44) rfl ?_
                                      refine zs_iconst (pc := 44) t45_44 (v := 0) (by decide) ?_
                                      refine zs_iret (pc := 45) t45_45 mr45 (by decide) ?_
                                      show zGo X l 4 0 0 48 119 [(3, .int (0 : Int32)), (0, .ref 157), (1, .int (zpt M)), (2, .ref 19)] [.int (0 : Int32), .ref 19] (zsI (zsI w496M 158 3 (zI w496M 155 4)) 155 2 w522v) _
                                      refine zs_iload_n (pc := 119) t48_119 rfl ?_
                                      refine zs_iadd (pc := 120) t48_120 (c := 0) (by decide) ?_
                                      refine zs_aload_n (pc := 121) t48_121 rfl ?_
                                      refine zs_get (pc := 122) t48_122 (by decide) (zk1 (w496s.k fk_zMc_157)) (w496s.p rfl fv_zMc_157_0) ?_
                                      refine zs_iload_n (pc := 125) t48_125 rfl ?_
                                      refine zs_iald (pc := 126) t48_126 (j := 0) (by decide) (zk1 (w496s.k fk_zMc_158)) li0 (zk2 (w496s.k fk_zMc_158) (by decide)) ((zIo (by decide)).trans ((zIoj (by decide)).trans ((w496F 158 0 rfl).trans ((zIo (by decide)).trans ((zIoj (by decide)).trans ((w465F 158 0 rfl).trans ((zIo (by decide)).trans ((zIoj (by decide)).trans ((w434F 158 0 rfl).trans ((zIo (by decide)).trans zIs)))))))))) ?_
                                      refine zs_invV (pc := 127) (k := 19) (as' := [.int (0 : Int32), .int (zI w403M 155 4)]) (st := []) t48_127 mf56 rfl rfl (Or.inl ⟨by decide, (zk1 (w496s.k fk_zMc_19))⟩) ⟨by decide, by decide, Nat.le_of_ble_eq_true rfl, Nat.le_of_ble_eq_true rfl⟩ (zs_in (by decide) mf56 (Nat.le_of_ble_eq_true rfl) ?_) (fun _ _ q => q)
                                      show zGo X l 0 0 0 56 0 [(0, .ref 19), (1, .int (0 : Int32)), (2, .int (zI w403M 155 4))] [] (zsI (zsI w496M 158 3 (zI w496M 155 4)) 155 2 w522v) _
                                      refine zs_iload_n (pc := 0) t56_0 rfl ?_
                                      refine zs_if_ltF (pc := 1) t56_1 li0 (by decide) ?_
                                      refine zs_iload_n (pc := 4) t56_4 rfl ?_
                                      refine zs_bipush (pc := 5) t56_5 (v := 9) (by decide) ?_
                                      refine zs_icmp_geF (pc := 7) t56_7 li0 li9 (by decide) ?_
                                      refine zs_aload_n (pc := 10) t56_10 rfl ?_
                                      refine zs_get (pc := 11) t56_11 (by decide) (zk1 (w496s.k fk_zMc_19)) (w496s.p rfl fv_zMc_19_12) ?_
                                      refine zs_iload_n (pc := 14) t56_14 rfl ?_
                                      refine zs_iload_n (pc := 15) t56_15 rfl ?_
                                      have w524 : zIv cLo cHi (zsI (zsI (zsI w496M 158 3 (zI w496M 155 4)) 155 2 w522v) 29 0 (zI w403M 155 4)) := zIv.put w523 (show (-300000) ≤ (zI w403M 155 4).toInt ∧ (zI w403M 155 4).toInt ≤ 300000 from ⟨by omega, by omega⟩)
                                      have w525 : zSo (zsI (zsI (zsI w496M 158 3 (zI w496M 155 4)) 155 2 w522v) 29 0 (zI w403M 155 4)) 19 (uS F (5 + 0) (zI w403M 155 4).toInt) := zSo.se (zSo.fr x0 (zEq.tr (zEq.tr (zEq.tr (zEq.tr (zEq.tr (zEq.tr (zEq.tr (zEq.tr (zEq.tr (zEq.tr (zEq.tr (zEq.tr (zEq.put rfl) (zFr.eq w403F rfl)) (zEq.put rfl)) (zEq.put rfl)) (zFr.eq w434F rfl)) (zEq.put rfl)) (zEq.put rfl)) (zFr.eq w465F rfl)) (zEq.put rfl)) (zEq.put rfl)) (zFr.eq w496F rfl)) (zEq.put rfl)) (zEq.put rfl))) rfl (by decide) rfl
                                      refine zs_iast (pc := 16) t56_16 (j := 0) (by decide) (zk1 (w496s.k fk_zMc_29)) li0 (zk2 (w496s.k fk_zMc_29) (by decide)) ?_
                                      refine zs_vret (pc := 17) t56_17 mr56 ?_
                                      show zGo X l 4 0 0 48 130 [(3, .int (0 : Int32)), (0, .ref 157), (1, .int (zpt M)), (2, .ref 19)] [] (zsI (zsI (zsI w496M 158 3 (zI w496M 155 4)) 155 2 w522v) 29 0 (zI w403M 155 4)) _
                                      refine zs_iinc (pc := 130) t48_130 (ls' := [(3, .int (1 : Int32)), (0, .ref 157), (1, .int (zpt M)), (2, .ref 19)]) (zml mf48 (by decide)) rfl (c := 1) (by decide) rfl ?_
                                      refine zs_goto (pc := 133) t48_133 ?_
                                      refine zs_iload_n (pc := 106) t48_106 rfl ?_
                                      refine zs_iload_n (pc := 107) t48_107 rfl ?_
                                      refine zs_invS (pc := 108) (as := [.int (zpt M)]) (st := [.int (1 : Int32)]) t48_108 (by decide) mf32 rfl rfl ⟨by decide, by decide, Nat.le_of_ble_eq_true rfl, Nat.le_of_ble_eq_true rfl⟩ (zs_in (by decide) mf32 (Nat.le_of_ble_eq_true rfl) ?_) (fun _ _ q => q)
                                      show zGo X l 0 0 0 32 0 [(0, .int (zpt M))] [] (zsI (zsI (zsI w496M 158 3 (zI w496M 155 4)) 155 2 w522v) 29 0 (zI w403M 155 4)) _
                                      refine zs_iload_n (pc := 0) t32_0 rfl ?_
                                      refine zs_tswI (pc := 1) t32_1 ((w12 : (zpt M).toInt = (g w11n)).trans (by omega)) (by decide) rfl (pc2 := 90) rfl ?_
                                      refine zs_iconst (pc := 90) t32_90 (v := 4) (by decide) ?_
                                      refine zs_iret (pc := 91) t32_91 mr32 (by decide) ?_
                                      show zGo X l 4 0 0 48 111 [(3, .int (1 : Int32)), (0, .ref 157), (1, .int (zpt M)), (2, .ref 19)] [.int (4 : Int32), .int (1 : Int32)] (zsI (zsI (zsI w496M 158 3 (zI w496M 155 4)) 155 2 w522v) 29 0 (zI w403M 155 4)) _
                                      refine zs_icmp_geF (pc := 111) t48_111 li1 li4 (by decide) ?_
                                      refine zs_aload_n (pc := 114) t48_114 rfl ?_
                                      refine zs_iload_n (pc := 115) t48_115 rfl ?_
                                      refine zs_invS (pc := 116) (as := [.int (zpt M)]) (st := [.ref 19]) t48_116 (by decide) mf45 rfl rfl ⟨by decide, by decide, Nat.le_of_ble_eq_true rfl, Nat.le_of_ble_eq_true rfl⟩ (zs_in (by decide) mf45 (Nat.le_of_ble_eq_true rfl) ?_) (fun _ _ q => q)
                                      show zGo X l 0 0 0 45 0 [(0, .int (zpt M))] [] (zsI (zsI (zsI w496M 158 3 (zI w496M 155 4)) 155 2 w522v) 29 0 (zI w403M 155 4)) _
                                      refine zs_iload_n (pc := 0) t45_0 rfl ?_
                                      refine zs_lsw (pc := 1) t45_1 (off := 43) ((w12 : (zpt M).toInt = (g w11n)).trans (by omega)) rfl (pc2 := 44) rfl ?_
                                      refine zs_iconst (pc := 44) t45_44 (v := 0) (by decide) ?_
                                      refine zs_iret (pc := 45) t45_45 mr45 (by decide) ?_
                                      show zGo X l 4 0 0 48 119 [(3, .int (1 : Int32)), (0, .ref 157), (1, .int (zpt M)), (2, .ref 19)] [.int (0 : Int32), .ref 19] (zsI (zsI (zsI w496M 158 3 (zI w496M 155 4)) 155 2 w522v) 29 0 (zI w403M 155 4)) _
                                      refine zs_iload_n (pc := 119) t48_119 rfl ?_
                                      refine zs_iadd (pc := 120) t48_120 (c := 1) (by decide) ?_
                                      refine zs_aload_n (pc := 121) t48_121 rfl ?_
                                      refine zs_get (pc := 122) t48_122 (by decide) (zk1 (w496s.k fk_zMc_157)) (w496s.p rfl fv_zMc_157_0) ?_
                                      refine zs_iload_n (pc := 125) t48_125 rfl ?_
                                      refine zs_iald (pc := 126) t48_126 (j := 1) (by decide) (zk1 (w496s.k fk_zMc_158)) li1 (zk2 (w496s.k fk_zMc_158) (by decide)) ((zIo (by decide)).trans ((zIo (by decide)).trans ((zIoj (by decide)).trans ((w496F 158 1 rfl).trans ((zIo (by decide)).trans ((zIoj (by decide)).trans ((w465F 158 1 rfl).trans ((zIo (by decide)).trans zIs)))))))) ?_
                                      refine zs_invV (pc := 127) (k := 19) (as' := [.int (1 : Int32), .int (zI w434M 155 4)]) (st := []) t48_127 mf56 rfl rfl (Or.inl ⟨by decide, (zk1 (w496s.k fk_zMc_19))⟩) ⟨by decide, by decide, Nat.le_of_ble_eq_true rfl, Nat.le_of_ble_eq_true rfl⟩ (zs_in (by decide) mf56 (Nat.le_of_ble_eq_true rfl) ?_) (fun _ _ q => q)
                                      show zGo X l 0 0 0 56 0 [(0, .ref 19), (1, .int (1 : Int32)), (2, .int (zI w434M 155 4))] [] (zsI (zsI (zsI w496M 158 3 (zI w496M 155 4)) 155 2 w522v) 29 0 (zI w403M 155 4)) _
                                      refine zs_iload_n (pc := 0) t56_0 rfl ?_
                                      refine zs_if_ltF (pc := 1) t56_1 li1 (by decide) ?_
                                      refine zs_iload_n (pc := 4) t56_4 rfl ?_
                                      refine zs_bipush (pc := 5) t56_5 (v := 9) (by decide) ?_
                                      refine zs_icmp_geF (pc := 7) t56_7 li1 li9 (by decide) ?_
                                      refine zs_aload_n (pc := 10) t56_10 rfl ?_
                                      refine zs_get (pc := 11) t56_11 (by decide) (zk1 (w496s.k fk_zMc_19)) (w496s.p rfl fv_zMc_19_12) ?_
                                      refine zs_iload_n (pc := 14) t56_14 rfl ?_
                                      refine zs_iload_n (pc := 15) t56_15 rfl ?_
                                      have w526 : zIv cLo cHi (zsI (zsI (zsI (zsI w496M 158 3 (zI w496M 155 4)) 155 2 w522v) 29 0 (zI w403M 155 4)) 29 1 (zI w434M 155 4)) := zIv.put w524 (show (-300000) ≤ (zI w434M 155 4).toInt ∧ (zI w434M 155 4).toInt ≤ 300000 from ⟨by omega, by omega⟩)
                                      have w527 : zSo (zsI (zsI (zsI (zsI w496M 158 3 (zI w496M 155 4)) 155 2 w522v) 29 0 (zI w403M 155 4)) 29 1 (zI w434M 155 4)) 19 (uS (uS F (5 + 0) (zI w403M 155 4).toInt) (5 + 1) (zI w434M 155 4).toInt) := zSo.se w525 rfl (by decide) rfl
                                      refine zs_iast (pc := 16) t56_16 (j := 1) (by decide) (zk1 (w496s.k fk_zMc_29)) li1 (zk2 (w496s.k fk_zMc_29) (by decide)) ?_
                                      refine zs_vret (pc := 17) t56_17 mr56 ?_
                                      show zGo X l 4 0 0 48 130 [(3, .int (1 : Int32)), (0, .ref 157), (1, .int (zpt M)), (2, .ref 19)] [] (zsI (zsI (zsI (zsI w496M 158 3 (zI w496M 155 4)) 155 2 w522v) 29 0 (zI w403M 155 4)) 29 1 (zI w434M 155 4)) _
                                      refine zs_iinc (pc := 130) t48_130 (ls' := [(3, .int (2 : Int32)), (0, .ref 157), (1, .int (zpt M)), (2, .ref 19)]) (zml mf48 (by decide)) rfl (c := 2) (by decide) rfl ?_
                                      refine zs_goto (pc := 133) t48_133 ?_
                                      refine zs_iload_n (pc := 106) t48_106 rfl ?_
                                      refine zs_iload_n (pc := 107) t48_107 rfl ?_
                                      refine zs_invS (pc := 108) (as := [.int (zpt M)]) (st := [.int (2 : Int32)]) t48_108 (by decide) mf32 rfl rfl ⟨by decide, by decide, Nat.le_of_ble_eq_true rfl, Nat.le_of_ble_eq_true rfl⟩ (zs_in (by decide) mf32 (Nat.le_of_ble_eq_true rfl) ?_) (fun _ _ q => q)
                                      show zGo X l 0 0 0 32 0 [(0, .int (zpt M))] [] (zsI (zsI (zsI (zsI w496M 158 3 (zI w496M 155 4)) 155 2 w522v) 29 0 (zI w403M 155 4)) 29 1 (zI w434M 155 4)) _
                                      refine zs_iload_n (pc := 0) t32_0 rfl ?_
                                      refine zs_tswI (pc := 1) t32_1 ((w12 : (zpt M).toInt = (g w11n)).trans (by omega)) (by decide) rfl (pc2 := 90) rfl ?_
                                      refine zs_iconst (pc := 90) t32_90 (v := 4) (by decide) ?_
                                      refine zs_iret (pc := 91) t32_91 mr32 (by decide) ?_
                                      show zGo X l 4 0 0 48 111 [(3, .int (2 : Int32)), (0, .ref 157), (1, .int (zpt M)), (2, .ref 19)] [.int (4 : Int32), .int (2 : Int32)] (zsI (zsI (zsI (zsI w496M 158 3 (zI w496M 155 4)) 155 2 w522v) 29 0 (zI w403M 155 4)) 29 1 (zI w434M 155 4)) _
                                      refine zs_icmp_geF (pc := 111) t48_111 li2 li4 (by decide) ?_
                                      refine zs_aload_n (pc := 114) t48_114 rfl ?_
                                      refine zs_iload_n (pc := 115) t48_115 rfl ?_
                                      refine zs_invS (pc := 116) (as := [.int (zpt M)]) (st := [.ref 19]) t48_116 (by decide) mf45 rfl rfl ⟨by decide, by decide, Nat.le_of_ble_eq_true rfl, Nat.le_of_ble_eq_true rfl⟩ (zs_in (by decide) mf45 (Nat.le_of_ble_eq_true rfl) ?_) (fun _ _ q => q)
                                      show zGo X l 0 0 0 45 0 [(0, .int (zpt M))] [] (zsI (zsI (zsI (zsI w496M 158 3 (zI w496M 155 4)) 155 2 w522v) 29 0 (zI w403M 155 4)) 29 1 (zI w434M 155 4)) _
                                      refine zs_iload_n (pc := 0) t45_0 rfl ?_
                                      refine zs_lsw (pc := 1) t45_1 (off := 43) ((w12 : (zpt M).toInt = (g w11n)).trans (by omega)) rfl (pc2 := 44) rfl ?_
                                      refine zs_iconst (pc := 44) t45_44 (v := 0) (by decide) ?_
                                      refine zs_iret (pc := 45) t45_45 mr45 (by decide) ?_
                                      show zGo X l 4 0 0 48 119 [(3, .int (2 : Int32)), (0, .ref 157), (1, .int (zpt M)), (2, .ref 19)] [.int (0 : Int32), .ref 19] (zsI (zsI (zsI (zsI w496M 158 3 (zI w496M 155 4)) 155 2 w522v) 29 0 (zI w403M 155 4)) 29 1 (zI w434M 155 4)) _
                                      refine zs_iload_n (pc := 119) t48_119 rfl ?_
                                      refine zs_iadd (pc := 120) t48_120 (c := 2) (by decide) ?_
                                      refine zs_aload_n (pc := 121) t48_121 rfl ?_
                                      refine zs_get (pc := 122) t48_122 (by decide) (zk1 (w496s.k fk_zMc_157)) (w496s.p rfl fv_zMc_157_0) ?_
                                      refine zs_iload_n (pc := 125) t48_125 rfl ?_
                                      refine zs_iald (pc := 126) t48_126 (j := 2) (by decide) (zk1 (w496s.k fk_zMc_158)) li2 (zk2 (w496s.k fk_zMc_158) (by decide)) ((zIo (by decide)).trans ((zIo (by decide)).trans ((zIo (by decide)).trans ((zIoj (by decide)).trans ((w496F 158 2 rfl).trans ((zIo (by decide)).trans zIs)))))) ?_
                                      refine zs_invV (pc := 127) (k := 19) (as' := [.int (2 : Int32), .int (zI w465M 155 4)]) (st := []) t48_127 mf56 rfl rfl (Or.inl ⟨by decide, (zk1 (w496s.k fk_zMc_19))⟩) ⟨by decide, by decide, Nat.le_of_ble_eq_true rfl, Nat.le_of_ble_eq_true rfl⟩ (zs_in (by decide) mf56 (Nat.le_of_ble_eq_true rfl) ?_) (fun _ _ q => q)
                                      show zGo X l 0 0 0 56 0 [(0, .ref 19), (1, .int (2 : Int32)), (2, .int (zI w465M 155 4))] [] (zsI (zsI (zsI (zsI w496M 158 3 (zI w496M 155 4)) 155 2 w522v) 29 0 (zI w403M 155 4)) 29 1 (zI w434M 155 4)) _
                                      refine zs_iload_n (pc := 0) t56_0 rfl ?_
                                      refine zs_if_ltF (pc := 1) t56_1 li2 (by decide) ?_
                                      refine zs_iload_n (pc := 4) t56_4 rfl ?_
                                      refine zs_bipush (pc := 5) t56_5 (v := 9) (by decide) ?_
                                      refine zs_icmp_geF (pc := 7) t56_7 li2 li9 (by decide) ?_
                                      refine zs_aload_n (pc := 10) t56_10 rfl ?_
                                      refine zs_get (pc := 11) t56_11 (by decide) (zk1 (w496s.k fk_zMc_19)) (w496s.p rfl fv_zMc_19_12) ?_
                                      refine zs_iload_n (pc := 14) t56_14 rfl ?_
                                      refine zs_iload_n (pc := 15) t56_15 rfl ?_
                                      have w528 : zIv cLo cHi (zsI (zsI (zsI (zsI (zsI w496M 158 3 (zI w496M 155 4)) 155 2 w522v) 29 0 (zI w403M 155 4)) 29 1 (zI w434M 155 4)) 29 2 (zI w465M 155 4)) := zIv.put w526 (show (-300000) ≤ (zI w465M 155 4).toInt ∧ (zI w465M 155 4).toInt ≤ 300000 from ⟨by omega, by omega⟩)
                                      have w529 : zSo (zsI (zsI (zsI (zsI (zsI w496M 158 3 (zI w496M 155 4)) 155 2 w522v) 29 0 (zI w403M 155 4)) 29 1 (zI w434M 155 4)) 29 2 (zI w465M 155 4)) 19 (uS (uS (uS F (5 + 0) (zI w403M 155 4).toInt) (5 + 1) (zI w434M 155 4).toInt) (5 + 2) (zI w465M 155 4).toInt) := zSo.se w527 rfl (by decide) rfl
                                      refine zs_iast (pc := 16) t56_16 (j := 2) (by decide) (zk1 (w496s.k fk_zMc_29)) li2 (zk2 (w496s.k fk_zMc_29) (by decide)) ?_
                                      refine zs_vret (pc := 17) t56_17 mr56 ?_
                                      show zGo X l 4 0 0 48 130 [(3, .int (2 : Int32)), (0, .ref 157), (1, .int (zpt M)), (2, .ref 19)] [] (zsI (zsI (zsI (zsI (zsI w496M 158 3 (zI w496M 155 4)) 155 2 w522v) 29 0 (zI w403M 155 4)) 29 1 (zI w434M 155 4)) 29 2 (zI w465M 155 4)) _
                                      refine zs_iinc (pc := 130) t48_130 (ls' := [(3, .int (3 : Int32)), (0, .ref 157), (1, .int (zpt M)), (2, .ref 19)]) (zml mf48 (by decide)) rfl (c := 3) (by decide) rfl ?_
                                      refine zs_goto (pc := 133) t48_133 ?_
                                      refine zs_iload_n (pc := 106) t48_106 rfl ?_
                                      refine zs_iload_n (pc := 107) t48_107 rfl ?_
                                      refine zs_invS (pc := 108) (as := [.int (zpt M)]) (st := [.int (3 : Int32)]) t48_108 (by decide) mf32 rfl rfl ⟨by decide, by decide, Nat.le_of_ble_eq_true rfl, Nat.le_of_ble_eq_true rfl⟩ (zs_in (by decide) mf32 (Nat.le_of_ble_eq_true rfl) ?_) (fun _ _ q => q)
                                      show zGo X l 0 0 0 32 0 [(0, .int (zpt M))] [] (zsI (zsI (zsI (zsI (zsI w496M 158 3 (zI w496M 155 4)) 155 2 w522v) 29 0 (zI w403M 155 4)) 29 1 (zI w434M 155 4)) 29 2 (zI w465M 155 4)) _
                                      refine zs_iload_n (pc := 0) t32_0 rfl ?_
                                      refine zs_tswI (pc := 1) t32_1 ((w12 : (zpt M).toInt = (g w11n)).trans (by omega)) (by decide) rfl (pc2 := 90) rfl ?_
                                      refine zs_iconst (pc := 90) t32_90 (v := 4) (by decide) ?_
                                      refine zs_iret (pc := 91) t32_91 mr32 (by decide) ?_
                                      show zGo X l 4 0 0 48 111 [(3, .int (3 : Int32)), (0, .ref 157), (1, .int (zpt M)), (2, .ref 19)] [.int (4 : Int32), .int (3 : Int32)] (zsI (zsI (zsI (zsI (zsI w496M 158 3 (zI w496M 155 4)) 155 2 w522v) 29 0 (zI w403M 155 4)) 29 1 (zI w434M 155 4)) 29 2 (zI w465M 155 4)) _
                                      refine zs_icmp_geF (pc := 111) t48_111 li3 li4 (by decide) ?_
                                      refine zs_aload_n (pc := 114) t48_114 rfl ?_
                                      refine zs_iload_n (pc := 115) t48_115 rfl ?_
                                      refine zs_invS (pc := 116) (as := [.int (zpt M)]) (st := [.ref 19]) t48_116 (by decide) mf45 rfl rfl ⟨by decide, by decide, Nat.le_of_ble_eq_true rfl, Nat.le_of_ble_eq_true rfl⟩ (zs_in (by decide) mf45 (Nat.le_of_ble_eq_true rfl) ?_) (fun _ _ q => q)
                                      show zGo X l 0 0 0 45 0 [(0, .int (zpt M))] [] (zsI (zsI (zsI (zsI (zsI w496M 158 3 (zI w496M 155 4)) 155 2 w522v) 29 0 (zI w403M 155 4)) 29 1 (zI w434M 155 4)) 29 2 (zI w465M 155 4)) _
                                      refine zs_iload_n (pc := 0) t45_0 rfl ?_
                                      refine zs_lsw (pc := 1) t45_1 (off := 43) ((w12 : (zpt M).toInt = (g w11n)).trans (by omega)) rfl (pc2 := 44) rfl ?_
                                      refine zs_iconst (pc := 44) t45_44 (v := 0) (by decide) ?_
                                      refine zs_iret (pc := 45) t45_45 mr45 (by decide) ?_
                                      show zGo X l 4 0 0 48 119 [(3, .int (3 : Int32)), (0, .ref 157), (1, .int (zpt M)), (2, .ref 19)] [.int (0 : Int32), .ref 19] (zsI (zsI (zsI (zsI (zsI w496M 158 3 (zI w496M 155 4)) 155 2 w522v) 29 0 (zI w403M 155 4)) 29 1 (zI w434M 155 4)) 29 2 (zI w465M 155 4)) _
                                      refine zs_iload_n (pc := 119) t48_119 rfl ?_
                                      refine zs_iadd (pc := 120) t48_120 (c := 3) (by decide) ?_
                                      refine zs_aload_n (pc := 121) t48_121 rfl ?_
                                      refine zs_get (pc := 122) t48_122 (by decide) (zk1 (w496s.k fk_zMc_157)) (w496s.p rfl fv_zMc_157_0) ?_
                                      refine zs_iload_n (pc := 125) t48_125 rfl ?_
                                      refine zs_iald (pc := 126) t48_126 (j := 3) (by decide) (zk1 (w496s.k fk_zMc_158)) li3 (zk2 (w496s.k fk_zMc_158) (by decide)) ((zIo (by decide)).trans ((zIo (by decide)).trans ((zIo (by decide)).trans ((zIo (by decide)).trans zIs)))) ?_
                                      refine zs_invV (pc := 127) (k := 19) (as' := [.int (3 : Int32), .int (zI w496M 155 4)]) (st := []) t48_127 mf56 rfl rfl (Or.inl ⟨by decide, (zk1 (w496s.k fk_zMc_19))⟩) ⟨by decide, by decide, Nat.le_of_ble_eq_true rfl, Nat.le_of_ble_eq_true rfl⟩ (zs_in (by decide) mf56 (Nat.le_of_ble_eq_true rfl) ?_) (fun _ _ q => q)
                                      show zGo X l 0 0 0 56 0 [(0, .ref 19), (1, .int (3 : Int32)), (2, .int (zI w496M 155 4))] [] (zsI (zsI (zsI (zsI (zsI w496M 158 3 (zI w496M 155 4)) 155 2 w522v) 29 0 (zI w403M 155 4)) 29 1 (zI w434M 155 4)) 29 2 (zI w465M 155 4)) _
                                      refine zs_iload_n (pc := 0) t56_0 rfl ?_
                                      refine zs_if_ltF (pc := 1) t56_1 li3 (by decide) ?_
                                      refine zs_iload_n (pc := 4) t56_4 rfl ?_
                                      refine zs_bipush (pc := 5) t56_5 (v := 9) (by decide) ?_
                                      refine zs_icmp_geF (pc := 7) t56_7 li3 li9 (by decide) ?_
                                      refine zs_aload_n (pc := 10) t56_10 rfl ?_
                                      refine zs_get (pc := 11) t56_11 (by decide) (zk1 (w496s.k fk_zMc_19)) (w496s.p rfl fv_zMc_19_12) ?_
                                      refine zs_iload_n (pc := 14) t56_14 rfl ?_
                                      refine zs_iload_n (pc := 15) t56_15 rfl ?_
                                      have w530 : zIv cLo cHi (zsI (zsI (zsI (zsI (zsI (zsI w496M 158 3 (zI w496M 155 4)) 155 2 w522v) 29 0 (zI w403M 155 4)) 29 1 (zI w434M 155 4)) 29 2 (zI w465M 155 4)) 29 3 (zI w496M 155 4)) := zIv.put w528 (show (-300000) ≤ (zI w496M 155 4).toInt ∧ (zI w496M 155 4).toInt ≤ 300000 from ⟨by omega, by omega⟩)
                                      have w531 : zSo (zsI (zsI (zsI (zsI (zsI (zsI w496M 158 3 (zI w496M 155 4)) 155 2 w522v) 29 0 (zI w403M 155 4)) 29 1 (zI w434M 155 4)) 29 2 (zI w465M 155 4)) 29 3 (zI w496M 155 4)) 19 (uS (uS (uS (uS F (5 + 0) (zI w403M 155 4).toInt) (5 + 1) (zI w434M 155 4).toInt) (5 + 2) (zI w465M 155 4).toInt) (5 + 3) (zI w496M 155 4).toInt) := zSo.se w529 rfl (by decide) rfl
                                      refine zs_iast (pc := 16) t56_16 (j := 3) (by decide) (zk1 (w496s.k fk_zMc_29)) li3 (zk2 (w496s.k fk_zMc_29) (by decide)) ?_
                                      refine zs_vret (pc := 17) t56_17 mr56 ?_
                                      show zGo X l 4 0 0 48 130 [(3, .int (3 : Int32)), (0, .ref 157), (1, .int (zpt M)), (2, .ref 19)] [] (zsI (zsI (zsI (zsI (zsI (zsI w496M 158 3 (zI w496M 155 4)) 155 2 w522v) 29 0 (zI w403M 155 4)) 29 1 (zI w434M 155 4)) 29 2 (zI w465M 155 4)) 29 3 (zI w496M 155 4)) _
                                      refine zs_iinc (pc := 130) t48_130 (ls' := [(3, .int (4 : Int32)), (0, .ref 157), (1, .int (zpt M)), (2, .ref 19)]) (zml mf48 (by decide)) rfl (c := 4) (by decide) rfl ?_
                                      refine zs_goto (pc := 133) t48_133 ?_
                                      refine zs_iload_n (pc := 106) t48_106 rfl ?_
                                      refine zs_iload_n (pc := 107) t48_107 rfl ?_
                                      refine zs_invS (pc := 108) (as := [.int (zpt M)]) (st := [.int (4 : Int32)]) t48_108 (by decide) mf32 rfl rfl ⟨by decide, by decide, Nat.le_of_ble_eq_true rfl, Nat.le_of_ble_eq_true rfl⟩ (zs_in (by decide) mf32 (Nat.le_of_ble_eq_true rfl) ?_) (fun _ _ q => q)
                                      show zGo X l 0 0 0 32 0 [(0, .int (zpt M))] [] (zsI (zsI (zsI (zsI (zsI (zsI w496M 158 3 (zI w496M 155 4)) 155 2 w522v) 29 0 (zI w403M 155 4)) 29 1 (zI w434M 155 4)) 29 2 (zI w465M 155 4)) 29 3 (zI w496M 155 4)) _
                                      refine zs_iload_n (pc := 0) t32_0 rfl ?_
                                      refine zs_tswI (pc := 1) t32_1 ((w12 : (zpt M).toInt = (g w11n)).trans (by omega)) (by decide) rfl (pc2 := 90) rfl ?_
                                      refine zs_iconst (pc := 90) t32_90 (v := 4) (by decide) ?_
                                      refine zs_iret (pc := 91) t32_91 mr32 (by decide) ?_
                                      show zGo X l 4 0 0 48 111 [(3, .int (4 : Int32)), (0, .ref 157), (1, .int (zpt M)), (2, .ref 19)] [.int (4 : Int32), .int (4 : Int32)] (zsI (zsI (zsI (zsI (zsI (zsI w496M 158 3 (zI w496M 155 4)) 155 2 w522v) 29 0 (zI w403M 155 4)) 29 1 (zI w434M 155 4)) 29 2 (zI w465M 155 4)) 29 3 (zI w496M 155 4)) _
                                      refine zs_icmp_geT (pc := 111) t48_111 li4 li4 (by decide) ?_
                                      refine zs_iconst (pc := 136) t48_136 (v := 1) (by decide) ?_
                                      refine zs_iret (pc := 137) t48_137 mr48 (by decide) ?_
                                      show zGo X l 5 0 0 28 131 [(6, .int (4 : Int32)), (5, .int (4 : Int32)), (4, .int (zpt M)), (3, .int (zI M 155 2)), (0, .ref 157), (1, .ref 155), (2, .ref 19)] [.int (1 : Int32)] (zsI (zsI (zsI (zsI (zsI (zsI w496M 158 3 (zI w496M 155 4)) 155 2 w522v) 29 0 (zI w403M 155 4)) 29 1 (zI w434M 155 4)) 29 2 (zI w465M 155 4)) 29 3 (zI w496M 155 4)) _
                                      refine zs_if_neT (pc := 131) t28_131 li1 (by decide) ?_
                                      refine zs_iconst (pc := 142) t28_142 (v := 1) (by decide) ?_
                                      refine zs_goto (pc := 143) t28_143 ?_
                                      have w532 : (zI (zsI (zsI (zsI (zsI (zsI (zsI w496M 158 3 (zI w496M 155 4)) 155 2 w522v) 29 0 (zI w403M 155 4)) 29 1 (zI w434M 155 4)) 29 2 (zI w465M 155 4)) 29 3 (zI w496M 155 4)) 155 2).toInt = ((zI w496M 155 2).toInt + 1) := (congrArg Int32.toInt ((zIo (by decide)).trans ((zIo (by decide)).trans ((zIo (by decide)).trans ((zIo (by decide)).trans zIs))))).trans w522
                                      exact zs_iret (pc := 147) t28_147 mr28 (by decide) (hQ _ _ w496s w530 ((((((((((((((((((zFr.refl).put rfl).trans (w403F.mono rfl)).put rfl).put rfl).trans (w434F.mono rfl)).put rfl).put rfl).trans (w465F.mono rfl)).put rfl).put rfl).trans (w496F.mono rfl)).put rfl).put rfl).put rfl).put rfl).put rfl).put rfl) (fun p hp => by obtain rfl : w11n = p := (by omega); exact Or.inr ⟨by decide, w497E + 1, (uS (uS (uS (uS F (5 + 0) (zI w403M 155 4).toInt) (5 + 1) (zI w434M 155 4).toInt) (5 + 2) (zI w465M 155 4).toInt) (5 + 3) (zI w496M 155 4).toInt), (((((pIt.s (by omega)).trans (pB.y (pRd.y w404e (by omega) (by omega) (by omega)))).trans (pB.y (pRd.y w435e (by omega) (by omega) (by omega)))).trans (pB.y (pRd.y w466e (by omega) (by omega) (by omega)))).trans (pB.y (pRd.y w497e (by omega) (by omega) (by omega)))), by omega, by omega, by omega, w531, x2.ss (by omega)⟩) (by decide) (by decide))
                                    · refine zs_icmp_eqF (pc := 5) t47_5 w516 li59 (by omega) ?_
                                      refine zs_aload_n (pc := 8) t47_8 rfl ?_
                                      refine zs_aload_n (pc := 9) t47_9 rfl ?_
                                      refine zs_get (pc := 10) t47_10 (by decide) (zk1 (w496s.k fk_zMc_155)) (zfvi rfl ((zIo (by decide)).trans rfl)) ?_
                                      refine zs_invV (pc := 13) (k := 155) (as' := [.int (zI w496M 155 2)]) (st := []) t47_13 mf34 rfl rfl (Or.inl ⟨by decide, (zk1 (w496s.k fk_zMc_155))⟩) ⟨by decide, by decide, Nat.le_of_ble_eq_true rfl, Nat.le_of_ble_eq_true rfl⟩ (zs_in (by decide) mf34 (Nat.le_of_ble_eq_true rfl) ?_) (fun _ _ q => q)
                                      show zGo X l 0 0 0 34 0 [(0, .ref 155), (1, .int (zI w496M 155 2))] [] (zsI w496M 158 3 (zI w496M 155 4)) _
                                      refine zs_aload_n (pc := 0) t34_0 rfl ?_
                                      refine zs_iload_n (pc := 1) t34_1 rfl ?_
                                      have w533 : zIv cLo cHi (zsI (zsI w496M 158 3 (zI w496M 155 4)) 155 3 (zI w496M 155 2)) := zIv.put w515 (show (-2147483648) ≤ (zI w496M 155 2).toInt ∧ (zI w496M 155 2).toInt ≤ 2147483647 from zrg (zI w496M 155 2))
                                      refine zs_putI (pc := 2) t34_2 (zk1 (w496s.k fk_zMc_155)) rfl ?_
                                      refine zs_iconst (pc := 5) t34_5 (v := 0) (by decide) ?_
                                      refine zs_iret (pc := 6) t34_6 mr34 (by decide) ?_
                                      show zGo X l 1 0 0 47 16 [(0, .ref 155), (1, .int (59 : Int32))] [.int (0 : Int32)] (zsI (zsI w496M 158 3 (zI w496M 155 4)) 155 3 (zI w496M 155 2)) _
                                      refine zs_iret (pc := 16) t47_16 mr47 (by decide) ?_
                                      show zGo X l 5 0 0 28 113 [(6, .int (3 : Int32)), (5, .int (4 : Int32)), (4, .int (zpt M)), (3, .int (zI M 155 2)), (0, .ref 157), (1, .ref 155), (2, .ref 19)] [.int (0 : Int32)] (zsI (zsI w496M 158 3 (zI w496M 155 4)) 155 3 (zI w496M 155 2)) _
                                      refine zs_if_neF (pc := 113) t28_113 li0 (by decide) ?_
                                      refine zs_iconst (pc := 116) t28_116 (v := 0) (by decide) ?_
                                      have w534 : (zI (zsI (zsI w496M 158 3 (zI w496M 155 4)) 155 3 (zI w496M 155 2)) 155 2).toInt = (zI w496M 155 2).toInt := (congrArg Int32.toInt ((zIoj (by decide)).trans ((zIo (by decide)).trans rfl))).trans rfl
                                      exact zs_iret (pc := 117) t28_117 mr28 (by decide) (hQ _ _ w496s w533 ((((((((((((((zFr.refl).put rfl).trans (w403F.mono rfl)).put rfl).put rfl).trans (w434F.mono rfl)).put rfl).put rfl).trans (w465F.mono rfl)).put rfl).put rfl).trans (w496F.mono rfl)).put rfl).put rfl) (fun p hp => by obtain rfl : w11n = p := (by omega); exact Or.inl ⟨by decide, ((((pIt.s (by omega)).trans (pB.y (pRd.y w404e (by omega) (by omega) (by omega)))).trans (pB.y (pRd.y w435e (by omega) (by omega) (by omega)))).trans (pB.y (pRd.y w466e (by omega) (by omega) (by omega)))).trans (pB.f (pRd.n w497e (by omega)))⟩) (by decide) (by decide))
                            · refine zs_icmp_eqF (pc := 5) t47_5 w485 li44 (by omega) ?_
                              refine zs_aload_n (pc := 8) t47_8 rfl ?_
                              refine zs_aload_n (pc := 9) t47_9 rfl ?_
                              refine zs_get (pc := 10) t47_10 (by decide) (zk1 (w465s.k fk_zMc_155)) (zfvi rfl ((zIo (by decide)).trans rfl)) ?_
                              refine zs_invV (pc := 13) (k := 155) (as' := [.int (zI w465M 155 2)]) (st := []) t47_13 mf34 rfl rfl (Or.inl ⟨by decide, (zk1 (w465s.k fk_zMc_155))⟩) ⟨by decide, by decide, Nat.le_of_ble_eq_true rfl, Nat.le_of_ble_eq_true rfl⟩ (zs_in (by decide) mf34 (Nat.le_of_ble_eq_true rfl) ?_) (fun _ _ q => q)
                              show zGo X l 0 0 0 34 0 [(0, .ref 155), (1, .int (zI w465M 155 2))] [] (zsI w465M 158 2 (zI w465M 155 4)) _
                              refine zs_aload_n (pc := 0) t34_0 rfl ?_
                              refine zs_iload_n (pc := 1) t34_1 rfl ?_
                              have w535 : zIv cLo cHi (zsI (zsI w465M 158 2 (zI w465M 155 4)) 155 3 (zI w465M 155 2)) := zIv.put w484 (show (-2147483648) ≤ (zI w465M 155 2).toInt ∧ (zI w465M 155 2).toInt ≤ 2147483647 from zrg (zI w465M 155 2))
                              refine zs_putI (pc := 2) t34_2 (zk1 (w465s.k fk_zMc_155)) rfl ?_
                              refine zs_iconst (pc := 5) t34_5 (v := 0) (by decide) ?_
                              refine zs_iret (pc := 6) t34_6 mr34 (by decide) ?_
                              show zGo X l 1 0 0 47 16 [(0, .ref 155), (1, .int (44 : Int32))] [.int (0 : Int32)] (zsI (zsI w465M 158 2 (zI w465M 155 4)) 155 3 (zI w465M 155 2)) _
                              refine zs_iret (pc := 16) t47_16 mr47 (by decide) ?_
                              show zGo X l 5 0 0 28 113 [(6, .int (2 : Int32)), (5, .int (4 : Int32)), (4, .int (zpt M)), (3, .int (zI M 155 2)), (0, .ref 157), (1, .ref 155), (2, .ref 19)] [.int (0 : Int32)] (zsI (zsI w465M 158 2 (zI w465M 155 4)) 155 3 (zI w465M 155 2)) _
                              refine zs_if_neF (pc := 113) t28_113 li0 (by decide) ?_
                              refine zs_iconst (pc := 116) t28_116 (v := 0) (by decide) ?_
                              have w536 : (zI (zsI (zsI w465M 158 2 (zI w465M 155 4)) 155 3 (zI w465M 155 2)) 155 2).toInt = (zI w465M 155 2).toInt := (congrArg Int32.toInt ((zIoj (by decide)).trans ((zIo (by decide)).trans rfl))).trans rfl
                              exact zs_iret (pc := 117) t28_117 mr28 (by decide) (hQ _ _ w465s w535 (((((((((((zFr.refl).put rfl).trans (w403F.mono rfl)).put rfl).put rfl).trans (w434F.mono rfl)).put rfl).put rfl).trans (w465F.mono rfl)).put rfl).put rfl) (fun p hp => by obtain rfl : w11n = p := (by omega); exact Or.inl ⟨by decide, (((pIt.s (by omega)).trans (pB.y (pRd.y w404e (by omega) (by omega) (by omega)))).trans (pB.y (pRd.y w435e (by omega) (by omega) (by omega)))).trans (pB.f (pRd.n w466e (by omega)))⟩) (by decide) (by decide))
                    · refine zs_icmp_eqF (pc := 5) t47_5 w454 li44 (by omega) ?_
                      refine zs_aload_n (pc := 8) t47_8 rfl ?_
                      refine zs_aload_n (pc := 9) t47_9 rfl ?_
                      refine zs_get (pc := 10) t47_10 (by decide) (zk1 (w434s.k fk_zMc_155)) (zfvi rfl ((zIo (by decide)).trans rfl)) ?_
                      refine zs_invV (pc := 13) (k := 155) (as' := [.int (zI w434M 155 2)]) (st := []) t47_13 mf34 rfl rfl (Or.inl ⟨by decide, (zk1 (w434s.k fk_zMc_155))⟩) ⟨by decide, by decide, Nat.le_of_ble_eq_true rfl, Nat.le_of_ble_eq_true rfl⟩ (zs_in (by decide) mf34 (Nat.le_of_ble_eq_true rfl) ?_) (fun _ _ q => q)
                      show zGo X l 0 0 0 34 0 [(0, .ref 155), (1, .int (zI w434M 155 2))] [] (zsI w434M 158 1 (zI w434M 155 4)) _
                      refine zs_aload_n (pc := 0) t34_0 rfl ?_
                      refine zs_iload_n (pc := 1) t34_1 rfl ?_
                      have w537 : zIv cLo cHi (zsI (zsI w434M 158 1 (zI w434M 155 4)) 155 3 (zI w434M 155 2)) := zIv.put w453 (show (-2147483648) ≤ (zI w434M 155 2).toInt ∧ (zI w434M 155 2).toInt ≤ 2147483647 from zrg (zI w434M 155 2))
                      refine zs_putI (pc := 2) t34_2 (zk1 (w434s.k fk_zMc_155)) rfl ?_
                      refine zs_iconst (pc := 5) t34_5 (v := 0) (by decide) ?_
                      refine zs_iret (pc := 6) t34_6 mr34 (by decide) ?_
                      show zGo X l 1 0 0 47 16 [(0, .ref 155), (1, .int (44 : Int32))] [.int (0 : Int32)] (zsI (zsI w434M 158 1 (zI w434M 155 4)) 155 3 (zI w434M 155 2)) _
                      refine zs_iret (pc := 16) t47_16 mr47 (by decide) ?_
                      show zGo X l 5 0 0 28 113 [(6, .int (1 : Int32)), (5, .int (4 : Int32)), (4, .int (zpt M)), (3, .int (zI M 155 2)), (0, .ref 157), (1, .ref 155), (2, .ref 19)] [.int (0 : Int32)] (zsI (zsI w434M 158 1 (zI w434M 155 4)) 155 3 (zI w434M 155 2)) _
                      refine zs_if_neF (pc := 113) t28_113 li0 (by decide) ?_
                      refine zs_iconst (pc := 116) t28_116 (v := 0) (by decide) ?_
                      have w538 : (zI (zsI (zsI w434M 158 1 (zI w434M 155 4)) 155 3 (zI w434M 155 2)) 155 2).toInt = (zI w434M 155 2).toInt := (congrArg Int32.toInt ((zIoj (by decide)).trans ((zIo (by decide)).trans rfl))).trans rfl
                      exact zs_iret (pc := 117) t28_117 mr28 (by decide) (hQ _ _ w434s w537 ((((((((zFr.refl).put rfl).trans (w403F.mono rfl)).put rfl).put rfl).trans (w434F.mono rfl)).put rfl).put rfl) (fun p hp => by obtain rfl : w11n = p := (by omega); exact Or.inl ⟨by decide, ((pIt.s (by omega)).trans (pB.y (pRd.y w404e (by omega) (by omega) (by omega)))).trans (pB.f (pRd.n w435e (by omega)))⟩) (by decide) (by decide))
            · refine zs_icmp_eqF (pc := 5) t47_5 w423 li44 (by omega) ?_
              refine zs_aload_n (pc := 8) t47_8 rfl ?_
              refine zs_aload_n (pc := 9) t47_9 rfl ?_
              refine zs_get (pc := 10) t47_10 (by decide) (zk1 (w403s.k fk_zMc_155)) (zfvi rfl ((zIo (by decide)).trans rfl)) ?_
              refine zs_invV (pc := 13) (k := 155) (as' := [.int (zI w403M 155 2)]) (st := []) t47_13 mf34 rfl rfl (Or.inl ⟨by decide, (zk1 (w403s.k fk_zMc_155))⟩) ⟨by decide, by decide, Nat.le_of_ble_eq_true rfl, Nat.le_of_ble_eq_true rfl⟩ (zs_in (by decide) mf34 (Nat.le_of_ble_eq_true rfl) ?_) (fun _ _ q => q)
              show zGo X l 0 0 0 34 0 [(0, .ref 155), (1, .int (zI w403M 155 2))] [] (zsI w403M 158 0 (zI w403M 155 4)) _
              refine zs_aload_n (pc := 0) t34_0 rfl ?_
              refine zs_iload_n (pc := 1) t34_1 rfl ?_
              have w539 : zIv cLo cHi (zsI (zsI w403M 158 0 (zI w403M 155 4)) 155 3 (zI w403M 155 2)) := zIv.put w422 (show (-2147483648) ≤ (zI w403M 155 2).toInt ∧ (zI w403M 155 2).toInt ≤ 2147483647 from zrg (zI w403M 155 2))
              refine zs_putI (pc := 2) t34_2 (zk1 (w403s.k fk_zMc_155)) rfl ?_
              refine zs_iconst (pc := 5) t34_5 (v := 0) (by decide) ?_
              refine zs_iret (pc := 6) t34_6 mr34 (by decide) ?_
              show zGo X l 1 0 0 47 16 [(0, .ref 155), (1, .int (44 : Int32))] [.int (0 : Int32)] (zsI (zsI w403M 158 0 (zI w403M 155 4)) 155 3 (zI w403M 155 2)) _
              refine zs_iret (pc := 16) t47_16 mr47 (by decide) ?_
              show zGo X l 5 0 0 28 113 [(6, .int (0 : Int32)), (5, .int (4 : Int32)), (4, .int (zpt M)), (3, .int (zI M 155 2)), (0, .ref 157), (1, .ref 155), (2, .ref 19)] [.int (0 : Int32)] (zsI (zsI w403M 158 0 (zI w403M 155 4)) 155 3 (zI w403M 155 2)) _
              refine zs_if_neF (pc := 113) t28_113 li0 (by decide) ?_
              refine zs_iconst (pc := 116) t28_116 (v := 0) (by decide) ?_
              have w540 : (zI (zsI (zsI w403M 158 0 (zI w403M 155 4)) 155 3 (zI w403M 155 2)) 155 2).toInt = (zI w403M 155 2).toInt := (congrArg Int32.toInt ((zIoj (by decide)).trans ((zIo (by decide)).trans rfl))).trans rfl
              exact zs_iret (pc := 117) t28_117 mr28 (by decide) (hQ _ _ w403s w539 (((((zFr.refl).put rfl).trans (w403F.mono rfl)).put rfl).put rfl) (fun p hp => by obtain rfl : w11n = p := (by omega); exact Or.inl ⟨by decide, (pIt.s (by omega)).trans (pB.f (pRd.n w404e (by omega)))⟩) (by decide) (by decide))
    by_cases w541 : (g w11n) = 116
    · refine zs_tswI (pc := 1) t32_1 ((w12 : (zpt M).toInt = (g w11n)).trans w541) (by decide) rfl (pc2 := 92) rfl ?_
      refine zs_iconst (pc := 92) t32_92 (v := 0) (by decide) ?_
      refine zs_iret (pc := 93) t32_93 mr32 (by decide) ?_
      show zGo X l 5 0 0 28 16 [(4, .int (zpt M)), (3, .int (zI M 155 2)), (0, .ref 157), (1, .ref 155), (2, .ref 19)] [.int (0 : Int32)] (zsI M 155 2 w19v) _
      refine zs_istore (pc := 16) t28_16 (ls' := [(5, .int (0 : Int32)), (4, .int (zpt M)), (3, .int (zI M 155 2)), (0, .ref 157), (1, .ref 155), (2, .ref 19)]) (zml mf28 (by decide)) rfl ?_
      refine zs_iload (pc := 18) t28_18 rfl ?_
      refine zs_if_eqT (pc := 20) t28_20 li0 (by decide) ?_
      refine zs_aload_n (pc := 32) t28_32 rfl ?_
      refine zs_iload_n (pc := 33) t28_33 rfl ?_
      refine zs_invV (pc := 34) (k := 155) (as' := [.int (zI M 155 2)]) (st := []) t28_34 mf34 rfl rfl (Or.inl ⟨by decide, (zk1 (hs.k fk_zMc_155))⟩) ⟨by decide, by decide, Nat.le_of_ble_eq_true rfl, Nat.le_of_ble_eq_true rfl⟩ (zs_in (by decide) mf34 (Nat.le_of_ble_eq_true rfl) ?_) (fun _ _ q => q)
      show zGo X l 0 0 0 34 0 [(0, .ref 155), (1, .int (zI M 155 2))] [] (zsI M 155 2 w19v) _
      refine zs_aload_n (pc := 0) t34_0 rfl ?_
      refine zs_iload_n (pc := 1) t34_1 rfl ?_
      have w542 : zIv cLo cHi (zsI (zsI M 155 2 w19v) 155 3 (zI M 155 2)) := zIv.put w20 (show (-2147483648) ≤ (zI M 155 2).toInt ∧ (zI M 155 2).toInt ≤ 2147483647 from zrg (zI M 155 2))
      refine zs_putI (pc := 2) t34_2 (zk1 (hs.k fk_zMc_155)) rfl ?_
      refine zs_iconst (pc := 5) t34_5 (v := 0) (by decide) ?_
      refine zs_iret (pc := 6) t34_6 mr34 (by decide) ?_
      show zGo X l 5 0 0 28 37 [(5, .int (0 : Int32)), (4, .int (zpt M)), (3, .int (zI M 155 2)), (0, .ref 157), (1, .ref 155), (2, .ref 19)] [.int (0 : Int32)] (zsI (zsI M 155 2 w19v) 155 3 (zI M 155 2)) _
      have w543 : (zI (zsI (zsI M 155 2 w19v) 155 3 (zI M 155 2)) 155 2).toInt = ((zI M 155 2).toInt + 1) := (congrArg Int32.toInt ((zIoj (by decide)).trans zIs)).trans w19
      exact zs_iret (pc := 37) t28_37 mr28 (by decide) (hQ _ _ hs w542 (((zFr.refl).put rfl).put rfl) (fun p hp => by obtain rfl : w11n = p := (by omega); exact Or.inl ⟨by decide, pIt.no (by omega)⟩) (by decide) (by decide))
    by_cases w544 : (g w11n) = 117
    · refine zs_tswI (pc := 1) t32_1 ((w12 : (zpt M).toInt = (g w11n)).trans w544) (by decide) rfl (pc2 := 92) rfl ?_
      refine zs_iconst (pc := 92) t32_92 (v := 0) (by decide) ?_
      refine zs_iret (pc := 93) t32_93 mr32 (by decide) ?_
      show zGo X l 5 0 0 28 16 [(4, .int (zpt M)), (3, .int (zI M 155 2)), (0, .ref 157), (1, .ref 155), (2, .ref 19)] [.int (0 : Int32)] (zsI M 155 2 w19v) _
      refine zs_istore (pc := 16) t28_16 (ls' := [(5, .int (0 : Int32)), (4, .int (zpt M)), (3, .int (zI M 155 2)), (0, .ref 157), (1, .ref 155), (2, .ref 19)]) (zml mf28 (by decide)) rfl ?_
      refine zs_iload (pc := 18) t28_18 rfl ?_
      refine zs_if_eqT (pc := 20) t28_20 li0 (by decide) ?_
      refine zs_aload_n (pc := 32) t28_32 rfl ?_
      refine zs_iload_n (pc := 33) t28_33 rfl ?_
      refine zs_invV (pc := 34) (k := 155) (as' := [.int (zI M 155 2)]) (st := []) t28_34 mf34 rfl rfl (Or.inl ⟨by decide, (zk1 (hs.k fk_zMc_155))⟩) ⟨by decide, by decide, Nat.le_of_ble_eq_true rfl, Nat.le_of_ble_eq_true rfl⟩ (zs_in (by decide) mf34 (Nat.le_of_ble_eq_true rfl) ?_) (fun _ _ q => q)
      show zGo X l 0 0 0 34 0 [(0, .ref 155), (1, .int (zI M 155 2))] [] (zsI M 155 2 w19v) _
      refine zs_aload_n (pc := 0) t34_0 rfl ?_
      refine zs_iload_n (pc := 1) t34_1 rfl ?_
      have w545 : zIv cLo cHi (zsI (zsI M 155 2 w19v) 155 3 (zI M 155 2)) := zIv.put w20 (show (-2147483648) ≤ (zI M 155 2).toInt ∧ (zI M 155 2).toInt ≤ 2147483647 from zrg (zI M 155 2))
      refine zs_putI (pc := 2) t34_2 (zk1 (hs.k fk_zMc_155)) rfl ?_
      refine zs_iconst (pc := 5) t34_5 (v := 0) (by decide) ?_
      refine zs_iret (pc := 6) t34_6 mr34 (by decide) ?_
      show zGo X l 5 0 0 28 37 [(5, .int (0 : Int32)), (4, .int (zpt M)), (3, .int (zI M 155 2)), (0, .ref 157), (1, .ref 155), (2, .ref 19)] [.int (0 : Int32)] (zsI (zsI M 155 2 w19v) 155 3 (zI M 155 2)) _
      have w546 : (zI (zsI (zsI M 155 2 w19v) 155 3 (zI M 155 2)) 155 2).toInt = ((zI M 155 2).toInt + 1) := (congrArg Int32.toInt ((zIoj (by decide)).trans zIs)).trans w19
      exact zs_iret (pc := 37) t28_37 mr28 (by decide) (hQ _ _ hs w545 (((zFr.refl).put rfl).put rfl) (fun p hp => by obtain rfl : w11n = p := (by omega); exact Or.inl ⟨by decide, pIt.no (by omega)⟩) (by decide) (by decide))
    by_cases w547 : (g w11n) = 118
    · refine zs_tswI (pc := 1) t32_1 ((w12 : (zpt M).toInt = (g w11n)).trans w547) (by decide) rfl (pc2 := 92) rfl ?_
      refine zs_iconst (pc := 92) t32_92 (v := 0) (by decide) ?_
      refine zs_iret (pc := 93) t32_93 mr32 (by decide) ?_
      show zGo X l 5 0 0 28 16 [(4, .int (zpt M)), (3, .int (zI M 155 2)), (0, .ref 157), (1, .ref 155), (2, .ref 19)] [.int (0 : Int32)] (zsI M 155 2 w19v) _
      refine zs_istore (pc := 16) t28_16 (ls' := [(5, .int (0 : Int32)), (4, .int (zpt M)), (3, .int (zI M 155 2)), (0, .ref 157), (1, .ref 155), (2, .ref 19)]) (zml mf28 (by decide)) rfl ?_
      refine zs_iload (pc := 18) t28_18 rfl ?_
      refine zs_if_eqT (pc := 20) t28_20 li0 (by decide) ?_
      refine zs_aload_n (pc := 32) t28_32 rfl ?_
      refine zs_iload_n (pc := 33) t28_33 rfl ?_
      refine zs_invV (pc := 34) (k := 155) (as' := [.int (zI M 155 2)]) (st := []) t28_34 mf34 rfl rfl (Or.inl ⟨by decide, (zk1 (hs.k fk_zMc_155))⟩) ⟨by decide, by decide, Nat.le_of_ble_eq_true rfl, Nat.le_of_ble_eq_true rfl⟩ (zs_in (by decide) mf34 (Nat.le_of_ble_eq_true rfl) ?_) (fun _ _ q => q)
      show zGo X l 0 0 0 34 0 [(0, .ref 155), (1, .int (zI M 155 2))] [] (zsI M 155 2 w19v) _
      refine zs_aload_n (pc := 0) t34_0 rfl ?_
      refine zs_iload_n (pc := 1) t34_1 rfl ?_
      have w548 : zIv cLo cHi (zsI (zsI M 155 2 w19v) 155 3 (zI M 155 2)) := zIv.put w20 (show (-2147483648) ≤ (zI M 155 2).toInt ∧ (zI M 155 2).toInt ≤ 2147483647 from zrg (zI M 155 2))
      refine zs_putI (pc := 2) t34_2 (zk1 (hs.k fk_zMc_155)) rfl ?_
      refine zs_iconst (pc := 5) t34_5 (v := 0) (by decide) ?_
      refine zs_iret (pc := 6) t34_6 mr34 (by decide) ?_
      show zGo X l 5 0 0 28 37 [(5, .int (0 : Int32)), (4, .int (zpt M)), (3, .int (zI M 155 2)), (0, .ref 157), (1, .ref 155), (2, .ref 19)] [.int (0 : Int32)] (zsI (zsI M 155 2 w19v) 155 3 (zI M 155 2)) _
      have w549 : (zI (zsI (zsI M 155 2 w19v) 155 3 (zI M 155 2)) 155 2).toInt = ((zI M 155 2).toInt + 1) := (congrArg Int32.toInt ((zIoj (by decide)).trans zIs)).trans w19
      exact zs_iret (pc := 37) t28_37 mr28 (by decide) (hQ _ _ hs w548 (((zFr.refl).put rfl).put rfl) (fun p hp => by obtain rfl : w11n = p := (by omega); exact Or.inl ⟨by decide, pIt.no (by omega)⟩) (by decide) (by decide))
    by_cases w550 : (g w11n) = 119
    · refine zs_tswI (pc := 1) t32_1 ((w12 : (zpt M).toInt = (g w11n)).trans w550) (by decide) rfl (pc2 := 86) rfl ?_
      refine zs_iconst (pc := 86) t32_86 (v := 2) (by decide) ?_
      refine zs_iret (pc := 87) t32_87 mr32 (by decide) ?_
      show zGo X l 5 0 0 28 16 [(4, .int (zpt M)), (3, .int (zI M 155 2)), (0, .ref 157), (1, .ref 155), (2, .ref 19)] [.int (2 : Int32)] (zsI M 155 2 w19v) _
      refine zs_istore (pc := 16) t28_16 (ls' := [(5, .int (2 : Int32)), (4, .int (zpt M)), (3, .int (zI M 155 2)), (0, .ref 157), (1, .ref 155), (2, .ref 19)]) (zml mf28 (by decide)) rfl ?_
      refine zs_iload (pc := 18) t28_18 rfl ?_
      refine zs_if_eqF (pc := 20) t28_20 li2 (by decide) ?_
      refine zs_iload (pc := 23) t28_23 rfl ?_
      refine zs_aload_n (pc := 25) t28_25 rfl ?_
      refine zs_invS (pc := 26) (as := [.int (zpt M), .ref 19]) (st := []) t28_26 (by decide) mf33 rfl rfl ⟨by decide, by decide, Nat.le_of_ble_eq_true rfl, Nat.le_of_ble_eq_true rfl⟩ (zs_in (by decide) mf33 (Nat.le_of_ble_eq_true rfl) ?_) (fun _ _ q => q)
      show zGo X l 0 0 0 33 0 [(0, .int (zpt M)), (1, .ref 19)] [] (zsI M 155 2 w19v) _
      refine zs_iload_n (pc := 0) t33_0 rfl ?_
      refine zs_lsw (pc := 1) t33_1 (off := 80) w12 (by unfold zlsel; repeat (first | rfl | (rw [if_neg (by omega)]; unfold zlsel))) (pc2 := 81) rfl ?_
      refine zs_iconst (pc := 81) t33_81 (v := 0) (by decide) ?_
      refine zs_iret (pc := 82) t33_82 mr33 (by decide) ?_
      show zGo X l 5 0 0 28 29 [(5, .int (2 : Int32)), (4, .int (zpt M)), (3, .int (zI M 155 2)), (0, .ref 157), (1, .ref 155), (2, .ref 19)] [.int (0 : Int32)] (zsI M 155 2 w19v) _
      refine zs_if_eqT (pc := 29) t28_29 li0 (by decide) ?_
      refine zs_iconst (pc := 38) t28_38 (v := 0) (by decide) ?_
      refine zs_istore (pc := 39) t28_39 (ls' := [(6, .int (0 : Int32)), (5, .int (2 : Int32)), (4, .int (zpt M)), (3, .int (zI M 155 2)), (0, .ref 157), (1, .ref 155), (2, .ref 19)]) (zml mf28 (by decide)) rfl ?_
      refine zs_iload (pc := 41) t28_41 rfl ?_
      refine zs_iload (pc := 43) t28_43 rfl ?_
      refine zs_icmp_geF (pc := 45) t28_45 li0 li2 (by decide) ?_
      refine zs_aload_n (pc := 48) t28_48 rfl ?_
      have w551 : (zI (zsI M 155 2 w19v) 155 2).toInt = ((zI M 155 2).toInt + 1) := (congrArg Int32.toInt zIs).trans w19
      have w552 : (zI (zsI M 155 2 w19v) 155 2).toInt = ((zI M 155 2).toInt + 1) := (congrArg Int32.toInt zIs).trans w19
      have w553 : (zI (zsI M 155 2 w19v) 155 1).toInt = (zI M 155 1).toInt := (congrArg Int32.toInt ((zIoj (by decide)).trans rfl)).trans rfl
      refine zs_invV (pc := 49) (k := 155) (as' := []) (st := []) t28_49 mf35 rfl rfl (Or.inl ⟨by decide, (zk1 (hs.k fk_zMc_155))⟩) ⟨by decide, by decide, Nat.le_of_ble_eq_true rfl, Nat.le_of_ble_eq_true rfl⟩ (X35_155 hs w20 (by omega) (by omega) (zTa.fr x1 (zEq.put rfl)) ?_) (fun _ _ q => q)
      intro w554M w554v w554s w554I w554F w554x0 w554a w554b
      show zGo X l 5 0 0 28 52 [(6, .int (0 : Int32)), (5, .int (2 : Int32)), (4, .int (zpt M)), (3, .int (zI M 155 2)), (0, .ref 157), (1, .ref 155), (2, .ref 19)] [.int w554v] w554M _
      rcases w554x0 (w11n + 1) (by omega) with ⟨w555v, w555e⟩ | ⟨w555v, w555E, w555x, w555e, w555_3, w555_4, w555_5, w555_6, w555_7, w555_8⟩
      · skip
        refine zs_if_neF (pc := 52) t28_52 rfl (by omega) ?_
        refine zs_iconst (pc := 55) t28_55 (v := 0) (by decide) ?_
        have w556 := zrg (zI w554M 155 2)
        have w557 : (zI w554M 155 2).toInt = (zI w554M 155 2).toInt := (congrArg Int32.toInt rfl).trans rfl
        exact zs_iret (pc := 56) t28_56 mr28 (by decide) (hQ _ _ w554s w554I (((zFr.refl).put rfl).trans (w554F.mono rfl)) (fun p hp => by obtain rfl : w11n = p := (by omega); exact Or.inl ⟨by decide, (pIt.w (by omega)).trans (pB.f (pRd.f w555e))⟩) (by decide) (by decide))
      · skip
        subst w555_4
        refine zs_if_neT (pc := 52) t28_52 rfl (by omega) ?_
        refine zs_aload_n (pc := 57) t28_57 rfl ?_
        refine zs_iload (pc := 58) t28_58 rfl ?_
        refine zs_iload (pc := 60) t28_60 rfl ?_
        refine zs_aload_n (pc := 62) t28_62 rfl ?_
        refine zs_invV (pc := 63) (k := 155) (as' := []) (st := [.int (0 : Int32), .int (zpt M), .ref 157]) t28_63 mf37 rfl rfl (Or.inl ⟨by decide, (zk1 (w554s.k fk_zMc_155))⟩) ⟨by decide, by decide, Nat.le_of_ble_eq_true rfl, Nat.le_of_ble_eq_true rfl⟩ (zs_in (by decide) mf37 (Nat.le_of_ble_eq_true rfl) ?_) (fun _ _ q => q)
        show zGo X l 0 0 0 37 0 [(0, .ref 155)] [] w554M _
        refine zs_aload_n (pc := 0) t37_0 rfl ?_
        have w558 := ib155_4 w554I
        refine zs_get (pc := 1) t37_1 (by decide) (zk1 (w554s.k fk_zMc_155)) (zfvi rfl rfl) ?_
        refine zs_iret (pc := 4) t37_4 mr37 rfl ?_
        show zGo X l 5 0 0 28 66 [(6, .int (0 : Int32)), (5, .int (2 : Int32)), (4, .int (zpt M)), (3, .int (zI M 155 2)), (0, .ref 157), (1, .ref 155), (2, .ref 19)] [.int (zI w554M 155 4), .int (0 : Int32), .int (zpt M), .ref 157] w554M _
        refine zs_aload_n (pc := 66) t28_66 rfl ?_
        refine zs_invV (pc := 67) (k := 157) (as' := [.int (zpt M), .int (0 : Int32), .int (zI w554M 155 4), .ref 19]) (st := []) t28_67 mf38 rfl rfl (Or.inl ⟨by decide, (zk1 (w554s.k fk_zMc_157))⟩) ⟨by decide, by decide, Nat.le_of_ble_eq_true rfl, Nat.le_of_ble_eq_true rfl⟩ (zs_in (by decide) mf38 (Nat.le_of_ble_eq_true rfl) ?_) (fun _ _ q => q)
        show zGo X l 2 0 0 38 0 [(0, .ref 157), (1, .int (zpt M)), (2, .int (0 : Int32)), (3, .int (zI w554M 155 4)), (4, .ref 19)] [] w554M _
        refine zs_iload_n (pc := 0) t38_0 rfl ?_
        refine zs_lsw (pc := 1) t38_1 (off := 92) ((w12 : (zpt M).toInt = (g w11n)).trans (by omega)) rfl (pc2 := 93) rfl ?_
        refine zs_iconst (pc := 93) t38_93 (v := 5) (by decide) ?_
        refine zs_iload_n (pc := 94) t38_94 rfl ?_
        refine zs_iadd (pc := 95) t38_95 (c := 5) (by decide) ?_
        refine zs_iload_n (pc := 96) t38_96 rfl ?_
        refine zs_invS (pc := 97) (as := [.int (5 : Int32), .int (zI w554M 155 4)]) (st := []) t38_97 (by decide) mf44 rfl rfl ⟨by decide, by decide, Nat.le_of_ble_eq_true rfl, Nat.le_of_ble_eq_true rfl⟩ (zs_in (by decide) mf44 (Nat.le_of_ble_eq_true rfl) ?_) (fun _ _ q => q)
        show zGo X l 1 0 0 44 0 [(0, .int (5 : Int32)), (1, .int (zI w554M 155 4))] [] w554M _
        refine zs_iload_n (pc := 0) t44_0 rfl ?_
        refine zs_if_ltF (pc := 1) t44_1 li5 (by decide) ?_
        refine zs_iload_n (pc := 4) t44_4 rfl ?_
        refine zs_bipush (pc := 5) t44_5 (v := 9) (by decide) ?_
        refine zs_icmp_geF (pc := 7) t44_7 li5 li9 (by decide) ?_
        refine zs_iload_n (pc := 10) t44_10 rfl ?_
        refine zs_getstatic (pc := 11) t44_11 (v := .ref 2) rfl ?_
        refine zs_iload_n (pc := 14) t44_14 rfl ?_
        have w559 := zrg (zI M 2 5)
        have w560 : (zI M 2 5).toInt = 0 := by rw [x6 2 5 (by decide)]; decide
        refine zs_iald (pc := 15) t44_15 (j := 5) (by decide) (zk1 (w554s.k fk_zMc_2)) li5 (zk2 (w554s.k fk_zMc_2) (by decide)) ((w554F 2 5 rfl).trans ((zIo (by decide)).trans rfl)) ?_
        refine zs_getstatic (pc := 16) t44_16 (v := .ref 3) rfl ?_
        refine zs_iload_n (pc := 19) t44_19 rfl ?_
        have w561 := zrg (zI M 3 5)
        have w562 : (zI M 3 5).toInt = 999 := by rw [x6 3 5 (by decide)]; decide
        refine zs_iald (pc := 20) t44_20 (j := 5) (by decide) (zk1 (w554s.k fk_zMc_3)) li5 (zk2 (w554s.k fk_zMc_3) (by decide)) ((w554F 3 5 rfl).trans ((zIo (by decide)).trans rfl)) ?_
        refine zs_invS (pc := 21) (as := [.int (zI w554M 155 4), .int (zI M 2 5), .int (zI M 3 5)]) (st := []) t44_21 (by decide) mf39 rfl rfl ⟨by decide, by decide, Nat.le_of_ble_eq_true rfl, Nat.le_of_ble_eq_true rfl⟩ (zs_in (by decide) mf39 (Nat.le_of_ble_eq_true rfl) ?_) (fun _ _ q => q)
        show zGo X l 0 0 0 39 0 [(0, .int (zI w554M 155 4)), (1, .int (zI M 2 5)), (2, .int (zI M 3 5))] [] w554M _
        refine zs_iload_n (pc := 0) t39_0 rfl ?_
        refine zs_iload_n (pc := 1) t39_1 rfl ?_
        by_cases w563 : (zI w554M 155 4).toInt < (zI M 2 5).toInt
        · refine zs_icmp_ltT (pc := 2) t39_2 rfl rfl (by omega) ?_
          refine zs_iconst (pc := 14) t39_14 (v := 0) (by decide) ?_
          refine zs_iret (pc := 15) t39_15 mr39 (by decide) ?_
          show zGo X l 1 0 0 44 24 [(0, .int (5 : Int32)), (1, .int (zI w554M 155 4))] [.int (0 : Int32)] w554M _
          refine zs_if_eqT (pc := 24) t44_24 li0 (by decide) ?_
          refine zs_iconst (pc := 31) t44_31 (v := 0) (by decide) ?_
          refine zs_iret (pc := 32) t44_32 mr44 (by decide) ?_
          show zGo X l 2 0 0 38 100 [(0, .ref 157), (1, .int (zpt M)), (2, .int (0 : Int32)), (3, .int (zI w554M 155 4)), (4, .ref 19)] [.int (0 : Int32)] w554M _
          refine zs_if_eqT (pc := 100) t38_100 li0 (by decide) ?_
          refine zs_iconst (pc := 121) t38_121 (v := 0) (by decide) ?_
          refine zs_iret (pc := 122) t38_122 mr38 (by decide) ?_
          show zGo X l 5 0 0 28 70 [(6, .int (0 : Int32)), (5, .int (2 : Int32)), (4, .int (zpt M)), (3, .int (zI M 155 2)), (0, .ref 157), (1, .ref 155), (2, .ref 19)] [.int (0 : Int32)] w554M _
          refine zs_if_neF (pc := 70) t28_70 li0 (by decide) ?_
          refine zs_aload_n (pc := 73) t28_73 rfl ?_
          refine zs_aload_n (pc := 74) t28_74 rfl ?_
          refine zs_invV (pc := 75) (k := 155) (as' := []) (st := [.ref 155]) t28_75 mf46 rfl rfl (Or.inl ⟨by decide, (zk1 (w554s.k fk_zMc_155))⟩) ⟨by decide, by decide, Nat.le_of_ble_eq_true rfl, Nat.le_of_ble_eq_true rfl⟩ (zs_in (by decide) mf46 (Nat.le_of_ble_eq_true rfl) ?_) (fun _ _ q => q)
          show zGo X l 0 0 0 46 0 [(0, .ref 155)] [] w554M _
          refine zs_aload_n (pc := 0) t46_0 rfl ?_
          have w564 := zrg (zI w554M 155 5)
          refine zs_get (pc := 1) t46_1 (by decide) (zk1 (w554s.k fk_zMc_155)) (zfvi rfl rfl) ?_
          refine zs_iret (pc := 4) t46_4 mr46 rfl ?_
          show zGo X l 5 0 0 28 78 [(6, .int (0 : Int32)), (5, .int (2 : Int32)), (4, .int (zpt M)), (3, .int (zI M 155 2)), (0, .ref 157), (1, .ref 155), (2, .ref 19)] [.int (zI w554M 155 5), .ref 155] w554M _
          refine zs_invV (pc := 78) (k := 155) (as' := [.int (zI w554M 155 5)]) (st := []) t28_78 mf34 rfl rfl (Or.inl ⟨by decide, (zk1 (w554s.k fk_zMc_155))⟩) ⟨by decide, by decide, Nat.le_of_ble_eq_true rfl, Nat.le_of_ble_eq_true rfl⟩ (zs_in (by decide) mf34 (Nat.le_of_ble_eq_true rfl) ?_) (fun _ _ q => q)
          show zGo X l 0 0 0 34 0 [(0, .ref 155), (1, .int (zI w554M 155 5))] [] w554M _
          refine zs_aload_n (pc := 0) t34_0 rfl ?_
          refine zs_iload_n (pc := 1) t34_1 rfl ?_
          have w565 : zIv cLo cHi (zsI w554M 155 3 (zI w554M 155 5)) := zIv.put w554I (show (-2147483648) ≤ (zI w554M 155 5).toInt ∧ (zI w554M 155 5).toInt ≤ 2147483647 from zrg (zI w554M 155 5))
          refine zs_putI (pc := 2) t34_2 (zk1 (w554s.k fk_zMc_155)) rfl ?_
          refine zs_iconst (pc := 5) t34_5 (v := 0) (by decide) ?_
          refine zs_iret (pc := 6) t34_6 mr34 (by decide) ?_
          show zGo X l 5 0 0 28 81 [(6, .int (0 : Int32)), (5, .int (2 : Int32)), (4, .int (zpt M)), (3, .int (zI M 155 2)), (0, .ref 157), (1, .ref 155), (2, .ref 19)] [.int (0 : Int32)] (zsI w554M 155 3 (zI w554M 155 5)) _
          have w566 := zrg (zI w554M 155 2)
          have w567 : (zI (zsI w554M 155 3 (zI w554M 155 5)) 155 2).toInt = (zI w554M 155 2).toInt := (congrArg Int32.toInt ((zIoj (by decide)).trans rfl)).trans rfl
          exact zs_iret (pc := 81) t28_81 mr28 (by decide) (hQ _ _ w554s w565 ((((zFr.refl).put rfl).trans (w554F.mono rfl)).put rfl) (fun p hp => by obtain rfl : w11n = p := (by omega); exact Or.inl ⟨by decide, (pIt.w (by omega)).trans (pB.f (pRd.n w555e (by omega)))⟩) (by decide) (by decide))
        · refine zs_icmp_ltF (pc := 2) t39_2 rfl rfl (by omega) ?_
          refine zs_iload_n (pc := 5) t39_5 rfl ?_
          refine zs_iload_n (pc := 6) t39_6 rfl ?_
          by_cases w568 : (zI M 3 5).toInt < (zI w554M 155 4).toInt
          · refine zs_icmp_gtT (pc := 7) t39_7 rfl rfl (by omega) ?_
            refine zs_iconst (pc := 14) t39_14 (v := 0) (by decide) ?_
            refine zs_iret (pc := 15) t39_15 mr39 (by decide) ?_
            show zGo X l 1 0 0 44 24 [(0, .int (5 : Int32)), (1, .int (zI w554M 155 4))] [.int (0 : Int32)] w554M _
            refine zs_if_eqT (pc := 24) t44_24 li0 (by decide) ?_
            refine zs_iconst (pc := 31) t44_31 (v := 0) (by decide) ?_
            refine zs_iret (pc := 32) t44_32 mr44 (by decide) ?_
            show zGo X l 2 0 0 38 100 [(0, .ref 157), (1, .int (zpt M)), (2, .int (0 : Int32)), (3, .int (zI w554M 155 4)), (4, .ref 19)] [.int (0 : Int32)] w554M _
            refine zs_if_eqT (pc := 100) t38_100 li0 (by decide) ?_
            refine zs_iconst (pc := 121) t38_121 (v := 0) (by decide) ?_
            refine zs_iret (pc := 122) t38_122 mr38 (by decide) ?_
            show zGo X l 5 0 0 28 70 [(6, .int (0 : Int32)), (5, .int (2 : Int32)), (4, .int (zpt M)), (3, .int (zI M 155 2)), (0, .ref 157), (1, .ref 155), (2, .ref 19)] [.int (0 : Int32)] w554M _
            refine zs_if_neF (pc := 70) t28_70 li0 (by decide) ?_
            refine zs_aload_n (pc := 73) t28_73 rfl ?_
            refine zs_aload_n (pc := 74) t28_74 rfl ?_
            refine zs_invV (pc := 75) (k := 155) (as' := []) (st := [.ref 155]) t28_75 mf46 rfl rfl (Or.inl ⟨by decide, (zk1 (w554s.k fk_zMc_155))⟩) ⟨by decide, by decide, Nat.le_of_ble_eq_true rfl, Nat.le_of_ble_eq_true rfl⟩ (zs_in (by decide) mf46 (Nat.le_of_ble_eq_true rfl) ?_) (fun _ _ q => q)
            show zGo X l 0 0 0 46 0 [(0, .ref 155)] [] w554M _
            refine zs_aload_n (pc := 0) t46_0 rfl ?_
            have w569 := zrg (zI w554M 155 5)
            refine zs_get (pc := 1) t46_1 (by decide) (zk1 (w554s.k fk_zMc_155)) (zfvi rfl rfl) ?_
            refine zs_iret (pc := 4) t46_4 mr46 rfl ?_
            show zGo X l 5 0 0 28 78 [(6, .int (0 : Int32)), (5, .int (2 : Int32)), (4, .int (zpt M)), (3, .int (zI M 155 2)), (0, .ref 157), (1, .ref 155), (2, .ref 19)] [.int (zI w554M 155 5), .ref 155] w554M _
            refine zs_invV (pc := 78) (k := 155) (as' := [.int (zI w554M 155 5)]) (st := []) t28_78 mf34 rfl rfl (Or.inl ⟨by decide, (zk1 (w554s.k fk_zMc_155))⟩) ⟨by decide, by decide, Nat.le_of_ble_eq_true rfl, Nat.le_of_ble_eq_true rfl⟩ (zs_in (by decide) mf34 (Nat.le_of_ble_eq_true rfl) ?_) (fun _ _ q => q)
            show zGo X l 0 0 0 34 0 [(0, .ref 155), (1, .int (zI w554M 155 5))] [] w554M _
            refine zs_aload_n (pc := 0) t34_0 rfl ?_
            refine zs_iload_n (pc := 1) t34_1 rfl ?_
            have w570 : zIv cLo cHi (zsI w554M 155 3 (zI w554M 155 5)) := zIv.put w554I (show (-2147483648) ≤ (zI w554M 155 5).toInt ∧ (zI w554M 155 5).toInt ≤ 2147483647 from zrg (zI w554M 155 5))
            refine zs_putI (pc := 2) t34_2 (zk1 (w554s.k fk_zMc_155)) rfl ?_
            refine zs_iconst (pc := 5) t34_5 (v := 0) (by decide) ?_
            refine zs_iret (pc := 6) t34_6 mr34 (by decide) ?_
            show zGo X l 5 0 0 28 81 [(6, .int (0 : Int32)), (5, .int (2 : Int32)), (4, .int (zpt M)), (3, .int (zI M 155 2)), (0, .ref 157), (1, .ref 155), (2, .ref 19)] [.int (0 : Int32)] (zsI w554M 155 3 (zI w554M 155 5)) _
            have w571 := zrg (zI w554M 155 2)
            have w572 : (zI (zsI w554M 155 3 (zI w554M 155 5)) 155 2).toInt = (zI w554M 155 2).toInt := (congrArg Int32.toInt ((zIoj (by decide)).trans rfl)).trans rfl
            exact zs_iret (pc := 81) t28_81 mr28 (by decide) (hQ _ _ w554s w570 ((((zFr.refl).put rfl).trans (w554F.mono rfl)).put rfl) (fun p hp => by obtain rfl : w11n = p := (by omega); exact Or.inl ⟨by decide, (pIt.w (by omega)).trans (pB.f (pRd.n w555e (by omega)))⟩) (by decide) (by decide))
          · refine zs_icmp_gtF (pc := 7) t39_7 rfl rfl (by omega) ?_
            refine zs_iconst (pc := 10) t39_10 (v := 1) (by decide) ?_
            refine zs_goto (pc := 11) t39_11 ?_
            refine zs_iret (pc := 15) t39_15 mr39 (by decide) ?_
            show zGo X l 1 0 0 44 24 [(0, .int (5 : Int32)), (1, .int (zI w554M 155 4))] [.int (1 : Int32)] w554M _
            refine zs_if_eqF (pc := 24) t44_24 li1 (by decide) ?_
            refine zs_iconst (pc := 27) t44_27 (v := 1) (by decide) ?_
            refine zs_goto (pc := 28) t44_28 ?_
            refine zs_iret (pc := 32) t44_32 mr44 (by decide) ?_
            show zGo X l 2 0 0 38 100 [(0, .ref 157), (1, .int (zpt M)), (2, .int (0 : Int32)), (3, .int (zI w554M 155 4)), (4, .ref 19)] [.int (1 : Int32)] w554M _
            refine zs_if_eqF (pc := 100) t38_100 li1 (by decide) ?_
            refine zs_iload_n (pc := 103) t38_103 rfl ?_
            refine zs_if_eqT (pc := 104) t38_104 li0 (by decide) ?_
            refine zs_iconst (pc := 117) t38_117 (v := 1) (by decide) ?_
            refine zs_goto (pc := 118) t38_118 ?_
            refine zs_iret (pc := 122) t38_122 mr38 (by decide) ?_
            show zGo X l 5 0 0 28 70 [(6, .int (0 : Int32)), (5, .int (2 : Int32)), (4, .int (zpt M)), (3, .int (zI M 155 2)), (0, .ref 157), (1, .ref 155), (2, .ref 19)] [.int (1 : Int32)] w554M _
            refine zs_if_neT (pc := 70) t28_70 li1 (by decide) ?_
            refine zs_aload_n (pc := 82) t28_82 rfl ?_
            refine zs_get (pc := 83) t28_83 (by decide) (zk1 (w554s.k fk_zMc_157)) (w554s.p rfl fv_zMc_157_0) ?_
            refine zs_iload (pc := 86) t28_86 rfl ?_
            refine zs_aload_n (pc := 88) t28_88 rfl ?_
            refine zs_invV (pc := 89) (k := 155) (as' := []) (st := [.int (0 : Int32), .ref 158]) t28_89 mf37 rfl rfl (Or.inl ⟨by decide, (zk1 (w554s.k fk_zMc_155))⟩) ⟨by decide, by decide, Nat.le_of_ble_eq_true rfl, Nat.le_of_ble_eq_true rfl⟩ (zs_in (by decide) mf37 (Nat.le_of_ble_eq_true rfl) ?_) (fun _ _ q => q)
            show zGo X l 0 0 0 37 0 [(0, .ref 155)] [] w554M _
            refine zs_aload_n (pc := 0) t37_0 rfl ?_
            refine zs_get (pc := 1) t37_1 (by decide) (zk1 (w554s.k fk_zMc_155)) (zfvi rfl rfl) ?_
            refine zs_iret (pc := 4) t37_4 mr37 rfl ?_
            show zGo X l 5 0 0 28 92 [(6, .int (0 : Int32)), (5, .int (2 : Int32)), (4, .int (zpt M)), (3, .int (zI M 155 2)), (0, .ref 157), (1, .ref 155), (2, .ref 19)] [.int (zI w554M 155 4), .int (0 : Int32), .ref 158] w554M _
            have w573 : zIv cLo cHi (zsI w554M 158 0 (zI w554M 155 4)) := zIv.put w554I (show (-300000) ≤ (zI w554M 155 4).toInt ∧ (zI w554M 155 4).toInt ≤ 300000 from ⟨by omega, by omega⟩)
            refine zs_iast (pc := 92) t28_92 (j := 0) (by decide) (zk1 (w554s.k fk_zMc_158)) li0 (zk2 (w554s.k fk_zMc_158) (by decide)) ?_
            refine zs_aload_n (pc := 93) t28_93 rfl ?_
            refine zs_iload (pc := 94) t28_94 rfl ?_
            refine zs_iconst (pc := 96) t28_96 (v := 1) (by decide) ?_
            refine zs_iadd (pc := 97) t28_97 (c := 1) (by decide) ?_
            refine zs_iload (pc := 98) t28_98 rfl ?_
            refine zs_icmp_geF (pc := 100) t28_100 li1 li2 (by decide) ?_
            refine zs_bipush (pc := 103) t28_103 (v := 44) (by decide) ?_
            refine zs_goto (pc := 105) t28_105 ?_
            refine zs_invV (pc := 110) (k := 155) (as' := [.int (44 : Int32)]) (st := []) t28_110 mf47 rfl rfl (Or.inl ⟨by decide, (zk1 (w554s.k fk_zMc_155))⟩) ⟨by decide, by decide, Nat.le_of_ble_eq_true rfl, Nat.le_of_ble_eq_true rfl⟩ (zs_in (by decide) mf47 (Nat.le_of_ble_eq_true rfl) ?_) (fun _ _ q => q)
            show zGo X l 1 0 0 47 0 [(0, .ref 155), (1, .int (44 : Int32))] [] (zsI w554M 158 0 (zI w554M 155 4)) _
            refine zs_aload_n (pc := 0) t47_0 rfl ?_
            refine zs_invV (pc := 1) (k := 155) (as' := []) (st := []) t47_1 mf31 rfl rfl (Or.inl ⟨by decide, (zk1 (w554s.k fk_zMc_155))⟩) ⟨by decide, by decide, Nat.le_of_ble_eq_true rfl, Nat.le_of_ble_eq_true rfl⟩ (P31 w554s w573 ?_) (fun _ _ q => q)
            have w575 := zrg (zI w554M 155 2)
            have w576 : (zI (zsI w554M 158 0 (zI w554M 155 4)) 155 2).toInt = (zI w554M 155 2).toInt := (congrArg Int32.toInt ((zIo (by decide)).trans rfl)).trans rfl
            have w577 : (zI (zsI w554M 158 0 (zI w554M 155 4)) 155 1).toInt = (zI M 155 1).toInt := (congrArg Int32.toInt ((zIo (by decide)).trans ((w554F 155 1 rfl).trans ((zIoj (by decide)).trans rfl)))).trans rfl
            have w574 : (zpt (zsI w554M 158 0 (zI w554M 155 4))).toInt = g w555E := zpt.tr (zTa.fr x1 (zEq.tr (zEq.tr (zEq.put rfl) (zFr.eq w554F rfl)) (zEq.put rfl))) (by omega)
            have w578 := zTa.rg (M := (zsI w554M 158 0 (zI w554M 155 4))) (zTa.fr x1 (zEq.tr (zEq.tr (zEq.put rfl) (zFr.eq w554F rfl)) (zEq.put rfl))) w555E
            show zGo X l 1 0 0 47 4 [(0, .ref 155), (1, .int (44 : Int32))] [.int (zpt (zsI w554M 158 0 (zI w554M 155 4)))] (zsI w554M 158 0 (zI w554M 155 4)) _
            refine zs_iload_n (pc := 4) t47_4 rfl ?_
            by_cases w579 : (g w555E) = 44
            · refine zs_icmp_eqT (pc := 5) t47_5 w574 li44 (by omega) ?_
              refine zs_aload_n (pc := 17) t47_17 rfl ?_
              refine zs_dup (pc := 18) t47_18 rfl ?_
              refine zs_get (pc := 19) t47_19 (by decide) (zk1 (w554s.k fk_zMc_155)) (zfvi rfl ((zIo (by decide)).trans rfl)) ?_
              refine zs_iconst (pc := 22) t47_22 (v := 1) (by decide) ?_
              obtain ⟨w580v, w580e, w580⟩ := ziadd (a := (zI w554M 155 2)) (b := (1 : Int32)) rfl li1 (by omega) (by omega)
              refine zs_iadd (pc := 23) t47_23 (c := w580v) w580e ?_
              have w581 : zIv cLo cHi (zsI (zsI w554M 158 0 (zI w554M 155 4)) 155 2 w580v) := zIv.put w573 (show (-2147483648) ≤ w580v.toInt ∧ w580v.toInt ≤ 2147483647 from zrg w580v)
              refine zs_putI (pc := 24) t47_24 (zk1 (w554s.k fk_zMc_155)) rfl ?_
              refine zs_iconst (pc := 27) t47_27 (v := 1) (by decide) ?_
              refine zs_iret (pc := 28) t47_28 mr47 (by decide) ?_
              show zGo X l 5 0 0 28 113 [(6, .int (0 : Int32)), (5, .int (2 : Int32)), (4, .int (zpt M)), (3, .int (zI M 155 2)), (0, .ref 157), (1, .ref 155), (2, .ref 19)] [.int (1 : Int32)] (zsI (zsI w554M 158 0 (zI w554M 155 4)) 155 2 w580v) _
              refine zs_if_neT (pc := 113) t28_113 li1 (by decide) ?_
              refine zs_iinc (pc := 118) t28_118 (ls' := [(6, .int (1 : Int32)), (5, .int (2 : Int32)), (4, .int (zpt M)), (3, .int (zI M 155 2)), (0, .ref 157), (1, .ref 155), (2, .ref 19)]) (zml mf28 (by decide)) rfl (c := 1) (by decide) rfl ?_
              refine zs_goto (pc := 121) t28_121 ?_
              refine zs_iload (pc := 41) t28_41 rfl ?_
              refine zs_iload (pc := 43) t28_43 rfl ?_
              refine zs_icmp_geF (pc := 45) t28_45 li1 li2 (by decide) ?_
              refine zs_aload_n (pc := 48) t28_48 rfl ?_
              have w582 : (zI (zsI (zsI w554M 158 0 (zI w554M 155 4)) 155 2 w580v) 155 2).toInt = ((zI w554M 155 2).toInt + 1) := (congrArg Int32.toInt zIs).trans w580
              have w583 : (zI (zsI (zsI w554M 158 0 (zI w554M 155 4)) 155 2 w580v) 155 2).toInt = ((zI w554M 155 2).toInt + 1) := (congrArg Int32.toInt zIs).trans w580
              have w584 : (zI (zsI (zsI w554M 158 0 (zI w554M 155 4)) 155 2 w580v) 155 1).toInt = (zI M 155 1).toInt := (congrArg Int32.toInt ((zIoj (by decide)).trans ((zIo (by decide)).trans ((w554F 155 1 rfl).trans ((zIoj (by decide)).trans rfl))))).trans rfl
              refine zs_invV (pc := 49) (k := 155) (as' := []) (st := []) t28_49 mf35 rfl rfl (Or.inl ⟨by decide, (zk1 (w554s.k fk_zMc_155))⟩) ⟨by decide, by decide, Nat.le_of_ble_eq_true rfl, Nat.le_of_ble_eq_true rfl⟩ (X35_155 w554s w581 (by omega) (by omega) (zTa.fr x1 (zEq.tr (zEq.tr (zEq.tr (zEq.put rfl) (zFr.eq w554F rfl)) (zEq.put rfl)) (zEq.put rfl))) ?_) (fun _ _ q => q)
              intro w585M w585v w585s w585I w585F w585x0 w585a w585b
              show zGo X l 5 0 0 28 52 [(6, .int (1 : Int32)), (5, .int (2 : Int32)), (4, .int (zpt M)), (3, .int (zI M 155 2)), (0, .ref 157), (1, .ref 155), (2, .ref 19)] [.int w585v] w585M _
              rcases w585x0 (w555E + 1) (by omega) with ⟨w586v, w586e⟩ | ⟨w586v, w586E, w586x, w586e, w586_3, w586_4, w586_5, w586_6, w586_7, w586_8⟩
              · skip
                refine zs_if_neF (pc := 52) t28_52 rfl (by omega) ?_
                refine zs_iconst (pc := 55) t28_55 (v := 0) (by decide) ?_
                have w587 := zrg (zI w585M 155 2)
                have w588 : (zI w585M 155 2).toInt = (zI w585M 155 2).toInt := (congrArg Int32.toInt rfl).trans rfl
                exact zs_iret (pc := 56) t28_56 mr28 (by decide) (hQ _ _ w585s w585I ((((((zFr.refl).put rfl).trans (w554F.mono rfl)).put rfl).put rfl).trans (w585F.mono rfl)) (fun p hp => by obtain rfl : w11n = p := (by omega); exact Or.inl ⟨by decide, ((pIt.w (by omega)).trans (pB.y (pRd.y w555e (by omega) (by omega) (by omega)))).trans (pB.f (pRd.f w586e))⟩) (by decide) (by decide))
              · skip
                subst w586_4
                refine zs_if_neT (pc := 52) t28_52 rfl (by omega) ?_
                refine zs_aload_n (pc := 57) t28_57 rfl ?_
                refine zs_iload (pc := 58) t28_58 rfl ?_
                refine zs_iload (pc := 60) t28_60 rfl ?_
                refine zs_aload_n (pc := 62) t28_62 rfl ?_
                refine zs_invV (pc := 63) (k := 155) (as' := []) (st := [.int (1 : Int32), .int (zpt M), .ref 157]) t28_63 mf37 rfl rfl (Or.inl ⟨by decide, (zk1 (w585s.k fk_zMc_155))⟩) ⟨by decide, by decide, Nat.le_of_ble_eq_true rfl, Nat.le_of_ble_eq_true rfl⟩ (zs_in (by decide) mf37 (Nat.le_of_ble_eq_true rfl) ?_) (fun _ _ q => q)
                show zGo X l 0 0 0 37 0 [(0, .ref 155)] [] w585M _
                refine zs_aload_n (pc := 0) t37_0 rfl ?_
                have w589 := ib155_4 w585I
                refine zs_get (pc := 1) t37_1 (by decide) (zk1 (w585s.k fk_zMc_155)) (zfvi rfl rfl) ?_
                refine zs_iret (pc := 4) t37_4 mr37 rfl ?_
                show zGo X l 5 0 0 28 66 [(6, .int (1 : Int32)), (5, .int (2 : Int32)), (4, .int (zpt M)), (3, .int (zI M 155 2)), (0, .ref 157), (1, .ref 155), (2, .ref 19)] [.int (zI w585M 155 4), .int (1 : Int32), .int (zpt M), .ref 157] w585M _
                refine zs_aload_n (pc := 66) t28_66 rfl ?_
                refine zs_invV (pc := 67) (k := 157) (as' := [.int (zpt M), .int (1 : Int32), .int (zI w585M 155 4), .ref 19]) (st := []) t28_67 mf38 rfl rfl (Or.inl ⟨by decide, (zk1 (w585s.k fk_zMc_157))⟩) ⟨by decide, by decide, Nat.le_of_ble_eq_true rfl, Nat.le_of_ble_eq_true rfl⟩ (zs_in (by decide) mf38 (Nat.le_of_ble_eq_true rfl) ?_) (fun _ _ q => q)
                show zGo X l 2 0 0 38 0 [(0, .ref 157), (1, .int (zpt M)), (2, .int (1 : Int32)), (3, .int (zI w585M 155 4)), (4, .ref 19)] [] w585M _
                refine zs_iload_n (pc := 0) t38_0 rfl ?_
                refine zs_lsw (pc := 1) t38_1 (off := 92) ((w12 : (zpt M).toInt = (g w11n)).trans (by omega)) rfl (pc2 := 93) rfl ?_
                refine zs_iconst (pc := 93) t38_93 (v := 5) (by decide) ?_
                refine zs_iload_n (pc := 94) t38_94 rfl ?_
                refine zs_iadd (pc := 95) t38_95 (c := 6) (by decide) ?_
                refine zs_iload_n (pc := 96) t38_96 rfl ?_
                refine zs_invS (pc := 97) (as := [.int (6 : Int32), .int (zI w585M 155 4)]) (st := []) t38_97 (by decide) mf44 rfl rfl ⟨by decide, by decide, Nat.le_of_ble_eq_true rfl, Nat.le_of_ble_eq_true rfl⟩ (zs_in (by decide) mf44 (Nat.le_of_ble_eq_true rfl) ?_) (fun _ _ q => q)
                show zGo X l 1 0 0 44 0 [(0, .int (6 : Int32)), (1, .int (zI w585M 155 4))] [] w585M _
                refine zs_iload_n (pc := 0) t44_0 rfl ?_
                refine zs_if_ltF (pc := 1) t44_1 li6 (by decide) ?_
                refine zs_iload_n (pc := 4) t44_4 rfl ?_
                refine zs_bipush (pc := 5) t44_5 (v := 9) (by decide) ?_
                refine zs_icmp_geF (pc := 7) t44_7 li6 li9 (by decide) ?_
                refine zs_iload_n (pc := 10) t44_10 rfl ?_
                refine zs_getstatic (pc := 11) t44_11 (v := .ref 2) rfl ?_
                refine zs_iload_n (pc := 14) t44_14 rfl ?_
                have w590 := zrg (zI M 2 6)
                have w591 : (zI M 2 6).toInt = 0 := by rw [x6 2 6 (by decide)]; decide
                refine zs_iald (pc := 15) t44_15 (j := 6) (by decide) (zk1 (w585s.k fk_zMc_2)) li6 (zk2 (w585s.k fk_zMc_2) (by decide)) ((w585F 2 6 rfl).trans ((zIo (by decide)).trans ((zIo (by decide)).trans ((w554F 2 6 rfl).trans ((zIo (by decide)).trans rfl))))) ?_
                refine zs_getstatic (pc := 16) t44_16 (v := .ref 3) rfl ?_
                refine zs_iload_n (pc := 19) t44_19 rfl ?_
                have w592 := zrg (zI M 3 6)
                have w593 : (zI M 3 6).toInt = 999 := by rw [x6 3 6 (by decide)]; decide
                refine zs_iald (pc := 20) t44_20 (j := 6) (by decide) (zk1 (w585s.k fk_zMc_3)) li6 (zk2 (w585s.k fk_zMc_3) (by decide)) ((w585F 3 6 rfl).trans ((zIo (by decide)).trans ((zIo (by decide)).trans ((w554F 3 6 rfl).trans ((zIo (by decide)).trans rfl))))) ?_
                refine zs_invS (pc := 21) (as := [.int (zI w585M 155 4), .int (zI M 2 6), .int (zI M 3 6)]) (st := []) t44_21 (by decide) mf39 rfl rfl ⟨by decide, by decide, Nat.le_of_ble_eq_true rfl, Nat.le_of_ble_eq_true rfl⟩ (zs_in (by decide) mf39 (Nat.le_of_ble_eq_true rfl) ?_) (fun _ _ q => q)
                show zGo X l 0 0 0 39 0 [(0, .int (zI w585M 155 4)), (1, .int (zI M 2 6)), (2, .int (zI M 3 6))] [] w585M _
                refine zs_iload_n (pc := 0) t39_0 rfl ?_
                refine zs_iload_n (pc := 1) t39_1 rfl ?_
                by_cases w594 : (zI w585M 155 4).toInt < (zI M 2 6).toInt
                · refine zs_icmp_ltT (pc := 2) t39_2 rfl rfl (by omega) ?_
                  refine zs_iconst (pc := 14) t39_14 (v := 0) (by decide) ?_
                  refine zs_iret (pc := 15) t39_15 mr39 (by decide) ?_
                  show zGo X l 1 0 0 44 24 [(0, .int (6 : Int32)), (1, .int (zI w585M 155 4))] [.int (0 : Int32)] w585M _
                  refine zs_if_eqT (pc := 24) t44_24 li0 (by decide) ?_
                  refine zs_iconst (pc := 31) t44_31 (v := 0) (by decide) ?_
                  refine zs_iret (pc := 32) t44_32 mr44 (by decide) ?_
                  show zGo X l 2 0 0 38 100 [(0, .ref 157), (1, .int (zpt M)), (2, .int (1 : Int32)), (3, .int (zI w585M 155 4)), (4, .ref 19)] [.int (0 : Int32)] w585M _
                  refine zs_if_eqT (pc := 100) t38_100 li0 (by decide) ?_
                  refine zs_iconst (pc := 121) t38_121 (v := 0) (by decide) ?_
                  refine zs_iret (pc := 122) t38_122 mr38 (by decide) ?_
                  show zGo X l 5 0 0 28 70 [(6, .int (1 : Int32)), (5, .int (2 : Int32)), (4, .int (zpt M)), (3, .int (zI M 155 2)), (0, .ref 157), (1, .ref 155), (2, .ref 19)] [.int (0 : Int32)] w585M _
                  refine zs_if_neF (pc := 70) t28_70 li0 (by decide) ?_
                  refine zs_aload_n (pc := 73) t28_73 rfl ?_
                  refine zs_aload_n (pc := 74) t28_74 rfl ?_
                  refine zs_invV (pc := 75) (k := 155) (as' := []) (st := [.ref 155]) t28_75 mf46 rfl rfl (Or.inl ⟨by decide, (zk1 (w585s.k fk_zMc_155))⟩) ⟨by decide, by decide, Nat.le_of_ble_eq_true rfl, Nat.le_of_ble_eq_true rfl⟩ (zs_in (by decide) mf46 (Nat.le_of_ble_eq_true rfl) ?_) (fun _ _ q => q)
                  show zGo X l 0 0 0 46 0 [(0, .ref 155)] [] w585M _
                  refine zs_aload_n (pc := 0) t46_0 rfl ?_
                  have w595 := zrg (zI w585M 155 5)
                  refine zs_get (pc := 1) t46_1 (by decide) (zk1 (w585s.k fk_zMc_155)) (zfvi rfl rfl) ?_
                  refine zs_iret (pc := 4) t46_4 mr46 rfl ?_
                  show zGo X l 5 0 0 28 78 [(6, .int (1 : Int32)), (5, .int (2 : Int32)), (4, .int (zpt M)), (3, .int (zI M 155 2)), (0, .ref 157), (1, .ref 155), (2, .ref 19)] [.int (zI w585M 155 5), .ref 155] w585M _
                  refine zs_invV (pc := 78) (k := 155) (as' := [.int (zI w585M 155 5)]) (st := []) t28_78 mf34 rfl rfl (Or.inl ⟨by decide, (zk1 (w585s.k fk_zMc_155))⟩) ⟨by decide, by decide, Nat.le_of_ble_eq_true rfl, Nat.le_of_ble_eq_true rfl⟩ (zs_in (by decide) mf34 (Nat.le_of_ble_eq_true rfl) ?_) (fun _ _ q => q)
                  show zGo X l 0 0 0 34 0 [(0, .ref 155), (1, .int (zI w585M 155 5))] [] w585M _
                  refine zs_aload_n (pc := 0) t34_0 rfl ?_
                  refine zs_iload_n (pc := 1) t34_1 rfl ?_
                  have w596 : zIv cLo cHi (zsI w585M 155 3 (zI w585M 155 5)) := zIv.put w585I (show (-2147483648) ≤ (zI w585M 155 5).toInt ∧ (zI w585M 155 5).toInt ≤ 2147483647 from zrg (zI w585M 155 5))
                  refine zs_putI (pc := 2) t34_2 (zk1 (w585s.k fk_zMc_155)) rfl ?_
                  refine zs_iconst (pc := 5) t34_5 (v := 0) (by decide) ?_
                  refine zs_iret (pc := 6) t34_6 mr34 (by decide) ?_
                  show zGo X l 5 0 0 28 81 [(6, .int (1 : Int32)), (5, .int (2 : Int32)), (4, .int (zpt M)), (3, .int (zI M 155 2)), (0, .ref 157), (1, .ref 155), (2, .ref 19)] [.int (0 : Int32)] (zsI w585M 155 3 (zI w585M 155 5)) _
                  have w597 := zrg (zI w585M 155 2)
                  have w598 : (zI (zsI w585M 155 3 (zI w585M 155 5)) 155 2).toInt = (zI w585M 155 2).toInt := (congrArg Int32.toInt ((zIoj (by decide)).trans rfl)).trans rfl
                  exact zs_iret (pc := 81) t28_81 mr28 (by decide) (hQ _ _ w585s w596 (((((((zFr.refl).put rfl).trans (w554F.mono rfl)).put rfl).put rfl).trans (w585F.mono rfl)).put rfl) (fun p hp => by obtain rfl : w11n = p := (by omega); exact Or.inl ⟨by decide, ((pIt.w (by omega)).trans (pB.y (pRd.y w555e (by omega) (by omega) (by omega)))).trans (pB.f (pRd.n w586e (by omega)))⟩) (by decide) (by decide))
                · refine zs_icmp_ltF (pc := 2) t39_2 rfl rfl (by omega) ?_
                  refine zs_iload_n (pc := 5) t39_5 rfl ?_
                  refine zs_iload_n (pc := 6) t39_6 rfl ?_
                  by_cases w599 : (zI M 3 6).toInt < (zI w585M 155 4).toInt
                  · refine zs_icmp_gtT (pc := 7) t39_7 rfl rfl (by omega) ?_
                    refine zs_iconst (pc := 14) t39_14 (v := 0) (by decide) ?_
                    refine zs_iret (pc := 15) t39_15 mr39 (by decide) ?_
                    show zGo X l 1 0 0 44 24 [(0, .int (6 : Int32)), (1, .int (zI w585M 155 4))] [.int (0 : Int32)] w585M _
                    refine zs_if_eqT (pc := 24) t44_24 li0 (by decide) ?_
                    refine zs_iconst (pc := 31) t44_31 (v := 0) (by decide) ?_
                    refine zs_iret (pc := 32) t44_32 mr44 (by decide) ?_
                    show zGo X l 2 0 0 38 100 [(0, .ref 157), (1, .int (zpt M)), (2, .int (1 : Int32)), (3, .int (zI w585M 155 4)), (4, .ref 19)] [.int (0 : Int32)] w585M _
                    refine zs_if_eqT (pc := 100) t38_100 li0 (by decide) ?_
                    refine zs_iconst (pc := 121) t38_121 (v := 0) (by decide) ?_
                    refine zs_iret (pc := 122) t38_122 mr38 (by decide) ?_
                    show zGo X l 5 0 0 28 70 [(6, .int (1 : Int32)), (5, .int (2 : Int32)), (4, .int (zpt M)), (3, .int (zI M 155 2)), (0, .ref 157), (1, .ref 155), (2, .ref 19)] [.int (0 : Int32)] w585M _
                    refine zs_if_neF (pc := 70) t28_70 li0 (by decide) ?_
                    refine zs_aload_n (pc := 73) t28_73 rfl ?_
                    refine zs_aload_n (pc := 74) t28_74 rfl ?_
                    refine zs_invV (pc := 75) (k := 155) (as' := []) (st := [.ref 155]) t28_75 mf46 rfl rfl (Or.inl ⟨by decide, (zk1 (w585s.k fk_zMc_155))⟩) ⟨by decide, by decide, Nat.le_of_ble_eq_true rfl, Nat.le_of_ble_eq_true rfl⟩ (zs_in (by decide) mf46 (Nat.le_of_ble_eq_true rfl) ?_) (fun _ _ q => q)
                    show zGo X l 0 0 0 46 0 [(0, .ref 155)] [] w585M _
                    refine zs_aload_n (pc := 0) t46_0 rfl ?_
                    have w600 := zrg (zI w585M 155 5)
                    refine zs_get (pc := 1) t46_1 (by decide) (zk1 (w585s.k fk_zMc_155)) (zfvi rfl rfl) ?_
                    refine zs_iret (pc := 4) t46_4 mr46 rfl ?_
                    show zGo X l 5 0 0 28 78 [(6, .int (1 : Int32)), (5, .int (2 : Int32)), (4, .int (zpt M)), (3, .int (zI M 155 2)), (0, .ref 157), (1, .ref 155), (2, .ref 19)] [.int (zI w585M 155 5), .ref 155] w585M _
                    refine zs_invV (pc := 78) (k := 155) (as' := [.int (zI w585M 155 5)]) (st := []) t28_78 mf34 rfl rfl (Or.inl ⟨by decide, (zk1 (w585s.k fk_zMc_155))⟩) ⟨by decide, by decide, Nat.le_of_ble_eq_true rfl, Nat.le_of_ble_eq_true rfl⟩ (zs_in (by decide) mf34 (Nat.le_of_ble_eq_true rfl) ?_) (fun _ _ q => q)
                    show zGo X l 0 0 0 34 0 [(0, .ref 155), (1, .int (zI w585M 155 5))] [] w585M _
                    refine zs_aload_n (pc := 0) t34_0 rfl ?_
                    refine zs_iload_n (pc := 1) t34_1 rfl ?_
                    have w601 : zIv cLo cHi (zsI w585M 155 3 (zI w585M 155 5)) := zIv.put w585I (show (-2147483648) ≤ (zI w585M 155 5).toInt ∧ (zI w585M 155 5).toInt ≤ 2147483647 from zrg (zI w585M 155 5))
                    refine zs_putI (pc := 2) t34_2 (zk1 (w585s.k fk_zMc_155)) rfl ?_
                    refine zs_iconst (pc := 5) t34_5 (v := 0) (by decide) ?_
                    refine zs_iret (pc := 6) t34_6 mr34 (by decide) ?_
                    show zGo X l 5 0 0 28 81 [(6, .int (1 : Int32)), (5, .int (2 : Int32)), (4, .int (zpt M)), (3, .int (zI M 155 2)), (0, .ref 157), (1, .ref 155), (2, .ref 19)] [.int (0 : Int32)] (zsI w585M 155 3 (zI w585M 155 5)) _
                    have w602 := zrg (zI w585M 155 2)
                    have w603 : (zI (zsI w585M 155 3 (zI w585M 155 5)) 155 2).toInt = (zI w585M 155 2).toInt := (congrArg Int32.toInt ((zIoj (by decide)).trans rfl)).trans rfl
                    exact zs_iret (pc := 81) t28_81 mr28 (by decide) (hQ _ _ w585s w601 (((((((zFr.refl).put rfl).trans (w554F.mono rfl)).put rfl).put rfl).trans (w585F.mono rfl)).put rfl) (fun p hp => by obtain rfl : w11n = p := (by omega); exact Or.inl ⟨by decide, ((pIt.w (by omega)).trans (pB.y (pRd.y w555e (by omega) (by omega) (by omega)))).trans (pB.f (pRd.n w586e (by omega)))⟩) (by decide) (by decide))
                  · refine zs_icmp_gtF (pc := 7) t39_7 rfl rfl (by omega) ?_
                    refine zs_iconst (pc := 10) t39_10 (v := 1) (by decide) ?_
                    refine zs_goto (pc := 11) t39_11 ?_
                    refine zs_iret (pc := 15) t39_15 mr39 (by decide) ?_
                    show zGo X l 1 0 0 44 24 [(0, .int (6 : Int32)), (1, .int (zI w585M 155 4))] [.int (1 : Int32)] w585M _
                    refine zs_if_eqF (pc := 24) t44_24 li1 (by decide) ?_
                    refine zs_iconst (pc := 27) t44_27 (v := 1) (by decide) ?_
                    refine zs_goto (pc := 28) t44_28 ?_
                    refine zs_iret (pc := 32) t44_32 mr44 (by decide) ?_
                    show zGo X l 2 0 0 38 100 [(0, .ref 157), (1, .int (zpt M)), (2, .int (1 : Int32)), (3, .int (zI w585M 155 4)), (4, .ref 19)] [.int (1 : Int32)] w585M _
                    refine zs_if_eqF (pc := 100) t38_100 li1 (by decide) ?_
                    refine zs_iload_n (pc := 103) t38_103 rfl ?_
                    refine zs_if_eqF (pc := 104) t38_104 li1 (by decide) ?_
                    refine zs_iload_n (pc := 107) t38_107 rfl ?_
                    refine zs_aload_n (pc := 108) t38_108 rfl ?_
                    refine zs_get (pc := 109) t38_109 (by decide) (zk1 (w585s.k fk_zMc_157)) (w585s.p rfl fv_zMc_157_0) ?_
                    refine zs_iconst (pc := 112) t38_112 (v := 0) (by decide) ?_
                    refine zs_iald (pc := 113) t38_113 (j := 0) (by decide) (zk1 (w585s.k fk_zMc_158)) li0 (zk2 (w585s.k fk_zMc_158) (by decide)) ((w585F 158 0 rfl).trans ((zIo (by decide)).trans zIs)) ?_
                    by_cases w604 : (zI w585M 155 4).toInt < (zI w554M 155 4).toInt
                    · refine zs_icmp_ltT (pc := 114) t38_114 rfl rfl (by omega) ?_
                      refine zs_iconst (pc := 121) t38_121 (v := 0) (by decide) ?_
                      refine zs_iret (pc := 122) t38_122 mr38 (by decide) ?_
                      show zGo X l 5 0 0 28 70 [(6, .int (1 : Int32)), (5, .int (2 : Int32)), (4, .int (zpt M)), (3, .int (zI M 155 2)), (0, .ref 157), (1, .ref 155), (2, .ref 19)] [.int (0 : Int32)] w585M _
                      refine zs_if_neF (pc := 70) t28_70 li0 (by decide) ?_
                      refine zs_aload_n (pc := 73) t28_73 rfl ?_
                      refine zs_aload_n (pc := 74) t28_74 rfl ?_
                      refine zs_invV (pc := 75) (k := 155) (as' := []) (st := [.ref 155]) t28_75 mf46 rfl rfl (Or.inl ⟨by decide, (zk1 (w585s.k fk_zMc_155))⟩) ⟨by decide, by decide, Nat.le_of_ble_eq_true rfl, Nat.le_of_ble_eq_true rfl⟩ (zs_in (by decide) mf46 (Nat.le_of_ble_eq_true rfl) ?_) (fun _ _ q => q)
                      show zGo X l 0 0 0 46 0 [(0, .ref 155)] [] w585M _
                      refine zs_aload_n (pc := 0) t46_0 rfl ?_
                      have w605 := zrg (zI w585M 155 5)
                      refine zs_get (pc := 1) t46_1 (by decide) (zk1 (w585s.k fk_zMc_155)) (zfvi rfl rfl) ?_
                      refine zs_iret (pc := 4) t46_4 mr46 rfl ?_
                      show zGo X l 5 0 0 28 78 [(6, .int (1 : Int32)), (5, .int (2 : Int32)), (4, .int (zpt M)), (3, .int (zI M 155 2)), (0, .ref 157), (1, .ref 155), (2, .ref 19)] [.int (zI w585M 155 5), .ref 155] w585M _
                      refine zs_invV (pc := 78) (k := 155) (as' := [.int (zI w585M 155 5)]) (st := []) t28_78 mf34 rfl rfl (Or.inl ⟨by decide, (zk1 (w585s.k fk_zMc_155))⟩) ⟨by decide, by decide, Nat.le_of_ble_eq_true rfl, Nat.le_of_ble_eq_true rfl⟩ (zs_in (by decide) mf34 (Nat.le_of_ble_eq_true rfl) ?_) (fun _ _ q => q)
                      show zGo X l 0 0 0 34 0 [(0, .ref 155), (1, .int (zI w585M 155 5))] [] w585M _
                      refine zs_aload_n (pc := 0) t34_0 rfl ?_
                      refine zs_iload_n (pc := 1) t34_1 rfl ?_
                      have w606 : zIv cLo cHi (zsI w585M 155 3 (zI w585M 155 5)) := zIv.put w585I (show (-2147483648) ≤ (zI w585M 155 5).toInt ∧ (zI w585M 155 5).toInt ≤ 2147483647 from zrg (zI w585M 155 5))
                      refine zs_putI (pc := 2) t34_2 (zk1 (w585s.k fk_zMc_155)) rfl ?_
                      refine zs_iconst (pc := 5) t34_5 (v := 0) (by decide) ?_
                      refine zs_iret (pc := 6) t34_6 mr34 (by decide) ?_
                      show zGo X l 5 0 0 28 81 [(6, .int (1 : Int32)), (5, .int (2 : Int32)), (4, .int (zpt M)), (3, .int (zI M 155 2)), (0, .ref 157), (1, .ref 155), (2, .ref 19)] [.int (0 : Int32)] (zsI w585M 155 3 (zI w585M 155 5)) _
                      have w607 := zrg (zI w585M 155 2)
                      have w608 : (zI (zsI w585M 155 3 (zI w585M 155 5)) 155 2).toInt = (zI w585M 155 2).toInt := (congrArg Int32.toInt ((zIoj (by decide)).trans rfl)).trans rfl
                      exact zs_iret (pc := 81) t28_81 mr28 (by decide) (hQ _ _ w585s w606 (((((((zFr.refl).put rfl).trans (w554F.mono rfl)).put rfl).put rfl).trans (w585F.mono rfl)).put rfl) (fun p hp => by obtain rfl : w11n = p := (by omega); exact Or.inl ⟨by decide, ((pIt.w (by omega)).trans (pB.y (pRd.y w555e (by omega) (by omega) (by omega)))).trans (pB.f (pRd.n w586e (by omega)))⟩) (by decide) (by decide))
                    · refine zs_icmp_ltF (pc := 114) t38_114 rfl rfl (by omega) ?_
                      refine zs_iconst (pc := 117) t38_117 (v := 1) (by decide) ?_
                      refine zs_goto (pc := 118) t38_118 ?_
                      refine zs_iret (pc := 122) t38_122 mr38 (by decide) ?_
                      show zGo X l 5 0 0 28 70 [(6, .int (1 : Int32)), (5, .int (2 : Int32)), (4, .int (zpt M)), (3, .int (zI M 155 2)), (0, .ref 157), (1, .ref 155), (2, .ref 19)] [.int (1 : Int32)] w585M _
                      refine zs_if_neT (pc := 70) t28_70 li1 (by decide) ?_
                      refine zs_aload_n (pc := 82) t28_82 rfl ?_
                      refine zs_get (pc := 83) t28_83 (by decide) (zk1 (w585s.k fk_zMc_157)) (w585s.p rfl fv_zMc_157_0) ?_
                      refine zs_iload (pc := 86) t28_86 rfl ?_
                      refine zs_aload_n (pc := 88) t28_88 rfl ?_
                      refine zs_invV (pc := 89) (k := 155) (as' := []) (st := [.int (1 : Int32), .ref 158]) t28_89 mf37 rfl rfl (Or.inl ⟨by decide, (zk1 (w585s.k fk_zMc_155))⟩) ⟨by decide, by decide, Nat.le_of_ble_eq_true rfl, Nat.le_of_ble_eq_true rfl⟩ (zs_in (by decide) mf37 (Nat.le_of_ble_eq_true rfl) ?_) (fun _ _ q => q)
                      show zGo X l 0 0 0 37 0 [(0, .ref 155)] [] w585M _
                      refine zs_aload_n (pc := 0) t37_0 rfl ?_
                      refine zs_get (pc := 1) t37_1 (by decide) (zk1 (w585s.k fk_zMc_155)) (zfvi rfl rfl) ?_
                      refine zs_iret (pc := 4) t37_4 mr37 rfl ?_
                      show zGo X l 5 0 0 28 92 [(6, .int (1 : Int32)), (5, .int (2 : Int32)), (4, .int (zpt M)), (3, .int (zI M 155 2)), (0, .ref 157), (1, .ref 155), (2, .ref 19)] [.int (zI w585M 155 4), .int (1 : Int32), .ref 158] w585M _
                      have w609 : zIv cLo cHi (zsI w585M 158 1 (zI w585M 155 4)) := zIv.put w585I (show (-300000) ≤ (zI w585M 155 4).toInt ∧ (zI w585M 155 4).toInt ≤ 300000 from ⟨by omega, by omega⟩)
                      refine zs_iast (pc := 92) t28_92 (j := 1) (by decide) (zk1 (w585s.k fk_zMc_158)) li1 (zk2 (w585s.k fk_zMc_158) (by decide)) ?_
                      refine zs_aload_n (pc := 93) t28_93 rfl ?_
                      refine zs_iload (pc := 94) t28_94 rfl ?_
                      refine zs_iconst (pc := 96) t28_96 (v := 1) (by decide) ?_
                      refine zs_iadd (pc := 97) t28_97 (c := 2) (by decide) ?_
                      refine zs_iload (pc := 98) t28_98 rfl ?_
                      refine zs_icmp_geT (pc := 100) t28_100 li2 li2 (by decide) ?_
                      refine zs_bipush (pc := 108) t28_108 (v := 59) (by decide) ?_
                      refine zs_invV (pc := 110) (k := 155) (as' := [.int (59 : Int32)]) (st := []) t28_110 mf47 rfl rfl (Or.inl ⟨by decide, (zk1 (w585s.k fk_zMc_155))⟩) ⟨by decide, by decide, Nat.le_of_ble_eq_true rfl, Nat.le_of_ble_eq_true rfl⟩ (zs_in (by decide) mf47 (Nat.le_of_ble_eq_true rfl) ?_) (fun _ _ q => q)
                      show zGo X l 1 0 0 47 0 [(0, .ref 155), (1, .int (59 : Int32))] [] (zsI w585M 158 1 (zI w585M 155 4)) _
                      refine zs_aload_n (pc := 0) t47_0 rfl ?_
                      refine zs_invV (pc := 1) (k := 155) (as' := []) (st := []) t47_1 mf31 rfl rfl (Or.inl ⟨by decide, (zk1 (w585s.k fk_zMc_155))⟩) ⟨by decide, by decide, Nat.le_of_ble_eq_true rfl, Nat.le_of_ble_eq_true rfl⟩ (P31 w585s w609 ?_) (fun _ _ q => q)
                      have w611 := zrg (zI w585M 155 2)
                      have w612 : (zI (zsI w585M 158 1 (zI w585M 155 4)) 155 2).toInt = (zI w585M 155 2).toInt := (congrArg Int32.toInt ((zIo (by decide)).trans rfl)).trans rfl
                      have w613 : (zI (zsI w585M 158 1 (zI w585M 155 4)) 155 1).toInt = (zI M 155 1).toInt := (congrArg Int32.toInt ((zIo (by decide)).trans ((w585F 155 1 rfl).trans ((zIoj (by decide)).trans ((zIo (by decide)).trans ((w554F 155 1 rfl).trans ((zIoj (by decide)).trans rfl))))))).trans rfl
                      have w610 : (zpt (zsI w585M 158 1 (zI w585M 155 4))).toInt = g w586E := zpt.tr (zTa.fr x1 (zEq.tr (zEq.tr (zEq.tr (zEq.tr (zEq.tr (zEq.put rfl) (zFr.eq w554F rfl)) (zEq.put rfl)) (zEq.put rfl)) (zFr.eq w585F rfl)) (zEq.put rfl))) (by omega)
                      have w614 := zTa.rg (M := (zsI w585M 158 1 (zI w585M 155 4))) (zTa.fr x1 (zEq.tr (zEq.tr (zEq.tr (zEq.tr (zEq.tr (zEq.put rfl) (zFr.eq w554F rfl)) (zEq.put rfl)) (zEq.put rfl)) (zFr.eq w585F rfl)) (zEq.put rfl))) w586E
                      show zGo X l 1 0 0 47 4 [(0, .ref 155), (1, .int (59 : Int32))] [.int (zpt (zsI w585M 158 1 (zI w585M 155 4)))] (zsI w585M 158 1 (zI w585M 155 4)) _
                      refine zs_iload_n (pc := 4) t47_4 rfl ?_
                      by_cases w615 : (g w586E) = 59
                      · refine zs_icmp_eqT (pc := 5) t47_5 w610 li59 (by omega) ?_
                        refine zs_aload_n (pc := 17) t47_17 rfl ?_
                        refine zs_dup (pc := 18) t47_18 rfl ?_
                        refine zs_get (pc := 19) t47_19 (by decide) (zk1 (w585s.k fk_zMc_155)) (zfvi rfl ((zIo (by decide)).trans rfl)) ?_
                        refine zs_iconst (pc := 22) t47_22 (v := 1) (by decide) ?_
                        obtain ⟨w616v, w616e, w616⟩ := ziadd (a := (zI w585M 155 2)) (b := (1 : Int32)) rfl li1 (by omega) (by omega)
                        refine zs_iadd (pc := 23) t47_23 (c := w616v) w616e ?_
                        have w617 : zIv cLo cHi (zsI (zsI w585M 158 1 (zI w585M 155 4)) 155 2 w616v) := zIv.put w609 (show (-2147483648) ≤ w616v.toInt ∧ w616v.toInt ≤ 2147483647 from zrg w616v)
                        refine zs_putI (pc := 24) t47_24 (zk1 (w585s.k fk_zMc_155)) rfl ?_
                        refine zs_iconst (pc := 27) t47_27 (v := 1) (by decide) ?_
                        refine zs_iret (pc := 28) t47_28 mr47 (by decide) ?_
                        show zGo X l 5 0 0 28 113 [(6, .int (1 : Int32)), (5, .int (2 : Int32)), (4, .int (zpt M)), (3, .int (zI M 155 2)), (0, .ref 157), (1, .ref 155), (2, .ref 19)] [.int (1 : Int32)] (zsI (zsI w585M 158 1 (zI w585M 155 4)) 155 2 w616v) _
                        refine zs_if_neT (pc := 113) t28_113 li1 (by decide) ?_
                        refine zs_iinc (pc := 118) t28_118 (ls' := [(6, .int (2 : Int32)), (5, .int (2 : Int32)), (4, .int (zpt M)), (3, .int (zI M 155 2)), (0, .ref 157), (1, .ref 155), (2, .ref 19)]) (zml mf28 (by decide)) rfl (c := 2) (by decide) rfl ?_
                        refine zs_goto (pc := 121) t28_121 ?_
                        refine zs_iload (pc := 41) t28_41 rfl ?_
                        refine zs_iload (pc := 43) t28_43 rfl ?_
                        refine zs_icmp_geT (pc := 45) t28_45 li2 li2 (by decide) ?_
                        refine zs_aload_n (pc := 124) t28_124 rfl ?_
                        refine zs_iload (pc := 125) t28_125 rfl ?_
                        refine zs_aload_n (pc := 127) t28_127 rfl ?_
                        refine zs_invV (pc := 128) (k := 157) (as' := [.int (zpt M), .ref 19]) (st := []) t28_128 mf48 rfl rfl (Or.inl ⟨by decide, (zk1 (w585s.k fk_zMc_157))⟩) ⟨by decide, by decide, Nat.le_of_ble_eq_true rfl, Nat.le_of_ble_eq_true rfl⟩ (zs_in (by decide) mf48 (Nat.le_of_ble_eq_true rfl) ?_) (fun _ _ q => q)
                        show zGo X l 4 0 0 48 0 [(0, .ref 157), (1, .int (zpt M)), (2, .ref 19)] [] (zsI (zsI w585M 158 1 (zI w585M 155 4)) 155 2 w616v) _
                        refine zs_iload_n (pc := 0) t48_0 rfl ?_
                        refine zs_lsw (pc := 1) t48_1 (off := 103) w12 (by unfold zlsel; repeat (first | rfl | (rw [if_neg (by omega)]; unfold zlsel))) (pc2 := 104) rfl ?_
                        refine zs_iconst (pc := 104) t48_104 (v := 0) (by decide) ?_
                        refine zs_istore_n (pc := 105) t48_105 (ls' := [(3, .int (0 : Int32)), (0, .ref 157), (1, .int (zpt M)), (2, .ref 19)]) (zml mf48 (by decide)) rfl ?_
                        refine zs_iload_n (pc := 106) t48_106 rfl ?_
                        refine zs_iload_n (pc := 107) t48_107 rfl ?_
                        refine zs_invS (pc := 108) (as := [.int (zpt M)]) (st := [.int (0 : Int32)]) t48_108 (by decide) mf32 rfl rfl ⟨by decide, by decide, Nat.le_of_ble_eq_true rfl, Nat.le_of_ble_eq_true rfl⟩ (zs_in (by decide) mf32 (Nat.le_of_ble_eq_true rfl) ?_) (fun _ _ q => q)
                        show zGo X l 0 0 0 32 0 [(0, .int (zpt M))] [] (zsI (zsI w585M 158 1 (zI w585M 155 4)) 155 2 w616v) _
                        refine zs_iload_n (pc := 0) t32_0 rfl ?_
                        refine zs_tswI (pc := 1) t32_1 ((w12 : (zpt M).toInt = (g w11n)).trans (by omega)) (by decide) rfl (pc2 := 86) rfl ?_
                        refine zs_iconst (pc := 86) t32_86 (v := 2) (by decide) ?_
                        refine zs_iret (pc := 87) t32_87 mr32 (by decide) ?_
                        show zGo X l 4 0 0 48 111 [(3, .int (0 : Int32)), (0, .ref 157), (1, .int (zpt M)), (2, .ref 19)] [.int (2 : Int32), .int (0 : Int32)] (zsI (zsI w585M 158 1 (zI w585M 155 4)) 155 2 w616v) _
                        refine zs_icmp_geF (pc := 111) t48_111 li0 li2 (by decide) ?_
                        refine zs_aload_n (pc := 114) t48_114 rfl ?_
                        refine zs_iload_n (pc := 115) t48_115 rfl ?_
                        refine zs_invS (pc := 116) (as := [.int (zpt M)]) (st := [.ref 19]) t48_116 (by decide) mf45 rfl rfl ⟨by decide, by decide, Nat.le_of_ble_eq_true rfl, Nat.le_of_ble_eq_true rfl⟩ (zs_in (by decide) mf45 (Nat.le_of_ble_eq_true rfl) ?_) (fun _ _ q => q)
                        show zGo X l 0 0 0 45 0 [(0, .int (zpt M))] [] (zsI (zsI w585M 158 1 (zI w585M 155 4)) 155 2 w616v) _
                        refine zs_iload_n (pc := 0) t45_0 rfl ?_
                        refine zs_lsw (pc := 1) t45_1 (off := 47) ((w12 : (zpt M).toInt = (g w11n)).trans (by omega)) rfl (pc2 := 48) rfl ?_
                        refine zs_iconst (pc := 48) t45_48 (v := 5) (by decide) ?_
                        refine zs_iret (pc := 49) t45_49 mr45 (by decide) ?_
                        show zGo X l 4 0 0 48 119 [(3, .int (0 : Int32)), (0, .ref 157), (1, .int (zpt M)), (2, .ref 19)] [.int (5 : Int32), .ref 19] (zsI (zsI w585M 158 1 (zI w585M 155 4)) 155 2 w616v) _
                        refine zs_iload_n (pc := 119) t48_119 rfl ?_
                        refine zs_iadd (pc := 120) t48_120 (c := 5) (by decide) ?_
                        refine zs_aload_n (pc := 121) t48_121 rfl ?_
                        refine zs_get (pc := 122) t48_122 (by decide) (zk1 (w585s.k fk_zMc_157)) (w585s.p rfl fv_zMc_157_0) ?_
                        refine zs_iload_n (pc := 125) t48_125 rfl ?_
                        refine zs_iald (pc := 126) t48_126 (j := 0) (by decide) (zk1 (w585s.k fk_zMc_158)) li0 (zk2 (w585s.k fk_zMc_158) (by decide)) ((zIo (by decide)).trans ((zIoj (by decide)).trans ((w585F 158 0 rfl).trans ((zIo (by decide)).trans zIs)))) ?_
                        refine zs_invV (pc := 127) (k := 19) (as' := [.int (5 : Int32), .int (zI w554M 155 4)]) (st := []) t48_127 mf56 rfl rfl (Or.inl ⟨by decide, (zk1 (w585s.k fk_zMc_19))⟩) ⟨by decide, by decide, Nat.le_of_ble_eq_true rfl, Nat.le_of_ble_eq_true rfl⟩ (zs_in (by decide) mf56 (Nat.le_of_ble_eq_true rfl) ?_) (fun _ _ q => q)
                        show zGo X l 0 0 0 56 0 [(0, .ref 19), (1, .int (5 : Int32)), (2, .int (zI w554M 155 4))] [] (zsI (zsI w585M 158 1 (zI w585M 155 4)) 155 2 w616v) _
                        refine zs_iload_n (pc := 0) t56_0 rfl ?_
                        refine zs_if_ltF (pc := 1) t56_1 li5 (by decide) ?_
                        refine zs_iload_n (pc := 4) t56_4 rfl ?_
                        refine zs_bipush (pc := 5) t56_5 (v := 9) (by decide) ?_
                        refine zs_icmp_geF (pc := 7) t56_7 li5 li9 (by decide) ?_
                        refine zs_aload_n (pc := 10) t56_10 rfl ?_
                        refine zs_get (pc := 11) t56_11 (by decide) (zk1 (w585s.k fk_zMc_19)) (w585s.p rfl fv_zMc_19_12) ?_
                        refine zs_iload_n (pc := 14) t56_14 rfl ?_
                        refine zs_iload_n (pc := 15) t56_15 rfl ?_
                        have w618 : zIv cLo cHi (zsI (zsI (zsI w585M 158 1 (zI w585M 155 4)) 155 2 w616v) 29 5 (zI w554M 155 4)) := zIv.put w617 (show (-300000) ≤ (zI w554M 155 4).toInt ∧ (zI w554M 155 4).toInt ≤ 300000 from ⟨by omega, by omega⟩)
                        have w619 : zSo (zsI (zsI (zsI w585M 158 1 (zI w585M 155 4)) 155 2 w616v) 29 5 (zI w554M 155 4)) 19 (uS F (5 + 5) (zI w554M 155 4).toInt) := zSo.se (zSo.fr x0 (zEq.tr (zEq.tr (zEq.tr (zEq.tr (zEq.tr (zEq.tr (zEq.put rfl) (zFr.eq w554F rfl)) (zEq.put rfl)) (zEq.put rfl)) (zFr.eq w585F rfl)) (zEq.put rfl)) (zEq.put rfl))) rfl (by decide) rfl
                        refine zs_iast (pc := 16) t56_16 (j := 5) (by decide) (zk1 (w585s.k fk_zMc_29)) li5 (zk2 (w585s.k fk_zMc_29) (by decide)) ?_
                        refine zs_vret (pc := 17) t56_17 mr56 ?_
                        show zGo X l 4 0 0 48 130 [(3, .int (0 : Int32)), (0, .ref 157), (1, .int (zpt M)), (2, .ref 19)] [] (zsI (zsI (zsI w585M 158 1 (zI w585M 155 4)) 155 2 w616v) 29 5 (zI w554M 155 4)) _
                        refine zs_iinc (pc := 130) t48_130 (ls' := [(3, .int (1 : Int32)), (0, .ref 157), (1, .int (zpt M)), (2, .ref 19)]) (zml mf48 (by decide)) rfl (c := 1) (by decide) rfl ?_
                        refine zs_goto (pc := 133) t48_133 ?_
                        refine zs_iload_n (pc := 106) t48_106 rfl ?_
                        refine zs_iload_n (pc := 107) t48_107 rfl ?_
                        refine zs_invS (pc := 108) (as := [.int (zpt M)]) (st := [.int (1 : Int32)]) t48_108 (by decide) mf32 rfl rfl ⟨by decide, by decide, Nat.le_of_ble_eq_true rfl, Nat.le_of_ble_eq_true rfl⟩ (zs_in (by decide) mf32 (Nat.le_of_ble_eq_true rfl) ?_) (fun _ _ q => q)
                        show zGo X l 0 0 0 32 0 [(0, .int (zpt M))] [] (zsI (zsI (zsI w585M 158 1 (zI w585M 155 4)) 155 2 w616v) 29 5 (zI w554M 155 4)) _
                        refine zs_iload_n (pc := 0) t32_0 rfl ?_
                        refine zs_tswI (pc := 1) t32_1 ((w12 : (zpt M).toInt = (g w11n)).trans (by omega)) (by decide) rfl (pc2 := 86) rfl ?_
                        refine zs_iconst (pc := 86) t32_86 (v := 2) (by decide) ?_
                        refine zs_iret (pc := 87) t32_87 mr32 (by decide) ?_
                        show zGo X l 4 0 0 48 111 [(3, .int (1 : Int32)), (0, .ref 157), (1, .int (zpt M)), (2, .ref 19)] [.int (2 : Int32), .int (1 : Int32)] (zsI (zsI (zsI w585M 158 1 (zI w585M 155 4)) 155 2 w616v) 29 5 (zI w554M 155 4)) _
                        refine zs_icmp_geF (pc := 111) t48_111 li1 li2 (by decide) ?_
                        refine zs_aload_n (pc := 114) t48_114 rfl ?_
                        refine zs_iload_n (pc := 115) t48_115 rfl ?_
                        refine zs_invS (pc := 116) (as := [.int (zpt M)]) (st := [.ref 19]) t48_116 (by decide) mf45 rfl rfl ⟨by decide, by decide, Nat.le_of_ble_eq_true rfl, Nat.le_of_ble_eq_true rfl⟩ (zs_in (by decide) mf45 (Nat.le_of_ble_eq_true rfl) ?_) (fun _ _ q => q)
                        show zGo X l 0 0 0 45 0 [(0, .int (zpt M))] [] (zsI (zsI (zsI w585M 158 1 (zI w585M 155 4)) 155 2 w616v) 29 5 (zI w554M 155 4)) _
                        refine zs_iload_n (pc := 0) t45_0 rfl ?_
                        refine zs_lsw (pc := 1) t45_1 (off := 47) ((w12 : (zpt M).toInt = (g w11n)).trans (by omega)) rfl (pc2 := 48) rfl ?_
                        refine zs_iconst (pc := 48) t45_48 (v := 5) (by decide) ?_
                        refine zs_iret (pc := 49) t45_49 mr45 (by decide) ?_
                        show zGo X l 4 0 0 48 119 [(3, .int (1 : Int32)), (0, .ref 157), (1, .int (zpt M)), (2, .ref 19)] [.int (5 : Int32), .ref 19] (zsI (zsI (zsI w585M 158 1 (zI w585M 155 4)) 155 2 w616v) 29 5 (zI w554M 155 4)) _
                        refine zs_iload_n (pc := 119) t48_119 rfl ?_
                        refine zs_iadd (pc := 120) t48_120 (c := 6) (by decide) ?_
                        refine zs_aload_n (pc := 121) t48_121 rfl ?_
                        refine zs_get (pc := 122) t48_122 (by decide) (zk1 (w585s.k fk_zMc_157)) (w585s.p rfl fv_zMc_157_0) ?_
                        refine zs_iload_n (pc := 125) t48_125 rfl ?_
                        refine zs_iald (pc := 126) t48_126 (j := 1) (by decide) (zk1 (w585s.k fk_zMc_158)) li1 (zk2 (w585s.k fk_zMc_158) (by decide)) ((zIo (by decide)).trans ((zIo (by decide)).trans zIs)) ?_
                        refine zs_invV (pc := 127) (k := 19) (as' := [.int (6 : Int32), .int (zI w585M 155 4)]) (st := []) t48_127 mf56 rfl rfl (Or.inl ⟨by decide, (zk1 (w585s.k fk_zMc_19))⟩) ⟨by decide, by decide, Nat.le_of_ble_eq_true rfl, Nat.le_of_ble_eq_true rfl⟩ (zs_in (by decide) mf56 (Nat.le_of_ble_eq_true rfl) ?_) (fun _ _ q => q)
                        show zGo X l 0 0 0 56 0 [(0, .ref 19), (1, .int (6 : Int32)), (2, .int (zI w585M 155 4))] [] (zsI (zsI (zsI w585M 158 1 (zI w585M 155 4)) 155 2 w616v) 29 5 (zI w554M 155 4)) _
                        refine zs_iload_n (pc := 0) t56_0 rfl ?_
                        refine zs_if_ltF (pc := 1) t56_1 li6 (by decide) ?_
                        refine zs_iload_n (pc := 4) t56_4 rfl ?_
                        refine zs_bipush (pc := 5) t56_5 (v := 9) (by decide) ?_
                        refine zs_icmp_geF (pc := 7) t56_7 li6 li9 (by decide) ?_
                        refine zs_aload_n (pc := 10) t56_10 rfl ?_
                        refine zs_get (pc := 11) t56_11 (by decide) (zk1 (w585s.k fk_zMc_19)) (w585s.p rfl fv_zMc_19_12) ?_
                        refine zs_iload_n (pc := 14) t56_14 rfl ?_
                        refine zs_iload_n (pc := 15) t56_15 rfl ?_
                        have w620 : zIv cLo cHi (zsI (zsI (zsI (zsI w585M 158 1 (zI w585M 155 4)) 155 2 w616v) 29 5 (zI w554M 155 4)) 29 6 (zI w585M 155 4)) := zIv.put w618 (show (-300000) ≤ (zI w585M 155 4).toInt ∧ (zI w585M 155 4).toInt ≤ 300000 from ⟨by omega, by omega⟩)
                        have w621 : zSo (zsI (zsI (zsI (zsI w585M 158 1 (zI w585M 155 4)) 155 2 w616v) 29 5 (zI w554M 155 4)) 29 6 (zI w585M 155 4)) 19 (uS (uS F (5 + 5) (zI w554M 155 4).toInt) (5 + 6) (zI w585M 155 4).toInt) := zSo.se w619 rfl (by decide) rfl
                        refine zs_iast (pc := 16) t56_16 (j := 6) (by decide) (zk1 (w585s.k fk_zMc_29)) li6 (zk2 (w585s.k fk_zMc_29) (by decide)) ?_
                        refine zs_vret (pc := 17) t56_17 mr56 ?_
                        show zGo X l 4 0 0 48 130 [(3, .int (1 : Int32)), (0, .ref 157), (1, .int (zpt M)), (2, .ref 19)] [] (zsI (zsI (zsI (zsI w585M 158 1 (zI w585M 155 4)) 155 2 w616v) 29 5 (zI w554M 155 4)) 29 6 (zI w585M 155 4)) _
                        refine zs_iinc (pc := 130) t48_130 (ls' := [(3, .int (2 : Int32)), (0, .ref 157), (1, .int (zpt M)), (2, .ref 19)]) (zml mf48 (by decide)) rfl (c := 2) (by decide) rfl ?_
                        refine zs_goto (pc := 133) t48_133 ?_
                        refine zs_iload_n (pc := 106) t48_106 rfl ?_
                        refine zs_iload_n (pc := 107) t48_107 rfl ?_
                        refine zs_invS (pc := 108) (as := [.int (zpt M)]) (st := [.int (2 : Int32)]) t48_108 (by decide) mf32 rfl rfl ⟨by decide, by decide, Nat.le_of_ble_eq_true rfl, Nat.le_of_ble_eq_true rfl⟩ (zs_in (by decide) mf32 (Nat.le_of_ble_eq_true rfl) ?_) (fun _ _ q => q)
                        show zGo X l 0 0 0 32 0 [(0, .int (zpt M))] [] (zsI (zsI (zsI (zsI w585M 158 1 (zI w585M 155 4)) 155 2 w616v) 29 5 (zI w554M 155 4)) 29 6 (zI w585M 155 4)) _
                        refine zs_iload_n (pc := 0) t32_0 rfl ?_
                        refine zs_tswI (pc := 1) t32_1 ((w12 : (zpt M).toInt = (g w11n)).trans (by omega)) (by decide) rfl (pc2 := 86) rfl ?_
                        refine zs_iconst (pc := 86) t32_86 (v := 2) (by decide) ?_
                        refine zs_iret (pc := 87) t32_87 mr32 (by decide) ?_
                        show zGo X l 4 0 0 48 111 [(3, .int (2 : Int32)), (0, .ref 157), (1, .int (zpt M)), (2, .ref 19)] [.int (2 : Int32), .int (2 : Int32)] (zsI (zsI (zsI (zsI w585M 158 1 (zI w585M 155 4)) 155 2 w616v) 29 5 (zI w554M 155 4)) 29 6 (zI w585M 155 4)) _
                        refine zs_icmp_geT (pc := 111) t48_111 li2 li2 (by decide) ?_
                        refine zs_iconst (pc := 136) t48_136 (v := 1) (by decide) ?_
                        refine zs_iret (pc := 137) t48_137 mr48 (by decide) ?_
                        show zGo X l 5 0 0 28 131 [(6, .int (2 : Int32)), (5, .int (2 : Int32)), (4, .int (zpt M)), (3, .int (zI M 155 2)), (0, .ref 157), (1, .ref 155), (2, .ref 19)] [.int (1 : Int32)] (zsI (zsI (zsI (zsI w585M 158 1 (zI w585M 155 4)) 155 2 w616v) 29 5 (zI w554M 155 4)) 29 6 (zI w585M 155 4)) _
                        refine zs_if_neT (pc := 131) t28_131 li1 (by decide) ?_
                        refine zs_iconst (pc := 142) t28_142 (v := 1) (by decide) ?_
                        refine zs_goto (pc := 143) t28_143 ?_
                        have w622 : (zI (zsI (zsI (zsI (zsI w585M 158 1 (zI w585M 155 4)) 155 2 w616v) 29 5 (zI w554M 155 4)) 29 6 (zI w585M 155 4)) 155 2).toInt = ((zI w585M 155 2).toInt + 1) := (congrArg Int32.toInt ((zIo (by decide)).trans ((zIo (by decide)).trans zIs))).trans w616
                        exact zs_iret (pc := 147) t28_147 mr28 (by decide) (hQ _ _ w585s w620 ((((((((((zFr.refl).put rfl).trans (w554F.mono rfl)).put rfl).put rfl).trans (w585F.mono rfl)).put rfl).put rfl).put rfl).put rfl) (fun p hp => by obtain rfl : w11n = p := (by omega); exact Or.inr ⟨by decide, w586E + 1, (uS (uS F (5 + 5) (zI w554M 155 4).toInt) (5 + 6) (zI w585M 155 4).toInt), (((pIt.w (by omega)).trans (pB.y (pRd.y w555e (by omega) (by omega) (by omega)))).trans (pB.y (pRd.y w586e (by omega) (by omega) (by omega)))), by omega, by omega, by omega, w621, x2.ww (by omega)⟩) (by decide) (by decide))
                      · refine zs_icmp_eqF (pc := 5) t47_5 w610 li59 (by omega) ?_
                        refine zs_aload_n (pc := 8) t47_8 rfl ?_
                        refine zs_aload_n (pc := 9) t47_9 rfl ?_
                        refine zs_get (pc := 10) t47_10 (by decide) (zk1 (w585s.k fk_zMc_155)) (zfvi rfl ((zIo (by decide)).trans rfl)) ?_
                        refine zs_invV (pc := 13) (k := 155) (as' := [.int (zI w585M 155 2)]) (st := []) t47_13 mf34 rfl rfl (Or.inl ⟨by decide, (zk1 (w585s.k fk_zMc_155))⟩) ⟨by decide, by decide, Nat.le_of_ble_eq_true rfl, Nat.le_of_ble_eq_true rfl⟩ (zs_in (by decide) mf34 (Nat.le_of_ble_eq_true rfl) ?_) (fun _ _ q => q)
                        show zGo X l 0 0 0 34 0 [(0, .ref 155), (1, .int (zI w585M 155 2))] [] (zsI w585M 158 1 (zI w585M 155 4)) _
                        refine zs_aload_n (pc := 0) t34_0 rfl ?_
                        refine zs_iload_n (pc := 1) t34_1 rfl ?_
                        have w623 : zIv cLo cHi (zsI (zsI w585M 158 1 (zI w585M 155 4)) 155 3 (zI w585M 155 2)) := zIv.put w609 (show (-2147483648) ≤ (zI w585M 155 2).toInt ∧ (zI w585M 155 2).toInt ≤ 2147483647 from zrg (zI w585M 155 2))
                        refine zs_putI (pc := 2) t34_2 (zk1 (w585s.k fk_zMc_155)) rfl ?_
                        refine zs_iconst (pc := 5) t34_5 (v := 0) (by decide) ?_
                        refine zs_iret (pc := 6) t34_6 mr34 (by decide) ?_
                        show zGo X l 1 0 0 47 16 [(0, .ref 155), (1, .int (59 : Int32))] [.int (0 : Int32)] (zsI (zsI w585M 158 1 (zI w585M 155 4)) 155 3 (zI w585M 155 2)) _
                        refine zs_iret (pc := 16) t47_16 mr47 (by decide) ?_
                        show zGo X l 5 0 0 28 113 [(6, .int (1 : Int32)), (5, .int (2 : Int32)), (4, .int (zpt M)), (3, .int (zI M 155 2)), (0, .ref 157), (1, .ref 155), (2, .ref 19)] [.int (0 : Int32)] (zsI (zsI w585M 158 1 (zI w585M 155 4)) 155 3 (zI w585M 155 2)) _
                        refine zs_if_neF (pc := 113) t28_113 li0 (by decide) ?_
                        refine zs_iconst (pc := 116) t28_116 (v := 0) (by decide) ?_
                        have w624 : (zI (zsI (zsI w585M 158 1 (zI w585M 155 4)) 155 3 (zI w585M 155 2)) 155 2).toInt = (zI w585M 155 2).toInt := (congrArg Int32.toInt ((zIoj (by decide)).trans ((zIo (by decide)).trans rfl))).trans rfl
                        exact zs_iret (pc := 117) t28_117 mr28 (by decide) (hQ _ _ w585s w623 ((((((((zFr.refl).put rfl).trans (w554F.mono rfl)).put rfl).put rfl).trans (w585F.mono rfl)).put rfl).put rfl) (fun p hp => by obtain rfl : w11n = p := (by omega); exact Or.inl ⟨by decide, ((pIt.w (by omega)).trans (pB.y (pRd.y w555e (by omega) (by omega) (by omega)))).trans (pB.f (pRd.n w586e (by omega)))⟩) (by decide) (by decide))
            · refine zs_icmp_eqF (pc := 5) t47_5 w574 li44 (by omega) ?_
              refine zs_aload_n (pc := 8) t47_8 rfl ?_
              refine zs_aload_n (pc := 9) t47_9 rfl ?_
              refine zs_get (pc := 10) t47_10 (by decide) (zk1 (w554s.k fk_zMc_155)) (zfvi rfl ((zIo (by decide)).trans rfl)) ?_
              refine zs_invV (pc := 13) (k := 155) (as' := [.int (zI w554M 155 2)]) (st := []) t47_13 mf34 rfl rfl (Or.inl ⟨by decide, (zk1 (w554s.k fk_zMc_155))⟩) ⟨by decide, by decide, Nat.le_of_ble_eq_true rfl, Nat.le_of_ble_eq_true rfl⟩ (zs_in (by decide) mf34 (Nat.le_of_ble_eq_true rfl) ?_) (fun _ _ q => q)
              show zGo X l 0 0 0 34 0 [(0, .ref 155), (1, .int (zI w554M 155 2))] [] (zsI w554M 158 0 (zI w554M 155 4)) _
              refine zs_aload_n (pc := 0) t34_0 rfl ?_
              refine zs_iload_n (pc := 1) t34_1 rfl ?_
              have w625 : zIv cLo cHi (zsI (zsI w554M 158 0 (zI w554M 155 4)) 155 3 (zI w554M 155 2)) := zIv.put w573 (show (-2147483648) ≤ (zI w554M 155 2).toInt ∧ (zI w554M 155 2).toInt ≤ 2147483647 from zrg (zI w554M 155 2))
              refine zs_putI (pc := 2) t34_2 (zk1 (w554s.k fk_zMc_155)) rfl ?_
              refine zs_iconst (pc := 5) t34_5 (v := 0) (by decide) ?_
              refine zs_iret (pc := 6) t34_6 mr34 (by decide) ?_
              show zGo X l 1 0 0 47 16 [(0, .ref 155), (1, .int (44 : Int32))] [.int (0 : Int32)] (zsI (zsI w554M 158 0 (zI w554M 155 4)) 155 3 (zI w554M 155 2)) _
              refine zs_iret (pc := 16) t47_16 mr47 (by decide) ?_
              show zGo X l 5 0 0 28 113 [(6, .int (0 : Int32)), (5, .int (2 : Int32)), (4, .int (zpt M)), (3, .int (zI M 155 2)), (0, .ref 157), (1, .ref 155), (2, .ref 19)] [.int (0 : Int32)] (zsI (zsI w554M 158 0 (zI w554M 155 4)) 155 3 (zI w554M 155 2)) _
              refine zs_if_neF (pc := 113) t28_113 li0 (by decide) ?_
              refine zs_iconst (pc := 116) t28_116 (v := 0) (by decide) ?_
              have w626 : (zI (zsI (zsI w554M 158 0 (zI w554M 155 4)) 155 3 (zI w554M 155 2)) 155 2).toInt = (zI w554M 155 2).toInt := (congrArg Int32.toInt ((zIoj (by decide)).trans ((zIo (by decide)).trans rfl))).trans rfl
              exact zs_iret (pc := 117) t28_117 mr28 (by decide) (hQ _ _ w554s w625 (((((zFr.refl).put rfl).trans (w554F.mono rfl)).put rfl).put rfl) (fun p hp => by obtain rfl : w11n = p := (by omega); exact Or.inl ⟨by decide, (pIt.w (by omega)).trans (pB.f (pRd.n w555e (by omega)))⟩) (by decide) (by decide))
    refine zs_tswD (pc := 1) t32_1 w12 (by omega) (pc2 := 92) rfl ?_
    refine zs_iconst (pc := 92) t32_92 (v := 0) (by decide) ?_
    refine zs_iret (pc := 93) t32_93 mr32 (by decide) ?_
    show zGo X l 5 0 0 28 16 [(4, .int (zpt M)), (3, .int (zI M 155 2)), (0, .ref 157), (1, .ref 155), (2, .ref 19)] [.int (0 : Int32)] (zsI M 155 2 w19v) _
    refine zs_istore (pc := 16) t28_16 (ls' := [(5, .int (0 : Int32)), (4, .int (zpt M)), (3, .int (zI M 155 2)), (0, .ref 157), (1, .ref 155), (2, .ref 19)]) (zml mf28 (by decide)) rfl ?_
    refine zs_iload (pc := 18) t28_18 rfl ?_
    refine zs_if_eqT (pc := 20) t28_20 li0 (by decide) ?_
    refine zs_aload_n (pc := 32) t28_32 rfl ?_
    refine zs_iload_n (pc := 33) t28_33 rfl ?_
    refine zs_invV (pc := 34) (k := 155) (as' := [.int (zI M 155 2)]) (st := []) t28_34 mf34 rfl rfl (Or.inl ⟨by decide, (zk1 (hs.k fk_zMc_155))⟩) ⟨by decide, by decide, Nat.le_of_ble_eq_true rfl, Nat.le_of_ble_eq_true rfl⟩ (zs_in (by decide) mf34 (Nat.le_of_ble_eq_true rfl) ?_) (fun _ _ q => q)
    show zGo X l 0 0 0 34 0 [(0, .ref 155), (1, .int (zI M 155 2))] [] (zsI M 155 2 w19v) _
    refine zs_aload_n (pc := 0) t34_0 rfl ?_
    refine zs_iload_n (pc := 1) t34_1 rfl ?_
    have w627 : zIv cLo cHi (zsI (zsI M 155 2 w19v) 155 3 (zI M 155 2)) := zIv.put w20 (show (-2147483648) ≤ (zI M 155 2).toInt ∧ (zI M 155 2).toInt ≤ 2147483647 from zrg (zI M 155 2))
    refine zs_putI (pc := 2) t34_2 (zk1 (hs.k fk_zMc_155)) rfl ?_
    refine zs_iconst (pc := 5) t34_5 (v := 0) (by decide) ?_
    refine zs_iret (pc := 6) t34_6 mr34 (by decide) ?_
    show zGo X l 5 0 0 28 37 [(5, .int (0 : Int32)), (4, .int (zpt M)), (3, .int (zI M 155 2)), (0, .ref 157), (1, .ref 155), (2, .ref 19)] [.int (0 : Int32)] (zsI (zsI M 155 2 w19v) 155 3 (zI M 155 2)) _
    have w628 : (zI (zsI (zsI M 155 2 w19v) 155 3 (zI M 155 2)) 155 2).toInt = ((zI M 155 2).toInt + 1) := (congrArg Int32.toInt ((zIoj (by decide)).trans zIs)).trans w19
    exact zs_iret (pc := 37) t28_37 mr28 (by decide) (hQ _ _ hs w627 (((zFr.refl).put rfl).put rfl) (fun p hp => by obtain rfl : w11n = p := (by omega); exact Or.inl ⟨by decide, pIt.no (by omega)⟩) (by decide) (by decide))
