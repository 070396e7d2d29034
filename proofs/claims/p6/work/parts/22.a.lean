theorem C117_242 {X : zX} {l : Launch} {M : zM} {Q : Option Value → zM → Prop} {a : Int32} (hs : zSk zMc M) (hI : zIv cLo cHi M) (hQ : ∀ (M' : zM) (v : Int32), zSk zMc M' → zIv cLo cHi M' → zFr [(242, 254, none)] M M' → 0 ≤ v.toInt → v.toInt ≤ 127 → Q (some (.int v)) M') : zCall X l 0 0 0 117 [.ref 242, .int a] M Q := by
  have ga := zrg a
  refine zs_in (by decide) mf117 (Nat.le_of_ble_eq_true rfl) ?_
  show zGo X l 0 0 0 117 0 [(0, .ref 242), (1, .int a)] [] M _
  refine zs_iload_n (pc := 0) t117_0 rfl ?_
  refine zs_bipush (pc := 1) t117_1 (v := 127) (by decide) ?_
  obtain ⟨w1v, w1⟩ : ∃ v, a &&& (127 : Int32) = v := ⟨_, rfl⟩
  have w1g : 0 ≤ w1v.toInt ∧ w1v.toInt ≤ 127 := by rw [← w1]; exact zand li127 (by decide)
  refine zs_iand (pc := 3) t117_3 (c := w1v) w1 ?_
  refine zs_istore_n (pc := 4) t117_4 (ls' := [(2, .int w1v), (0, .ref 242), (1, .int a)]) (zml mf117 (by decide)) rfl ?_
  refine zs_iconst (pc := 5) t117_5 (v := 0) (by decide) ?_
  refine zs_istore_n (pc := 6) t117_6 (ls' := [(3, .int (0 : Int32)), (2, .int w1v), (0, .ref 242), (1, .int a)]) (zml mf117 (by decide)) rfl ?_
  have w2L : ∀ (m : Nat) (w2x2 : Int32) (w2x3 : Int32), (0 ≤ w2x2.toInt ∧ w2x2.toInt ≤ 127) → (0 ≤ w2x3.toInt ∧ w2x3.toInt ≤ 128) → 128 - w2x3.toInt ≤ (m : Int) → zGo X l 0 0 0 117 7 [(0, .ref 242), (1, .int a), (2, .int w2x2), (3, .int w2x3)] [] M Q := by
    intro m
    induction m using Nat.strongRecOn with
    | ind w2m w2ih =>
      intro w2x2 w2x3 w2b2 w2b3 w2q
      refine zs_iload_n (pc := 7) t117_7 rfl ?_
      refine zs_sipush (pc := 8) t117_8 (v := 128) (by decide) ?_
      by_cases w3 : 128 ≤ w2x3.toInt
      · refine zs_icmp_geT (pc := 11) t117_11 rfl li128 (by omega) ?_
        refine zs_aload_n (pc := 52) t117_52 rfl ?_
        refine zs_get (pc := 53) t117_53 (by decide) (zk1 (hs.k fk_zMc_242)) (hs.p rfl fv_zMc_242_11) ?_
        refine zs_iload_n (pc := 56) t117_56 rfl ?_
        refine zs_aload_n (pc := 57) t117_57 rfl ?_
        have w4 := ib242_10 hI
        refine zs_get (pc := 58) t117_58 (by decide) (zk1 (hs.k fk_zMc_242)) (zfvi rfl rfl) ?_
        obtain ⟨w5n, w5⟩ : ∃ n : Nat, w2x2.toInt = (n : Int) := ⟨w2x2.toInt.toNat, by omega⟩
        have w6 : zIv cLo cHi (zsI M 250 w5n (zI M 242 10)) := zIv.put hI (show (-2147483648) ≤ (zI M 242 10).toInt ∧ (zI M 242 10).toInt ≤ 2147483647 from (zrg (zI M 242 10)))
        refine zs_iast (pc := 61) t117_61 (j := w5n) (by decide) (zk1 (hs.k fk_zMc_250)) w5 (zk2 (hs.k fk_zMc_250) (by omega)) ?_
        refine zs_aload_n (pc := 62) t117_62 rfl ?_
        refine zs_get (pc := 63) t117_63 (by decide) (zk1 (hs.k fk_zMc_242)) (hs.p rfl fv_zMc_242_12) ?_
        refine zs_iload_n (pc := 66) t117_66 rfl ?_
        refine zs_iload_n (pc := 67) t117_67 rfl ?_
        have w7 : zIv cLo cHi (zsI (zsI M 250 w5n (zI M 242 10)) 251 w5n a) := zIv.put w6 (show (-2147483648) ≤ a.toInt ∧ a.toInt ≤ 2147483647 from (zrg a))
        refine zs_iast (pc := 68) t117_68 (j := w5n) (by decide) (zk1 (hs.k fk_zMc_251)) w5 (zk2 (hs.k fk_zMc_251) (by omega)) ?_
        refine zs_aload_n (pc := 69) t117_69 rfl ?_
        refine zs_get (pc := 70) t117_70 (by decide) (zk1 (hs.k fk_zMc_242)) (hs.p rfl fv_zMc_242_13) ?_
        refine zs_iload_n (pc := 73) t117_73 rfl ?_
        refine zs_iconst (pc := 74) t117_74 (v := 0) (by decide) ?_
        have w8 : zIv cLo cHi (zsI (zsI (zsI M 250 w5n (zI M 242 10)) 251 w5n a) 252 w5n (0 : Int32)) := zIv.put w7 (show (-2147483648) ≤ (0 : Int32).toInt ∧ (0 : Int32).toInt ≤ 2147483647 from (zrg (0 : Int32)))
        refine zs_iast (pc := 75) t117_75 (j := w5n) (by decide) (zk1 (hs.k fk_zMc_252)) w5 (zk2 (hs.k fk_zMc_252) (by omega)) ?_
        refine zs_aload_n (pc := 76) t117_76 rfl ?_
        refine zs_get (pc := 77) t117_77 (by decide) (zk1 (hs.k fk_zMc_242)) (hs.p rfl fv_zMc_242_14) ?_
        refine zs_iload_n (pc := 80) t117_80 rfl ?_
        refine zs_iconst (pc := 81) t117_81 (v := 0) (by decide) ?_
        have w9 : zIv cLo cHi (zsI (zsI (zsI (zsI M 250 w5n (zI M 242 10)) 251 w5n a) 252 w5n (0 : Int32)) 253 w5n (0 : Int32)) := zIv.put w8 (show (-2147483648) ≤ (0 : Int32).toInt ∧ (0 : Int32).toInt ≤ 2147483647 from (zrg (0 : Int32)))
        refine zs_iast (pc := 82) t117_82 (j := w5n) (by decide) (zk1 (hs.k fk_zMc_253)) w5 (zk2 (hs.k fk_zMc_253) (by omega)) ?_
        refine zs_aload_n (pc := 83) t117_83 rfl ?_
        have w10 := ib242_15 hI
        refine zs_get (pc := 84) t117_84 (by decide) (zk1 (hs.k fk_zMc_242)) (zfvi rfl ((zIo (by decide)).trans ((zIo (by decide)).trans ((zIo (by decide)).trans ((zIo (by decide)).trans rfl))))) ?_
        refine zs_bipush (pc := 87) t117_87 (v := 60) (by decide) ?_
        by_cases w11 : 60 ≤ (zI M 242 15).toInt
        · refine zs_icmp_geT (pc := 89) t117_89 rfl li60 (by omega) ?_
          refine zs_iload_n (pc := 112) t117_112 rfl ?_
          exact zs_iret (pc := 113) t117_113 mr117 rfl (hQ _ _ hs w9 (((((zFr.refl).put rfl).put rfl).put rfl).put rfl) (by omega) (by omega))
        · refine zs_icmp_geF (pc := 89) t117_89 rfl li60 (by omega) ?_
          refine zs_aload_n (pc := 92) t117_92 rfl ?_
          refine zs_get (pc := 93) t117_93 (by decide) (zk1 (hs.k fk_zMc_242)) (hs.p rfl fv_zMc_242_16) ?_
          refine zs_aload_n (pc := 96) t117_96 rfl ?_
          refine zs_get (pc := 97) t117_97 (by decide) (zk1 (hs.k fk_zMc_242)) (zfvi rfl ((zIo (by decide)).trans ((zIo (by decide)).trans ((zIo (by decide)).trans ((zIo (by decide)).trans rfl))))) ?_
          refine zs_iload_n (pc := 100) t117_100 rfl ?_
          obtain ⟨w12n, w12⟩ : ∃ n : Nat, (zI M 242 15).toInt = (n : Int) := ⟨(zI M 242 15).toInt.toNat, by omega⟩
          have w13 : zIv cLo cHi (zsI (zsI (zsI (zsI (zsI M 250 w5n (zI M 242 10)) 251 w5n a) 252 w5n (0 : Int32)) 253 w5n (0 : Int32)) 254 w12n w2x2) := zIv.put w9 (show 0 ≤ w2x2.toInt ∧ w2x2.toInt ≤ 127 from ⟨by omega, by omega⟩)
          refine zs_iast (pc := 101) t117_101 (j := w12n) (by decide) (zk1 (hs.k fk_zMc_254)) w12 (zk2 (hs.k fk_zMc_254) (by omega)) ?_
          refine zs_aload_n (pc := 102) t117_102 rfl ?_
          refine zs_dup (pc := 103) t117_103 rfl ?_
          refine zs_get (pc := 104) t117_104 (by decide) (zk1 (hs.k fk_zMc_242)) (zfvi rfl ((zIo (by decide)).trans ((zIo (by decide)).trans ((zIo (by decide)).trans ((zIo (by decide)).trans ((zIo (by decide)).trans rfl)))))) ?_
          refine zs_iconst (pc := 107) t117_107 (v := 1) (by decide) ?_
          obtain ⟨w14v, w14e, w14⟩ := ziadd (a := (zI M 242 15)) (b := (1 : Int32)) rfl li1 (by omega) (by omega)
          refine zs_iadd (pc := 108) t117_108 (c := w14v) w14e ?_
          have w15 : zIv cLo cHi (zsI (zsI (zsI (zsI (zsI (zsI M 250 w5n (zI M 242 10)) 251 w5n a) 252 w5n (0 : Int32)) 253 w5n (0 : Int32)) 254 w12n w2x2) 242 15 w14v) := zIv.put w13 (show 0 ≤ w14v.toInt ∧ w14v.toInt ≤ 60 from ⟨by omega, by omega⟩)
          refine zs_putI (pc := 109) t117_109 (zk1 (hs.k fk_zMc_242)) rfl ?_
          refine zs_iload_n (pc := 112) t117_112 rfl ?_
          exact zs_iret (pc := 113) t117_113 mr117 rfl (hQ _ _ hs w15 (((((((zFr.refl).put rfl).put rfl).put rfl).put rfl).put rfl).put rfl) (by omega) (by omega))
      · refine zs_icmp_geF (pc := 11) t117_11 rfl li128 (by omega) ?_
        refine zs_aload_n (pc := 14) t117_14 rfl ?_
        refine zs_get (pc := 15) t117_15 (by decide) (zk1 (hs.k fk_zMc_242)) (hs.p rfl fv_zMc_242_11) ?_
        refine zs_iload_n (pc := 18) t117_18 rfl ?_
        obtain ⟨w16n, w16⟩ : ∃ n : Nat, w2x2.toInt = (n : Int) := ⟨w2x2.toInt.toNat, by omega⟩
        have w17 := ib250 hI w16n
        refine zs_iald (pc := 19) t117_19 (j := w16n) (by decide) (zk1 (hs.k fk_zMc_250)) w16 (zk2 (hs.k fk_zMc_250) (by omega)) rfl ?_
        refine zs_aload_n (pc := 20) t117_20 rfl ?_
        have w18 := ib242_10 hI
        refine zs_get (pc := 21) t117_21 (by decide) (zk1 (hs.k fk_zMc_242)) (zfvi rfl rfl) ?_
        by_cases w19 : (zI M 250 w16n).toInt ≠ (zI M 242 10).toInt
        · refine zs_icmp_neT (pc := 24) t117_24 rfl rfl (by omega) ?_
          refine zs_aload_n (pc := 52) t117_52 rfl ?_
          refine zs_get (pc := 53) t117_53 (by decide) (zk1 (hs.k fk_zMc_242)) (hs.p rfl fv_zMc_242_11) ?_
          refine zs_iload_n (pc := 56) t117_56 rfl ?_
          refine zs_aload_n (pc := 57) t117_57 rfl ?_
          refine zs_get (pc := 58) t117_58 (by decide) (zk1 (hs.k fk_zMc_242)) (zfvi rfl rfl) ?_
          have w20 : zIv cLo cHi (zsI M 250 w16n (zI M 242 10)) := zIv.put hI (show (-2147483648) ≤ (zI M 242 10).toInt ∧ (zI M 242 10).toInt ≤ 2147483647 from (zrg (zI M 242 10)))
          refine zs_iast (pc := 61) t117_61 (j := w16n) (by decide) (zk1 (hs.k fk_zMc_250)) w16 (zk2 (hs.k fk_zMc_250) (by omega)) ?_
          refine zs_aload_n (pc := 62) t117_62 rfl ?_
          refine zs_get (pc := 63) t117_63 (by decide) (zk1 (hs.k fk_zMc_242)) (hs.p rfl fv_zMc_242_12) ?_
          refine zs_iload_n (pc := 66) t117_66 rfl ?_
          refine zs_iload_n (pc := 67) t117_67 rfl ?_
          have w21 : zIv cLo cHi (zsI (zsI M 250 w16n (zI M 242 10)) 251 w16n a) := zIv.put w20 (show (-2147483648) ≤ a.toInt ∧ a.toInt ≤ 2147483647 from (zrg a))
          refine zs_iast (pc := 68) t117_68 (j := w16n) (by decide) (zk1 (hs.k fk_zMc_251)) w16 (zk2 (hs.k fk_zMc_251) (by omega)) ?_
          refine zs_aload_n (pc := 69) t117_69 rfl ?_
          refine zs_get (pc := 70) t117_70 (by decide) (zk1 (hs.k fk_zMc_242)) (hs.p rfl fv_zMc_242_13) ?_
          refine zs_iload_n (pc := 73) t117_73 rfl ?_
          refine zs_iconst (pc := 74) t117_74 (v := 0) (by decide) ?_
          have w22 : zIv cLo cHi (zsI (zsI (zsI M 250 w16n (zI M 242 10)) 251 w16n a) 252 w16n (0 : Int32)) := zIv.put w21 (show (-2147483648) ≤ (0 : Int32).toInt ∧ (0 : Int32).toInt ≤ 2147483647 from (zrg (0 : Int32)))
          refine zs_iast (pc := 75) t117_75 (j := w16n) (by decide) (zk1 (hs.k fk_zMc_252)) w16 (zk2 (hs.k fk_zMc_252) (by omega)) ?_
          refine zs_aload_n (pc := 76) t117_76 rfl ?_
          refine zs_get (pc := 77) t117_77 (by decide) (zk1 (hs.k fk_zMc_242)) (hs.p rfl fv_zMc_242_14) ?_
          refine zs_iload_n (pc := 80) t117_80 rfl ?_
          refine zs_iconst (pc := 81) t117_81 (v := 0) (by decide) ?_
          have w23 : zIv cLo cHi (zsI (zsI (zsI (zsI M 250 w16n (zI M 242 10)) 251 w16n a) 252 w16n (0 : Int32)) 253 w16n (0 : Int32)) := zIv.put w22 (show (-2147483648) ≤ (0 : Int32).toInt ∧ (0 : Int32).toInt ≤ 2147483647 from (zrg (0 : Int32)))
          refine zs_iast (pc := 82) t117_82 (j := w16n) (by decide) (zk1 (hs.k fk_zMc_253)) w16 (zk2 (hs.k fk_zMc_253) (by omega)) ?_
          refine zs_aload_n (pc := 83) t117_83 rfl ?_
          have w24 := ib242_15 hI
          refine zs_get (pc := 84) t117_84 (by decide) (zk1 (hs.k fk_zMc_242)) (zfvi rfl ((zIo (by decide)).trans ((zIo (by decide)).trans ((zIo (by decide)).trans ((zIo (by decide)).trans rfl))))) ?_
          refine zs_bipush (pc := 87) t117_87 (v := 60) (by decide) ?_
          by_cases w25 : 60 ≤ (zI M 242 15).toInt
          · refine zs_icmp_geT (pc := 89) t117_89 rfl li60 (by omega) ?_
            refine zs_iload_n (pc := 112) t117_112 rfl ?_
            exact zs_iret (pc := 113) t117_113 mr117 rfl (hQ _ _ hs w23 (((((zFr.refl).put rfl).put rfl).put rfl).put rfl) (by omega) (by omega))
          · refine zs_icmp_geF (pc := 89) t117_89 rfl li60 (by omega) ?_
            refine zs_aload_n (pc := 92) t117_92 rfl ?_
            refine zs_get (pc := 93) t117_93 (by decide) (zk1 (hs.k fk_zMc_242)) (hs.p rfl fv_zMc_242_16) ?_
            refine zs_aload_n (pc := 96) t117_96 rfl ?_
            refine zs_get (pc := 97) t117_97 (by decide) (zk1 (hs.k fk_zMc_242)) (zfvi rfl ((zIo (by decide)).trans ((zIo (by decide)).trans ((zIo (by decide)).trans ((zIo (by decide)).trans rfl))))) ?_
            refine zs_iload_n (pc := 100) t117_100 rfl ?_
            obtain ⟨w26n, w26⟩ : ∃ n : Nat, (zI M 242 15).toInt = (n : Int) := ⟨(zI M 242 15).toInt.toNat, by omega⟩
            have w27 : zIv cLo cHi (zsI (zsI (zsI (zsI (zsI M 250 w16n (zI M 242 10)) 251 w16n a) 252 w16n (0 : Int32)) 253 w16n (0 : Int32)) 254 w26n w2x2) := zIv.put w23 (show 0 ≤ w2x2.toInt ∧ w2x2.toInt ≤ 127 from ⟨by omega, by omega⟩)
            refine zs_iast (pc := 101) t117_101 (j := w26n) (by decide) (zk1 (hs.k fk_zMc_254)) w26 (zk2 (hs.k fk_zMc_254) (by omega)) ?_
            refine zs_aload_n (pc := 102) t117_102 rfl ?_
            refine zs_dup (pc := 103) t117_103 rfl ?_
            refine zs_get (pc := 104) t117_104 (by decide) (zk1 (hs.k fk_zMc_242)) (zfvi rfl ((zIo (by decide)).trans ((zIo (by decide)).trans ((zIo (by decide)).trans ((zIo (by decide)).trans ((zIo (by decide)).trans rfl)))))) ?_
            refine zs_iconst (pc := 107) t117_107 (v := 1) (by decide) ?_
            obtain ⟨w28v, w28e, w28⟩ := ziadd (a := (zI M 242 15)) (b := (1 : Int32)) rfl li1 (by omega) (by omega)
            refine zs_iadd (pc := 108) t117_108 (c := w28v) w28e ?_
            have w29 : zIv cLo cHi (zsI (zsI (zsI (zsI (zsI (zsI M 250 w16n (zI M 242 10)) 251 w16n a) 252 w16n (0 : Int32)) 253 w16n (0 : Int32)) 254 w26n w2x2) 242 15 w28v) := zIv.put w27 (show 0 ≤ w28v.toInt ∧ w28v.toInt ≤ 60 from ⟨by omega, by omega⟩)
            refine zs_putI (pc := 109) t117_109 (zk1 (hs.k fk_zMc_242)) rfl ?_
            refine zs_iload_n (pc := 112) t117_112 rfl ?_
            exact zs_iret (pc := 113) t117_113 mr117 rfl (hQ _ _ hs w29 (((((((zFr.refl).put rfl).put rfl).put rfl).put rfl).put rfl).put rfl) (by omega) (by omega))
        · refine zs_icmp_neF (pc := 24) t117_24 rfl rfl (by omega) ?_
          refine zs_aload_n (pc := 27) t117_27 rfl ?_
          refine zs_get (pc := 28) t117_28 (by decide) (zk1 (hs.k fk_zMc_242)) (hs.p rfl fv_zMc_242_12) ?_
          refine zs_iload_n (pc := 31) t117_31 rfl ?_
          have w30 := ib251 hI w16n
          refine zs_iald (pc := 32) t117_32 (j := w16n) (by decide) (zk1 (hs.k fk_zMc_251)) w16 (zk2 (hs.k fk_zMc_251) (by omega)) rfl ?_
          refine zs_iload_n (pc := 33) t117_33 rfl ?_
          by_cases w31 : (zI M 251 w16n).toInt ≠ a.toInt
          · refine zs_icmp_neT (pc := 34) t117_34 rfl rfl (by omega) ?_
            refine zs_iload_n (pc := 39) t117_39 rfl ?_
            refine zs_iconst (pc := 40) t117_40 (v := 1) (by decide) ?_
            obtain ⟨w32v, w32e, w32⟩ := ziadd (a := w2x2) (b := (1 : Int32)) rfl li1 (by omega) (by omega)
            refine zs_iadd (pc := 41) t117_41 (c := w32v) w32e ?_
            refine zs_bipush (pc := 42) t117_42 (v := 127) (by decide) ?_
            obtain ⟨w33v, w33⟩ : ∃ v, w32v &&& (127 : Int32) = v := ⟨_, rfl⟩
            have w33g : 0 ≤ w33v.toInt ∧ w33v.toInt ≤ 127 := by rw [← w33]; exact zand li127 (by decide)
            refine zs_iand (pc := 44) t117_44 (c := w33v) w33 ?_
            refine zs_istore_n (pc := 45) t117_45 (ls' := [(2, .int w33v), (0, .ref 242), (1, .int a), (3, .int w2x3)]) (zml mf117 (by decide)) rfl ?_
            obtain ⟨w34v, w34e, w34⟩ := ziadd (a := w2x3) (b := Int32.ofInt 1) rfl (show (Int32.ofInt 1).toInt = 1 by decide) (by omega) (by omega)
            refine zs_iinc (pc := 46) t117_46 (ls' := [(3, .int w34v), (2, .int w33v), (0, .ref 242), (1, .int a)]) (zml mf117 (by decide)) rfl (c := w34v) w34e rfl ?_
            refine zs_goto (pc := 49) t117_49 ?_
            refine zGo.locals (ls' := [(0, .ref 242), (1, .int a), (2, .int w33v), (3, .int w34v)]) (by simp) ?_
            exact w2ih (w2m - 1) (by omega) w33v w34v ⟨by omega, by omega⟩ ⟨by omega, by omega⟩ (by omega)
          · refine zs_icmp_neF (pc := 34) t117_34 rfl rfl (by omega) ?_
            refine zs_iload_n (pc := 37) t117_37 rfl ?_
            exact zs_iret (pc := 38) t117_38 mr117 rfl (hQ _ _ hs hI (zFr.refl) (by omega) (by omega))
  refine zGo.locals (ls' := [(0, .ref 242), (1, .int a), (2, .int w1v), (3, .int (0 : Int32))]) (by simp) ?_
  have w35 := li0
  exact w2L ((128 - 0 : Int).toNat) w1v (0 : Int32) ⟨by omega, by omega⟩ ⟨by decide, by decide⟩ (by omega)
theorem C108_242 {X : zX} {l : Launch} {M : zM} {Q : Option Value → zM → Prop} {a b : Int32} (hs : zSk zMc M) (hI : zIv cLo cHi M) (hQ : ∀ M', zSk zMc M' → zIv cLo cHi M' → zFr [(242, 254, none)] M M' → Q none M') : zCall X l 0 0 0 108 [.ref 242, .int a, .int b] M Q := by
  have ga := zrg a
  have gb := zrg b
  refine zs_in (by decide) mf108 (Nat.le_of_ble_eq_true rfl) ?_
  show zGo X l 0 0 0 108 0 [(0, .ref 242), (1, .int a), (2, .int b)] [] M _
  refine zs_aload_n (pc := 0) t108_0 rfl ?_
  refine zs_iconst (pc := 1) t108_1 (v := 0) (by decide) ?_
  have w1 : zIv cLo cHi (zsI M 242 0 (0 : Int32)) := zIv.put hI (show 0 ≤ (0 : Int32).toInt ∧ (0 : Int32).toInt ≤ 287 from ⟨by decide, by decide⟩)
  refine zs_putI (pc := 2) t108_2 (zk1 (hs.k fk_zMc_242)) rfl ?_
  refine zs_iconst (pc := 5) t108_5 (v := 0) (by decide) ?_
  refine zs_istore_n (pc := 6) t108_6 (ls' := [(3, .int (0 : Int32)), (0, .ref 242), (1, .int a), (2, .int b)]) (zml mf108 (by decide)) rfl ?_
  have w2L : ∀ (m : Nat) (w2x3 : Int32) (w2M : zM), (0 ≤ w2x3.toInt ∧ w2x3.toInt ≤ 4) → zSk zMc w2M → zIv cLo cHi w2M → zFr [(242, 254, none)] (zsI M 242 0 (0 : Int32)) w2M → 4 - w2x3.toInt ≤ (m : Int) → zGo X l 0 0 0 108 7 [(0, .ref 242), (1, .int a), (2, .int b), (3, .int w2x3)] [] w2M Q := by
    intro m
    induction m using Nat.strongRecOn with
    | ind w2m w2ih =>
      intro w2x3 w2M w2b3 w2s w2I w2F w2q
      refine zs_iload_n (pc := 7) t108_7 rfl ?_
      refine zs_iload_n (pc := 8) t108_8 rfl ?_
      by_cases w3 : a.toInt < w2x3.toInt
      · refine zs_icmp_gtT (pc := 9) t108_9 rfl rfl (by omega) ?_
        exact zs_vret (pc := 175) t108_175 mr108 (hQ _ w2s w2I (((zFr.refl).put rfl).trans (w2F.mono rfl)))
      · refine zs_icmp_gtF (pc := 9) t108_9 rfl rfl (by omega) ?_
        refine zs_iload_n (pc := 12) t108_12 rfl ?_
        refine zs_iconst (pc := 13) t108_13 (v := 3) (by decide) ?_
        by_cases w4 : 3 < w2x3.toInt
        · refine zs_icmp_gtT (pc := 14) t108_14 rfl li3 (by omega) ?_
          exact zs_vret (pc := 175) t108_175 mr108 (hQ _ w2s w2I (((zFr.refl).put rfl).trans (w2F.mono rfl)))
        · refine zs_icmp_gtF (pc := 14) t108_14 rfl li3 (by omega) ?_
          refine zs_iconst (pc := 17) t108_17 (v := 0) (by decide) ?_
          refine zs_istore (pc := 18) t108_18 (ls' := [(4, .int (0 : Int32)), (0, .ref 242), (1, .int a), (2, .int b), (3, .int w2x3)]) (zml mf108 (by decide)) rfl ?_
          have w5L : ∀ (m : Nat) (w5x4 : Int32) (w5M : zM), (0 ≤ w5x4.toInt ∧ w5x4.toInt ≤ 21) → zSk zMc w5M → zIv cLo cHi w5M → zFr [(242, 254, none)] w2M w5M → 21 - w5x4.toInt ≤ (m : Int) → zGo X l 0 0 0 108 20 [(0, .ref 242), (1, .int a), (2, .int b), (3, .int w2x3), (4, .int w5x4)] [] w5M Q := by
            intro m
            induction m using Nat.strongRecOn with
            | ind w5m w5ih =>
              intro w5x4 w5M w5b4 w5s w5I w5F w5q
              refine zs_iload (pc := 20) t108_20 rfl ?_
              refine zs_iload_n (pc := 22) t108_22 rfl ?_
              by_cases w6 : b.toInt < w5x4.toInt
              · refine zs_icmp_gtT (pc := 23) t108_23 rfl rfl (by omega) ?_
                obtain ⟨w7v, w7e, w7⟩ := ziadd (a := w2x3) (b := Int32.ofInt 1) rfl (show (Int32.ofInt 1).toInt = 1 by decide) (by omega) (by omega)
                refine zs_iinc (pc := 169) t108_169 (ls' := [(3, .int w7v), (0, .ref 242), (1, .int a), (2, .int b), (4, .int w5x4)]) (zml mf108 (by decide)) rfl (c := w7v) w7e rfl ?_
                refine zs_goto (pc := 172) t108_172 ?_
                refine zGo.locals (ls' := [(0, .ref 242), (1, .int a), (2, .int b), (3, .int w7v)]) (by simp) ?_
                exact w2ih (w2m - 1) (by omega) w7v w5M ⟨by omega, by omega⟩ w5s w5I (((zFr.refl).trans (w2F.mono rfl)).trans (w5F.mono rfl)) (by omega)
              · refine zs_icmp_gtF (pc := 23) t108_23 rfl rfl (by omega) ?_
                refine zs_iload (pc := 26) t108_26 rfl ?_
                refine zs_bipush (pc := 28) t108_28 (v := 20) (by decide) ?_
                by_cases w8 : 20 < w5x4.toInt
                · refine zs_icmp_gtT (pc := 30) t108_30 rfl li20 (by omega) ?_
                  obtain ⟨w9v, w9e, w9⟩ := ziadd (a := w2x3) (b := Int32.ofInt 1) rfl (show (Int32.ofInt 1).toInt = 1 by decide) (by omega) (by omega)
                  refine zs_iinc (pc := 169) t108_169 (ls' := [(3, .int w9v), (0, .ref 242), (1, .int a), (2, .int b), (4, .int w5x4)]) (zml mf108 (by decide)) rfl (c := w9v) w9e rfl ?_
                  refine zs_goto (pc := 172) t108_172 ?_
                  refine zGo.locals (ls' := [(0, .ref 242), (1, .int a), (2, .int b), (3, .int w9v)]) (by simp) ?_
                  exact w2ih (w2m - 1) (by omega) w9v w5M ⟨by omega, by omega⟩ w5s w5I (((zFr.refl).trans (w2F.mono rfl)).trans (w5F.mono rfl)) (by omega)
                · refine zs_icmp_gtF (pc := 30) t108_30 rfl li20 (by omega) ?_
                  refine zs_iconst (pc := 33) t108_33 (v := 0) (by decide) ?_
                  refine zs_istore (pc := 34) t108_34 (ls' := [(5, .int (0 : Int32)), (0, .ref 242), (1, .int a), (2, .int b), (3, .int w2x3), (4, .int w5x4)]) (zml mf108 (by decide)) rfl ?_
                  have w10L : ∀ (m : Nat) (w10x5 : Int32) (w10M : zM), (0 ≤ w10x5.toInt ∧ w10x5.toInt ≤ 4) → zSk zMc w10M → zIv cLo cHi w10M → zFr [(242, 254, none)] w5M w10M → 4 - w10x5.toInt ≤ (m : Int) → zGo X l 0 0 0 108 36 [(0, .ref 242), (1, .int a), (2, .int b), (3, .int w2x3), (4, .int w5x4), (5, .int w10x5)] [] w10M Q := by
                    intro m
                    induction m using Nat.strongRecOn with
                    | ind w10m w10ih =>
                      intro w10x5 w10M w10b5 w10s w10I w10F w10q
                      refine zs_iload (pc := 36) t108_36 rfl ?_
                      refine zs_iconst (pc := 38) t108_38 (v := 4) (by decide) ?_
                      by_cases w11 : 4 ≤ w10x5.toInt
                      · refine zs_icmp_geT (pc := 39) t108_39 rfl li4 (by omega) ?_
                        obtain ⟨w12v, w12e, w12⟩ := ziadd (a := w5x4) (b := Int32.ofInt 1) rfl (show (Int32.ofInt 1).toInt = 1 by decide) (by omega) (by omega)
                        refine zs_iinc (pc := 163) t108_163 (ls' := [(4, .int w12v), (0, .ref 242), (1, .int a), (2, .int b), (3, .int w2x3), (5, .int w10x5)]) (zml mf108 (by decide)) rfl (c := w12v) w12e rfl ?_
                        refine zs_goto (pc := 166) t108_166 ?_
                        refine zGo.locals (ls' := [(0, .ref 242), (1, .int a), (2, .int b), (3, .int w2x3), (4, .int w12v)]) (by simp) ?_
                        exact w5ih (w5m - 1) (by omega) w12v w10M ⟨by omega, by omega⟩ w10s w10I (((zFr.refl).trans (w5F.mono rfl)).trans (w10F.mono rfl)) (by omega)
                      · refine zs_icmp_geF (pc := 39) t108_39 rfl li4 (by omega) ?_
                        refine zs_iload (pc := 42) t108_42 rfl ?_
                        refine zs_iconst (pc := 44) t108_44 (v := 2) (by decide) ?_
                        by_cases w13 : w10x5.toInt < 2
                        · refine zs_icmp_ltT (pc := 45) t108_45 rfl li2 (by omega) ?_
                          refine zs_iconst (pc := 56) t108_56 (v := 0) (by decide) ?_
                          refine zs_istore (pc := 57) t108_57 (ls' := [(6, .int (0 : Int32)), (0, .ref 242), (1, .int a), (2, .int b), (3, .int w2x3), (4, .int w5x4), (5, .int w10x5)]) (zml mf108 (by decide)) rfl ?_
                          refine zs_iload (pc := 59) t108_59 rfl ?_
                          refine zs_iconst (pc := 61) t108_61 (v := 2) (by decide) ?_
                          obtain ⟨w14v, w14⟩ : ∃ v, w10x5 - w10x5 / (2 : Int32) * (2 : Int32) = v := ⟨_, rfl⟩
                          have w14g : 0 ≤ w14v.toInt ∧ w14v.toInt ≤ 1 := by rw [← w14]; exact zrem rfl li2 (by omega) (by decide)
                          refine zs_irem (pc := 62) t108_62 (by decide) (c := w14v) w14 ?_
                          refine zs_iconst (pc := 63) t108_63 (v := 1) (by decide) ?_
                          by_cases w15 : w14v.toInt ≠ 1
                          · refine zs_icmp_neT (pc := 64) t108_64 rfl li1 (by omega) ?_
                            refine zs_iconst (pc := 76) t108_76 (v := 0) (by decide) ?_
                            refine zs_istore (pc := 77) t108_77 (ls' := [(7, .int (0 : Int32)), (6, .int (0 : Int32)), (0, .ref 242), (1, .int a), (2, .int b), (3, .int w2x3), (4, .int w5x4), (5, .int w10x5)]) (zml mf108 (by decide)) rfl ?_
                            refine zs_iload (pc := 79) t108_79 rfl ?_
                            refine zs_if_neF (pc := 81) t108_81 li0 (by decide) ?_
                            refine zs_iload (pc := 84) t108_84 rfl ?_
                            refine zs_if_neF (pc := 86) t108_86 li0 (by decide) ?_
                            refine zs_aload_n (pc := 89) t108_89 rfl ?_
                            have w16 := ib242_0 w10I
                            refine zs_get (pc := 90) t108_90 (by decide) (zk1 (w10s.k fk_zMc_242)) (zfvi rfl rfl) ?_
                            refine zs_sipush (pc := 93) t108_93 (v := 287) (by decide) ?_
                            by_cases w17 : (zI w10M 242 0).toInt < 287
                            · refine zs_icmp_ltT (pc := 96) t108_96 rfl li287 (by omega) ?_
                              refine zs_aload_n (pc := 102) t108_102 rfl ?_
                              refine zs_get (pc := 103) t108_103 (by decide) (zk1 (w10s.k fk_zMc_242)) (w10s.p rfl fv_zMc_242_1) ?_
                              refine zs_aload_n (pc := 106) t108_106 rfl ?_
                              refine zs_get (pc := 107) t108_107 (by decide) (zk1 (w10s.k fk_zMc_242)) (zfvi rfl rfl) ?_
                              refine zs_iload (pc := 110) t108_110 rfl ?_
                              refine zs_iconst (pc := 112) t108_112 (v := 2) (by decide) ?_
                              refine zs_icmp_geF (pc := 113) t108_113 rfl li2 (by omega) ?_
                              refine zs_iload_n (pc := 116) t108_116 rfl ?_
                              obtain ⟨w18v, w18e⟩ : ∃ v, -w2x3 = v := ⟨_, rfl⟩
                              have w18 : w18v.toInt = -w2x3.toInt := by rw [← w18e]; exact zneg rfl (by omega)
                              refine zs_ineg (pc := 117) t108_117 (c := w18v) w18e ?_
                              refine zs_goto (pc := 118) t108_118 ?_
                              obtain ⟨w19n, w19⟩ : ∃ n : Nat, (zI w10M 242 0).toInt = (n : Int) := ⟨(zI w10M 242 0).toInt.toNat, by omega⟩
                              have w20 : zIv cLo cHi (zsI w10M 243 w19n w18v) := zIv.put w10I (show (-3) ≤ w18v.toInt ∧ w18v.toInt ≤ 3 from ⟨by omega, by omega⟩)
                              refine zs_iast (pc := 122) t108_122 (j := w19n) (by decide) (zk1 (w10s.k fk_zMc_243)) w19 (zk2 (w10s.k fk_zMc_243) (by omega)) ?_
                              refine zs_aload_n (pc := 123) t108_123 rfl ?_
                              refine zs_get (pc := 124) t108_124 (by decide) (zk1 (w10s.k fk_zMc_242)) (w10s.p rfl fv_zMc_242_2) ?_
                              refine zs_aload_n (pc := 127) t108_127 rfl ?_
                              refine zs_get (pc := 128) t108_128 (by decide) (zk1 (w10s.k fk_zMc_242)) (zfvi rfl ((zIo (by decide)).trans rfl)) ?_
                              refine zs_iload (pc := 131) t108_131 rfl ?_
                              refine zs_iconst (pc := 133) t108_133 (v := 2) (by decide) ?_
                              obtain ⟨w21v, w21⟩ : ∃ v, w10x5 - w10x5 / (2 : Int32) * (2 : Int32) = v := ⟨_, rfl⟩
                              have w21g : 0 ≤ w21v.toInt ∧ w21v.toInt ≤ 1 := by rw [← w21]; exact zrem rfl li2 (by omega) (by decide)
                              refine zs_irem (pc := 134) t108_134 (by decide) (c := w21v) w21 ?_
                              by_cases w22 : w21v.toInt ≠ 0
                              · refine zs_if_neT (pc := 135) t108_135 rfl (by omega) ?_
                                refine zs_iload (pc := 144) t108_144 rfl ?_
                                have w23 : zIv cLo cHi (zsI (zsI w10M 243 w19n w18v) 244 w19n w5x4) := zIv.put w20 (show (-20) ≤ w5x4.toInt ∧ w5x4.toInt ≤ 20 from ⟨by omega, by omega⟩)
                                refine zs_iast (pc := 146) t108_146 (j := w19n) (by decide) (zk1 (w10s.k fk_zMc_244)) w19 (zk2 (w10s.k fk_zMc_244) (by omega)) ?_
                                refine zs_aload_n (pc := 147) t108_147 rfl ?_
                                refine zs_dup (pc := 148) t108_148 rfl ?_
                                refine zs_get (pc := 149) t108_149 (by decide) (zk1 (w10s.k fk_zMc_242)) (zfvi rfl ((zIo (by decide)).trans ((zIo (by decide)).trans rfl))) ?_
                                refine zs_iconst (pc := 152) t108_152 (v := 1) (by decide) ?_
                                obtain ⟨w24v, w24e, w24⟩ := ziadd (a := (zI w10M 242 0)) (b := (1 : Int32)) rfl li1 (by omega) (by omega)
                                refine zs_iadd (pc := 153) t108_153 (c := w24v) w24e ?_
                                have w25 : zIv cLo cHi (zsI (zsI (zsI w10M 243 w19n w18v) 244 w19n w5x4) 242 0 w24v) := zIv.put w23 (show 0 ≤ w24v.toInt ∧ w24v.toInt ≤ 287 from ⟨by omega, by omega⟩)
                                refine zs_putI (pc := 154) t108_154 (zk1 (w10s.k fk_zMc_242)) rfl ?_
                                obtain ⟨w26v, w26e, w26⟩ := ziadd (a := w10x5) (b := Int32.ofInt 1) rfl (show (Int32.ofInt 1).toInt = 1 by decide) (by omega) (by omega)
                                refine zs_iinc (pc := 157) t108_157 (ls' := [(5, .int w26v), (7, .int (0 : Int32)), (6, .int (0 : Int32)), (0, .ref 242), (1, .int a), (2, .int b), (3, .int w2x3), (4, .int w5x4)]) (zml mf108 (by decide)) rfl (c := w26v) w26e rfl ?_
                                refine zs_goto (pc := 160) t108_160 ?_
                                refine zGo.locals (ls' := [(0, .ref 242), (1, .int a), (2, .int b), (3, .int w2x3), (4, .int w5x4), (5, .int w26v)]) (by simp) ?_
                                exact w10ih (w10m - 1) (by omega) w26v (zsI (zsI (zsI w10M 243 w19n w18v) 244 w19n w5x4) 242 0 w24v) ⟨by omega, by omega⟩ w10s w25 (((((zFr.refl).trans (w10F.mono rfl)).put rfl).put rfl).put rfl) (by omega)
                              · refine zs_if_neF (pc := 135) t108_135 rfl (by omega) ?_
                                refine zs_iload (pc := 138) t108_138 rfl ?_
                                obtain ⟨w27v, w27e⟩ : ∃ v, -w5x4 = v := ⟨_, rfl⟩
                                have w27 : w27v.toInt = -w5x4.toInt := by rw [← w27e]; exact zneg rfl (by omega)
                                refine zs_ineg (pc := 140) t108_140 (c := w27v) w27e ?_
                                refine zs_goto (pc := 141) t108_141 ?_
                                have w28 : zIv cLo cHi (zsI (zsI w10M 243 w19n w18v) 244 w19n w27v) := zIv.put w20 (show (-20) ≤ w27v.toInt ∧ w27v.toInt ≤ 20 from ⟨by omega, by omega⟩)
                                refine zs_iast (pc := 146) t108_146 (j := w19n) (by decide) (zk1 (w10s.k fk_zMc_244)) w19 (zk2 (w10s.k fk_zMc_244) (by omega)) ?_
                                refine zs_aload_n (pc := 147) t108_147 rfl ?_
                                refine zs_dup (pc := 148) t108_148 rfl ?_
                                refine zs_get (pc := 149) t108_149 (by decide) (zk1 (w10s.k fk_zMc_242)) (zfvi rfl ((zIo (by decide)).trans ((zIo (by decide)).trans rfl))) ?_
                                refine zs_iconst (pc := 152) t108_152 (v := 1) (by decide) ?_
                                obtain ⟨w29v, w29e, w29⟩ := ziadd (a := (zI w10M 242 0)) (b := (1 : Int32)) rfl li1 (by omega) (by omega)
                                refine zs_iadd (pc := 153) t108_153 (c := w29v) w29e ?_
                                have w30 : zIv cLo cHi (zsI (zsI (zsI w10M 243 w19n w18v) 244 w19n w27v) 242 0 w29v) := zIv.put w28 (show 0 ≤ w29v.toInt ∧ w29v.toInt ≤ 287 from ⟨by omega, by omega⟩)
                                refine zs_putI (pc := 154) t108_154 (zk1 (w10s.k fk_zMc_242)) rfl ?_
                                obtain ⟨w31v, w31e, w31⟩ := ziadd (a := w10x5) (b := Int32.ofInt 1) rfl (show (Int32.ofInt 1).toInt = 1 by decide) (by omega) (by omega)
                                refine zs_iinc (pc := 157) t108_157 (ls' := [(5, .int w31v), (7, .int (0 : Int32)), (6, .int (0 : Int32)), (0, .ref 242), (1, .int a), (2, .int b), (3, .int w2x3), (4, .int w5x4)]) (zml mf108 (by decide)) rfl (c := w31v) w31e rfl ?_
                                refine zs_goto (pc := 160) t108_160 ?_
                                refine zGo.locals (ls' := [(0, .ref 242), (1, .int a), (2, .int b), (3, .int w2x3), (4, .int w5x4), (5, .int w31v)]) (by simp) ?_
                                exact w10ih (w10m - 1) (by omega) w31v (zsI (zsI (zsI w10M 243 w19n w18v) 244 w19n w27v) 242 0 w29v) ⟨by omega, by omega⟩ w10s w30 (((((zFr.refl).trans (w10F.mono rfl)).put rfl).put rfl).put rfl) (by omega)
                            · refine zs_icmp_ltF (pc := 96) t108_96 rfl li287 (by omega) ?_
                              refine zs_goto (pc := 99) t108_99 ?_
                              obtain ⟨w32v, w32e, w32⟩ := ziadd (a := w10x5) (b := Int32.ofInt 1) rfl (show (Int32.ofInt 1).toInt = 1 by decide) (by omega) (by omega)
                              refine zs_iinc (pc := 157) t108_157 (ls' := [(5, .int w32v), (7, .int (0 : Int32)), (6, .int (0 : Int32)), (0, .ref 242), (1, .int a), (2, .int b), (3, .int w2x3), (4, .int w5x4)]) (zml mf108 (by decide)) rfl (c := w32v) w32e rfl ?_
                              refine zs_goto (pc := 160) t108_160 ?_
                              refine zGo.locals (ls' := [(0, .ref 242), (1, .int a), (2, .int b), (3, .int w2x3), (4, .int w5x4), (5, .int w32v)]) (by simp) ?_
                              exact w10ih (w10m - 1) (by omega) w32v w10M ⟨by omega, by omega⟩ w10s w10I ((zFr.refl).trans (w10F.mono rfl)) (by omega)
                          · refine zs_icmp_neF (pc := 64) t108_64 rfl li1 (by omega) ?_
                            refine zs_iload (pc := 67) t108_67 rfl ?_
                            by_cases w33 : w5x4.toInt ≠ 0
                            · refine zs_if_neT (pc := 69) t108_69 rfl (by omega) ?_
                              refine zs_iconst (pc := 76) t108_76 (v := 0) (by decide) ?_
                              refine zs_istore (pc := 77) t108_77 (ls' := [(7, .int (0 : Int32)), (6, .int (0 : Int32)), (0, .ref 242), (1, .int a), (2, .int b), (3, .int w2x3), (4, .int w5x4), (5, .int w10x5)]) (zml mf108 (by decide)) rfl ?_
                              refine zs_iload (pc := 79) t108_79 rfl ?_
                              refine zs_if_neF (pc := 81) t108_81 li0 (by decide) ?_
                              refine zs_iload (pc := 84) t108_84 rfl ?_
                              refine zs_if_neF (pc := 86) t108_86 li0 (by decide) ?_
                              refine zs_aload_n (pc := 89) t108_89 rfl ?_
                              have w34 := ib242_0 w10I
                              refine zs_get (pc := 90) t108_90 (by decide) (zk1 (w10s.k fk_zMc_242)) (zfvi rfl rfl) ?_
                              refine zs_sipush (pc := 93) t108_93 (v := 287) (by decide) ?_
                              by_cases w35 : (zI w10M 242 0).toInt < 287
                              · refine zs_icmp_ltT (pc := 96) t108_96 rfl li287 (by omega) ?_
                                refine zs_aload_n (pc := 102) t108_102 rfl ?_
                                refine zs_get (pc := 103) t108_103 (by decide) (zk1 (w10s.k fk_zMc_242)) (w10s.p rfl fv_zMc_242_1) ?_
                                refine zs_aload_n (pc := 106) t108_106 rfl ?_
                                refine zs_get (pc := 107) t108_107 (by decide) (zk1 (w10s.k fk_zMc_242)) (zfvi rfl rfl) ?_
                                refine zs_iload (pc := 110) t108_110 rfl ?_
                                refine zs_iconst (pc := 112) t108_112 (v := 2) (by decide) ?_
                                refine zs_icmp_geF (pc := 113) t108_113 rfl li2 (by omega) ?_
                                refine zs_iload_n (pc := 116) t108_116 rfl ?_
                                obtain ⟨w36v, w36e⟩ : ∃ v, -w2x3 = v := ⟨_, rfl⟩
                                have w36 : w36v.toInt = -w2x3.toInt := by rw [← w36e]; exact zneg rfl (by omega)
                                refine zs_ineg (pc := 117) t108_117 (c := w36v) w36e ?_
                                refine zs_goto (pc := 118) t108_118 ?_
                                obtain ⟨w37n, w37⟩ : ∃ n : Nat, (zI w10M 242 0).toInt = (n : Int) := ⟨(zI w10M 242 0).toInt.toNat, by omega⟩
                                have w38 : zIv cLo cHi (zsI w10M 243 w37n w36v) := zIv.put w10I (show (-3) ≤ w36v.toInt ∧ w36v.toInt ≤ 3 from ⟨by omega, by omega⟩)
                                refine zs_iast (pc := 122) t108_122 (j := w37n) (by decide) (zk1 (w10s.k fk_zMc_243)) w37 (zk2 (w10s.k fk_zMc_243) (by omega)) ?_
                                refine zs_aload_n (pc := 123) t108_123 rfl ?_
                                refine zs_get (pc := 124) t108_124 (by decide) (zk1 (w10s.k fk_zMc_242)) (w10s.p rfl fv_zMc_242_2) ?_
                                refine zs_aload_n (pc := 127) t108_127 rfl ?_
                                refine zs_get (pc := 128) t108_128 (by decide) (zk1 (w10s.k fk_zMc_242)) (zfvi rfl ((zIo (by decide)).trans rfl)) ?_
                                refine zs_iload (pc := 131) t108_131 rfl ?_
                                refine zs_iconst (pc := 133) t108_133 (v := 2) (by decide) ?_
                                obtain ⟨w39v, w39⟩ : ∃ v, w10x5 - w10x5 / (2 : Int32) * (2 : Int32) = v := ⟨_, rfl⟩
                                have w39g : 0 ≤ w39v.toInt ∧ w39v.toInt ≤ 1 := by rw [← w39]; exact zrem rfl li2 (by omega) (by decide)
                                refine zs_irem (pc := 134) t108_134 (by decide) (c := w39v) w39 ?_
                                by_cases w40 : w39v.toInt ≠ 0
                                · refine zs_if_neT (pc := 135) t108_135 rfl (by omega) ?_
                                  refine zs_iload (pc := 144) t108_144 rfl ?_
                                  have w41 : zIv cLo cHi (zsI (zsI w10M 243 w37n w36v) 244 w37n w5x4) := zIv.put w38 (show (-20) ≤ w5x4.toInt ∧ w5x4.toInt ≤ 20 from ⟨by omega, by omega⟩)
                                  refine zs_iast (pc := 146) t108_146 (j := w37n) (by decide) (zk1 (w10s.k fk_zMc_244)) w37 (zk2 (w10s.k fk_zMc_244) (by omega)) ?_
                                  refine zs_aload_n (pc := 147) t108_147 rfl ?_
                                  refine zs_dup (pc := 148) t108_148 rfl ?_
                                  refine zs_get (pc := 149) t108_149 (by decide) (zk1 (w10s.k fk_zMc_242)) (zfvi rfl ((zIo (by decide)).trans ((zIo (by decide)).trans rfl))) ?_
                                  refine zs_iconst (pc := 152) t108_152 (v := 1) (by decide) ?_
                                  obtain ⟨w42v, w42e, w42⟩ := ziadd (a := (zI w10M 242 0)) (b := (1 : Int32)) rfl li1 (by omega) (by omega)
                                  refine zs_iadd (pc := 153) t108_153 (c := w42v) w42e ?_
                                  have w43 : zIv cLo cHi (zsI (zsI (zsI w10M 243 w37n w36v) 244 w37n w5x4) 242 0 w42v) := zIv.put w41 (show 0 ≤ w42v.toInt ∧ w42v.toInt ≤ 287 from ⟨by omega, by omega⟩)
                                  refine zs_putI (pc := 154) t108_154 (zk1 (w10s.k fk_zMc_242)) rfl ?_
                                  obtain ⟨w44v, w44e, w44⟩ := ziadd (a := w10x5) (b := Int32.ofInt 1) rfl (show (Int32.ofInt 1).toInt = 1 by decide) (by omega) (by omega)
                                  refine zs_iinc (pc := 157) t108_157 (ls' := [(5, .int w44v), (7, .int (0 : Int32)), (6, .int (0 : Int32)), (0, .ref 242), (1, .int a), (2, .int b), (3, .int w2x3), (4, .int w5x4)]) (zml mf108 (by decide)) rfl (c := w44v) w44e rfl ?_
                                  refine zs_goto (pc := 160) t108_160 ?_
                                  refine zGo.locals (ls' := [(0, .ref 242), (1, .int a), (2, .int b), (3, .int w2x3), (4, .int w5x4), (5, .int w44v)]) (by simp) ?_
                                  exact w10ih (w10m - 1) (by omega) w44v (zsI (zsI (zsI w10M 243 w37n w36v) 244 w37n w5x4) 242 0 w42v) ⟨by omega, by omega⟩ w10s w43 (((((zFr.refl).trans (w10F.mono rfl)).put rfl).put rfl).put rfl) (by omega)
                                · refine zs_if_neF (pc := 135) t108_135 rfl (by omega) ?_
                                  refine zs_iload (pc := 138) t108_138 rfl ?_
                                  obtain ⟨w45v, w45e⟩ : ∃ v, -w5x4 = v := ⟨_, rfl⟩
                                  have w45 : w45v.toInt = -w5x4.toInt := by rw [← w45e]; exact zneg rfl (by omega)
                                  refine zs_ineg (pc := 140) t108_140 (c := w45v) w45e ?_
                                  refine zs_goto (pc := 141) t108_141 ?_
                                  have w46 : zIv cLo cHi (zsI (zsI w10M 243 w37n w36v) 244 w37n w45v) := zIv.put w38 (show (-20) ≤ w45v.toInt ∧ w45v.toInt ≤ 20 from ⟨by omega, by omega⟩)
                                  refine zs_iast (pc := 146) t108_146 (j := w37n) (by decide) (zk1 (w10s.k fk_zMc_244)) w37 (zk2 (w10s.k fk_zMc_244) (by omega)) ?_
                                  refine zs_aload_n (pc := 147) t108_147 rfl ?_
                                  refine zs_dup (pc := 148) t108_148 rfl ?_
                                  refine zs_get (pc := 149) t108_149 (by decide) (zk1 (w10s.k fk_zMc_242)) (zfvi rfl ((zIo (by decide)).trans ((zIo (by decide)).trans rfl))) ?_
                                  refine zs_iconst (pc := 152) t108_152 (v := 1) (by decide) ?_
                                  obtain ⟨w47v, w47e, w47⟩ := ziadd (a := (zI w10M 242 0)) (b := (1 : Int32)) rfl li1 (by omega) (by omega)
                                  refine zs_iadd (pc := 153) t108_153 (c := w47v) w47e ?_
                                  have w48 : zIv cLo cHi (zsI (zsI (zsI w10M 243 w37n w36v) 244 w37n w45v) 242 0 w47v) := zIv.put w46 (show 0 ≤ w47v.toInt ∧ w47v.toInt ≤ 287 from ⟨by omega, by omega⟩)
                                  refine zs_putI (pc := 154) t108_154 (zk1 (w10s.k fk_zMc_242)) rfl ?_
                                  obtain ⟨w49v, w49e, w49⟩ := ziadd (a := w10x5) (b := Int32.ofInt 1) rfl (show (Int32.ofInt 1).toInt = 1 by decide) (by omega) (by omega)
                                  refine zs_iinc (pc := 157) t108_157 (ls' := [(5, .int w49v), (7, .int (0 : Int32)), (6, .int (0 : Int32)), (0, .ref 242), (1, .int a), (2, .int b), (3, .int w2x3), (4, .int w5x4)]) (zml mf108 (by decide)) rfl (c := w49v) w49e rfl ?_
                                  refine zs_goto (pc := 160) t108_160 ?_
                                  refine zGo.locals (ls' := [(0, .ref 242), (1, .int a), (2, .int b), (3, .int w2x3), (4, .int w5x4), (5, .int w49v)]) (by simp) ?_
                                  exact w10ih (w10m - 1) (by omega) w49v (zsI (zsI (zsI w10M 243 w37n w36v) 244 w37n w45v) 242 0 w47v) ⟨by omega, by omega⟩ w10s w48 (((((zFr.refl).trans (w10F.mono rfl)).put rfl).put rfl).put rfl) (by omega)
                              · refine zs_icmp_ltF (pc := 96) t108_96 rfl li287 (by omega) ?_
                                refine zs_goto (pc := 99) t108_99 ?_
                                obtain ⟨w50v, w50e, w50⟩ := ziadd (a := w10x5) (b := Int32.ofInt 1) rfl (show (Int32.ofInt 1).toInt = 1 by decide) (by omega) (by omega)
                                refine zs_iinc (pc := 157) t108_157 (ls' := [(5, .int w50v), (7, .int (0 : Int32)), (6, .int (0 : Int32)), (0, .ref 242), (1, .int a), (2, .int b), (3, .int w2x3), (4, .int w5x4)]) (zml mf108 (by decide)) rfl (c := w50v) w50e rfl ?_
                                refine zs_goto (pc := 160) t108_160 ?_
                                refine zGo.locals (ls' := [(0, .ref 242), (1, .int a), (2, .int b), (3, .int w2x3), (4, .int w5x4), (5, .int w50v)]) (by simp) ?_
                                exact w10ih (w10m - 1) (by omega) w50v w10M ⟨by omega, by omega⟩ w10s w10I ((zFr.refl).trans (w10F.mono rfl)) (by omega)
                            · refine zs_if_neF (pc := 69) t108_69 rfl (by omega) ?_
                              refine zs_iconst (pc := 72) t108_72 (v := 1) (by decide) ?_
                              refine zs_goto (pc := 73) t108_73 ?_
                              refine zs_istore (pc := 77) t108_77 (ls' := [(7, .int (1 : Int32)), (6, .int (0 : Int32)), (0, .ref 242), (1, .int a), (2, .int b), (3, .int w2x3), (4, .int w5x4), (5, .int w10x5)]) (zml mf108 (by decide)) rfl ?_
                              refine zs_iload (pc := 79) t108_79 rfl ?_
                              refine zs_if_neF (pc := 81) t108_81 li0 (by decide) ?_
                              refine zs_iload (pc := 84) t108_84 rfl ?_
                              refine zs_if_neT (pc := 86) t108_86 li1 (by decide) ?_
                              obtain ⟨w51v, w51e, w51⟩ := ziadd (a := w10x5) (b := Int32.ofInt 1) rfl (show (Int32.ofInt 1).toInt = 1 by decide) (by omega) (by omega)
                              refine zs_iinc (pc := 157) t108_157 (ls' := [(5, .int w51v), (7, .int (1 : Int32)), (6, .int (0 : Int32)), (0, .ref 242), (1, .int a), (2, .int b), (3, .int w2x3), (4, .int w5x4)]) (zml mf108 (by decide)) rfl (c := w51v) w51e rfl ?_
                              refine zs_goto (pc := 160) t108_160 ?_
                              refine zGo.locals (ls' := [(0, .ref 242), (1, .int a), (2, .int b), (3, .int w2x3), (4, .int w5x4), (5, .int w51v)]) (by simp) ?_
                              exact w10ih (w10m - 1) (by omega) w51v w10M ⟨by omega, by omega⟩ w10s w10I ((zFr.refl).trans (w10F.mono rfl)) (by omega)
                        · refine zs_icmp_ltF (pc := 45) t108_45 rfl li2 (by omega) ?_
                          refine zs_iload_n (pc := 48) t108_48 rfl ?_
                          by_cases w52 : w2x3.toInt ≠ 0
                          · refine zs_if_neT (pc := 49) t108_49 rfl (by omega) ?_
                            refine zs_iconst (pc := 56) t108_56 (v := 0) (by decide) ?_
                            refine zs_istore (pc := 57) t108_57 (ls' := [(6, .int (0 : Int32)), (0, .ref 242), (1, .int a), (2, .int b), (3, .int w2x3), (4, .int w5x4), (5, .int w10x5)]) (zml mf108 (by decide)) rfl ?_
                            refine zs_iload (pc := 59) t108_59 rfl ?_
                            refine zs_iconst (pc := 61) t108_61 (v := 2) (by decide) ?_
                            obtain ⟨w53v, w53⟩ : ∃ v, w10x5 - w10x5 / (2 : Int32) * (2 : Int32) = v := ⟨_, rfl⟩
                            have w53g : 0 ≤ w53v.toInt ∧ w53v.toInt ≤ 1 := by rw [← w53]; exact zrem rfl li2 (by omega) (by decide)
                            refine zs_irem (pc := 62) t108_62 (by decide) (c := w53v) w53 ?_
                            refine zs_iconst (pc := 63) t108_63 (v := 1) (by decide) ?_
                            by_cases w54 : w53v.toInt ≠ 1
                            · refine zs_icmp_neT (pc := 64) t108_64 rfl li1 (by omega) ?_
                              refine zs_iconst (pc := 76) t108_76 (v := 0) (by decide) ?_
                              refine zs_istore (pc := 77) t108_77 (ls' := [(7, .int (0 : Int32)), (6, .int (0 : Int32)), (0, .ref 242), (1, .int a), (2, .int b), (3, .int w2x3), (4, .int w5x4), (5, .int w10x5)]) (zml mf108 (by decide)) rfl ?_
                              refine zs_iload (pc := 79) t108_79 rfl ?_
                              refine zs_if_neF (pc := 81) t108_81 li0 (by decide) ?_
                              refine zs_iload (pc := 84) t108_84 rfl ?_
                              refine zs_if_neF (pc := 86) t108_86 li0 (by decide) ?_
                              refine zs_aload_n (pc := 89) t108_89 rfl ?_
                              have w55 := ib242_0 w10I
                              refine zs_get (pc := 90) t108_90 (by decide) (zk1 (w10s.k fk_zMc_242)) (zfvi rfl rfl) ?_
                              refine zs_sipush (pc := 93) t108_93 (v := 287) (by decide) ?_
                              by_cases w56 : (zI w10M 242 0).toInt < 287
                              · refine zs_icmp_ltT (pc := 96) t108_96 rfl li287 (by omega) ?_
                                refine zs_aload_n (pc := 102) t108_102 rfl ?_
                                refine zs_get (pc := 103) t108_103 (by decide) (zk1 (w10s.k fk_zMc_242)) (w10s.p rfl fv_zMc_242_1) ?_
                                refine zs_aload_n (pc := 106) t108_106 rfl ?_
                                refine zs_get (pc := 107) t108_107 (by decide) (zk1 (w10s.k fk_zMc_242)) (zfvi rfl rfl) ?_
                                refine zs_iload (pc := 110) t108_110 rfl ?_
                                refine zs_iconst (pc := 112) t108_112 (v := 2) (by decide) ?_
                                refine zs_icmp_geT (pc := 113) t108_113 rfl li2 (by omega) ?_
                                refine zs_iload_n (pc := 121) t108_121 rfl ?_
                                obtain ⟨w57n, w57⟩ : ∃ n : Nat, (zI w10M 242 0).toInt = (n : Int) := ⟨(zI w10M 242 0).toInt.toNat, by omega⟩
                                have w58 : zIv cLo cHi (zsI w10M 243 w57n w2x3) := zIv.put w10I (show (-3) ≤ w2x3.toInt ∧ w2x3.toInt ≤ 3 from ⟨by omega, by omega⟩)
                                refine zs_iast (pc := 122) t108_122 (j := w57n) (by decide) (zk1 (w10s.k fk_zMc_243)) w57 (zk2 (w10s.k fk_zMc_243) (by omega)) ?_
                                refine zs_aload_n (pc := 123) t108_123 rfl ?_
                                refine zs_get (pc := 124) t108_124 (by decide) (zk1 (w10s.k fk_zMc_242)) (w10s.p rfl fv_zMc_242_2) ?_
                                refine zs_aload_n (pc := 127) t108_127 rfl ?_
                                refine zs_get (pc := 128) t108_128 (by decide) (zk1 (w10s.k fk_zMc_242)) (zfvi rfl ((zIo (by decide)).trans rfl)) ?_
                                refine zs_iload (pc := 131) t108_131 rfl ?_
                                refine zs_iconst (pc := 133) t108_133 (v := 2) (by decide) ?_
                                obtain ⟨w59v, w59⟩ : ∃ v, w10x5 - w10x5 / (2 : Int32) * (2 : Int32) = v := ⟨_, rfl⟩
                                have w59g : 0 ≤ w59v.toInt ∧ w59v.toInt ≤ 1 := by rw [← w59]; exact zrem rfl li2 (by omega) (by decide)
                                refine zs_irem (pc := 134) t108_134 (by decide) (c := w59v) w59 ?_
                                by_cases w60 : w59v.toInt ≠ 0
                                · refine zs_if_neT (pc := 135) t108_135 rfl (by omega) ?_
                                  refine zs_iload (pc := 144) t108_144 rfl ?_
                                  have w61 : zIv cLo cHi (zsI (zsI w10M 243 w57n w2x3) 244 w57n w5x4) := zIv.put w58 (show (-20) ≤ w5x4.toInt ∧ w5x4.toInt ≤ 20 from ⟨by omega, by omega⟩)
                                  refine zs_iast (pc := 146) t108_146 (j := w57n) (by decide) (zk1 (w10s.k fk_zMc_244)) w57 (zk2 (w10s.k fk_zMc_244) (by omega)) ?_
                                  refine zs_aload_n (pc := 147) t108_147 rfl ?_
                                  refine zs_dup (pc := 148) t108_148 rfl ?_
                                  refine zs_get (pc := 149) t108_149 (by decide) (zk1 (w10s.k fk_zMc_242)) (zfvi rfl ((zIo (by decide)).trans ((zIo (by decide)).trans rfl))) ?_
                                  refine zs_iconst (pc := 152) t108_152 (v := 1) (by decide) ?_
                                  obtain ⟨w62v, w62e, w62⟩ := ziadd (a := (zI w10M 242 0)) (b := (1 : Int32)) rfl li1 (by omega) (by omega)
                                  refine zs_iadd (pc := 153) t108_153 (c := w62v) w62e ?_
                                  have w63 : zIv cLo cHi (zsI (zsI (zsI w10M 243 w57n w2x3) 244 w57n w5x4) 242 0 w62v) := zIv.put w61 (show 0 ≤ w62v.toInt ∧ w62v.toInt ≤ 287 from ⟨by omega, by omega⟩)
                                  refine zs_putI (pc := 154) t108_154 (zk1 (w10s.k fk_zMc_242)) rfl ?_
                                  obtain ⟨w64v, w64e, w64⟩ := ziadd (a := w10x5) (b := Int32.ofInt 1) rfl (show (Int32.ofInt 1).toInt = 1 by decide) (by omega) (by omega)
                                  refine zs_iinc (pc := 157) t108_157 (ls' := [(5, .int w64v), (7, .int (0 : Int32)), (6, .int (0 : Int32)), (0, .ref 242), (1, .int a), (2, .int b), (3, .int w2x3), (4, .int w5x4)]) (zml mf108 (by decide)) rfl (c := w64v) w64e rfl ?_
                                  refine zs_goto (pc := 160) t108_160 ?_
                                  refine zGo.locals (ls' := [(0, .ref 242), (1, .int a), (2, .int b), (3, .int w2x3), (4, .int w5x4), (5, .int w64v)]) (by simp) ?_
                                  exact w10ih (w10m - 1) (by omega) w64v (zsI (zsI (zsI w10M 243 w57n w2x3) 244 w57n w5x4) 242 0 w62v) ⟨by omega, by omega⟩ w10s w63 (((((zFr.refl).trans (w10F.mono rfl)).put rfl).put rfl).put rfl) (by omega)
                                · refine zs_if_neF (pc := 135) t108_135 rfl (by omega) ?_
                                  refine zs_iload (pc := 138) t108_138 rfl ?_
                                  obtain ⟨w65v, w65e⟩ : ∃ v, -w5x4 = v := ⟨_, rfl⟩
                                  have w65 : w65v.toInt = -w5x4.toInt := by rw [← w65e]; exact zneg rfl (by omega)
                                  refine zs_ineg (pc := 140) t108_140 (c := w65v) w65e ?_
                                  refine zs_goto (pc := 141) t108_141 ?_
                                  have w66 : zIv cLo cHi (zsI (zsI w10M 243 w57n w2x3) 244 w57n w65v) := zIv.put w58 (show (-20) ≤ w65v.toInt ∧ w65v.toInt ≤ 20 from ⟨by omega, by omega⟩)
                                  refine zs_iast (pc := 146) t108_146 (j := w57n) (by decide) (zk1 (w10s.k fk_zMc_244)) w57 (zk2 (w10s.k fk_zMc_244) (by omega)) ?_
                                  refine zs_aload_n (pc := 147) t108_147 rfl ?_
                                  refine zs_dup (pc := 148) t108_148 rfl ?_
                                  refine zs_get (pc := 149) t108_149 (by decide) (zk1 (w10s.k fk_zMc_242)) (zfvi rfl ((zIo (by decide)).trans ((zIo (by decide)).trans rfl))) ?_
                                  refine zs_iconst (pc := 152) t108_152 (v := 1) (by decide) ?_
                                  obtain ⟨w67v, w67e, w67⟩ := ziadd (a := (zI w10M 242 0)) (b := (1 : Int32)) rfl li1 (by omega) (by omega)
                                  refine zs_iadd (pc := 153) t108_153 (c := w67v) w67e ?_
                                  have w68 : zIv cLo cHi (zsI (zsI (zsI w10M 243 w57n w2x3) 244 w57n w65v) 242 0 w67v) := zIv.put w66 (show 0 ≤ w67v.toInt ∧ w67v.toInt ≤ 287 from ⟨by omega, by omega⟩)
                                  refine zs_putI (pc := 154) t108_154 (zk1 (w10s.k fk_zMc_242)) rfl ?_
                                  obtain ⟨w69v, w69e, w69⟩ := ziadd (a := w10x5) (b := Int32.ofInt 1) rfl (show (Int32.ofInt 1).toInt = 1 by decide) (by omega) (by omega)
                                  refine zs_iinc (pc := 157) t108_157 (ls' := [(5, .int w69v), (7, .int (0 : Int32)), (6, .int (0 : Int32)), (0, .ref 242), (1, .int a), (2, .int b), (3, .int w2x3), (4, .int w5x4)]) (zml mf108 (by decide)) rfl (c := w69v) w69e rfl ?_
                                  refine zs_goto (pc := 160) t108_160 ?_
                                  refine zGo.locals (ls' := [(0, .ref 242), (1, .int a), (2, .int b), (3, .int w2x3), (4, .int w5x4), (5, .int w69v)]) (by simp) ?_
                                  exact w10ih (w10m - 1) (by omega) w69v (zsI (zsI (zsI w10M 243 w57n w2x3) 244 w57n w65v) 242 0 w67v) ⟨by omega, by omega⟩ w10s w68 (((((zFr.refl).trans (w10F.mono rfl)).put rfl).put rfl).put rfl) (by omega)
                              · refine zs_icmp_ltF (pc := 96) t108_96 rfl li287 (by omega) ?_
                                refine zs_goto (pc := 99) t108_99 ?_
                                obtain ⟨w70v, w70e, w70⟩ := ziadd (a := w10x5) (b := Int32.ofInt 1) rfl (show (Int32.ofInt 1).toInt = 1 by decide) (by omega) (by omega)
                                refine zs_iinc (pc := 157) t108_157 (ls' := [(5, .int w70v), (7, .int (0 : Int32)), (6, .int (0 : Int32)), (0, .ref 242), (1, .int a), (2, .int b), (3, .int w2x3), (4, .int w5x4)]) (zml mf108 (by decide)) rfl (c := w70v) w70e rfl ?_
                                refine zs_goto (pc := 160) t108_160 ?_
                                refine zGo.locals (ls' := [(0, .ref 242), (1, .int a), (2, .int b), (3, .int w2x3), (4, .int w5x4), (5, .int w70v)]) (by simp) ?_
                                exact w10ih (w10m - 1) (by omega) w70v w10M ⟨by omega, by omega⟩ w10s w10I ((zFr.refl).trans (w10F.mono rfl)) (by omega)
                            · refine zs_icmp_neF (pc := 64) t108_64 rfl li1 (by omega) ?_
                              refine zs_iload (pc := 67) t108_67 rfl ?_
                              by_cases w71 : w5x4.toInt ≠ 0
                              · refine zs_if_neT (pc := 69) t108_69 rfl (by omega) ?_
                                refine zs_iconst (pc := 76) t108_76 (v := 0) (by decide) ?_
                                refine zs_istore (pc := 77) t108_77 (ls' := [(7, .int (0 : Int32)), (6, .int (0 : Int32)), (0, .ref 242), (1, .int a), (2, .int b), (3, .int w2x3), (4, .int w5x4), (5, .int w10x5)]) (zml mf108 (by decide)) rfl ?_
                                refine zs_iload (pc := 79) t108_79 rfl ?_
                                refine zs_if_neF (pc := 81) t108_81 li0 (by decide) ?_
                                refine zs_iload (pc := 84) t108_84 rfl ?_
                                refine zs_if_neF (pc := 86) t108_86 li0 (by decide) ?_
                                refine zs_aload_n (pc := 89) t108_89 rfl ?_
                                have w72 := ib242_0 w10I
                                refine zs_get (pc := 90) t108_90 (by decide) (zk1 (w10s.k fk_zMc_242)) (zfvi rfl rfl) ?_
                                refine zs_sipush (pc := 93) t108_93 (v := 287) (by decide) ?_
                                by_cases w73 : (zI w10M 242 0).toInt < 287
                                · refine zs_icmp_ltT (pc := 96) t108_96 rfl li287 (by omega) ?_
                                  refine zs_aload_n (pc := 102) t108_102 rfl ?_
                                  refine zs_get (pc := 103) t108_103 (by decide) (zk1 (w10s.k fk_zMc_242)) (w10s.p rfl fv_zMc_242_1) ?_
                                  refine zs_aload_n (pc := 106) t108_106 rfl ?_
                                  refine zs_get (pc := 107) t108_107 (by decide) (zk1 (w10s.k fk_zMc_242)) (zfvi rfl rfl) ?_
                                  refine zs_iload (pc := 110) t108_110 rfl ?_
                                  refine zs_iconst (pc := 112) t108_112 (v := 2) (by decide) ?_
                                  refine zs_icmp_geT (pc := 113) t108_113 rfl li2 (by omega) ?_
                                  refine zs_iload_n (pc := 121) t108_121 rfl ?_
                                  obtain ⟨w74n, w74⟩ : ∃ n : Nat, (zI w10M 242 0).toInt = (n : Int) := ⟨(zI w10M 242 0).toInt.toNat, by omega⟩
                                  have w75 : zIv cLo cHi (zsI w10M 243 w74n w2x3) := zIv.put w10I (show (-3) ≤ w2x3.toInt ∧ w2x3.toInt ≤ 3 from ⟨by omega, by omega⟩)
                                  refine zs_iast (pc := 122) t108_122 (j := w74n) (by decide) (zk1 (w10s.k fk_zMc_243)) w74 (zk2 (w10s.k fk_zMc_243) (by omega)) ?_
                                  refine zs_aload_n (pc := 123) t108_123 rfl ?_
                                  refine zs_get (pc := 124) t108_124 (by decide) (zk1 (w10s.k fk_zMc_242)) (w10s.p rfl fv_zMc_242_2) ?_
                                  refine zs_aload_n (pc := 127) t108_127 rfl ?_
                                  refine zs_get (pc := 128) t108_128 (by decide) (zk1 (w10s.k fk_zMc_242)) (zfvi rfl ((zIo (by decide)).trans rfl)) ?_
                                  refine zs_iload (pc := 131) t108_131 rfl ?_
                                  refine zs_iconst (pc := 133) t108_133 (v := 2) (by decide) ?_
                                  obtain ⟨w76v, w76⟩ : ∃ v, w10x5 - w10x5 / (2 : Int32) * (2 : Int32) = v := ⟨_, rfl⟩
                                  have w76g : 0 ≤ w76v.toInt ∧ w76v.toInt ≤ 1 := by rw [← w76]; exact zrem rfl li2 (by omega) (by decide)
                                  refine zs_irem (pc := 134) t108_134 (by decide) (c := w76v) w76 ?_
                                  by_cases w77 : w76v.toInt ≠ 0
                                  · refine zs_if_neT (pc := 135) t108_135 rfl (by omega) ?_
                                    refine zs_iload (pc := 144) t108_144 rfl ?_
                                    have w78 : zIv cLo cHi (zsI (zsI w10M 243 w74n w2x3) 244 w74n w5x4) := zIv.put w75 (show (-20) ≤ w5x4.toInt ∧ w5x4.toInt ≤ 20 from ⟨by omega, by omega⟩)
                                    refine zs_iast (pc := 146) t108_146 (j := w74n) (by decide) (zk1 (w10s.k fk_zMc_244)) w74 (zk2 (w10s.k fk_zMc_244) (by omega)) ?_
                                    refine zs_aload_n (pc := 147) t108_147 rfl ?_
                                    refine zs_dup (pc := 148) t108_148 rfl ?_
                                    refine zs_get (pc := 149) t108_149 (by decide) (zk1 (w10s.k fk_zMc_242)) (zfvi rfl ((zIo (by decide)).trans ((zIo (by decide)).trans rfl))) ?_
                                    refine zs_iconst (pc := 152) t108_152 (v := 1) (by decide) ?_
                                    obtain ⟨w79v, w79e, w79⟩ := ziadd (a := (zI w10M 242 0)) (b := (1 : Int32)) rfl li1 (by omega) (by omega)
                                    refine zs_iadd (pc := 153) t108_153 (c := w79v) w79e ?_
                                    have w80 : zIv cLo cHi (zsI (zsI (zsI w10M 243 w74n w2x3) 244 w74n w5x4) 242 0 w79v) := zIv.put w78 (show 0 ≤ w79v.toInt ∧ w79v.toInt ≤ 287 from ⟨by omega, by omega⟩)
                                    refine zs_putI (pc := 154) t108_154 (zk1 (w10s.k fk_zMc_242)) rfl ?_
                                    obtain ⟨w81v, w81e, w81⟩ := ziadd (a := w10x5) (b := Int32.ofInt 1) rfl (show (Int32.ofInt 1).toInt = 1 by decide) (by omega) (by omega)
                                    refine zs_iinc (pc := 157) t108_157 (ls' := [(5, .int w81v), (7, .int (0 : Int32)), (6, .int (0 : Int32)), (0, .ref 242), (1, .int a), (2, .int b), (3, .int w2x3), (4, .int w5x4)]) (zml mf108 (by decide)) rfl (c := w81v) w81e rfl ?_
                                    refine zs_goto (pc := 160) t108_160 ?_
                                    refine zGo.locals (ls' := [(0, .ref 242), (1, .int a), (2, .int b), (3, .int w2x3), (4, .int w5x4), (5, .int w81v)]) (by simp) ?_
                                    exact w10ih (w10m - 1) (by omega) w81v (zsI (zsI (zsI w10M 243 w74n w2x3) 244 w74n w5x4) 242 0 w79v) ⟨by omega, by omega⟩ w10s w80 (((((zFr.refl).trans (w10F.mono rfl)).put rfl).put rfl).put rfl) (by omega)
                                  · refine zs_if_neF (pc := 135) t108_135 rfl (by omega) ?_
                                    refine zs_iload (pc := 138) t108_138 rfl ?_
                                    obtain ⟨w82v, w82e⟩ : ∃ v, -w5x4 = v := ⟨_, rfl⟩
                                    have w82 : w82v.toInt = -w5x4.toInt := by rw [← w82e]; exact zneg rfl (by omega)
                                    refine zs_ineg (pc := 140) t108_140 (c := w82v) w82e ?_
                                    refine zs_goto (pc := 141) t108_141 ?_
                                    have w83 : zIv cLo cHi (zsI (zsI w10M 243 w74n w2x3) 244 w74n w82v) := zIv.put w75 (show (-20) ≤ w82v.toInt ∧ w82v.toInt ≤ 20 from ⟨by omega, by omega⟩)
                                    refine zs_iast (pc := 146) t108_146 (j := w74n) (by decide) (zk1 (w10s.k fk_zMc_244)) w74 (zk2 (w10s.k fk_zMc_244) (by omega)) ?_
                                    refine zs_aload_n (pc := 147) t108_147 rfl ?_
                                    refine zs_dup (pc := 148) t108_148 rfl ?_
                                    refine zs_get (pc := 149) t108_149 (by decide) (zk1 (w10s.k fk_zMc_242)) (zfvi rfl ((zIo (by decide)).trans ((zIo (by decide)).trans rfl))) ?_
                                    refine zs_iconst (pc := 152) t108_152 (v := 1) (by decide) ?_
                                    obtain ⟨w84v, w84e, w84⟩ := ziadd (a := (zI w10M 242 0)) (b := (1 : Int32)) rfl li1 (by omega) (by omega)
                                    refine zs_iadd (pc := 153) t108_153 (c := w84v) w84e ?_
                                    have w85 : zIv cLo cHi (zsI (zsI (zsI w10M 243 w74n w2x3) 244 w74n w82v) 242 0 w84v) := zIv.put w83 (show 0 ≤ w84v.toInt ∧ w84v.toInt ≤ 287 from ⟨by omega, by omega⟩)
                                    refine zs_putI (pc := 154) t108_154 (zk1 (w10s.k fk_zMc_242)) rfl ?_
                                    obtain ⟨w86v, w86e, w86⟩ := ziadd (a := w10x5) (b := Int32.ofInt 1) rfl (show (Int32.ofInt 1).toInt = 1 by decide) (by omega) (by omega)
                                    refine zs_iinc (pc := 157) t108_157 (ls' := [(5, .int w86v), (7, .int (0 : Int32)), (6, .int (0 : Int32)), (0, .ref 242), (1, .int a), (2, .int b), (3, .int w2x3), (4, .int w5x4)]) (zml mf108 (by decide)) rfl (c := w86v) w86e rfl ?_
                                    refine zs_goto (pc := 160) t108_160 ?_
                                    refine zGo.locals (ls' := [(0, .ref 242), (1, .int a), (2, .int b), (3, .int w2x3), (4, .int w5x4), (5, .int w86v)]) (by simp) ?_
                                    exact w10ih (w10m - 1) (by omega) w86v (zsI (zsI (zsI w10M 243 w74n w2x3) 244 w74n w82v) 242 0 w84v) ⟨by omega, by omega⟩ w10s w85 (((((zFr.refl).trans (w10F.mono rfl)).put rfl).put rfl).put rfl) (by omega)
                                · refine zs_icmp_ltF (pc := 96) t108_96 rfl li287 (by omega) ?_
                                  refine zs_goto (pc := 99) t108_99 ?_
                                  obtain ⟨w87v, w87e, w87⟩ := ziadd (a := w10x5) (b := Int32.ofInt 1) rfl (show (Int32.ofInt 1).toInt = 1 by decide) (by omega) (by omega)
                                  refine zs_iinc (pc := 157) t108_157 (ls' := [(5, .int w87v), (7, .int (0 : Int32)), (6, .int (0 : Int32)), (0, .ref 242), (1, .int a), (2, .int b), (3, .int w2x3), (4, .int w5x4)]) (zml mf108 (by decide)) rfl (c := w87v) w87e rfl ?_
                                  refine zs_goto (pc := 160) t108_160 ?_
                                  refine zGo.locals (ls' := [(0, .ref 242), (1, .int a), (2, .int b), (3, .int w2x3), (4, .int w5x4), (5, .int w87v)]) (by simp) ?_
                                  exact w10ih (w10m - 1) (by omega) w87v w10M ⟨by omega, by omega⟩ w10s w10I ((zFr.refl).trans (w10F.mono rfl)) (by omega)
                              · refine zs_if_neF (pc := 69) t108_69 rfl (by omega) ?_
                                refine zs_iconst (pc := 72) t108_72 (v := 1) (by decide) ?_
                                refine zs_goto (pc := 73) t108_73 ?_
                                refine zs_istore (pc := 77) t108_77 (ls' := [(7, .int (1 : Int32)), (6, .int (0 : Int32)), (0, .ref 242), (1, .int a), (2, .int b), (3, .int w2x3), (4, .int w5x4), (5, .int w10x5)]) (zml mf108 (by decide)) rfl ?_
                                refine zs_iload (pc := 79) t108_79 rfl ?_
                                refine zs_if_neF (pc := 81) t108_81 li0 (by decide) ?_
                                refine zs_iload (pc := 84) t108_84 rfl ?_
                                refine zs_if_neT (pc := 86) t108_86 li1 (by decide) ?_
                                obtain ⟨w88v, w88e, w88⟩ := ziadd (a := w10x5) (b := Int32.ofInt 1) rfl (show (Int32.ofInt 1).toInt = 1 by decide) (by omega) (by omega)
                                refine zs_iinc (pc := 157) t108_157 (ls' := [(5, .int w88v), (7, .int (1 : Int32)), (6, .int (0 : Int32)), (0, .ref 242), (1, .int a), (2, .int b), (3, .int w2x3), (4, .int w5x4)]) (zml mf108 (by decide)) rfl (c := w88v) w88e rfl ?_
                                refine zs_goto (pc := 160) t108_160 ?_
                                refine zGo.locals (ls' := [(0, .ref 242), (1, .int a), (2, .int b), (3, .int w2x3), (4, .int w5x4), (5, .int w88v)]) (by simp) ?_
                                exact w10ih (w10m - 1) (by omega) w88v w10M ⟨by omega, by omega⟩ w10s w10I ((zFr.refl).trans (w10F.mono rfl)) (by omega)
                          · refine zs_if_neF (pc := 49) t108_49 rfl (by omega) ?_
                            refine zs_iconst (pc := 52) t108_52 (v := 1) (by decide) ?_
                            refine zs_goto (pc := 53) t108_53 ?_
                            refine zs_istore (pc := 57) t108_57 (ls' := [(6, .int (1 : Int32)), (0, .ref 242), (1, .int a), (2, .int b), (3, .int w2x3), (4, .int w5x4), (5, .int w10x5)]) (zml mf108 (by decide)) rfl ?_
                            refine zs_iload (pc := 59) t108_59 rfl ?_
                            refine zs_iconst (pc := 61) t108_61 (v := 2) (by decide) ?_
                            obtain ⟨w89v, w89⟩ : ∃ v, w10x5 - w10x5 / (2 : Int32) * (2 : Int32) = v := ⟨_, rfl⟩
                            have w89g : 0 ≤ w89v.toInt ∧ w89v.toInt ≤ 1 := by rw [← w89]; exact zrem rfl li2 (by omega) (by decide)
                            refine zs_irem (pc := 62) t108_62 (by decide) (c := w89v) w89 ?_
                            refine zs_iconst (pc := 63) t108_63 (v := 1) (by decide) ?_
                            by_cases w90 : w89v.toInt ≠ 1
                            · refine zs_icmp_neT (pc := 64) t108_64 rfl li1 (by omega) ?_
                              refine zs_iconst (pc := 76) t108_76 (v := 0) (by decide) ?_
                              refine zs_istore (pc := 77) t108_77 (ls' := [(7, .int (0 : Int32)), (6, .int (1 : Int32)), (0, .ref 242), (1, .int a), (2, .int b), (3, .int w2x3), (4, .int w5x4), (5, .int w10x5)]) (zml mf108 (by decide)) rfl ?_
                              refine zs_iload (pc := 79) t108_79 rfl ?_
                              refine zs_if_neT (pc := 81) t108_81 li1 (by decide) ?_
                              obtain ⟨w91v, w91e, w91⟩ := ziadd (a := w10x5) (b := Int32.ofInt 1) rfl (show (Int32.ofInt 1).toInt = 1 by decide) (by omega) (by omega)
                              refine zs_iinc (pc := 157) t108_157 (ls' := [(5, .int w91v), (7, .int (0 : Int32)), (6, .int (1 : Int32)), (0, .ref 242), (1, .int a), (2, .int b), (3, .int w2x3), (4, .int w5x4)]) (zml mf108 (by decide)) rfl (c := w91v) w91e rfl ?_
                              refine zs_goto (pc := 160) t108_160 ?_
                              refine zGo.locals (ls' := [(0, .ref 242), (1, .int a), (2, .int b), (3, .int w2x3), (4, .int w5x4), (5, .int w91v)]) (by simp) ?_
                              exact w10ih (w10m - 1) (by omega) w91v w10M ⟨by omega, by omega⟩ w10s w10I ((zFr.refl).trans (w10F.mono rfl)) (by omega)
                            · refine zs_icmp_neF (pc := 64) t108_64 rfl li1 (by omega) ?_
                              refine zs_iload (pc := 67) t108_67 rfl ?_
                              by_cases w92 : w5x4.toInt ≠ 0
                              · refine zs_if_neT (pc := 69) t108_69 rfl (by omega) ?_
                                refine zs_iconst (pc := 76) t108_76 (v := 0) (by decide) ?_
                                refine zs_istore (pc := 77) t108_77 (ls' := [(7, .int (0 : Int32)), (6, .int (1 : Int32)), (0, .ref 242), (1, .int a), (2, .int b), (3, .int w2x3), (4, .int w5x4), (5, .int w10x5)]) (zml mf108 (by decide)) rfl ?_
                                refine zs_iload (pc := 79) t108_79 rfl ?_
                                refine zs_if_neT (pc := 81) t108_81 li1 (by decide) ?_
                                obtain ⟨w93v, w93e, w93⟩ := ziadd (a := w10x5) (b := Int32.ofInt 1) rfl (show (Int32.ofInt 1).toInt = 1 by decide) (by omega) (by omega)
                                refine zs_iinc (pc := 157) t108_157 (ls' := [(5, .int w93v), (7, .int (0 : Int32)), (6, .int (1 : Int32)), (0, .ref 242), (1, .int a), (2, .int b), (3, .int w2x3), (4, .int w5x4)]) (zml mf108 (by decide)) rfl (c := w93v) w93e rfl ?_
                                refine zs_goto (pc := 160) t108_160 ?_
                                refine zGo.locals (ls' := [(0, .ref 242), (1, .int a), (2, .int b), (3, .int w2x3), (4, .int w5x4), (5, .int w93v)]) (by simp) ?_
                                exact w10ih (w10m - 1) (by omega) w93v w10M ⟨by omega, by omega⟩ w10s w10I ((zFr.refl).trans (w10F.mono rfl)) (by omega)
                              · refine zs_if_neF (pc := 69) t108_69 rfl (by omega) ?_
                                refine zs_iconst (pc := 72) t108_72 (v := 1) (by decide) ?_
                                refine zs_goto (pc := 73) t108_73 ?_
                                refine zs_istore (pc := 77) t108_77 (ls' := [(7, .int (1 : Int32)), (6, .int (1 : Int32)), (0, .ref 242), (1, .int a), (2, .int b), (3, .int w2x3), (4, .int w5x4), (5, .int w10x5)]) (zml mf108 (by decide)) rfl ?_
                                refine zs_iload (pc := 79) t108_79 rfl ?_
                                refine zs_if_neT (pc := 81) t108_81 li1 (by decide) ?_
                                obtain ⟨w94v, w94e, w94⟩ := ziadd (a := w10x5) (b := Int32.ofInt 1) rfl (show (Int32.ofInt 1).toInt = 1 by decide) (by omega) (by omega)
                                refine zs_iinc (pc := 157) t108_157 (ls' := [(5, .int w94v), (7, .int (1 : Int32)), (6, .int (1 : Int32)), (0, .ref 242), (1, .int a), (2, .int b), (3, .int w2x3), (4, .int w5x4)]) (zml mf108 (by decide)) rfl (c := w94v) w94e rfl ?_
                                refine zs_goto (pc := 160) t108_160 ?_
                                refine zGo.locals (ls' := [(0, .ref 242), (1, .int a), (2, .int b), (3, .int w2x3), (4, .int w5x4), (5, .int w94v)]) (by simp) ?_
                                exact w10ih (w10m - 1) (by omega) w94v w10M ⟨by omega, by omega⟩ w10s w10I ((zFr.refl).trans (w10F.mono rfl)) (by omega)
                  refine zGo.locals (ls' := [(0, .ref 242), (1, .int a), (2, .int b), (3, .int w2x3), (4, .int w5x4), (5, .int (0 : Int32))]) (by simp) ?_
                  have w95 := li0
                  exact w10L ((4 - 0 : Int).toNat) (0 : Int32) w5M ⟨by decide, by decide⟩ w5s w5I zFr.refl (by omega)
          refine zGo.locals (ls' := [(0, .ref 242), (1, .int a), (2, .int b), (3, .int w2x3), (4, .int (0 : Int32))]) (by simp) ?_
          have w96 := li0
          exact w5L ((21 - 0 : Int).toNat) (0 : Int32) w2M ⟨by decide, by decide⟩ w2s w2I zFr.refl (by omega)
  refine zGo.locals (ls' := [(0, .ref 242), (1, .int a), (2, .int b), (3, .int (0 : Int32))]) (by simp) ?_
  have w97 := li0
  exact w2L ((4 - 0 : Int).toNat) (0 : Int32) (zsI M 242 0 (0 : Int32)) ⟨by decide, by decide⟩ hs w1 zFr.refl (by omega)
theorem C109_242_7 {X : zX} {l : Launch} {M : zM} {Q : Option Value → zM → Prop} (hs : zSk zMc M) (hI : zIv cLo cHi M) (hQ : ∀ M', zSk zMc M' → zIv cLo cHi M' → zFr [(242, 254, none)] M M' → Q none M') : zCall X l 2 0 0 109 [.ref 242, .ref 7] M Q := by
  refine zs_in (by decide) mf109 (Nat.le_of_ble_eq_true rfl) ?_
  show zGo X l 2 0 0 109 0 [(0, .ref 242), (1, .ref 7)] [] M _
  refine zs_aload_n (pc := 0) t109_0 rfl ?_
  refine zs_iconst (pc := 1) t109_1 (v := 0) (by decide) ?_
  refine zs_invV (pc := 2) (k := 7) (as' := [.int (0 : Int32)]) (st := []) t109_2 mf96 rfl rfl (Or.inl ⟨by decide, (zk1 (hs.k fk_zMc_7))⟩) ⟨by decide, by decide, Nat.le_of_ble_eq_true rfl, Nat.le_of_ble_eq_true rfl⟩ (zs_in (by decide) mf96 (Nat.le_of_ble_eq_true rfl) ?_) (fun _ _ q => q)
  show zGo X l 0 0 0 96 0 [(0, .ref 7), (1, .int (0 : Int32))] [] M _
  refine zs_iload_n (pc := 0) t96_0 rfl ?_
  refine zs_if_ltF (pc := 1) t96_1 li0 (by decide) ?_
  refine zs_iload_n (pc := 4) t96_4 rfl ?_
  refine zs_bipush (pc := 5) t96_5 (v := 9) (by decide) ?_
  refine zs_icmp_geF (pc := 7) t96_7 li0 li9 (by decide) ?_
  refine zs_aload_n (pc := 10) t96_10 rfl ?_
  refine zs_get (pc := 11) t96_11 (by decide) (zk1 (hs.k fk_zMc_7)) (hs.p rfl fv_zMc_7_12) ?_
  refine zs_iload_n (pc := 14) t96_14 rfl ?_
  have w1 := ib17 hI 0
  refine zs_iald (pc := 15) t96_15 (j := 0) (by decide) (zk1 (hs.k fk_zMc_17)) li0 (zk2 (hs.k fk_zMc_17) (by decide)) rfl ?_
  refine zs_goto (pc := 16) t96_16 ?_
  refine zs_iret (pc := 20) t96_20 mr96 rfl ?_
  show zGo X l 2 0 0 109 5 [(0, .ref 242), (1, .ref 7)] [.int (zI M 17 0)] M _
  refine zs_iconst (pc := 5) t109_5 (v := 3) (by decide) ?_
  refine zs_invS (pc := 6) (as := [.int (zI M 17 0), .int (3 : Int32)]) (st := []) t109_6 (by decide) mf20 rfl rfl ⟨by decide, by decide, Nat.le_of_ble_eq_true rfl, Nat.le_of_ble_eq_true rfl⟩ (zs_in (by decide) mf20 (Nat.le_of_ble_eq_true rfl) ?_) (fun _ _ q => q)
  show zGo X l 0 0 0 20 0 [(0, .int (zI M 17 0)), (1, .int (3 : Int32))] [] M _
  refine zs_iload_n (pc := 0) t20_0 rfl ?_
  refine zs_iload_n (pc := 1) t20_1 rfl ?_
  by_cases w2 : 3 < (zI M 17 0).toInt
  · refine zs_icmp_gtT (pc := 2) t20_2 rfl li3 (by omega) ?_
    refine zs_iload_n (pc := 9) t20_9 rfl ?_
    refine zs_iret (pc := 10) t20_10 mr20 (by decide) ?_
    show zGo X l 2 0 0 109 9 [(0, .ref 242), (1, .ref 7)] [.int (3 : Int32)] M _
    refine zs_istore_n (pc := 9) t109_9 (ls' := [(2, .int (3 : Int32)), (0, .ref 242), (1, .ref 7)]) (zml mf109 (by decide)) rfl ?_
    refine zs_aload_n (pc := 10) t109_10 rfl ?_
    refine zs_iconst (pc := 11) t109_11 (v := 1) (by decide) ?_
    refine zs_invV (pc := 12) (k := 7) (as' := [.int (1 : Int32)]) (st := []) t109_12 mf96 rfl rfl (Or.inl ⟨by decide, (zk1 (hs.k fk_zMc_7))⟩) ⟨by decide, by decide, Nat.le_of_ble_eq_true rfl, Nat.le_of_ble_eq_true rfl⟩ (zs_in (by decide) mf96 (Nat.le_of_ble_eq_true rfl) ?_) (fun _ _ q => q)
    show zGo X l 0 0 0 96 0 [(0, .ref 7), (1, .int (1 : Int32))] [] M _
    refine zs_iload_n (pc := 0) t96_0 rfl ?_
    refine zs_if_ltF (pc := 1) t96_1 li1 (by decide) ?_
    refine zs_iload_n (pc := 4) t96_4 rfl ?_
    refine zs_bipush (pc := 5) t96_5 (v := 9) (by decide) ?_
    refine zs_icmp_geF (pc := 7) t96_7 li1 li9 (by decide) ?_
    refine zs_aload_n (pc := 10) t96_10 rfl ?_
    refine zs_get (pc := 11) t96_11 (by decide) (zk1 (hs.k fk_zMc_7)) (hs.p rfl fv_zMc_7_12) ?_
    refine zs_iload_n (pc := 14) t96_14 rfl ?_
    have w3 := ib17 hI 1
    refine zs_iald (pc := 15) t96_15 (j := 1) (by decide) (zk1 (hs.k fk_zMc_17)) li1 (zk2 (hs.k fk_zMc_17) (by decide)) rfl ?_
    refine zs_goto (pc := 16) t96_16 ?_
    refine zs_iret (pc := 20) t96_20 mr96 rfl ?_
    show zGo X l 2 0 0 109 15 [(2, .int (3 : Int32)), (0, .ref 242), (1, .ref 7)] [.int (zI M 17 1)] M _
    refine zs_bipush (pc := 15) t109_15 (v := 20) (by decide) ?_
    refine zs_invS (pc := 17) (as := [.int (zI M 17 1), .int (20 : Int32)]) (st := []) t109_17 (by decide) mf20 rfl rfl ⟨by decide, by decide, Nat.le_of_ble_eq_true rfl, Nat.le_of_ble_eq_true rfl⟩ (zs_in (by decide) mf20 (Nat.le_of_ble_eq_true rfl) ?_) (fun _ _ q => q)
    show zGo X l 0 0 0 20 0 [(0, .int (zI M 17 1)), (1, .int (20 : Int32))] [] M _
    refine zs_iload_n (pc := 0) t20_0 rfl ?_
    refine zs_iload_n (pc := 1) t20_1 rfl ?_
    by_cases w4 : 20 < (zI M 17 1).toInt
    · refine zs_icmp_gtT (pc := 2) t20_2 rfl li20 (by omega) ?_
      refine zs_iload_n (pc := 9) t20_9 rfl ?_
      refine zs_iret (pc := 10) t20_10 mr20 (by decide) ?_
      show zGo X l 2 0 0 109 20 [(2, .int (3 : Int32)), (0, .ref 242), (1, .ref 7)] [.int (20 : Int32)] M _
      refine zs_istore_n (pc := 20) t109_20 (ls' := [(3, .int (20 : Int32)), (2, .int (3 : Int32)), (0, .ref 242), (1, .ref 7)]) (zml mf109 (by decide)) rfl ?_
      refine zs_iconst (pc := 21) t109_21 (v := 0) (by decide) ?_
      refine zs_istore (pc := 22) t109_22 (ls' := [(4, .int (0 : Int32)), (3, .int (20 : Int32)), (2, .int (3 : Int32)), (0, .ref 242), (1, .ref 7)]) (zml mf109 (by decide)) rfl ?_
      have w5L : ∀ (m : Nat) (w5x4 : Int32) (w5M : zM), (0 ≤ w5x4.toInt ∧ w5x4.toInt ≤ 8) → zSk zMc w5M → zIv cLo cHi w5M → zFr [(242, 254, none)] M w5M → 8 - w5x4.toInt ≤ (m : Int) → zGo X l 2 0 0 109 24 [(0, .ref 242), (1, .ref 7), (2, .int (3 : Int32)), (3, .int (20 : Int32)), (4, .int w5x4)] [] w5M Q := by
        intro m
        induction m using Nat.strongRecOn with
        | ind w5m w5ih =>
          intro w5x4 w5M w5b4 w5s w5I w5F w5q
          refine zs_iload (pc := 24) t109_24 rfl ?_
          refine zs_aload_n (pc := 26) t109_26 rfl ?_
          have w6 := ib7_0 hI
          refine zs_get (pc := 27) t109_27 (by decide) (zk1 (w5s.k fk_zMc_7)) (zfvi rfl ((w5F 7 0 rfl).trans rfl)) ?_
          by_cases w7 : (zI M 7 0).toInt ≤ w5x4.toInt
          · refine zs_icmp_geT (pc := 30) t109_30 rfl rfl (by omega) ?_
            exact zs_vret (pc := 118) t109_118 mr109 (hQ _ w5s w5I ((zFr.refl).trans (w5F.mono rfl)))
          · refine zs_icmp_geF (pc := 30) t109_30 rfl rfl (by omega) ?_
            refine zs_iload_n (pc := 33) t109_33 rfl ?_
            refine zs_ineg (pc := 34) t109_34 (c := -3) (by decide) ?_
            refine zs_istore (pc := 35) t109_35 (ls' := [(5, .int (-3 : Int32)), (0, .ref 242), (1, .ref 7), (2, .int (3 : Int32)), (3, .int (20 : Int32)), (4, .int w5x4)]) (zml mf109 (by decide)) rfl ?_
            have w8L : ∀ (m : Nat) (w8x5 : Int32) (w8M : zM), ((-3) ≤ w8x5.toInt ∧ w8x5.toInt ≤ 300001) → zSk zMc w8M → zIv cLo cHi w8M → zFr [(242, 254, none)] w5M w8M → 4 - w8x5.toInt ≤ (m : Int) → zGo X l 2 0 0 109 37 [(0, .ref 242), (1, .ref 7), (2, .int (3 : Int32)), (3, .int (20 : Int32)), (4, .int w5x4), (5, .int w8x5)] [] w8M Q := by
              intro m
              induction m using Nat.strongRecOn with
              | ind w8m w8ih =>
                intro w8x5 w8M w8b5 w8s w8I w8F w8q
                refine zs_iload (pc := 37) t109_37 rfl ?_
                refine zs_iload_n (pc := 39) t109_39 rfl ?_
                by_cases w9 : 3 < w8x5.toInt
                · refine zs_icmp_gtT (pc := 40) t109_40 rfl li3 (by omega) ?_
                  refine zs_iload_n (pc := 72) t109_72 rfl ?_
                  refine zs_ineg (pc := 73) t109_73 (c := -20) (by decide) ?_
                  refine zs_istore (pc := 74) t109_74 (ls' := [(5, .int (-20 : Int32)), (0, .ref 242), (1, .ref 7), (2, .int (3 : Int32)), (3, .int (20 : Int32)), (4, .int w5x4)]) (zml mf109 (by decide)) rfl ?_
                  have w10L : ∀ (m : Nat) (w10x5 : Int32) (w10M : zM), ((-20) ≤ w10x5.toInt ∧ w10x5.toInt ≤ 300001) → zSk zMc w10M → zIv cLo cHi w10M → zFr [(242, 254, none)] w8M w10M → 21 - w10x5.toInt ≤ (m : Int) → zGo X l 2 0 0 109 76 [(0, .ref 242), (1, .ref 7), (2, .int (3 : Int32)), (3, .int (20 : Int32)), (4, .int w5x4), (5, .int w10x5)] [] w10M Q := by
                    intro m
                    induction m using Nat.strongRecOn with
                    | ind w10m w10ih =>
                      intro w10x5 w10M w10b5 w10s w10I w10F w10q
                      refine zs_iload (pc := 76) t109_76 rfl ?_
                      refine zs_iload_n (pc := 78) t109_78 rfl ?_
                      by_cases w11 : 20 < w10x5.toInt
                      · refine zs_icmp_gtT (pc := 79) t109_79 rfl li20 (by omega) ?_
                        obtain ⟨w12v, w12e, w12⟩ := ziadd (a := w5x4) (b := Int32.ofInt 1) rfl (show (Int32.ofInt 1).toInt = 1 by decide) (by omega) (by omega)
                        refine zs_iinc (pc := 112) t109_112 (ls' := [(4, .int w12v), (0, .ref 242), (1, .ref 7), (2, .int (3 : Int32)), (3, .int (20 : Int32)), (5, .int w10x5)]) (zml mf109 (by decide)) rfl (c := w12v) w12e rfl ?_
                        refine zs_goto (pc := 115) t109_115 ?_
                        refine zGo.locals (ls' := [(0, .ref 242), (1, .ref 7), (2, .int (3 : Int32)), (3, .int (20 : Int32)), (4, .int w12v)]) (by simp) ?_
                        exact w5ih (w5m - 1) (by omega) w12v w10M ⟨by omega, by omega⟩ w10s w10I ((((zFr.refl).trans (w5F.mono rfl)).trans (w8F.mono rfl)).trans (w10F.mono rfl)) (by omega)
                      · refine zs_icmp_gtF (pc := 79) t109_79 rfl li20 (by omega) ?_
                        refine zs_aload_n (pc := 82) t109_82 rfl ?_
                        refine zs_get (pc := 83) t109_83 (by decide) (zk1 (w10s.k fk_zMc_242)) (w10s.p rfl fv_zMc_242_4) ?_
                        refine zs_iload (pc := 86) t109_86 rfl ?_
                        refine zs_bipush (pc := 88) t109_88 (v := 20) (by decide) ?_
                        obtain ⟨w13v, w13e, w13⟩ := ziadd (a := w10x5) (b := (20 : Int32)) rfl li20 (by omega) (by omega)
                        refine zs_iadd (pc := 90) t109_90 (c := w13v) w13e ?_
                        refine zs_bipush (pc := 91) t109_91 (v := 8) (by decide) ?_
                        obtain ⟨w14v, w14⟩ : ∃ v, w13v * (8 : Int32) = v := ⟨_, rfl⟩
                        have w14g : w14v.toInt = (w10x5.toInt + 20) * 8 := by rw [← w14]; exact zmulc w13 li8 (by omega) (by omega)
                        refine zs_imul (pc := 93) t109_93 (c := w14v) w14 ?_
                        refine zs_iload (pc := 94) t109_94 rfl ?_
                        obtain ⟨w15v, w15e, w15⟩ := ziadd (a := w14v) (b := w5x4) rfl rfl (by omega) (by omega)
                        refine zs_iadd (pc := 96) t109_96 (c := w15v) w15e ?_
                        refine zs_aload_n (pc := 97) t109_97 rfl ?_
                        refine zs_iload (pc := 98) t109_98 rfl ?_
                        refine zs_iload (pc := 100) t109_100 rfl ?_
                        refine zs_invV (pc := 102) (k := 7) (as' := [.int w5x4, .int w10x5]) (st := [.int w15v, .ref 246]) t109_102 mf53 rfl rfl (Or.inl ⟨by decide, (zk1 (w10s.k fk_zMc_7))⟩) ⟨by decide, by decide, Nat.le_of_ble_eq_true rfl, Nat.le_of_ble_eq_true rfl⟩ (C53_7 w10s w10I ?_) (fun _ _ q => q)
                        intro w16v w16a w16b
                        show zGo X l 2 0 0 109 105 [(0, .ref 242), (1, .ref 7), (2, .int (3 : Int32)), (3, .int (20 : Int32)), (4, .int w5x4), (5, .int w10x5)] [.int w16v, .int w15v, .ref 246] w10M _
                        obtain ⟨w17n, w17⟩ : ∃ n : Nat, w15v.toInt = (n : Int) := ⟨w15v.toInt.toNat, by omega⟩
                        have w18 : zIv cLo cHi (zsI w10M 246 w17n w16v) := zIv.put w10I (show (-2147483648) ≤ w16v.toInt ∧ w16v.toInt ≤ 2147483647 from (zrg w16v))
                        refine zs_iast (pc := 105) t109_105 (j := w17n) (by decide) (zk1 (w10s.k fk_zMc_246)) w17 (zk2 (w10s.k fk_zMc_246) (by omega)) ?_
                        obtain ⟨w19v, w19e, w19⟩ := ziadd (a := w10x5) (b := Int32.ofInt 1) rfl (show (Int32.ofInt 1).toInt = 1 by decide) (by omega) (by omega)
                        refine zs_iinc (pc := 106) t109_106 (ls' := [(5, .int w19v), (0, .ref 242), (1, .ref 7), (2, .int (3 : Int32)), (3, .int (20 : Int32)), (4, .int w5x4)]) (zml mf109 (by decide)) rfl (c := w19v) w19e rfl ?_
                        refine zs_goto (pc := 109) t109_109 ?_
                        refine zGo.locals (ls' := [(0, .ref 242), (1, .ref 7), (2, .int (3 : Int32)), (3, .int (20 : Int32)), (4, .int w5x4), (5, .int w19v)]) (by simp) ?_
                        exact w10ih (w10m - 1) (by omega) w19v (zsI w10M 246 w17n w16v) ⟨by omega, by omega⟩ w10s w18 (((zFr.refl).trans (w10F.mono rfl)).put rfl) (by omega)
                  refine zGo.locals (ls' := [(0, .ref 242), (1, .ref 7), (2, .int (3 : Int32)), (3, .int (20 : Int32)), (4, .int w5x4), (5, .int (-20 : Int32))]) (by simp) ?_
                  have w20 := lin20
                  exact w10L ((21 - (-20) : Int).toNat) (-20 : Int32) w8M ⟨by decide, by decide⟩ w8s w8I zFr.refl (by omega)
                · refine zs_icmp_gtF (pc := 40) t109_40 rfl li3 (by omega) ?_
                  refine zs_aload_n (pc := 43) t109_43 rfl ?_
                  refine zs_get (pc := 44) t109_44 (by decide) (zk1 (w8s.k fk_zMc_242)) (w8s.p rfl fv_zMc_242_3) ?_
                  refine zs_iload (pc := 47) t109_47 rfl ?_
                  refine zs_iconst (pc := 49) t109_49 (v := 3) (by decide) ?_
                  obtain ⟨w21v, w21e, w21⟩ := ziadd (a := w8x5) (b := (3 : Int32)) rfl li3 (by omega) (by omega)
                  refine zs_iadd (pc := 50) t109_50 (c := w21v) w21e ?_
                  refine zs_bipush (pc := 51) t109_51 (v := 8) (by decide) ?_
                  obtain ⟨w22v, w22⟩ : ∃ v, w21v * (8 : Int32) = v := ⟨_, rfl⟩
                  have w22g : w22v.toInt = (w8x5.toInt + 3) * 8 := by rw [← w22]; exact zmulc w21 li8 (by omega) (by omega)
                  refine zs_imul (pc := 53) t109_53 (c := w22v) w22 ?_
                  refine zs_iload (pc := 54) t109_54 rfl ?_
                  obtain ⟨w23v, w23e, w23⟩ := ziadd (a := w22v) (b := w5x4) rfl rfl (by omega) (by omega)
                  refine zs_iadd (pc := 56) t109_56 (c := w23v) w23e ?_
                  refine zs_aload_n (pc := 57) t109_57 rfl ?_
                  refine zs_iload (pc := 58) t109_58 rfl ?_
                  refine zs_iload (pc := 60) t109_60 rfl ?_
                  refine zs_invV (pc := 62) (k := 7) (as' := [.int w5x4, .int w8x5]) (st := [.int w23v, .ref 245]) t109_62 mf55 rfl rfl (Or.inl ⟨by decide, (zk1 (w8s.k fk_zMc_7))⟩) ⟨by decide, by decide, Nat.le_of_ble_eq_true rfl, Nat.le_of_ble_eq_true rfl⟩ (C55_7 w8s w8I ?_) (fun _ _ q => q)
                  intro w24v w24a w24b
                  show zGo X l 2 0 0 109 65 [(0, .ref 242), (1, .ref 7), (2, .int (3 : Int32)), (3, .int (20 : Int32)), (4, .int w5x4), (5, .int w8x5)] [.int w24v, .int w23v, .ref 245] w8M _
                  obtain ⟨w25n, w25⟩ : ∃ n : Nat, w23v.toInt = (n : Int) := ⟨w23v.toInt.toNat, by omega⟩
                  have w26 : zIv cLo cHi (zsI w8M 245 w25n w24v) := zIv.put w8I (show (-2147483648) ≤ w24v.toInt ∧ w24v.toInt ≤ 2147483647 from (zrg w24v))
                  refine zs_iast (pc := 65) t109_65 (j := w25n) (by decide) (zk1 (w8s.k fk_zMc_245)) w25 (zk2 (w8s.k fk_zMc_245) (by omega)) ?_
                  obtain ⟨w27v, w27e, w27⟩ := ziadd (a := w8x5) (b := Int32.ofInt 1) rfl (show (Int32.ofInt 1).toInt = 1 by decide) (by omega) (by omega)
                  refine zs_iinc (pc := 66) t109_66 (ls' := [(5, .int w27v), (0, .ref 242), (1, .ref 7), (2, .int (3 : Int32)), (3, .int (20 : Int32)), (4, .int w5x4)]) (zml mf109 (by decide)) rfl (c := w27v) w27e rfl ?_
                  refine zs_goto (pc := 69) t109_69 ?_
                  refine zGo.locals (ls' := [(0, .ref 242), (1, .ref 7), (2, .int (3 : Int32)), (3, .int (20 : Int32)), (4, .int w5x4), (5, .int w27v)]) (by simp) ?_
                  exact w8ih (w8m - 1) (by omega) w27v (zsI w8M 245 w25n w24v) ⟨by omega, by omega⟩ w8s w26 (((zFr.refl).trans (w8F.mono rfl)).put rfl) (by omega)
            refine zGo.locals (ls' := [(0, .ref 242), (1, .ref 7), (2, .int (3 : Int32)), (3, .int (20 : Int32)), (4, .int w5x4), (5, .int (-3 : Int32))]) (by simp) ?_
            have w28 := lin3
            exact w8L ((4 - (-3) : Int).toNat) (-3 : Int32) w5M ⟨by decide, by decide⟩ w5s w5I zFr.refl (by omega)
      refine zGo.locals (ls' := [(0, .ref 242), (1, .ref 7), (2, .int (3 : Int32)), (3, .int (20 : Int32)), (4, .int (0 : Int32))]) (by simp) ?_
      have w29 := li0
      exact w5L ((8 - 0 : Int).toNat) (0 : Int32) M ⟨by decide, by decide⟩ hs hI zFr.refl (by omega)
    · refine zs_icmp_gtF (pc := 2) t20_2 rfl li20 (by omega) ?_
      refine zs_iload_n (pc := 5) t20_5 rfl ?_
      refine zs_goto (pc := 6) t20_6 ?_
      refine zs_iret (pc := 10) t20_10 mr20 rfl ?_
      show zGo X l 2 0 0 109 20 [(2, .int (3 : Int32)), (0, .ref 242), (1, .ref 7)] [.int (zI M 17 1)] M _
      refine zs_istore_n (pc := 20) t109_20 (ls' := [(3, .int (zI M 17 1)), (2, .int (3 : Int32)), (0, .ref 242), (1, .ref 7)]) (zml mf109 (by decide)) rfl ?_
      refine zs_iconst (pc := 21) t109_21 (v := 0) (by decide) ?_
      refine zs_istore (pc := 22) t109_22 (ls' := [(4, .int (0 : Int32)), (3, .int (zI M 17 1)), (2, .int (3 : Int32)), (0, .ref 242), (1, .ref 7)]) (zml mf109 (by decide)) rfl ?_
      have w30L : ∀ (m : Nat) (w30x4 : Int32) (w30M : zM), (0 ≤ w30x4.toInt ∧ w30x4.toInt ≤ 8) → zSk zMc w30M → zIv cLo cHi w30M → zFr [(242, 254, none)] M w30M → 8 - w30x4.toInt ≤ (m : Int) → zGo X l 2 0 0 109 24 [(0, .ref 242), (1, .ref 7), (2, .int (3 : Int32)), (3, .int (zI M 17 1)), (4, .int w30x4)] [] w30M Q := by
        intro m
        induction m using Nat.strongRecOn with
        | ind w30m w30ih =>
          intro w30x4 w30M w30b4 w30s w30I w30F w30q
          refine zs_iload (pc := 24) t109_24 rfl ?_
          refine zs_aload_n (pc := 26) t109_26 rfl ?_
          have w31 := ib7_0 hI
          refine zs_get (pc := 27) t109_27 (by decide) (zk1 (w30s.k fk_zMc_7)) (zfvi rfl ((w30F 7 0 rfl).trans rfl)) ?_
          by_cases w32 : (zI M 7 0).toInt ≤ w30x4.toInt
          · refine zs_icmp_geT (pc := 30) t109_30 rfl rfl (by omega) ?_
            exact zs_vret (pc := 118) t109_118 mr109 (hQ _ w30s w30I ((zFr.refl).trans (w30F.mono rfl)))
          · refine zs_icmp_geF (pc := 30) t109_30 rfl rfl (by omega) ?_
            refine zs_iload_n (pc := 33) t109_33 rfl ?_
            refine zs_ineg (pc := 34) t109_34 (c := -3) (by decide) ?_
            refine zs_istore (pc := 35) t109_35 (ls' := [(5, .int (-3 : Int32)), (0, .ref 242), (1, .ref 7), (2, .int (3 : Int32)), (3, .int (zI M 17 1)), (4, .int w30x4)]) (zml mf109 (by decide)) rfl ?_
            have w33L : ∀ (m : Nat) (w33x5 : Int32) (w33M : zM), ((-3) ≤ w33x5.toInt ∧ w33x5.toInt ≤ 300001) → zSk zMc w33M → zIv cLo cHi w33M → zFr [(242, 254, none)] w30M w33M → 4 - w33x5.toInt ≤ (m : Int) → zGo X l 2 0 0 109 37 [(0, .ref 242), (1, .ref 7), (2, .int (3 : Int32)), (3, .int (zI M 17 1)), (4, .int w30x4), (5, .int w33x5)] [] w33M Q := by
              intro m
              induction m using Nat.strongRecOn with
              | ind w33m w33ih =>
                intro w33x5 w33M w33b5 w33s w33I w33F w33q
                refine zs_iload (pc := 37) t109_37 rfl ?_
                refine zs_iload_n (pc := 39) t109_39 rfl ?_
                by_cases w34 : 3 < w33x5.toInt
                · refine zs_icmp_gtT (pc := 40) t109_40 rfl li3 (by omega) ?_
                  refine zs_iload_n (pc := 72) t109_72 rfl ?_
                  obtain ⟨w35v, w35e⟩ : ∃ v, -(zI M 17 1) = v := ⟨_, rfl⟩
                  have w35 : w35v.toInt = -(zI M 17 1).toInt := by rw [← w35e]; exact zneg rfl (by omega)
                  refine zs_ineg (pc := 73) t109_73 (c := w35v) w35e ?_
                  refine zs_istore (pc := 74) t109_74 (ls' := [(5, .int w35v), (0, .ref 242), (1, .ref 7), (2, .int (3 : Int32)), (3, .int (zI M 17 1)), (4, .int w30x4)]) (zml mf109 (by decide)) rfl ?_
                  have w36L : ∀ (m : Nat) (w36x5 : Int32) (w36M : zM), ((-20) ≤ w36x5.toInt ∧ w36x5.toInt ≤ 300001) → zSk zMc w36M → zIv cLo cHi w36M → zFr [(242, 254, none)] w33M w36M → 21 - w36x5.toInt ≤ (m : Int) → zGo X l 2 0 0 109 76 [(0, .ref 242), (1, .ref 7), (2, .int (3 : Int32)), (3, .int (zI M 17 1)), (4, .int w30x4), (5, .int w36x5)] [] w36M Q := by
                    intro m
                    induction m using Nat.strongRecOn with
                    | ind w36m w36ih =>
                      intro w36x5 w36M w36b5 w36s w36I w36F w36q
                      refine zs_iload (pc := 76) t109_76 rfl ?_
                      refine zs_iload_n (pc := 78) t109_78 rfl ?_
                      by_cases w37 : (zI M 17 1).toInt < w36x5.toInt
                      · refine zs_icmp_gtT (pc := 79) t109_79 rfl rfl (by omega) ?_
                        obtain ⟨w38v, w38e, w38⟩ := ziadd (a := w30x4) (b := Int32.ofInt 1) rfl (show (Int32.ofInt 1).toInt = 1 by decide) (by omega) (by omega)
                        refine zs_iinc (pc := 112) t109_112 (ls' := [(4, .int w38v), (0, .ref 242), (1, .ref 7), (2, .int (3 : Int32)), (3, .int (zI M 17 1)), (5, .int w36x5)]) (zml mf109 (by decide)) rfl (c := w38v) w38e rfl ?_
                        refine zs_goto (pc := 115) t109_115 ?_
                        refine zGo.locals (ls' := [(0, .ref 242), (1, .ref 7), (2, .int (3 : Int32)), (3, .int (zI M 17 1)), (4, .int w38v)]) (by simp) ?_
                        exact w30ih (w30m - 1) (by omega) w38v w36M ⟨by omega, by omega⟩ w36s w36I ((((zFr.refl).trans (w30F.mono rfl)).trans (w33F.mono rfl)).trans (w36F.mono rfl)) (by omega)
                      · refine zs_icmp_gtF (pc := 79) t109_79 rfl rfl (by omega) ?_
                        refine zs_aload_n (pc := 82) t109_82 rfl ?_
                        refine zs_get (pc := 83) t109_83 (by decide) (zk1 (w36s.k fk_zMc_242)) (w36s.p rfl fv_zMc_242_4) ?_
                        refine zs_iload (pc := 86) t109_86 rfl ?_
                        refine zs_bipush (pc := 88) t109_88 (v := 20) (by decide) ?_
                        obtain ⟨w39v, w39e, w39⟩ := ziadd (a := w36x5) (b := (20 : Int32)) rfl li20 (by omega) (by omega)
                        refine zs_iadd (pc := 90) t109_90 (c := w39v) w39e ?_
                        refine zs_bipush (pc := 91) t109_91 (v := 8) (by decide) ?_
                        obtain ⟨w40v, w40⟩ : ∃ v, w39v * (8 : Int32) = v := ⟨_, rfl⟩
                        have w40g : w40v.toInt = (w36x5.toInt + 20) * 8 := by rw [← w40]; exact zmulc w39 li8 (by omega) (by omega)
                        refine zs_imul (pc := 93) t109_93 (c := w40v) w40 ?_
                        refine zs_iload (pc := 94) t109_94 rfl ?_
                        obtain ⟨w41v, w41e, w41⟩ := ziadd (a := w40v) (b := w30x4) rfl rfl (by omega) (by omega)
                        refine zs_iadd (pc := 96) t109_96 (c := w41v) w41e ?_
                        refine zs_aload_n (pc := 97) t109_97 rfl ?_
                        refine zs_iload (pc := 98) t109_98 rfl ?_
                        refine zs_iload (pc := 100) t109_100 rfl ?_
                        refine zs_invV (pc := 102) (k := 7) (as' := [.int w30x4, .int w36x5]) (st := [.int w41v, .ref 246]) t109_102 mf53 rfl rfl (Or.inl ⟨by decide, (zk1 (w36s.k fk_zMc_7))⟩) ⟨by decide, by decide, Nat.le_of_ble_eq_true rfl, Nat.le_of_ble_eq_true rfl⟩ (C53_7 w36s w36I ?_) (fun _ _ q => q)
                        intro w42v w42a w42b
                        show zGo X l 2 0 0 109 105 [(0, .ref 242), (1, .ref 7), (2, .int (3 : Int32)), (3, .int (zI M 17 1)), (4, .int w30x4), (5, .int w36x5)] [.int w42v, .int w41v, .ref 246] w36M _
                        obtain ⟨w43n, w43⟩ : ∃ n : Nat, w41v.toInt = (n : Int) := ⟨w41v.toInt.toNat, by omega⟩
                        have w44 : zIv cLo cHi (zsI w36M 246 w43n w42v) := zIv.put w36I (show (-2147483648) ≤ w42v.toInt ∧ w42v.toInt ≤ 2147483647 from (zrg w42v))
                        refine zs_iast (pc := 105) t109_105 (j := w43n) (by decide) (zk1 (w36s.k fk_zMc_246)) w43 (zk2 (w36s.k fk_zMc_246) (by omega)) ?_
                        obtain ⟨w45v, w45e, w45⟩ := ziadd (a := w36x5) (b := Int32.ofInt 1) rfl (show (Int32.ofInt 1).toInt = 1 by decide) (by omega) (by omega)
                        refine zs_iinc (pc := 106) t109_106 (ls' := [(5, .int w45v), (0, .ref 242), (1, .ref 7), (2, .int (3 : Int32)), (3, .int (zI M 17 1)), (4, .int w30x4)]) (zml mf109 (by decide)) rfl (c := w45v) w45e rfl ?_
                        refine zs_goto (pc := 109) t109_109 ?_
                        refine zGo.locals (ls' := [(0, .ref 242), (1, .ref 7), (2, .int (3 : Int32)), (3, .int (zI M 17 1)), (4, .int w30x4), (5, .int w45v)]) (by simp) ?_
                        exact w36ih (w36m - 1) (by omega) w45v (zsI w36M 246 w43n w42v) ⟨by omega, by omega⟩ w36s w44 (((zFr.refl).trans (w36F.mono rfl)).put rfl) (by omega)
                  refine zGo.locals (ls' := [(0, .ref 242), (1, .ref 7), (2, .int (3 : Int32)), (3, .int (zI M 17 1)), (4, .int w30x4), (5, .int w35v)]) (by simp) ?_
                  exact w36L ((21 - (-(zI M 17 1).toInt) : Int).toNat) w35v w33M ⟨by omega, by omega⟩ w33s w33I zFr.refl (by omega)
                · refine zs_icmp_gtF (pc := 40) t109_40 rfl li3 (by omega) ?_
                  refine zs_aload_n (pc := 43) t109_43 rfl ?_
                  refine zs_get (pc := 44) t109_44 (by decide) (zk1 (w33s.k fk_zMc_242)) (w33s.p rfl fv_zMc_242_3) ?_
                  refine zs_iload (pc := 47) t109_47 rfl ?_
                  refine zs_iconst (pc := 49) t109_49 (v := 3) (by decide) ?_
                  obtain ⟨w46v, w46e, w46⟩ := ziadd (a := w33x5) (b := (3 : Int32)) rfl li3 (by omega) (by omega)
                  refine zs_iadd (pc := 50) t109_50 (c := w46v) w46e ?_
                  refine zs_bipush (pc := 51) t109_51 (v := 8) (by decide) ?_
                  obtain ⟨w47v, w47⟩ : ∃ v, w46v * (8 : Int32) = v := ⟨_, rfl⟩
                  have w47g : w47v.toInt = (w33x5.toInt + 3) * 8 := by rw [← w47]; exact zmulc w46 li8 (by omega) (by omega)
                  refine zs_imul (pc := 53) t109_53 (c := w47v) w47 ?_
                  refine zs_iload (pc := 54) t109_54 rfl ?_
                  obtain ⟨w48v, w48e, w48⟩ := ziadd (a := w47v) (b := w30x4) rfl rfl (by omega) (by omega)
                  refine zs_iadd (pc := 56) t109_56 (c := w48v) w48e ?_
                  refine zs_aload_n (pc := 57) t109_57 rfl ?_
                  refine zs_iload (pc := 58) t109_58 rfl ?_
                  refine zs_iload (pc := 60) t109_60 rfl ?_
                  refine zs_invV (pc := 62) (k := 7) (as' := [.int w30x4, .int w33x5]) (st := [.int w48v, .ref 245]) t109_62 mf55 rfl rfl (Or.inl ⟨by decide, (zk1 (w33s.k fk_zMc_7))⟩) ⟨by decide, by decide, Nat.le_of_ble_eq_true rfl, Nat.le_of_ble_eq_true rfl⟩ (C55_7 w33s w33I ?_) (fun _ _ q => q)
                  intro w49v w49a w49b
                  show zGo X l 2 0 0 109 65 [(0, .ref 242), (1, .ref 7), (2, .int (3 : Int32)), (3, .int (zI M 17 1)), (4, .int w30x4), (5, .int w33x5)] [.int w49v, .int w48v, .ref 245] w33M _
                  obtain ⟨w50n, w50⟩ : ∃ n : Nat, w48v.toInt = (n : Int) := ⟨w48v.toInt.toNat, by omega⟩
                  have w51 : zIv cLo cHi (zsI w33M 245 w50n w49v) := zIv.put w33I (show (-2147483648) ≤ w49v.toInt ∧ w49v.toInt ≤ 2147483647 from (zrg w49v))
                  refine zs_iast (pc := 65) t109_65 (j := w50n) (by decide) (zk1 (w33s.k fk_zMc_245)) w50 (zk2 (w33s.k fk_zMc_245) (by omega)) ?_
                  obtain ⟨w52v, w52e, w52⟩ := ziadd (a := w33x5) (b := Int32.ofInt 1) rfl (show (Int32.ofInt 1).toInt = 1 by decide) (by omega) (by omega)
                  refine zs_iinc (pc := 66) t109_66 (ls' := [(5, .int w52v), (0, .ref 242), (1, .ref 7), (2, .int (3 : Int32)), (3, .int (zI M 17 1)), (4, .int w30x4)]) (zml mf109 (by decide)) rfl (c := w52v) w52e rfl ?_
                  refine zs_goto (pc := 69) t109_69 ?_
                  refine zGo.locals (ls' := [(0, .ref 242), (1, .ref 7), (2, .int (3 : Int32)), (3, .int (zI M 17 1)), (4, .int w30x4), (5, .int w52v)]) (by simp) ?_
                  exact w33ih (w33m - 1) (by omega) w52v (zsI w33M 245 w50n w49v) ⟨by omega, by omega⟩ w33s w51 (((zFr.refl).trans (w33F.mono rfl)).put rfl) (by omega)
            refine zGo.locals (ls' := [(0, .ref 242), (1, .ref 7), (2, .int (3 : Int32)), (3, .int (zI M 17 1)), (4, .int w30x4), (5, .int (-3 : Int32))]) (by simp) ?_
            have w53 := lin3
            exact w33L ((4 - (-3) : Int).toNat) (-3 : Int32) w30M ⟨by decide, by decide⟩ w30s w30I zFr.refl (by omega)
      refine zGo.locals (ls' := [(0, .ref 242), (1, .ref 7), (2, .int (3 : Int32)), (3, .int (zI M 17 1)), (4, .int (0 : Int32))]) (by simp) ?_
      have w54 := li0
      exact w30L ((8 - 0 : Int).toNat) (0 : Int32) M ⟨by decide, by decide⟩ hs hI zFr.refl (by omega)
  · refine zs_icmp_gtF (pc := 2) t20_2 rfl li3 (by omega) ?_
    refine zs_iload_n (pc := 5) t20_5 rfl ?_
    refine zs_goto (pc := 6) t20_6 ?_
    refine zs_iret (pc := 10) t20_10 mr20 rfl ?_
    show zGo X l 2 0 0 109 9 [(0, .ref 242), (1, .ref 7)] [.int (zI M 17 0)] M _
    refine zs_istore_n (pc := 9) t109_9 (ls' := [(2, .int (zI M 17 0)), (0, .ref 242), (1, .ref 7)]) (zml mf109 (by decide)) rfl ?_
    refine zs_aload_n (pc := 10) t109_10 rfl ?_
    refine zs_iconst (pc := 11) t109_11 (v := 1) (by decide) ?_
    refine zs_invV (pc := 12) (k := 7) (as' := [.int (1 : Int32)]) (st := []) t109_12 mf96 rfl rfl (Or.inl ⟨by decide, (zk1 (hs.k fk_zMc_7))⟩) ⟨by decide, by decide, Nat.le_of_ble_eq_true rfl, Nat.le_of_ble_eq_true rfl⟩ (zs_in (by decide) mf96 (Nat.le_of_ble_eq_true rfl) ?_) (fun _ _ q => q)
    show zGo X l 0 0 0 96 0 [(0, .ref 7), (1, .int (1 : Int32))] [] M _
    refine zs_iload_n (pc := 0) t96_0 rfl ?_
    refine zs_if_ltF (pc := 1) t96_1 li1 (by decide) ?_
    refine zs_iload_n (pc := 4) t96_4 rfl ?_
    refine zs_bipush (pc := 5) t96_5 (v := 9) (by decide) ?_
    refine zs_icmp_geF (pc := 7) t96_7 li1 li9 (by decide) ?_
    refine zs_aload_n (pc := 10) t96_10 rfl ?_
    refine zs_get (pc := 11) t96_11 (by decide) (zk1 (hs.k fk_zMc_7)) (hs.p rfl fv_zMc_7_12) ?_
    refine zs_iload_n (pc := 14) t96_14 rfl ?_
    have w55 := ib17 hI 1
    refine zs_iald (pc := 15) t96_15 (j := 1) (by decide) (zk1 (hs.k fk_zMc_17)) li1 (zk2 (hs.k fk_zMc_17) (by decide)) rfl ?_
    refine zs_goto (pc := 16) t96_16 ?_
    refine zs_iret (pc := 20) t96_20 mr96 rfl ?_
    show zGo X l 2 0 0 109 15 [(2, .int (zI M 17 0)), (0, .ref 242), (1, .ref 7)] [.int (zI M 17 1)] M _
    refine zs_bipush (pc := 15) t109_15 (v := 20) (by decide) ?_
    refine zs_invS (pc := 17) (as := [.int (zI M 17 1), .int (20 : Int32)]) (st := []) t109_17 (by decide) mf20 rfl rfl ⟨by decide, by decide, Nat.le_of_ble_eq_true rfl, Nat.le_of_ble_eq_true rfl⟩ (zs_in (by decide) mf20 (Nat.le_of_ble_eq_true rfl) ?_) (fun _ _ q => q)
    show zGo X l 0 0 0 20 0 [(0, .int (zI M 17 1)), (1, .int (20 : Int32))] [] M _
    refine zs_iload_n (pc := 0) t20_0 rfl ?_
    refine zs_iload_n (pc := 1) t20_1 rfl ?_
    by_cases w56 : 20 < (zI M 17 1).toInt
    · refine zs_icmp_gtT (pc := 2) t20_2 rfl li20 (by omega) ?_
      refine zs_iload_n (pc := 9) t20_9 rfl ?_
      refine zs_iret (pc := 10) t20_10 mr20 (by decide) ?_
      show zGo X l 2 0 0 109 20 [(2, .int (zI M 17 0)), (0, .ref 242), (1, .ref 7)] [.int (20 : Int32)] M _
      refine zs_istore_n (pc := 20) t109_20 (ls' := [(3, .int (20 : Int32)), (2, .int (zI M 17 0)), (0, .ref 242), (1, .ref 7)]) (zml mf109 (by decide)) rfl ?_
      refine zs_iconst (pc := 21) t109_21 (v := 0) (by decide) ?_
      refine zs_istore (pc := 22) t109_22 (ls' := [(4, .int (0 : Int32)), (3, .int (20 : Int32)), (2, .int (zI M 17 0)), (0, .ref 242), (1, .ref 7)]) (zml mf109 (by decide)) rfl ?_
      have w57L : ∀ (m : Nat) (w57x4 : Int32) (w57M : zM), (0 ≤ w57x4.toInt ∧ w57x4.toInt ≤ 8) → zSk zMc w57M → zIv cLo cHi w57M → zFr [(242, 254, none)] M w57M → 8 - w57x4.toInt ≤ (m : Int) → zGo X l 2 0 0 109 24 [(0, .ref 242), (1, .ref 7), (2, .int (zI M 17 0)), (3, .int (20 : Int32)), (4, .int w57x4)] [] w57M Q := by
        intro m
        induction m using Nat.strongRecOn with
        | ind w57m w57ih =>
          intro w57x4 w57M w57b4 w57s w57I w57F w57q
          refine zs_iload (pc := 24) t109_24 rfl ?_
          refine zs_aload_n (pc := 26) t109_26 rfl ?_
          have w58 := ib7_0 hI
          refine zs_get (pc := 27) t109_27 (by decide) (zk1 (w57s.k fk_zMc_7)) (zfvi rfl ((w57F 7 0 rfl).trans rfl)) ?_
          by_cases w59 : (zI M 7 0).toInt ≤ w57x4.toInt
          · refine zs_icmp_geT (pc := 30) t109_30 rfl rfl (by omega) ?_
            exact zs_vret (pc := 118) t109_118 mr109 (hQ _ w57s w57I ((zFr.refl).trans (w57F.mono rfl)))
          · refine zs_icmp_geF (pc := 30) t109_30 rfl rfl (by omega) ?_
            refine zs_iload_n (pc := 33) t109_33 rfl ?_
            obtain ⟨w60v, w60e⟩ : ∃ v, -(zI M 17 0) = v := ⟨_, rfl⟩
            have w60 : w60v.toInt = -(zI M 17 0).toInt := by rw [← w60e]; exact zneg rfl (by omega)
            refine zs_ineg (pc := 34) t109_34 (c := w60v) w60e ?_
            refine zs_istore (pc := 35) t109_35 (ls' := [(5, .int w60v), (0, .ref 242), (1, .ref 7), (2, .int (zI M 17 0)), (3, .int (20 : Int32)), (4, .int w57x4)]) (zml mf109 (by decide)) rfl ?_
            have w61L : ∀ (m : Nat) (w61x5 : Int32) (w61M : zM), ((-3) ≤ w61x5.toInt ∧ w61x5.toInt ≤ 300001) → zSk zMc w61M → zIv cLo cHi w61M → zFr [(242, 254, none)] w57M w61M → 4 - w61x5.toInt ≤ (m : Int) → zGo X l 2 0 0 109 37 [(0, .ref 242), (1, .ref 7), (2, .int (zI M 17 0)), (3, .int (20 : Int32)), (4, .int w57x4), (5, .int w61x5)] [] w61M Q := by
              intro m
              induction m using Nat.strongRecOn with
              | ind w61m w61ih =>
                intro w61x5 w61M w61b5 w61s w61I w61F w61q
                refine zs_iload (pc := 37) t109_37 rfl ?_
                refine zs_iload_n (pc := 39) t109_39 rfl ?_
                by_cases w62 : (zI M 17 0).toInt < w61x5.toInt
                · refine zs_icmp_gtT (pc := 40) t109_40 rfl rfl (by omega) ?_
                  refine zs_iload_n (pc := 72) t109_72 rfl ?_
                  refine zs_ineg (pc := 73) t109_73 (c := -20) (by decide) ?_
                  refine zs_istore (pc := 74) t109_74 (ls' := [(5, .int (-20 : Int32)), (0, .ref 242), (1, .ref 7), (2, .int (zI M 17 0)), (3, .int (20 : Int32)), (4, .int w57x4)]) (zml mf109 (by decide)) rfl ?_
                  have w63L : ∀ (m : Nat) (w63x5 : Int32) (w63M : zM), ((-20) ≤ w63x5.toInt ∧ w63x5.toInt ≤ 300001) → zSk zMc w63M → zIv cLo cHi w63M → zFr [(242, 254, none)] w61M w63M → 21 - w63x5.toInt ≤ (m : Int) → zGo X l 2 0 0 109 76 [(0, .ref 242), (1, .ref 7), (2, .int (zI M 17 0)), (3, .int (20 : Int32)), (4, .int w57x4), (5, .int w63x5)] [] w63M Q := by
                    intro m
                    induction m using Nat.strongRecOn with
                    | ind w63m w63ih =>
                      intro w63x5 w63M w63b5 w63s w63I w63F w63q
                      refine zs_iload (pc := 76) t109_76 rfl ?_
                      refine zs_iload_n (pc := 78) t109_78 rfl ?_
                      by_cases w64 : 20 < w63x5.toInt
                      · refine zs_icmp_gtT (pc := 79) t109_79 rfl li20 (by omega) ?_
                        obtain ⟨w65v, w65e, w65⟩ := ziadd (a := w57x4) (b := Int32.ofInt 1) rfl (show (Int32.ofInt 1).toInt = 1 by decide) (by omega) (by omega)
                        refine zs_iinc (pc := 112) t109_112 (ls' := [(4, .int w65v), (0, .ref 242), (1, .ref 7), (2, .int (zI M 17 0)), (3, .int (20 : Int32)), (5, .int w63x5)]) (zml mf109 (by decide)) rfl (c := w65v) w65e rfl ?_
                        refine zs_goto (pc := 115) t109_115 ?_
                        refine zGo.locals (ls' := [(0, .ref 242), (1, .ref 7), (2, .int (zI M 17 0)), (3, .int (20 : Int32)), (4, .int w65v)]) (by simp) ?_
                        exact w57ih (w57m - 1) (by omega) w65v w63M ⟨by omega, by omega⟩ w63s w63I ((((zFr.refl).trans (w57F.mono rfl)).trans (w61F.mono rfl)).trans (w63F.mono rfl)) (by omega)
                      · refine zs_icmp_gtF (pc := 79) t109_79 rfl li20 (by omega) ?_
                        refine zs_aload_n (pc := 82) t109_82 rfl ?_
                        refine zs_get (pc := 83) t109_83 (by decide) (zk1 (w63s.k fk_zMc_242)) (w63s.p rfl fv_zMc_242_4) ?_
                        refine zs_iload (pc := 86) t109_86 rfl ?_
                        refine zs_bipush (pc := 88) t109_88 (v := 20) (by decide) ?_
                        obtain ⟨w66v, w66e, w66⟩ := ziadd (a := w63x5) (b := (20 : Int32)) rfl li20 (by omega) (by omega)
                        refine zs_iadd (pc := 90) t109_90 (c := w66v) w66e ?_
                        refine zs_bipush (pc := 91) t109_91 (v := 8) (by decide) ?_
                        obtain ⟨w67v, w67⟩ : ∃ v, w66v * (8 : Int32) = v := ⟨_, rfl⟩
                        have w67g : w67v.toInt = (w63x5.toInt + 20) * 8 := by rw [← w67]; exact zmulc w66 li8 (by omega) (by omega)
                        refine zs_imul (pc := 93) t109_93 (c := w67v) w67 ?_
                        refine zs_iload (pc := 94) t109_94 rfl ?_
                        obtain ⟨w68v, w68e, w68⟩ := ziadd (a := w67v) (b := w57x4) rfl rfl (by omega) (by omega)
                        refine zs_iadd (pc := 96) t109_96 (c := w68v) w68e ?_
                        refine zs_aload_n (pc := 97) t109_97 rfl ?_
                        refine zs_iload (pc := 98) t109_98 rfl ?_
                        refine zs_iload (pc := 100) t109_100 rfl ?_
                        refine zs_invV (pc := 102) (k := 7) (as' := [.int w57x4, .int w63x5]) (st := [.int w68v, .ref 246]) t109_102 mf53 rfl rfl (Or.inl ⟨by decide, (zk1 (w63s.k fk_zMc_7))⟩) ⟨by decide, by decide, Nat.le_of_ble_eq_true rfl, Nat.le_of_ble_eq_true rfl⟩ (C53_7 w63s w63I ?_) (fun _ _ q => q)
                        intro w69v w69a w69b
                        show zGo X l 2 0 0 109 105 [(0, .ref 242), (1, .ref 7), (2, .int (zI M 17 0)), (3, .int (20 : Int32)), (4, .int w57x4), (5, .int w63x5)] [.int w69v, .int w68v, .ref 246] w63M _
                        obtain ⟨w70n, w70⟩ : ∃ n : Nat, w68v.toInt = (n : Int) := ⟨w68v.toInt.toNat, by omega⟩
                        have w71 : zIv cLo cHi (zsI w63M 246 w70n w69v) := zIv.put w63I (show (-2147483648) ≤ w69v.toInt ∧ w69v.toInt ≤ 2147483647 from (zrg w69v))
                        refine zs_iast (pc := 105) t109_105 (j := w70n) (by decide) (zk1 (w63s.k fk_zMc_246)) w70 (zk2 (w63s.k fk_zMc_246) (by omega)) ?_
                        obtain ⟨w72v, w72e, w72⟩ := ziadd (a := w63x5) (b := Int32.ofInt 1) rfl (show (Int32.ofInt 1).toInt = 1 by decide) (by omega) (by omega)
                        refine zs_iinc (pc := 106) t109_106 (ls' := [(5, .int w72v), (0, .ref 242), (1, .ref 7), (2, .int (zI M 17 0)), (3, .int (20 : Int32)), (4, .int w57x4)]) (zml mf109 (by decide)) rfl (c := w72v) w72e rfl ?_
                        refine zs_goto (pc := 109) t109_109 ?_
                        refine zGo.locals (ls' := [(0, .ref 242), (1, .ref 7), (2, .int (zI M 17 0)), (3, .int (20 : Int32)), (4, .int w57x4), (5, .int w72v)]) (by simp) ?_
                        exact w63ih (w63m - 1) (by omega) w72v (zsI w63M 246 w70n w69v) ⟨by omega, by omega⟩ w63s w71 (((zFr.refl).trans (w63F.mono rfl)).put rfl) (by omega)
                  refine zGo.locals (ls' := [(0, .ref 242), (1, .ref 7), (2, .int (zI M 17 0)), (3, .int (20 : Int32)), (4, .int w57x4), (5, .int (-20 : Int32))]) (by simp) ?_
                  have w73 := lin20
                  exact w63L ((21 - (-20) : Int).toNat) (-20 : Int32) w61M ⟨by decide, by decide⟩ w61s w61I zFr.refl (by omega)
                · refine zs_icmp_gtF (pc := 40) t109_40 rfl rfl (by omega) ?_
                  refine zs_aload_n (pc := 43) t109_43 rfl ?_
                  refine zs_get (pc := 44) t109_44 (by decide) (zk1 (w61s.k fk_zMc_242)) (w61s.p rfl fv_zMc_242_3) ?_
                  refine zs_iload (pc := 47) t109_47 rfl ?_
                  refine zs_iconst (pc := 49) t109_49 (v := 3) (by decide) ?_
                  obtain ⟨w74v, w74e, w74⟩ := ziadd (a := w61x5) (b := (3 : Int32)) rfl li3 (by omega) (by omega)
                  refine zs_iadd (pc := 50) t109_50 (c := w74v) w74e ?_
                  refine zs_bipush (pc := 51) t109_51 (v := 8) (by decide) ?_
                  obtain ⟨w75v, w75⟩ : ∃ v, w74v * (8 : Int32) = v := ⟨_, rfl⟩
                  have w75g : w75v.toInt = (w61x5.toInt + 3) * 8 := by rw [← w75]; exact zmulc w74 li8 (by omega) (by omega)
                  refine zs_imul (pc := 53) t109_53 (c := w75v) w75 ?_
                  refine zs_iload (pc := 54) t109_54 rfl ?_
                  obtain ⟨w76v, w76e, w76⟩ := ziadd (a := w75v) (b := w57x4) rfl rfl (by omega) (by omega)
                  refine zs_iadd (pc := 56) t109_56 (c := w76v) w76e ?_
                  refine zs_aload_n (pc := 57) t109_57 rfl ?_
                  refine zs_iload (pc := 58) t109_58 rfl ?_
                  refine zs_iload (pc := 60) t109_60 rfl ?_
                  refine zs_invV (pc := 62) (k := 7) (as' := [.int w57x4, .int w61x5]) (st := [.int w76v, .ref 245]) t109_62 mf55 rfl rfl (Or.inl ⟨by decide, (zk1 (w61s.k fk_zMc_7))⟩) ⟨by decide, by decide, Nat.le_of_ble_eq_true rfl, Nat.le_of_ble_eq_true rfl⟩ (C55_7 w61s w61I ?_) (fun _ _ q => q)
                  intro w77v w77a w77b
                  show zGo X l 2 0 0 109 65 [(0, .ref 242), (1, .ref 7), (2, .int (zI M 17 0)), (3, .int (20 : Int32)), (4, .int w57x4), (5, .int w61x5)] [.int w77v, .int w76v, .ref 245] w61M _
                  obtain ⟨w78n, w78⟩ : ∃ n : Nat, w76v.toInt = (n : Int) := ⟨w76v.toInt.toNat, by omega⟩
                  have w79 : zIv cLo cHi (zsI w61M 245 w78n w77v) := zIv.put w61I (show (-2147483648) ≤ w77v.toInt ∧ w77v.toInt ≤ 2147483647 from (zrg w77v))
                  refine zs_iast (pc := 65) t109_65 (j := w78n) (by decide) (zk1 (w61s.k fk_zMc_245)) w78 (zk2 (w61s.k fk_zMc_245) (by omega)) ?_
                  obtain ⟨w80v, w80e, w80⟩ := ziadd (a := w61x5) (b := Int32.ofInt 1) rfl (show (Int32.ofInt 1).toInt = 1 by decide) (by omega) (by omega)
                  refine zs_iinc (pc := 66) t109_66 (ls' := [(5, .int w80v), (0, .ref 242), (1, .ref 7), (2, .int (zI M 17 0)), (3, .int (20 : Int32)), (4, .int w57x4)]) (zml mf109 (by decide)) rfl (c := w80v) w80e rfl ?_
                  refine zs_goto (pc := 69) t109_69 ?_
                  refine zGo.locals (ls' := [(0, .ref 242), (1, .ref 7), (2, .int (zI M 17 0)), (3, .int (20 : Int32)), (4, .int w57x4), (5, .int w80v)]) (by simp) ?_
                  exact w61ih (w61m - 1) (by omega) w80v (zsI w61M 245 w78n w77v) ⟨by omega, by omega⟩ w61s w79 (((zFr.refl).trans (w61F.mono rfl)).put rfl) (by omega)
            refine zGo.locals (ls' := [(0, .ref 242), (1, .ref 7), (2, .int (zI M 17 0)), (3, .int (20 : Int32)), (4, .int w57x4), (5, .int w60v)]) (by simp) ?_
            exact w61L ((4 - (-(zI M 17 0).toInt) : Int).toNat) w60v w57M ⟨by omega, by omega⟩ w57s w57I zFr.refl (by omega)
      refine zGo.locals (ls' := [(0, .ref 242), (1, .ref 7), (2, .int (zI M 17 0)), (3, .int (20 : Int32)), (4, .int (0 : Int32))]) (by simp) ?_
      have w81 := li0
      exact w57L ((8 - 0 : Int).toNat) (0 : Int32) M ⟨by decide, by decide⟩ hs hI zFr.refl (by omega)
    · refine zs_icmp_gtF (pc := 2) t20_2 rfl li20 (by omega) ?_
      refine zs_iload_n (pc := 5) t20_5 rfl ?_
      refine zs_goto (pc := 6) t20_6 ?_
      refine zs_iret (pc := 10) t20_10 mr20 rfl ?_
      show zGo X l 2 0 0 109 20 [(2, .int (zI M 17 0)), (0, .ref 242), (1, .ref 7)] [.int (zI M 17 1)] M _
      refine zs_istore_n (pc := 20) t109_20 (ls' := [(3, .int (zI M 17 1)), (2, .int (zI M 17 0)), (0, .ref 242), (1, .ref 7)]) (zml mf109 (by decide)) rfl ?_
      refine zs_iconst (pc := 21) t109_21 (v := 0) (by decide) ?_
      refine zs_istore (pc := 22) t109_22 (ls' := [(4, .int (0 : Int32)), (3, .int (zI M 17 1)), (2, .int (zI M 17 0)), (0, .ref 242), (1, .ref 7)]) (zml mf109 (by decide)) rfl ?_
      have w82L : ∀ (m : Nat) (w82x4 : Int32) (w82M : zM), (0 ≤ w82x4.toInt ∧ w82x4.toInt ≤ 8) → zSk zMc w82M → zIv cLo cHi w82M → zFr [(242, 254, none)] M w82M → 8 - w82x4.toInt ≤ (m : Int) → zGo X l 2 0 0 109 24 [(0, .ref 242), (1, .ref 7), (2, .int (zI M 17 0)), (3, .int (zI M 17 1)), (4, .int w82x4)] [] w82M Q := by
        intro m
        induction m using Nat.strongRecOn with
        | ind w82m w82ih =>
          intro w82x4 w82M w82b4 w82s w82I w82F w82q
          refine zs_iload (pc := 24) t109_24 rfl ?_
          refine zs_aload_n (pc := 26) t109_26 rfl ?_
          have w83 := ib7_0 hI
          refine zs_get (pc := 27) t109_27 (by decide) (zk1 (w82s.k fk_zMc_7)) (zfvi rfl ((w82F 7 0 rfl).trans rfl)) ?_
          by_cases w84 : (zI M 7 0).toInt ≤ w82x4.toInt
          · refine zs_icmp_geT (pc := 30) t109_30 rfl rfl (by omega) ?_
            exact zs_vret (pc := 118) t109_118 mr109 (hQ _ w82s w82I ((zFr.refl).trans (w82F.mono rfl)))
          · refine zs_icmp_geF (pc := 30) t109_30 rfl rfl (by omega) ?_
            refine zs_iload_n (pc := 33) t109_33 rfl ?_
            obtain ⟨w85v, w85e⟩ : ∃ v, -(zI M 17 0) = v := ⟨_, rfl⟩
            have w85 : w85v.toInt = -(zI M 17 0).toInt := by rw [← w85e]; exact zneg rfl (by omega)
            refine zs_ineg (pc := 34) t109_34 (c := w85v) w85e ?_
            refine zs_istore (pc := 35) t109_35 (ls' := [(5, .int w85v), (0, .ref 242), (1, .ref 7), (2, .int (zI M 17 0)), (3, .int (zI M 17 1)), (4, .int w82x4)]) (zml mf109 (by decide)) rfl ?_
            have w86L : ∀ (m : Nat) (w86x5 : Int32) (w86M : zM), ((-3) ≤ w86x5.toInt ∧ w86x5.toInt ≤ 300001) → zSk zMc w86M → zIv cLo cHi w86M → zFr [(242, 254, none)] w82M w86M → 4 - w86x5.toInt ≤ (m : Int) → zGo X l 2 0 0 109 37 [(0, .ref 242), (1, .ref 7), (2, .int (zI M 17 0)), (3, .int (zI M 17 1)), (4, .int w82x4), (5, .int w86x5)] [] w86M Q := by
              intro m
              induction m using Nat.strongRecOn with
              | ind w86m w86ih =>
                intro w86x5 w86M w86b5 w86s w86I w86F w86q
                refine zs_iload (pc := 37) t109_37 rfl ?_
                refine zs_iload_n (pc := 39) t109_39 rfl ?_
                by_cases w87 : (zI M 17 0).toInt < w86x5.toInt
                · refine zs_icmp_gtT (pc := 40) t109_40 rfl rfl (by omega) ?_
                  refine zs_iload_n (pc := 72) t109_72 rfl ?_
                  obtain ⟨w88v, w88e⟩ : ∃ v, -(zI M 17 1) = v := ⟨_, rfl⟩
                  have w88 : w88v.toInt = -(zI M 17 1).toInt := by rw [← w88e]; exact zneg rfl (by omega)
                  refine zs_ineg (pc := 73) t109_73 (c := w88v) w88e ?_
                  refine zs_istore (pc := 74) t109_74 (ls' := [(5, .int w88v), (0, .ref 242), (1, .ref 7), (2, .int (zI M 17 0)), (3, .int (zI M 17 1)), (4, .int w82x4)]) (zml mf109 (by decide)) rfl ?_
                  have w89L : ∀ (m : Nat) (w89x5 : Int32) (w89M : zM), ((-20) ≤ w89x5.toInt ∧ w89x5.toInt ≤ 300001) → zSk zMc w89M → zIv cLo cHi w89M → zFr [(242, 254, none)] w86M w89M → 21 - w89x5.toInt ≤ (m : Int) → zGo X l 2 0 0 109 76 [(0, .ref 242), (1, .ref 7), (2, .int (zI M 17 0)), (3, .int (zI M 17 1)), (4, .int w82x4), (5, .int w89x5)] [] w89M Q := by
                    intro m
                    induction m using Nat.strongRecOn with
                    | ind w89m w89ih =>
                      intro w89x5 w89M w89b5 w89s w89I w89F w89q
                      refine zs_iload (pc := 76) t109_76 rfl ?_
                      refine zs_iload_n (pc := 78) t109_78 rfl ?_
                      by_cases w90 : (zI M 17 1).toInt < w89x5.toInt
                      · refine zs_icmp_gtT (pc := 79) t109_79 rfl rfl (by omega) ?_
                        obtain ⟨w91v, w91e, w91⟩ := ziadd (a := w82x4) (b := Int32.ofInt 1) rfl (show (Int32.ofInt 1).toInt = 1 by decide) (by omega) (by omega)
                        refine zs_iinc (pc := 112) t109_112 (ls' := [(4, .int w91v), (0, .ref 242), (1, .ref 7), (2, .int (zI M 17 0)), (3, .int (zI M 17 1)), (5, .int w89x5)]) (zml mf109 (by decide)) rfl (c := w91v) w91e rfl ?_
                        refine zs_goto (pc := 115) t109_115 ?_
                        refine zGo.locals (ls' := [(0, .ref 242), (1, .ref 7), (2, .int (zI M 17 0)), (3, .int (zI M 17 1)), (4, .int w91v)]) (by simp) ?_
                        exact w82ih (w82m - 1) (by omega) w91v w89M ⟨by omega, by omega⟩ w89s w89I ((((zFr.refl).trans (w82F.mono rfl)).trans (w86F.mono rfl)).trans (w89F.mono rfl)) (by omega)
                      · refine zs_icmp_gtF (pc := 79) t109_79 rfl rfl (by omega) ?_
                        refine zs_aload_n (pc := 82) t109_82 rfl ?_
                        refine zs_get (pc := 83) t109_83 (by decide) (zk1 (w89s.k fk_zMc_242)) (w89s.p rfl fv_zMc_242_4) ?_
                        refine zs_iload (pc := 86) t109_86 rfl ?_
                        refine zs_bipush (pc := 88) t109_88 (v := 20) (by decide) ?_
                        obtain ⟨w92v, w92e, w92⟩ := ziadd (a := w89x5) (b := (20 : Int32)) rfl li20 (by omega) (by omega)
                        refine zs_iadd (pc := 90) t109_90 (c := w92v) w92e ?_
                        refine zs_bipush (pc := 91) t109_91 (v := 8) (by decide) ?_
                        obtain ⟨w93v, w93⟩ : ∃ v, w92v * (8 : Int32) = v := ⟨_, rfl⟩
                        have w93g : w93v.toInt = (w89x5.toInt + 20) * 8 := by rw [← w93]; exact zmulc w92 li8 (by omega) (by omega)
                        refine zs_imul (pc := 93) t109_93 (c := w93v) w93 ?_
                        refine zs_iload (pc := 94) t109_94 rfl ?_
                        obtain ⟨w94v, w94e, w94⟩ := ziadd (a := w93v) (b := w82x4) rfl rfl (by omega) (by omega)
                        refine zs_iadd (pc := 96) t109_96 (c := w94v) w94e ?_
                        refine zs_aload_n (pc := 97) t109_97 rfl ?_
                        refine zs_iload (pc := 98) t109_98 rfl ?_
                        refine zs_iload (pc := 100) t109_100 rfl ?_
                        refine zs_invV (pc := 102) (k := 7) (as' := [.int w82x4, .int w89x5]) (st := [.int w94v, .ref 246]) t109_102 mf53 rfl rfl (Or.inl ⟨by decide, (zk1 (w89s.k fk_zMc_7))⟩) ⟨by decide, by decide, Nat.le_of_ble_eq_true rfl, Nat.le_of_ble_eq_true rfl⟩ (C53_7 w89s w89I ?_) (fun _ _ q => q)
                        intro w95v w95a w95b
                        show zGo X l 2 0 0 109 105 [(0, .ref 242), (1, .ref 7), (2, .int (zI M 17 0)), (3, .int (zI M 17 1)), (4, .int w82x4), (5, .int w89x5)] [.int w95v, .int w94v, .ref 246] w89M _
                        obtain ⟨w96n, w96⟩ : ∃ n : Nat, w94v.toInt = (n : Int) := ⟨w94v.toInt.toNat, by omega⟩
                        have w97 : zIv cLo cHi (zsI w89M 246 w96n w95v) := zIv.put w89I (show (-2147483648) ≤ w95v.toInt ∧ w95v.toInt ≤ 2147483647 from (zrg w95v))
                        refine zs_iast (pc := 105) t109_105 (j := w96n) (by decide) (zk1 (w89s.k fk_zMc_246)) w96 (zk2 (w89s.k fk_zMc_246) (by omega)) ?_
                        obtain ⟨w98v, w98e, w98⟩ := ziadd (a := w89x5) (b := Int32.ofInt 1) rfl (show (Int32.ofInt 1).toInt = 1 by decide) (by omega) (by omega)
                        refine zs_iinc (pc := 106) t109_106 (ls' := [(5, .int w98v), (0, .ref 242), (1, .ref 7), (2, .int (zI M 17 0)), (3, .int (zI M 17 1)), (4, .int w82x4)]) (zml mf109 (by decide)) rfl (c := w98v) w98e rfl ?_
                        refine zs_goto (pc := 109) t109_109 ?_
                        refine zGo.locals (ls' := [(0, .ref 242), (1, .ref 7), (2, .int (zI M 17 0)), (3, .int (zI M 17 1)), (4, .int w82x4), (5, .int w98v)]) (by simp) ?_
                        exact w89ih (w89m - 1) (by omega) w98v (zsI w89M 246 w96n w95v) ⟨by omega, by omega⟩ w89s w97 (((zFr.refl).trans (w89F.mono rfl)).put rfl) (by omega)
                  refine zGo.locals (ls' := [(0, .ref 242), (1, .ref 7), (2, .int (zI M 17 0)), (3, .int (zI M 17 1)), (4, .int w82x4), (5, .int w88v)]) (by simp) ?_
                  exact w89L ((21 - (-(zI M 17 1).toInt) : Int).toNat) w88v w86M ⟨by omega, by omega⟩ w86s w86I zFr.refl (by omega)
                · refine zs_icmp_gtF (pc := 40) t109_40 rfl rfl (by omega) ?_
                  refine zs_aload_n (pc := 43) t109_43 rfl ?_
                  refine zs_get (pc := 44) t109_44 (by decide) (zk1 (w86s.k fk_zMc_242)) (w86s.p rfl fv_zMc_242_3) ?_
                  refine zs_iload (pc := 47) t109_47 rfl ?_
                  refine zs_iconst (pc := 49) t109_49 (v := 3) (by decide) ?_
                  obtain ⟨w99v, w99e, w99⟩ := ziadd (a := w86x5) (b := (3 : Int32)) rfl li3 (by omega) (by omega)
                  refine zs_iadd (pc := 50) t109_50 (c := w99v) w99e ?_
                  refine zs_bipush (pc := 51) t109_51 (v := 8) (by decide) ?_
                  obtain ⟨w100v, w100⟩ : ∃ v, w99v * (8 : Int32) = v := ⟨_, rfl⟩
                  have w100g : w100v.toInt = (w86x5.toInt + 3) * 8 := by rw [← w100]; exact zmulc w99 li8 (by omega) (by omega)
                  refine zs_imul (pc := 53) t109_53 (c := w100v) w100 ?_
                  refine zs_iload (pc := 54) t109_54 rfl ?_
                  obtain ⟨w101v, w101e, w101⟩ := ziadd (a := w100v) (b := w82x4) rfl rfl (by omega) (by omega)
                  refine zs_iadd (pc := 56) t109_56 (c := w101v) w101e ?_
                  refine zs_aload_n (pc := 57) t109_57 rfl ?_
                  refine zs_iload (pc := 58) t109_58 rfl ?_
                  refine zs_iload (pc := 60) t109_60 rfl ?_
                  refine zs_invV (pc := 62) (k := 7) (as' := [.int w82x4, .int w86x5]) (st := [.int w101v, .ref 245]) t109_62 mf55 rfl rfl (Or.inl ⟨by decide, (zk1 (w86s.k fk_zMc_7))⟩) ⟨by decide, by decide, Nat.le_of_ble_eq_true rfl, Nat.le_of_ble_eq_true rfl⟩ (C55_7 w86s w86I ?_) (fun _ _ q => q)
                  intro w102v w102a w102b
                  show zGo X l 2 0 0 109 65 [(0, .ref 242), (1, .ref 7), (2, .int (zI M 17 0)), (3, .int (zI M 17 1)), (4, .int w82x4), (5, .int w86x5)] [.int w102v, .int w101v, .ref 245] w86M _
                  obtain ⟨w103n, w103⟩ : ∃ n : Nat, w101v.toInt = (n : Int) := ⟨w101v.toInt.toNat, by omega⟩
                  have w104 : zIv cLo cHi (zsI w86M 245 w103n w102v) := zIv.put w86I (show (-2147483648) ≤ w102v.toInt ∧ w102v.toInt ≤ 2147483647 from (zrg w102v))
                  refine zs_iast (pc := 65) t109_65 (j := w103n) (by decide) (zk1 (w86s.k fk_zMc_245)) w103 (zk2 (w86s.k fk_zMc_245) (by omega)) ?_
                  obtain ⟨w105v, w105e, w105⟩ := ziadd (a := w86x5) (b := Int32.ofInt 1) rfl (show (Int32.ofInt 1).toInt = 1 by decide) (by omega) (by omega)
                  refine zs_iinc (pc := 66) t109_66 (ls' := [(5, .int w105v), (0, .ref 242), (1, .ref 7), (2, .int (zI M 17 0)), (3, .int (zI M 17 1)), (4, .int w82x4)]) (zml mf109 (by decide)) rfl (c := w105v) w105e rfl ?_
                  refine zs_goto (pc := 69) t109_69 ?_
                  refine zGo.locals (ls' := [(0, .ref 242), (1, .ref 7), (2, .int (zI M 17 0)), (3, .int (zI M 17 1)), (4, .int w82x4), (5, .int w105v)]) (by simp) ?_
                  exact w86ih (w86m - 1) (by omega) w105v (zsI w86M 245 w103n w102v) ⟨by omega, by omega⟩ w86s w104 (((zFr.refl).trans (w86F.mono rfl)).put rfl) (by omega)
            refine zGo.locals (ls' := [(0, .ref 242), (1, .ref 7), (2, .int (zI M 17 0)), (3, .int (zI M 17 1)), (4, .int w82x4), (5, .int w85v)]) (by simp) ?_
            exact w86L ((4 - (-(zI M 17 0).toInt) : Int).toNat) w85v w82M ⟨by omega, by omega⟩ w82s w82I zFr.refl (by omega)
      refine zGo.locals (ls' := [(0, .ref 242), (1, .ref 7), (2, .int (zI M 17 0)), (3, .int (zI M 17 1)), (4, .int (0 : Int32))]) (by simp) ?_
      have w106 := li0
      exact w82L ((8 - 0 : Int).toNat) (0 : Int32) M ⟨by decide, by decide⟩ hs hI zFr.refl (by omega)
