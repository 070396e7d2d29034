theorem V117_166 {X : zX} {l : Launch} {M : zM} {Q : Option Value → zM → Prop} {a : Int32} (hs : zSk zMc M) (hI : zIv cLo cHi M) (x0 : zHt M 166 174 175) (x1 : pct (zstb M 166 174) 128 ≤ 127) (hQ : ∀ (M' : zM) (v : Int32), zSk zMc M' → zIv cLo cHi M' → zFr [(174, 177, none), (166, 166, some 15), (178, 178, none)] M M' → (∃ s : Nat, v.toInt = (s : Int) ∧ zSlot M M' 166 174 175 176 177 a.toInt s) → 0 ≤ v.toInt → v.toInt ≤ 127 → Q (some (.int v)) M') : zCall X l 0 0 0 117 [.ref 166, .int a] M Q := by
  have ga := zrg a
  refine zs_in (by decide) mf117 (Nat.le_of_ble_eq_true rfl) ?_
  show zGo X l 0 0 0 117 0 [(0, .ref 166), (1, .int a)] [] M _
  refine zs_iload_n (pc := 0) t117_0 rfl ?_
  refine zs_bipush (pc := 1) t117_1 (v := 127) (by decide) ?_
  obtain ⟨w1v, w1⟩ : ∃ v, a &&& (127 : Int32) = v := ⟨_, rfl⟩
  have w1g : 0 ≤ w1v.toInt ∧ w1v.toInt ≤ 127 := by rw [← w1]; exact zand li127 (by decide)
  refine zs_iand (pc := 3) t117_3 (c := w1v) w1 ?_
  refine zs_istore_n (pc := 4) t117_4 (ls' := [(2, .int w1v), (0, .ref 166), (1, .int a)]) (zml mf117 (by decide)) rfl ?_
  refine zs_iconst (pc := 5) t117_5 (v := 0) (by decide) ?_
  refine zs_istore_n (pc := 6) t117_6 (ls' := [(3, .int (0 : Int32)), (2, .int w1v), (0, .ref 166), (1, .int a)]) (zml mf117 (by decide)) rfl ?_
  have w2L : ∀ (m : Nat) (w2x2 : Int32) (w2x3 : Int32), (0 ≤ w2x2.toInt ∧ w2x2.toInt ≤ 127) → (0 ≤ w2x3.toInt ∧ w2x3.toInt ≤ 128) → (∀ n : Nat, (n : Int) = w2x3.toInt → zPb M 166 174 175 a.toInt n ∧ w2x2.toInt = (((hm a.toInt + n) % 128 : Nat) : Int)) → 128 - w2x3.toInt ≤ (m : Int) → zGo X l 0 0 0 117 7 [(0, .ref 166), (1, .int a), (2, .int w2x2), (3, .int w2x3)] [] M Q := by
    intro m
    induction m using Nat.strongRecOn with
    | ind w2m w2ih =>
      intro w2x2 w2x3 w2b2 w2b3 w2t0 w2q
      refine zs_iload_n (pc := 7) t117_7 rfl ?_
      refine zs_sipush (pc := 8) t117_8 (v := 128) (by decide) ?_
      by_cases w3 : 128 ≤ w2x3.toInt
      · refine zs_icmp_geT (pc := 11) t117_11 rfl li128 (by omega) ?_
        refine zs_aload_n (pc := 52) t117_52 rfl ?_
        refine zs_get (pc := 53) t117_53 (by decide) (zk1 (hs.k fk_zMc_166)) (hs.p rfl fv_zMc_166_11) ?_
        refine zs_iload_n (pc := 56) t117_56 rfl ?_
        refine zs_aload_n (pc := 57) t117_57 rfl ?_
        have w4 := zrg (zI M 166 10)
        refine zs_get (pc := 58) t117_58 (by decide) (zk1 (hs.k fk_zMc_166)) (zfvi rfl rfl) ?_
        obtain ⟨w5n, w5⟩ : ∃ n : Nat, w2x2.toInt = (n : Int) := ⟨(w2x2.toInt).toNat, by omega⟩
        have w6 : zIv cLo cHi (zsI M 174 w5n (zI M 166 10)) := zIv.put hI (show (-2147483648) ≤ (zI M 166 10).toInt ∧ (zI M 166 10).toInt ≤ 2147483647 from zrg (zI M 166 10))
        refine zs_iast (pc := 61) t117_61 (j := w5n) (by decide) (zk1 (hs.k fk_zMc_174)) (show w2x2.toInt = ((w5n : Nat) : Int) by omega) (zk2 (hs.k fk_zMc_174) (by omega)) ?_
        refine zs_aload_n (pc := 62) t117_62 rfl ?_
        refine zs_get (pc := 63) t117_63 (by decide) (zk1 (hs.k fk_zMc_166)) (hs.p rfl fv_zMc_166_12) ?_
        refine zs_iload_n (pc := 66) t117_66 rfl ?_
        refine zs_iload_n (pc := 67) t117_67 rfl ?_
        have w7 : zIv cLo cHi (zsI (zsI M 174 w5n (zI M 166 10)) 175 w5n a) := zIv.put w6 (show (-2147483648) ≤ a.toInt ∧ a.toInt ≤ 2147483647 from zrg a)
        refine zs_iast (pc := 68) t117_68 (j := w5n) (by decide) (zk1 (hs.k fk_zMc_175)) (show w2x2.toInt = ((w5n : Nat) : Int) by omega) (zk2 (hs.k fk_zMc_175) (by omega)) ?_
        refine zs_aload_n (pc := 69) t117_69 rfl ?_
        refine zs_get (pc := 70) t117_70 (by decide) (zk1 (hs.k fk_zMc_166)) (hs.p rfl fv_zMc_166_13) ?_
        refine zs_iload_n (pc := 73) t117_73 rfl ?_
        refine zs_iconst (pc := 74) t117_74 (v := 0) (by decide) ?_
        have w8 : zIv cLo cHi (zsI (zsI (zsI M 174 w5n (zI M 166 10)) 175 w5n a) 176 w5n (0 : Int32)) := zIv.put w7 (show (-2147483648) ≤ (0 : Int32).toInt ∧ (0 : Int32).toInt ≤ 2147483647 from zrg (0 : Int32))
        refine zs_iast (pc := 75) t117_75 (j := w5n) (by decide) (zk1 (hs.k fk_zMc_176)) (show w2x2.toInt = ((w5n : Nat) : Int) by omega) (zk2 (hs.k fk_zMc_176) (by omega)) ?_
        refine zs_aload_n (pc := 76) t117_76 rfl ?_
        refine zs_get (pc := 77) t117_77 (by decide) (zk1 (hs.k fk_zMc_166)) (hs.p rfl fv_zMc_166_14) ?_
        refine zs_iload_n (pc := 80) t117_80 rfl ?_
        refine zs_iconst (pc := 81) t117_81 (v := 0) (by decide) ?_
        have w9 : zIv cLo cHi (zsI (zsI (zsI (zsI M 174 w5n (zI M 166 10)) 175 w5n a) 176 w5n (0 : Int32)) 177 w5n (0 : Int32)) := zIv.put w8 (show (-2147483648) ≤ (0 : Int32).toInt ∧ (0 : Int32).toInt ≤ 2147483647 from zrg (0 : Int32))
        refine zs_iast (pc := 82) t117_82 (j := w5n) (by decide) (zk1 (hs.k fk_zMc_177)) (show w2x2.toInt = ((w5n : Nat) : Int) by omega) (zk2 (hs.k fk_zMc_177) (by omega)) ?_
        refine zs_aload_n (pc := 83) t117_83 rfl ?_
        have w10 := ib166_15 hI
        refine zs_get (pc := 84) t117_84 (by decide) (zk1 (hs.k fk_zMc_166)) (zfvi rfl ((zIo (by decide)).trans ((zIo (by decide)).trans ((zIo (by decide)).trans ((zIo (by decide)).trans rfl))))) ?_
        refine zs_bipush (pc := 87) t117_87 (v := 60) (by decide) ?_
        by_cases w11 : 60 ≤ (zI M 166 15).toInt
        · refine zs_icmp_geT (pc := 89) t117_89 rfl li60 (by omega) ?_
          refine zs_iload_n (pc := 112) t117_112 rfl ?_
          obtain ⟨w12n, w12⟩ : ∃ n : Nat, w2x3.toInt = (n : Int) := ⟨(w2x3.toInt).toNat, by omega⟩
          have w13 := w2t0 w12n (by omega)
          have w13q := w13.2
          exact zs_iret (pc := 113) t117_113 mr117 rfl (hQ _ _ hs w9 (((((zFr.refl).put rfl).put rfl).put rfl).put rfl) (absurd (w13.1.full (by omega)) (by omega)) (by omega) (by omega))
        · refine zs_icmp_geF (pc := 89) t117_89 rfl li60 (by omega) ?_
          refine zs_aload_n (pc := 92) t117_92 rfl ?_
          refine zs_get (pc := 93) t117_93 (by decide) (zk1 (hs.k fk_zMc_166)) (hs.p rfl fv_zMc_166_16) ?_
          refine zs_aload_n (pc := 96) t117_96 rfl ?_
          refine zs_get (pc := 97) t117_97 (by decide) (zk1 (hs.k fk_zMc_166)) (zfvi rfl ((zIo (by decide)).trans ((zIo (by decide)).trans ((zIo (by decide)).trans ((zIo (by decide)).trans rfl))))) ?_
          refine zs_iload_n (pc := 100) t117_100 rfl ?_
          obtain ⟨w14n, w14⟩ : ∃ n : Nat, (zI M 166 15).toInt = (n : Int) := ⟨((zI M 166 15).toInt).toNat, by omega⟩
          have w15 : zIv cLo cHi (zsI (zsI (zsI (zsI (zsI M 174 w5n (zI M 166 10)) 175 w5n a) 176 w5n (0 : Int32)) 177 w5n (0 : Int32)) 178 w14n w2x2) := zIv.put w9 (show 0 ≤ w2x2.toInt ∧ w2x2.toInt ≤ 127 from ⟨by omega, by omega⟩)
          refine zs_iast (pc := 101) t117_101 (j := w14n) (by decide) (zk1 (hs.k fk_zMc_178)) (show (zI M 166 15).toInt = ((w14n : Nat) : Int) by omega) (zk2 (hs.k fk_zMc_178) (by omega)) ?_
          refine zs_aload_n (pc := 102) t117_102 rfl ?_
          refine zs_dup (pc := 103) t117_103 rfl ?_
          refine zs_get (pc := 104) t117_104 (by decide) (zk1 (hs.k fk_zMc_166)) (zfvi rfl ((zIo (by decide)).trans ((zIo (by decide)).trans ((zIo (by decide)).trans ((zIo (by decide)).trans ((zIo (by decide)).trans rfl)))))) ?_
          refine zs_iconst (pc := 107) t117_107 (v := 1) (by decide) ?_
          obtain ⟨w16v, w16e, w16⟩ := ziadd (a := (zI M 166 15)) (b := (1 : Int32)) rfl li1 (by omega) (by omega)
          refine zs_iadd (pc := 108) t117_108 (c := w16v) w16e ?_
          have w17 : zIv cLo cHi (zsI (zsI (zsI (zsI (zsI (zsI M 174 w5n (zI M 166 10)) 175 w5n a) 176 w5n (0 : Int32)) 177 w5n (0 : Int32)) 178 w14n w2x2) 166 15 w16v) := zIv.put w15 (show 0 ≤ w16v.toInt ∧ w16v.toInt ≤ 60 from ⟨by omega, by omega⟩)
          refine zs_putI (pc := 109) t117_109 (zk1 (hs.k fk_zMc_166)) rfl ?_
          refine zs_iload_n (pc := 112) t117_112 rfl ?_
          obtain ⟨w18n, w18⟩ : ∃ n : Nat, w2x3.toInt = (n : Int) := ⟨(w2x3.toInt).toNat, by omega⟩
          have w19 := w2t0 w18n (by omega)
          have w19q := w19.2
          exact zs_iret (pc := 113) t117_113 mr117 rfl (hQ _ _ hs w17 (((((((zFr.refl).put rfl).put rfl).put rfl).put rfl).put rfl).put rfl) (absurd (w19.1.full (by omega)) (by omega)) (by omega) (by omega))
      · refine zs_icmp_geF (pc := 11) t117_11 rfl li128 (by omega) ?_
        refine zs_aload_n (pc := 14) t117_14 rfl ?_
        refine zs_get (pc := 15) t117_15 (by decide) (zk1 (hs.k fk_zMc_166)) (hs.p rfl fv_zMc_166_11) ?_
        refine zs_iload_n (pc := 18) t117_18 rfl ?_
        obtain ⟨w20n, w20⟩ : ∃ n : Nat, w2x2.toInt = (n : Int) := ⟨(w2x2.toInt).toNat, by omega⟩
        have w21 := zrg (zI M 174 w20n)
        refine zs_iald (pc := 19) t117_19 (j := w20n) (by decide) (zk1 (hs.k fk_zMc_174)) (show w2x2.toInt = ((w20n : Nat) : Int) by omega) (zk2 (hs.k fk_zMc_174) (by omega)) rfl ?_
        refine zs_aload_n (pc := 20) t117_20 rfl ?_
        have w22 := zrg (zI M 166 10)
        refine zs_get (pc := 21) t117_21 (by decide) (zk1 (hs.k fk_zMc_166)) (zfvi rfl rfl) ?_
        by_cases w23 : (zI M 174 w20n).toInt ≠ (zI M 166 10).toInt
        · refine zs_icmp_neT (pc := 24) t117_24 rfl rfl (by omega) ?_
          refine zs_aload_n (pc := 52) t117_52 rfl ?_
          refine zs_get (pc := 53) t117_53 (by decide) (zk1 (hs.k fk_zMc_166)) (hs.p rfl fv_zMc_166_11) ?_
          refine zs_iload_n (pc := 56) t117_56 rfl ?_
          refine zs_aload_n (pc := 57) t117_57 rfl ?_
          refine zs_get (pc := 58) t117_58 (by decide) (zk1 (hs.k fk_zMc_166)) (zfvi rfl rfl) ?_
          have w24 : zIv cLo cHi (zsI M 174 w20n (zI M 166 10)) := zIv.put hI (show (-2147483648) ≤ (zI M 166 10).toInt ∧ (zI M 166 10).toInt ≤ 2147483647 from zrg (zI M 166 10))
          refine zs_iast (pc := 61) t117_61 (j := w20n) (by decide) (zk1 (hs.k fk_zMc_174)) (show w2x2.toInt = ((w20n : Nat) : Int) by omega) (zk2 (hs.k fk_zMc_174) (by omega)) ?_
          refine zs_aload_n (pc := 62) t117_62 rfl ?_
          refine zs_get (pc := 63) t117_63 (by decide) (zk1 (hs.k fk_zMc_166)) (hs.p rfl fv_zMc_166_12) ?_
          refine zs_iload_n (pc := 66) t117_66 rfl ?_
          refine zs_iload_n (pc := 67) t117_67 rfl ?_
          have w25 : zIv cLo cHi (zsI (zsI M 174 w20n (zI M 166 10)) 175 w20n a) := zIv.put w24 (show (-2147483648) ≤ a.toInt ∧ a.toInt ≤ 2147483647 from zrg a)
          refine zs_iast (pc := 68) t117_68 (j := w20n) (by decide) (zk1 (hs.k fk_zMc_175)) (show w2x2.toInt = ((w20n : Nat) : Int) by omega) (zk2 (hs.k fk_zMc_175) (by omega)) ?_
          refine zs_aload_n (pc := 69) t117_69 rfl ?_
          refine zs_get (pc := 70) t117_70 (by decide) (zk1 (hs.k fk_zMc_166)) (hs.p rfl fv_zMc_166_13) ?_
          refine zs_iload_n (pc := 73) t117_73 rfl ?_
          refine zs_iconst (pc := 74) t117_74 (v := 0) (by decide) ?_
          have w26 : zIv cLo cHi (zsI (zsI (zsI M 174 w20n (zI M 166 10)) 175 w20n a) 176 w20n (0 : Int32)) := zIv.put w25 (show (-2147483648) ≤ (0 : Int32).toInt ∧ (0 : Int32).toInt ≤ 2147483647 from zrg (0 : Int32))
          refine zs_iast (pc := 75) t117_75 (j := w20n) (by decide) (zk1 (hs.k fk_zMc_176)) (show w2x2.toInt = ((w20n : Nat) : Int) by omega) (zk2 (hs.k fk_zMc_176) (by omega)) ?_
          refine zs_aload_n (pc := 76) t117_76 rfl ?_
          refine zs_get (pc := 77) t117_77 (by decide) (zk1 (hs.k fk_zMc_166)) (hs.p rfl fv_zMc_166_14) ?_
          refine zs_iload_n (pc := 80) t117_80 rfl ?_
          refine zs_iconst (pc := 81) t117_81 (v := 0) (by decide) ?_
          have w27 : zIv cLo cHi (zsI (zsI (zsI (zsI M 174 w20n (zI M 166 10)) 175 w20n a) 176 w20n (0 : Int32)) 177 w20n (0 : Int32)) := zIv.put w26 (show (-2147483648) ≤ (0 : Int32).toInt ∧ (0 : Int32).toInt ≤ 2147483647 from zrg (0 : Int32))
          refine zs_iast (pc := 82) t117_82 (j := w20n) (by decide) (zk1 (hs.k fk_zMc_177)) (show w2x2.toInt = ((w20n : Nat) : Int) by omega) (zk2 (hs.k fk_zMc_177) (by omega)) ?_
          refine zs_aload_n (pc := 83) t117_83 rfl ?_
          have w28 := ib166_15 hI
          refine zs_get (pc := 84) t117_84 (by decide) (zk1 (hs.k fk_zMc_166)) (zfvi rfl ((zIo (by decide)).trans ((zIo (by decide)).trans ((zIo (by decide)).trans ((zIo (by decide)).trans rfl))))) ?_
          refine zs_bipush (pc := 87) t117_87 (v := 60) (by decide) ?_
          by_cases w29 : 60 ≤ (zI M 166 15).toInt
          · refine zs_icmp_geT (pc := 89) t117_89 rfl li60 (by omega) ?_
            refine zs_iload_n (pc := 112) t117_112 rfl ?_
            obtain ⟨w30n, w30⟩ : ∃ n : Nat, w2x3.toInt = (n : Int) := ⟨(w2x3.toInt).toNat, by omega⟩
            have w31 := w2t0 w30n (by omega)
            have w31q := w31.2
            exact zs_iret (pc := 113) t117_113 mr117 rfl (hQ _ _ hs w27 (((((zFr.refl).put rfl).put rfl).put rfl).put rfl) ⟨w20n, by omega, zSlot.new (n := w30n) x0 w31.1 (by omega) (by omega) (by unfold zStm; omega) ((zIo (by decide)).trans ((zIo (by decide)).trans ((zIo (by decide)).trans ((zIo (by decide)).trans rfl)))) (congrArg Int32.toInt ((zIo (by decide)).trans ((zIo (by decide)).trans ((zIo (by decide)).trans (zIs))))) (fun j q => ((zIo (by decide)).trans ((zIo (by decide)).trans ((zIo (by decide)).trans ((zIoj q).trans rfl))))) (congrArg Int32.toInt ((zIo (by decide)).trans ((zIo (by decide)).trans (zIs)))) (fun j q => ((zIo (by decide)).trans ((zIo (by decide)).trans ((zIoj q).trans ((zIo (by decide)).trans rfl))))) ((congrArg Int32.toInt ((zIo (by decide)).trans (zIs))).trans (by decide)) (fun j q => ((zIo (by decide)).trans ((zIoj q).trans ((zIo (by decide)).trans ((zIo (by decide)).trans rfl))))) ((congrArg Int32.toInt (zIs)).trans (by decide)) (fun j q => ((zIoj q).trans ((zIo (by decide)).trans ((zIo (by decide)).trans ((zIo (by decide)).trans rfl)))))⟩ (by omega) (by omega))
          · refine zs_icmp_geF (pc := 89) t117_89 rfl li60 (by omega) ?_
            refine zs_aload_n (pc := 92) t117_92 rfl ?_
            refine zs_get (pc := 93) t117_93 (by decide) (zk1 (hs.k fk_zMc_166)) (hs.p rfl fv_zMc_166_16) ?_
            refine zs_aload_n (pc := 96) t117_96 rfl ?_
            refine zs_get (pc := 97) t117_97 (by decide) (zk1 (hs.k fk_zMc_166)) (zfvi rfl ((zIo (by decide)).trans ((zIo (by decide)).trans ((zIo (by decide)).trans ((zIo (by decide)).trans rfl))))) ?_
            refine zs_iload_n (pc := 100) t117_100 rfl ?_
            obtain ⟨w32n, w32⟩ : ∃ n : Nat, (zI M 166 15).toInt = (n : Int) := ⟨((zI M 166 15).toInt).toNat, by omega⟩
            have w33 : zIv cLo cHi (zsI (zsI (zsI (zsI (zsI M 174 w20n (zI M 166 10)) 175 w20n a) 176 w20n (0 : Int32)) 177 w20n (0 : Int32)) 178 w32n w2x2) := zIv.put w27 (show 0 ≤ w2x2.toInt ∧ w2x2.toInt ≤ 127 from ⟨by omega, by omega⟩)
            refine zs_iast (pc := 101) t117_101 (j := w32n) (by decide) (zk1 (hs.k fk_zMc_178)) (show (zI M 166 15).toInt = ((w32n : Nat) : Int) by omega) (zk2 (hs.k fk_zMc_178) (by omega)) ?_
            refine zs_aload_n (pc := 102) t117_102 rfl ?_
            refine zs_dup (pc := 103) t117_103 rfl ?_
            refine zs_get (pc := 104) t117_104 (by decide) (zk1 (hs.k fk_zMc_166)) (zfvi rfl ((zIo (by decide)).trans ((zIo (by decide)).trans ((zIo (by decide)).trans ((zIo (by decide)).trans ((zIo (by decide)).trans rfl)))))) ?_
            refine zs_iconst (pc := 107) t117_107 (v := 1) (by decide) ?_
            obtain ⟨w34v, w34e, w34⟩ := ziadd (a := (zI M 166 15)) (b := (1 : Int32)) rfl li1 (by omega) (by omega)
            refine zs_iadd (pc := 108) t117_108 (c := w34v) w34e ?_
            have w35 : zIv cLo cHi (zsI (zsI (zsI (zsI (zsI (zsI M 174 w20n (zI M 166 10)) 175 w20n a) 176 w20n (0 : Int32)) 177 w20n (0 : Int32)) 178 w32n w2x2) 166 15 w34v) := zIv.put w33 (show 0 ≤ w34v.toInt ∧ w34v.toInt ≤ 60 from ⟨by omega, by omega⟩)
            refine zs_putI (pc := 109) t117_109 (zk1 (hs.k fk_zMc_166)) rfl ?_
            refine zs_iload_n (pc := 112) t117_112 rfl ?_
            obtain ⟨w36n, w36⟩ : ∃ n : Nat, w2x3.toInt = (n : Int) := ⟨(w2x3.toInt).toNat, by omega⟩
            have w37 := w2t0 w36n (by omega)
            have w37q := w37.2
            exact zs_iret (pc := 113) t117_113 mr117 rfl (hQ _ _ hs w35 (((((((zFr.refl).put rfl).put rfl).put rfl).put rfl).put rfl).put rfl) ⟨w20n, by omega, zSlot.new (n := w36n) x0 w37.1 (by omega) (by omega) (by unfold zStm; omega) ((zIoj (by decide)).trans ((zIo (by decide)).trans ((zIo (by decide)).trans ((zIo (by decide)).trans ((zIo (by decide)).trans ((zIo (by decide)).trans rfl)))))) (congrArg Int32.toInt ((zIo (by decide)).trans ((zIo (by decide)).trans ((zIo (by decide)).trans ((zIo (by decide)).trans ((zIo (by decide)).trans (zIs))))))) (fun j q => ((zIo (by decide)).trans ((zIo (by decide)).trans ((zIo (by decide)).trans ((zIo (by decide)).trans ((zIo (by decide)).trans ((zIoj q).trans rfl))))))) (congrArg Int32.toInt ((zIo (by decide)).trans ((zIo (by decide)).trans ((zIo (by decide)).trans ((zIo (by decide)).trans (zIs)))))) (fun j q => ((zIo (by decide)).trans ((zIo (by decide)).trans ((zIo (by decide)).trans ((zIo (by decide)).trans ((zIoj q).trans ((zIo (by decide)).trans rfl))))))) ((congrArg Int32.toInt ((zIo (by decide)).trans ((zIo (by decide)).trans ((zIo (by decide)).trans (zIs))))).trans (by decide)) (fun j q => ((zIo (by decide)).trans ((zIo (by decide)).trans ((zIo (by decide)).trans ((zIoj q).trans ((zIo (by decide)).trans ((zIo (by decide)).trans rfl))))))) ((congrArg Int32.toInt ((zIo (by decide)).trans ((zIo (by decide)).trans (zIs)))).trans (by decide)) (fun j q => ((zIo (by decide)).trans ((zIo (by decide)).trans ((zIoj q).trans ((zIo (by decide)).trans ((zIo (by decide)).trans ((zIo (by decide)).trans rfl)))))))⟩ (by omega) (by omega))
        · refine zs_icmp_neF (pc := 24) t117_24 rfl rfl (by omega) ?_
          refine zs_aload_n (pc := 27) t117_27 rfl ?_
          refine zs_get (pc := 28) t117_28 (by decide) (zk1 (hs.k fk_zMc_166)) (hs.p rfl fv_zMc_166_12) ?_
          refine zs_iload_n (pc := 31) t117_31 rfl ?_
          have w38 := zrg (zI M 175 w20n)
          refine zs_iald (pc := 32) t117_32 (j := w20n) (by decide) (zk1 (hs.k fk_zMc_175)) (show w2x2.toInt = ((w20n : Nat) : Int) by omega) (zk2 (hs.k fk_zMc_175) (by omega)) rfl ?_
          refine zs_iload_n (pc := 33) t117_33 rfl ?_
          by_cases w39 : (zI M 175 w20n).toInt ≠ a.toInt
          · refine zs_icmp_neT (pc := 34) t117_34 rfl rfl (by omega) ?_
            refine zs_iload_n (pc := 39) t117_39 rfl ?_
            refine zs_iconst (pc := 40) t117_40 (v := 1) (by decide) ?_
            obtain ⟨w40v, w40e, w40⟩ := ziadd (a := w2x2) (b := (1 : Int32)) rfl li1 (by omega) (by omega)
            refine zs_iadd (pc := 41) t117_41 (c := w40v) w40e ?_
            refine zs_bipush (pc := 42) t117_42 (v := 127) (by decide) ?_
            obtain ⟨w41v, w41⟩ : ∃ v, w40v &&& (127 : Int32) = v := ⟨_, rfl⟩
            have w41g : 0 ≤ w41v.toInt ∧ w41v.toInt ≤ 127 := by rw [← w41]; exact zand li127 (by decide)
            refine zs_iand (pc := 44) t117_44 (c := w41v) w41 ?_
            refine zs_istore_n (pc := 45) t117_45 (ls' := [(2, .int w41v), (0, .ref 166), (1, .int a), (3, .int w2x3)]) (zml mf117 (by decide)) rfl ?_
            obtain ⟨w42v, w42e, w42⟩ := ziadd (a := w2x3) (b := Int32.ofInt 1) rfl (show (Int32.ofInt 1).toInt = 1 by decide) (by omega) (by omega)
            refine zs_iinc (pc := 46) t117_46 (ls' := [(3, .int w42v), (2, .int w41v), (0, .ref 166), (1, .int a)]) (zml mf117 (by decide)) rfl (c := w42v) w42e rfl ?_
            refine zs_goto (pc := 49) t117_49 ?_
            refine zGo.locals (ls' := [(0, .ref 166), (1, .int a), (2, .int w41v), (3, .int w42v)]) (by simp) ?_
            have w43 := w42
            obtain ⟨w44n, w44⟩ : ∃ n : Nat, w2x3.toInt = (n : Int) := ⟨(w2x3.toInt).toNat, by omega⟩
            exact w2ih (w2m - 1) (by omega) w41v w42v ⟨by omega, by omega⟩ ⟨by omega, by omega⟩ (fun n hn => by obtain rfl : n = w44n + 1 := (by omega); have hp := w2t0 w44n (by omega); have hq := hp.2; exact ⟨hp.1.more (s := w20n) (by unfold zStm; omega) (by omega) (by omega), by rw [← w41, zand127]; omega⟩) (by omega)
          · refine zs_icmp_neF (pc := 34) t117_34 rfl rfl (by omega) ?_
            refine zs_iload_n (pc := 37) t117_37 rfl ?_
            obtain ⟨w45n, w45⟩ : ∃ n : Nat, w2x3.toInt = (n : Int) := ⟨(w2x3.toInt).toNat, by omega⟩
            exact zs_iret (pc := 38) t117_38 mr117 rfl (hQ _ _ hs hI (zFr.refl) ⟨w20n, by omega, zSlot.old x0 (by omega) (by unfold zStm; omega) (by omega)⟩ (by omega) (by omega))
  refine zGo.locals (ls' := [(0, .ref 166), (1, .int a), (2, .int w1v), (3, .int (0 : Int32))]) (by simp) ?_
  have w46 := li0
  exact w2L ((128 - 0 : Int).toNat) w1v (0 : Int32) ⟨by omega, by omega⟩ ⟨by decide, by decide⟩ (fun n hn => by obtain rfl : n = 0 := (by omega); exact ⟨zPb.zero rfl, by rw [← w1, zand127]; unfold hm; omega⟩) (by omega)
theorem V117_242 {X : zX} {l : Launch} {M : zM} {Q : Option Value → zM → Prop} {a : Int32} (hs : zSk zMc M) (hI : zIv cLo cHi M) (x0 : zHt M 242 250 251) (x1 : pct (zstb M 242 250) 128 ≤ 127) (hQ : ∀ (M' : zM) (v : Int32), zSk zMc M' → zIv cLo cHi M' → zFr [(250, 253, none), (242, 242, some 15), (254, 254, none)] M M' → (∃ s : Nat, v.toInt = (s : Int) ∧ zSlot M M' 242 250 251 252 253 a.toInt s) → 0 ≤ v.toInt → v.toInt ≤ 127 → Q (some (.int v)) M') : zCall X l 0 0 0 117 [.ref 242, .int a] M Q := by
  have ga := zrg a
  refine zs_in (by decide) mf117 (Nat.le_of_ble_eq_true rfl) ?_
  show zGo X l 0 0 0 117 0 [(0, .ref 242), (1, .int a)] [] M _
  refine zs_iload_n (pc := 0) t117_0 rfl ?_
  refine zs_bipush (pc := 1) t117_1 (v := 127) (by decide) ?_
  obtain ⟨w1v, w1⟩ : ∃ v, a &&& (127 : Int32) = v := ⟨_, rfl⟩
  have w1g : 0 ≤ w1v.toInt ∧ w1v.toInt ≤ 127 := by rw [← w1]; exact zand li127 (by decide)
  refine zs_iand (pc := 3) t117_3 (c := w1v) w1 ?_
  refine zs_istore_n (pc := 4) t117_4 (ls' := [(2, .int w1v), (0, .ref 242), (1, .int a)]) (zml mf117 (by decide)) rfl ?_
  refine zs_iconst (pc := 5) t117_5 (v := 0) (by decide) ?_
  refine zs_istore_n (pc := 6) t117_6 (ls' := [(3, .int (0 : Int32)), (2, .int w1v), (0, .ref 242), (1, .int a)]) (zml mf117 (by decide)) rfl ?_
  have w2L : ∀ (m : Nat) (w2x2 : Int32) (w2x3 : Int32), (0 ≤ w2x2.toInt ∧ w2x2.toInt ≤ 127) → (0 ≤ w2x3.toInt ∧ w2x3.toInt ≤ 128) → (∀ n : Nat, (n : Int) = w2x3.toInt → zPb M 242 250 251 a.toInt n ∧ w2x2.toInt = (((hm a.toInt + n) % 128 : Nat) : Int)) → 128 - w2x3.toInt ≤ (m : Int) → zGo X l 0 0 0 117 7 [(0, .ref 242), (1, .int a), (2, .int w2x2), (3, .int w2x3)] [] M Q := by
    intro m
    induction m using Nat.strongRecOn with
    | ind w2m w2ih =>
      intro w2x2 w2x3 w2b2 w2b3 w2t0 w2q
      refine zs_iload_n (pc := 7) t117_7 rfl ?_
      refine zs_sipush (pc := 8) t117_8 (v := 128) (by decide) ?_
      by_cases w3 : 128 ≤ w2x3.toInt
      · refine zs_icmp_geT (pc := 11) t117_11 rfl li128 (by omega) ?_
        refine zs_aload_n (pc := 52) t117_52 rfl ?_
        refine zs_get (pc := 53) t117_53 (by decide) (zk1 (hs.k fk_zMc_242)) (hs.p rfl fv_zMc_242_11) ?_
        refine zs_iload_n (pc := 56) t117_56 rfl ?_
        refine zs_aload_n (pc := 57) t117_57 rfl ?_
        have w4 := zrg (zI M 242 10)
        refine zs_get (pc := 58) t117_58 (by decide) (zk1 (hs.k fk_zMc_242)) (zfvi rfl rfl) ?_
        obtain ⟨w5n, w5⟩ : ∃ n : Nat, w2x2.toInt = (n : Int) := ⟨(w2x2.toInt).toNat, by omega⟩
        have w6 : zIv cLo cHi (zsI M 250 w5n (zI M 242 10)) := zIv.put hI (show (-2147483648) ≤ (zI M 242 10).toInt ∧ (zI M 242 10).toInt ≤ 2147483647 from zrg (zI M 242 10))
        refine zs_iast (pc := 61) t117_61 (j := w5n) (by decide) (zk1 (hs.k fk_zMc_250)) (show w2x2.toInt = ((w5n : Nat) : Int) by omega) (zk2 (hs.k fk_zMc_250) (by omega)) ?_
        refine zs_aload_n (pc := 62) t117_62 rfl ?_
        refine zs_get (pc := 63) t117_63 (by decide) (zk1 (hs.k fk_zMc_242)) (hs.p rfl fv_zMc_242_12) ?_
        refine zs_iload_n (pc := 66) t117_66 rfl ?_
        refine zs_iload_n (pc := 67) t117_67 rfl ?_
        have w7 : zIv cLo cHi (zsI (zsI M 250 w5n (zI M 242 10)) 251 w5n a) := zIv.put w6 (show (-2147483648) ≤ a.toInt ∧ a.toInt ≤ 2147483647 from zrg a)
        refine zs_iast (pc := 68) t117_68 (j := w5n) (by decide) (zk1 (hs.k fk_zMc_251)) (show w2x2.toInt = ((w5n : Nat) : Int) by omega) (zk2 (hs.k fk_zMc_251) (by omega)) ?_
        refine zs_aload_n (pc := 69) t117_69 rfl ?_
        refine zs_get (pc := 70) t117_70 (by decide) (zk1 (hs.k fk_zMc_242)) (hs.p rfl fv_zMc_242_13) ?_
        refine zs_iload_n (pc := 73) t117_73 rfl ?_
        refine zs_iconst (pc := 74) t117_74 (v := 0) (by decide) ?_
        have w8 : zIv cLo cHi (zsI (zsI (zsI M 250 w5n (zI M 242 10)) 251 w5n a) 252 w5n (0 : Int32)) := zIv.put w7 (show (-2147483648) ≤ (0 : Int32).toInt ∧ (0 : Int32).toInt ≤ 2147483647 from zrg (0 : Int32))
        refine zs_iast (pc := 75) t117_75 (j := w5n) (by decide) (zk1 (hs.k fk_zMc_252)) (show w2x2.toInt = ((w5n : Nat) : Int) by omega) (zk2 (hs.k fk_zMc_252) (by omega)) ?_
        refine zs_aload_n (pc := 76) t117_76 rfl ?_
        refine zs_get (pc := 77) t117_77 (by decide) (zk1 (hs.k fk_zMc_242)) (hs.p rfl fv_zMc_242_14) ?_
        refine zs_iload_n (pc := 80) t117_80 rfl ?_
        refine zs_iconst (pc := 81) t117_81 (v := 0) (by decide) ?_
        have w9 : zIv cLo cHi (zsI (zsI (zsI (zsI M 250 w5n (zI M 242 10)) 251 w5n a) 252 w5n (0 : Int32)) 253 w5n (0 : Int32)) := zIv.put w8 (show (-2147483648) ≤ (0 : Int32).toInt ∧ (0 : Int32).toInt ≤ 2147483647 from zrg (0 : Int32))
        refine zs_iast (pc := 82) t117_82 (j := w5n) (by decide) (zk1 (hs.k fk_zMc_253)) (show w2x2.toInt = ((w5n : Nat) : Int) by omega) (zk2 (hs.k fk_zMc_253) (by omega)) ?_
        refine zs_aload_n (pc := 83) t117_83 rfl ?_
        have w10 := ib242_15 hI
        refine zs_get (pc := 84) t117_84 (by decide) (zk1 (hs.k fk_zMc_242)) (zfvi rfl ((zIo (by decide)).trans ((zIo (by decide)).trans ((zIo (by decide)).trans ((zIo (by decide)).trans rfl))))) ?_
        refine zs_bipush (pc := 87) t117_87 (v := 60) (by decide) ?_
        by_cases w11 : 60 ≤ (zI M 242 15).toInt
        · refine zs_icmp_geT (pc := 89) t117_89 rfl li60 (by omega) ?_
          refine zs_iload_n (pc := 112) t117_112 rfl ?_
          obtain ⟨w12n, w12⟩ : ∃ n : Nat, w2x3.toInt = (n : Int) := ⟨(w2x3.toInt).toNat, by omega⟩
          have w13 := w2t0 w12n (by omega)
          have w13q := w13.2
          exact zs_iret (pc := 113) t117_113 mr117 rfl (hQ _ _ hs w9 (((((zFr.refl).put rfl).put rfl).put rfl).put rfl) (absurd (w13.1.full (by omega)) (by omega)) (by omega) (by omega))
        · refine zs_icmp_geF (pc := 89) t117_89 rfl li60 (by omega) ?_
          refine zs_aload_n (pc := 92) t117_92 rfl ?_
          refine zs_get (pc := 93) t117_93 (by decide) (zk1 (hs.k fk_zMc_242)) (hs.p rfl fv_zMc_242_16) ?_
          refine zs_aload_n (pc := 96) t117_96 rfl ?_
          refine zs_get (pc := 97) t117_97 (by decide) (zk1 (hs.k fk_zMc_242)) (zfvi rfl ((zIo (by decide)).trans ((zIo (by decide)).trans ((zIo (by decide)).trans ((zIo (by decide)).trans rfl))))) ?_
          refine zs_iload_n (pc := 100) t117_100 rfl ?_
          obtain ⟨w14n, w14⟩ : ∃ n : Nat, (zI M 242 15).toInt = (n : Int) := ⟨((zI M 242 15).toInt).toNat, by omega⟩
          have w15 : zIv cLo cHi (zsI (zsI (zsI (zsI (zsI M 250 w5n (zI M 242 10)) 251 w5n a) 252 w5n (0 : Int32)) 253 w5n (0 : Int32)) 254 w14n w2x2) := zIv.put w9 (show 0 ≤ w2x2.toInt ∧ w2x2.toInt ≤ 127 from ⟨by omega, by omega⟩)
          refine zs_iast (pc := 101) t117_101 (j := w14n) (by decide) (zk1 (hs.k fk_zMc_254)) (show (zI M 242 15).toInt = ((w14n : Nat) : Int) by omega) (zk2 (hs.k fk_zMc_254) (by omega)) ?_
          refine zs_aload_n (pc := 102) t117_102 rfl ?_
          refine zs_dup (pc := 103) t117_103 rfl ?_
          refine zs_get (pc := 104) t117_104 (by decide) (zk1 (hs.k fk_zMc_242)) (zfvi rfl ((zIo (by decide)).trans ((zIo (by decide)).trans ((zIo (by decide)).trans ((zIo (by decide)).trans ((zIo (by decide)).trans rfl)))))) ?_
          refine zs_iconst (pc := 107) t117_107 (v := 1) (by decide) ?_
          obtain ⟨w16v, w16e, w16⟩ := ziadd (a := (zI M 242 15)) (b := (1 : Int32)) rfl li1 (by omega) (by omega)
          refine zs_iadd (pc := 108) t117_108 (c := w16v) w16e ?_
          have w17 : zIv cLo cHi (zsI (zsI (zsI (zsI (zsI (zsI M 250 w5n (zI M 242 10)) 251 w5n a) 252 w5n (0 : Int32)) 253 w5n (0 : Int32)) 254 w14n w2x2) 242 15 w16v) := zIv.put w15 (show 0 ≤ w16v.toInt ∧ w16v.toInt ≤ 60 from ⟨by omega, by omega⟩)
          refine zs_putI (pc := 109) t117_109 (zk1 (hs.k fk_zMc_242)) rfl ?_
          refine zs_iload_n (pc := 112) t117_112 rfl ?_
          obtain ⟨w18n, w18⟩ : ∃ n : Nat, w2x3.toInt = (n : Int) := ⟨(w2x3.toInt).toNat, by omega⟩
          have w19 := w2t0 w18n (by omega)
          have w19q := w19.2
          exact zs_iret (pc := 113) t117_113 mr117 rfl (hQ _ _ hs w17 (((((((zFr.refl).put rfl).put rfl).put rfl).put rfl).put rfl).put rfl) (absurd (w19.1.full (by omega)) (by omega)) (by omega) (by omega))
      · refine zs_icmp_geF (pc := 11) t117_11 rfl li128 (by omega) ?_
        refine zs_aload_n (pc := 14) t117_14 rfl ?_
        refine zs_get (pc := 15) t117_15 (by decide) (zk1 (hs.k fk_zMc_242)) (hs.p rfl fv_zMc_242_11) ?_
        refine zs_iload_n (pc := 18) t117_18 rfl ?_
        obtain ⟨w20n, w20⟩ : ∃ n : Nat, w2x2.toInt = (n : Int) := ⟨(w2x2.toInt).toNat, by omega⟩
        have w21 := zrg (zI M 250 w20n)
        refine zs_iald (pc := 19) t117_19 (j := w20n) (by decide) (zk1 (hs.k fk_zMc_250)) (show w2x2.toInt = ((w20n : Nat) : Int) by omega) (zk2 (hs.k fk_zMc_250) (by omega)) rfl ?_
        refine zs_aload_n (pc := 20) t117_20 rfl ?_
        have w22 := zrg (zI M 242 10)
        refine zs_get (pc := 21) t117_21 (by decide) (zk1 (hs.k fk_zMc_242)) (zfvi rfl rfl) ?_
        by_cases w23 : (zI M 250 w20n).toInt ≠ (zI M 242 10).toInt
        · refine zs_icmp_neT (pc := 24) t117_24 rfl rfl (by omega) ?_
          refine zs_aload_n (pc := 52) t117_52 rfl ?_
          refine zs_get (pc := 53) t117_53 (by decide) (zk1 (hs.k fk_zMc_242)) (hs.p rfl fv_zMc_242_11) ?_
          refine zs_iload_n (pc := 56) t117_56 rfl ?_
          refine zs_aload_n (pc := 57) t117_57 rfl ?_
          refine zs_get (pc := 58) t117_58 (by decide) (zk1 (hs.k fk_zMc_242)) (zfvi rfl rfl) ?_
          have w24 : zIv cLo cHi (zsI M 250 w20n (zI M 242 10)) := zIv.put hI (show (-2147483648) ≤ (zI M 242 10).toInt ∧ (zI M 242 10).toInt ≤ 2147483647 from zrg (zI M 242 10))
          refine zs_iast (pc := 61) t117_61 (j := w20n) (by decide) (zk1 (hs.k fk_zMc_250)) (show w2x2.toInt = ((w20n : Nat) : Int) by omega) (zk2 (hs.k fk_zMc_250) (by omega)) ?_
          refine zs_aload_n (pc := 62) t117_62 rfl ?_
          refine zs_get (pc := 63) t117_63 (by decide) (zk1 (hs.k fk_zMc_242)) (hs.p rfl fv_zMc_242_12) ?_
          refine zs_iload_n (pc := 66) t117_66 rfl ?_
          refine zs_iload_n (pc := 67) t117_67 rfl ?_
          have w25 : zIv cLo cHi (zsI (zsI M 250 w20n (zI M 242 10)) 251 w20n a) := zIv.put w24 (show (-2147483648) ≤ a.toInt ∧ a.toInt ≤ 2147483647 from zrg a)
          refine zs_iast (pc := 68) t117_68 (j := w20n) (by decide) (zk1 (hs.k fk_zMc_251)) (show w2x2.toInt = ((w20n : Nat) : Int) by omega) (zk2 (hs.k fk_zMc_251) (by omega)) ?_
          refine zs_aload_n (pc := 69) t117_69 rfl ?_
          refine zs_get (pc := 70) t117_70 (by decide) (zk1 (hs.k fk_zMc_242)) (hs.p rfl fv_zMc_242_13) ?_
          refine zs_iload_n (pc := 73) t117_73 rfl ?_
          refine zs_iconst (pc := 74) t117_74 (v := 0) (by decide) ?_
          have w26 : zIv cLo cHi (zsI (zsI (zsI M 250 w20n (zI M 242 10)) 251 w20n a) 252 w20n (0 : Int32)) := zIv.put w25 (show (-2147483648) ≤ (0 : Int32).toInt ∧ (0 : Int32).toInt ≤ 2147483647 from zrg (0 : Int32))
          refine zs_iast (pc := 75) t117_75 (j := w20n) (by decide) (zk1 (hs.k fk_zMc_252)) (show w2x2.toInt = ((w20n : Nat) : Int) by omega) (zk2 (hs.k fk_zMc_252) (by omega)) ?_
          refine zs_aload_n (pc := 76) t117_76 rfl ?_
          refine zs_get (pc := 77) t117_77 (by decide) (zk1 (hs.k fk_zMc_242)) (hs.p rfl fv_zMc_242_14) ?_
          refine zs_iload_n (pc := 80) t117_80 rfl ?_
          refine zs_iconst (pc := 81) t117_81 (v := 0) (by decide) ?_
          have w27 : zIv cLo cHi (zsI (zsI (zsI (zsI M 250 w20n (zI M 242 10)) 251 w20n a) 252 w20n (0 : Int32)) 253 w20n (0 : Int32)) := zIv.put w26 (show (-2147483648) ≤ (0 : Int32).toInt ∧ (0 : Int32).toInt ≤ 2147483647 from zrg (0 : Int32))
          refine zs_iast (pc := 82) t117_82 (j := w20n) (by decide) (zk1 (hs.k fk_zMc_253)) (show w2x2.toInt = ((w20n : Nat) : Int) by omega) (zk2 (hs.k fk_zMc_253) (by omega)) ?_
          refine zs_aload_n (pc := 83) t117_83 rfl ?_
          have w28 := ib242_15 hI
          refine zs_get (pc := 84) t117_84 (by decide) (zk1 (hs.k fk_zMc_242)) (zfvi rfl ((zIo (by decide)).trans ((zIo (by decide)).trans ((zIo (by decide)).trans ((zIo (by decide)).trans rfl))))) ?_
          refine zs_bipush (pc := 87) t117_87 (v := 60) (by decide) ?_
          by_cases w29 : 60 ≤ (zI M 242 15).toInt
          · refine zs_icmp_geT (pc := 89) t117_89 rfl li60 (by omega) ?_
            refine zs_iload_n (pc := 112) t117_112 rfl ?_
            obtain ⟨w30n, w30⟩ : ∃ n : Nat, w2x3.toInt = (n : Int) := ⟨(w2x3.toInt).toNat, by omega⟩
            have w31 := w2t0 w30n (by omega)
            have w31q := w31.2
            exact zs_iret (pc := 113) t117_113 mr117 rfl (hQ _ _ hs w27 (((((zFr.refl).put rfl).put rfl).put rfl).put rfl) ⟨w20n, by omega, zSlot.new (n := w30n) x0 w31.1 (by omega) (by omega) (by unfold zStm; omega) ((zIo (by decide)).trans ((zIo (by decide)).trans ((zIo (by decide)).trans ((zIo (by decide)).trans rfl)))) (congrArg Int32.toInt ((zIo (by decide)).trans ((zIo (by decide)).trans ((zIo (by decide)).trans (zIs))))) (fun j q => ((zIo (by decide)).trans ((zIo (by decide)).trans ((zIo (by decide)).trans ((zIoj q).trans rfl))))) (congrArg Int32.toInt ((zIo (by decide)).trans ((zIo (by decide)).trans (zIs)))) (fun j q => ((zIo (by decide)).trans ((zIo (by decide)).trans ((zIoj q).trans ((zIo (by decide)).trans rfl))))) ((congrArg Int32.toInt ((zIo (by decide)).trans (zIs))).trans (by decide)) (fun j q => ((zIo (by decide)).trans ((zIoj q).trans ((zIo (by decide)).trans ((zIo (by decide)).trans rfl))))) ((congrArg Int32.toInt (zIs)).trans (by decide)) (fun j q => ((zIoj q).trans ((zIo (by decide)).trans ((zIo (by decide)).trans ((zIo (by decide)).trans rfl)))))⟩ (by omega) (by omega))
          · refine zs_icmp_geF (pc := 89) t117_89 rfl li60 (by omega) ?_
            refine zs_aload_n (pc := 92) t117_92 rfl ?_
            refine zs_get (pc := 93) t117_93 (by decide) (zk1 (hs.k fk_zMc_242)) (hs.p rfl fv_zMc_242_16) ?_
            refine zs_aload_n (pc := 96) t117_96 rfl ?_
            refine zs_get (pc := 97) t117_97 (by decide) (zk1 (hs.k fk_zMc_242)) (zfvi rfl ((zIo (by decide)).trans ((zIo (by decide)).trans ((zIo (by decide)).trans ((zIo (by decide)).trans rfl))))) ?_
            refine zs_iload_n (pc := 100) t117_100 rfl ?_
            obtain ⟨w32n, w32⟩ : ∃ n : Nat, (zI M 242 15).toInt = (n : Int) := ⟨((zI M 242 15).toInt).toNat, by omega⟩
            have w33 : zIv cLo cHi (zsI (zsI (zsI (zsI (zsI M 250 w20n (zI M 242 10)) 251 w20n a) 252 w20n (0 : Int32)) 253 w20n (0 : Int32)) 254 w32n w2x2) := zIv.put w27 (show 0 ≤ w2x2.toInt ∧ w2x2.toInt ≤ 127 from ⟨by omega, by omega⟩)
            refine zs_iast (pc := 101) t117_101 (j := w32n) (by decide) (zk1 (hs.k fk_zMc_254)) (show (zI M 242 15).toInt = ((w32n : Nat) : Int) by omega) (zk2 (hs.k fk_zMc_254) (by omega)) ?_
            refine zs_aload_n (pc := 102) t117_102 rfl ?_
            refine zs_dup (pc := 103) t117_103 rfl ?_
            refine zs_get (pc := 104) t117_104 (by decide) (zk1 (hs.k fk_zMc_242)) (zfvi rfl ((zIo (by decide)).trans ((zIo (by decide)).trans ((zIo (by decide)).trans ((zIo (by decide)).trans ((zIo (by decide)).trans rfl)))))) ?_
            refine zs_iconst (pc := 107) t117_107 (v := 1) (by decide) ?_
            obtain ⟨w34v, w34e, w34⟩ := ziadd (a := (zI M 242 15)) (b := (1 : Int32)) rfl li1 (by omega) (by omega)
            refine zs_iadd (pc := 108) t117_108 (c := w34v) w34e ?_
            have w35 : zIv cLo cHi (zsI (zsI (zsI (zsI (zsI (zsI M 250 w20n (zI M 242 10)) 251 w20n a) 252 w20n (0 : Int32)) 253 w20n (0 : Int32)) 254 w32n w2x2) 242 15 w34v) := zIv.put w33 (show 0 ≤ w34v.toInt ∧ w34v.toInt ≤ 60 from ⟨by omega, by omega⟩)
            refine zs_putI (pc := 109) t117_109 (zk1 (hs.k fk_zMc_242)) rfl ?_
            refine zs_iload_n (pc := 112) t117_112 rfl ?_
            obtain ⟨w36n, w36⟩ : ∃ n : Nat, w2x3.toInt = (n : Int) := ⟨(w2x3.toInt).toNat, by omega⟩
            have w37 := w2t0 w36n (by omega)
            have w37q := w37.2
            exact zs_iret (pc := 113) t117_113 mr117 rfl (hQ _ _ hs w35 (((((((zFr.refl).put rfl).put rfl).put rfl).put rfl).put rfl).put rfl) ⟨w20n, by omega, zSlot.new (n := w36n) x0 w37.1 (by omega) (by omega) (by unfold zStm; omega) ((zIoj (by decide)).trans ((zIo (by decide)).trans ((zIo (by decide)).trans ((zIo (by decide)).trans ((zIo (by decide)).trans ((zIo (by decide)).trans rfl)))))) (congrArg Int32.toInt ((zIo (by decide)).trans ((zIo (by decide)).trans ((zIo (by decide)).trans ((zIo (by decide)).trans ((zIo (by decide)).trans (zIs))))))) (fun j q => ((zIo (by decide)).trans ((zIo (by decide)).trans ((zIo (by decide)).trans ((zIo (by decide)).trans ((zIo (by decide)).trans ((zIoj q).trans rfl))))))) (congrArg Int32.toInt ((zIo (by decide)).trans ((zIo (by decide)).trans ((zIo (by decide)).trans ((zIo (by decide)).trans (zIs)))))) (fun j q => ((zIo (by decide)).trans ((zIo (by decide)).trans ((zIo (by decide)).trans ((zIo (by decide)).trans ((zIoj q).trans ((zIo (by decide)).trans rfl))))))) ((congrArg Int32.toInt ((zIo (by decide)).trans ((zIo (by decide)).trans ((zIo (by decide)).trans (zIs))))).trans (by decide)) (fun j q => ((zIo (by decide)).trans ((zIo (by decide)).trans ((zIo (by decide)).trans ((zIoj q).trans ((zIo (by decide)).trans ((zIo (by decide)).trans rfl))))))) ((congrArg Int32.toInt ((zIo (by decide)).trans ((zIo (by decide)).trans (zIs)))).trans (by decide)) (fun j q => ((zIo (by decide)).trans ((zIo (by decide)).trans ((zIoj q).trans ((zIo (by decide)).trans ((zIo (by decide)).trans ((zIo (by decide)).trans rfl)))))))⟩ (by omega) (by omega))
        · refine zs_icmp_neF (pc := 24) t117_24 rfl rfl (by omega) ?_
          refine zs_aload_n (pc := 27) t117_27 rfl ?_
          refine zs_get (pc := 28) t117_28 (by decide) (zk1 (hs.k fk_zMc_242)) (hs.p rfl fv_zMc_242_12) ?_
          refine zs_iload_n (pc := 31) t117_31 rfl ?_
          have w38 := zrg (zI M 251 w20n)
          refine zs_iald (pc := 32) t117_32 (j := w20n) (by decide) (zk1 (hs.k fk_zMc_251)) (show w2x2.toInt = ((w20n : Nat) : Int) by omega) (zk2 (hs.k fk_zMc_251) (by omega)) rfl ?_
          refine zs_iload_n (pc := 33) t117_33 rfl ?_
          by_cases w39 : (zI M 251 w20n).toInt ≠ a.toInt
          · refine zs_icmp_neT (pc := 34) t117_34 rfl rfl (by omega) ?_
            refine zs_iload_n (pc := 39) t117_39 rfl ?_
            refine zs_iconst (pc := 40) t117_40 (v := 1) (by decide) ?_
            obtain ⟨w40v, w40e, w40⟩ := ziadd (a := w2x2) (b := (1 : Int32)) rfl li1 (by omega) (by omega)
            refine zs_iadd (pc := 41) t117_41 (c := w40v) w40e ?_
            refine zs_bipush (pc := 42) t117_42 (v := 127) (by decide) ?_
            obtain ⟨w41v, w41⟩ : ∃ v, w40v &&& (127 : Int32) = v := ⟨_, rfl⟩
            have w41g : 0 ≤ w41v.toInt ∧ w41v.toInt ≤ 127 := by rw [← w41]; exact zand li127 (by decide)
            refine zs_iand (pc := 44) t117_44 (c := w41v) w41 ?_
            refine zs_istore_n (pc := 45) t117_45 (ls' := [(2, .int w41v), (0, .ref 242), (1, .int a), (3, .int w2x3)]) (zml mf117 (by decide)) rfl ?_
            obtain ⟨w42v, w42e, w42⟩ := ziadd (a := w2x3) (b := Int32.ofInt 1) rfl (show (Int32.ofInt 1).toInt = 1 by decide) (by omega) (by omega)
            refine zs_iinc (pc := 46) t117_46 (ls' := [(3, .int w42v), (2, .int w41v), (0, .ref 242), (1, .int a)]) (zml mf117 (by decide)) rfl (c := w42v) w42e rfl ?_
            refine zs_goto (pc := 49) t117_49 ?_
            refine zGo.locals (ls' := [(0, .ref 242), (1, .int a), (2, .int w41v), (3, .int w42v)]) (by simp) ?_
            have w43 := w42
            obtain ⟨w44n, w44⟩ : ∃ n : Nat, w2x3.toInt = (n : Int) := ⟨(w2x3.toInt).toNat, by omega⟩
            exact w2ih (w2m - 1) (by omega) w41v w42v ⟨by omega, by omega⟩ ⟨by omega, by omega⟩ (fun n hn => by obtain rfl : n = w44n + 1 := (by omega); have hp := w2t0 w44n (by omega); have hq := hp.2; exact ⟨hp.1.more (s := w20n) (by unfold zStm; omega) (by omega) (by omega), by rw [← w41, zand127]; omega⟩) (by omega)
          · refine zs_icmp_neF (pc := 34) t117_34 rfl rfl (by omega) ?_
            refine zs_iload_n (pc := 37) t117_37 rfl ?_
            obtain ⟨w45n, w45⟩ : ∃ n : Nat, w2x3.toInt = (n : Int) := ⟨(w2x3.toInt).toNat, by omega⟩
            exact zs_iret (pc := 38) t117_38 mr117 rfl (hQ _ _ hs hI (zFr.refl) ⟨w20n, by omega, zSlot.old x0 (by omega) (by unfold zStm; omega) (by omega)⟩ (by omega) (by omega))
  refine zGo.locals (ls' := [(0, .ref 242), (1, .int a), (2, .int w1v), (3, .int (0 : Int32))]) (by simp) ?_
  have w46 := li0
  exact w2L ((128 - 0 : Int).toNat) w1v (0 : Int32) ⟨by omega, by omega⟩ ⟨by decide, by decide⟩ (fun n hn => by obtain rfl : n = 0 := (by omega); exact ⟨zPb.zero rfl, by rw [← w1, zand127]; unfold hm; omega⟩) (by omega)
theorem V115_166 {X : zX} {l : Launch} {M : zM} {Q : Option Value → zM → Prop} {a : Int32} (hs : zSk zMc M) (hI : zIv cLo cHi M) (hQ : ∀ v : Int32, (∀ n : Nat, a.toInt = (n : Int) → (n : Int) < (zI M 166 0).toInt → v.toInt = (zI M 167 n).toInt) → Q (some (.int v)) M) : zCall X l 0 0 0 115 [.ref 166, .int a] M Q := by
  have ga := zrg a
  refine zs_in (by decide) mf115 (Nat.le_of_ble_eq_true rfl) ?_
  show zGo X l 0 0 0 115 0 [(0, .ref 166), (1, .int a)] [] M _
  refine zs_iload_n (pc := 0) t115_0 rfl ?_
  by_cases w1 : a.toInt < 0
  · refine zs_if_ltT (pc := 1) t115_1 rfl (by omega) ?_
    refine zs_iconst (pc := 21) t115_21 (v := 0) (by decide) ?_
    exact zs_iret (pc := 22) t115_22 mr115 (by decide) (hQ _ (fun n h1 h2 => absurd h2 (by omega)))
  · refine zs_if_ltF (pc := 1) t115_1 rfl (by omega) ?_
    refine zs_iload_n (pc := 4) t115_4 rfl ?_
    refine zs_aload_n (pc := 5) t115_5 rfl ?_
    have w2 := ib166_0 hI
    refine zs_get (pc := 6) t115_6 (by decide) (zk1 (hs.k fk_zMc_166)) (zfvi rfl rfl) ?_
    by_cases w3 : (zI M 166 0).toInt ≤ a.toInt
    · refine zs_icmp_geT (pc := 9) t115_9 rfl rfl (by omega) ?_
      refine zs_iconst (pc := 21) t115_21 (v := 0) (by decide) ?_
      exact zs_iret (pc := 22) t115_22 mr115 (by decide) (hQ _ (fun n h1 h2 => absurd h2 (by omega)))
    · refine zs_icmp_geF (pc := 9) t115_9 rfl rfl (by omega) ?_
      refine zs_aload_n (pc := 12) t115_12 rfl ?_
      refine zs_get (pc := 13) t115_13 (by decide) (zk1 (hs.k fk_zMc_166)) (hs.p rfl fv_zMc_166_1) ?_
      refine zs_iload_n (pc := 16) t115_16 rfl ?_
      obtain ⟨w4n, w4⟩ : ∃ n : Nat, a.toInt = (n : Int) := ⟨(a.toInt).toNat, by omega⟩
      have w5 := ib167 hI w4n
      refine zs_iald (pc := 17) t115_17 (j := w4n) (by decide) (zk1 (hs.k fk_zMc_167)) (show a.toInt = ((w4n : Nat) : Int) by omega) (zk2 (hs.k fk_zMc_167) (by omega)) rfl ?_
      refine zs_goto (pc := 18) t115_18 ?_
      exact zs_iret (pc := 22) t115_22 mr115 rfl (hQ _ (fun n h1 h2 => by obtain rfl : w4n = n := (by omega); first | rfl | omega))
theorem V116_166 {X : zX} {l : Launch} {M : zM} {Q : Option Value → zM → Prop} {a : Int32} (hs : zSk zMc M) (hI : zIv cLo cHi M) (hQ : ∀ v : Int32, (∀ n : Nat, a.toInt = (n : Int) → (n : Int) < (zI M 166 0).toInt → v.toInt = (zI M 168 n).toInt) → Q (some (.int v)) M) : zCall X l 0 0 0 116 [.ref 166, .int a] M Q := by
  have ga := zrg a
  refine zs_in (by decide) mf116 (Nat.le_of_ble_eq_true rfl) ?_
  show zGo X l 0 0 0 116 0 [(0, .ref 166), (1, .int a)] [] M _
  refine zs_iload_n (pc := 0) t116_0 rfl ?_
  by_cases w1 : a.toInt < 0
  · refine zs_if_ltT (pc := 1) t116_1 rfl (by omega) ?_
    refine zs_iconst (pc := 21) t116_21 (v := 0) (by decide) ?_
    exact zs_iret (pc := 22) t116_22 mr116 (by decide) (hQ _ (fun n h1 h2 => absurd h2 (by omega)))
  · refine zs_if_ltF (pc := 1) t116_1 rfl (by omega) ?_
    refine zs_iload_n (pc := 4) t116_4 rfl ?_
    refine zs_aload_n (pc := 5) t116_5 rfl ?_
    have w2 := ib166_0 hI
    refine zs_get (pc := 6) t116_6 (by decide) (zk1 (hs.k fk_zMc_166)) (zfvi rfl rfl) ?_
    by_cases w3 : (zI M 166 0).toInt ≤ a.toInt
    · refine zs_icmp_geT (pc := 9) t116_9 rfl rfl (by omega) ?_
      refine zs_iconst (pc := 21) t116_21 (v := 0) (by decide) ?_
      exact zs_iret (pc := 22) t116_22 mr116 (by decide) (hQ _ (fun n h1 h2 => absurd h2 (by omega)))
    · refine zs_icmp_geF (pc := 9) t116_9 rfl rfl (by omega) ?_
      refine zs_aload_n (pc := 12) t116_12 rfl ?_
      refine zs_get (pc := 13) t116_13 (by decide) (zk1 (hs.k fk_zMc_166)) (hs.p rfl fv_zMc_166_2) ?_
      refine zs_iload_n (pc := 16) t116_16 rfl ?_
      obtain ⟨w4n, w4⟩ : ∃ n : Nat, a.toInt = (n : Int) := ⟨(a.toInt).toNat, by omega⟩
      have w5 := ib168 hI w4n
      refine zs_iald (pc := 17) t116_17 (j := w4n) (by decide) (zk1 (hs.k fk_zMc_168)) (show a.toInt = ((w4n : Nat) : Int) by omega) (zk2 (hs.k fk_zMc_168) (by omega)) rfl ?_
      refine zs_goto (pc := 18) t116_18 ?_
      exact zs_iret (pc := 22) t116_22 mr116 rfl (hQ _ (fun n h1 h2 => by obtain rfl : w4n = n := (by omega); first | rfl | omega))
theorem V115_242 {X : zX} {l : Launch} {M : zM} {Q : Option Value → zM → Prop} {a : Int32} (hs : zSk zMc M) (hI : zIv cLo cHi M) (hQ : ∀ v : Int32, (∀ n : Nat, a.toInt = (n : Int) → (n : Int) < (zI M 242 0).toInt → v.toInt = (zI M 243 n).toInt) → Q (some (.int v)) M) : zCall X l 0 0 0 115 [.ref 242, .int a] M Q := by
  have ga := zrg a
  refine zs_in (by decide) mf115 (Nat.le_of_ble_eq_true rfl) ?_
  show zGo X l 0 0 0 115 0 [(0, .ref 242), (1, .int a)] [] M _
  refine zs_iload_n (pc := 0) t115_0 rfl ?_
  by_cases w1 : a.toInt < 0
  · refine zs_if_ltT (pc := 1) t115_1 rfl (by omega) ?_
    refine zs_iconst (pc := 21) t115_21 (v := 0) (by decide) ?_
    exact zs_iret (pc := 22) t115_22 mr115 (by decide) (hQ _ (fun n h1 h2 => absurd h2 (by omega)))
  · refine zs_if_ltF (pc := 1) t115_1 rfl (by omega) ?_
    refine zs_iload_n (pc := 4) t115_4 rfl ?_
    refine zs_aload_n (pc := 5) t115_5 rfl ?_
    have w2 := ib242_0 hI
    refine zs_get (pc := 6) t115_6 (by decide) (zk1 (hs.k fk_zMc_242)) (zfvi rfl rfl) ?_
    by_cases w3 : (zI M 242 0).toInt ≤ a.toInt
    · refine zs_icmp_geT (pc := 9) t115_9 rfl rfl (by omega) ?_
      refine zs_iconst (pc := 21) t115_21 (v := 0) (by decide) ?_
      exact zs_iret (pc := 22) t115_22 mr115 (by decide) (hQ _ (fun n h1 h2 => absurd h2 (by omega)))
    · refine zs_icmp_geF (pc := 9) t115_9 rfl rfl (by omega) ?_
      refine zs_aload_n (pc := 12) t115_12 rfl ?_
      refine zs_get (pc := 13) t115_13 (by decide) (zk1 (hs.k fk_zMc_242)) (hs.p rfl fv_zMc_242_1) ?_
      refine zs_iload_n (pc := 16) t115_16 rfl ?_
      obtain ⟨w4n, w4⟩ : ∃ n : Nat, a.toInt = (n : Int) := ⟨(a.toInt).toNat, by omega⟩
      have w5 := ib243 hI w4n
      refine zs_iald (pc := 17) t115_17 (j := w4n) (by decide) (zk1 (hs.k fk_zMc_243)) (show a.toInt = ((w4n : Nat) : Int) by omega) (zk2 (hs.k fk_zMc_243) (by omega)) rfl ?_
      refine zs_goto (pc := 18) t115_18 ?_
      exact zs_iret (pc := 22) t115_22 mr115 rfl (hQ _ (fun n h1 h2 => by obtain rfl : w4n = n := (by omega); first | rfl | omega))
theorem V116_242 {X : zX} {l : Launch} {M : zM} {Q : Option Value → zM → Prop} {a : Int32} (hs : zSk zMc M) (hI : zIv cLo cHi M) (hQ : ∀ v : Int32, (∀ n : Nat, a.toInt = (n : Int) → (n : Int) < (zI M 242 0).toInt → v.toInt = (zI M 244 n).toInt) → Q (some (.int v)) M) : zCall X l 0 0 0 116 [.ref 242, .int a] M Q := by
  have ga := zrg a
  refine zs_in (by decide) mf116 (Nat.le_of_ble_eq_true rfl) ?_
  show zGo X l 0 0 0 116 0 [(0, .ref 242), (1, .int a)] [] M _
  refine zs_iload_n (pc := 0) t116_0 rfl ?_
  by_cases w1 : a.toInt < 0
  · refine zs_if_ltT (pc := 1) t116_1 rfl (by omega) ?_
    refine zs_iconst (pc := 21) t116_21 (v := 0) (by decide) ?_
    exact zs_iret (pc := 22) t116_22 mr116 (by decide) (hQ _ (fun n h1 h2 => absurd h2 (by omega)))
  · refine zs_if_ltF (pc := 1) t116_1 rfl (by omega) ?_
    refine zs_iload_n (pc := 4) t116_4 rfl ?_
    refine zs_aload_n (pc := 5) t116_5 rfl ?_
    have w2 := ib242_0 hI
    refine zs_get (pc := 6) t116_6 (by decide) (zk1 (hs.k fk_zMc_242)) (zfvi rfl rfl) ?_
    by_cases w3 : (zI M 242 0).toInt ≤ a.toInt
    · refine zs_icmp_geT (pc := 9) t116_9 rfl rfl (by omega) ?_
      refine zs_iconst (pc := 21) t116_21 (v := 0) (by decide) ?_
      exact zs_iret (pc := 22) t116_22 mr116 (by decide) (hQ _ (fun n h1 h2 => absurd h2 (by omega)))
    · refine zs_icmp_geF (pc := 9) t116_9 rfl rfl (by omega) ?_
      refine zs_aload_n (pc := 12) t116_12 rfl ?_
      refine zs_get (pc := 13) t116_13 (by decide) (zk1 (hs.k fk_zMc_242)) (hs.p rfl fv_zMc_242_2) ?_
      refine zs_iload_n (pc := 16) t116_16 rfl ?_
      obtain ⟨w4n, w4⟩ : ∃ n : Nat, a.toInt = (n : Int) := ⟨(a.toInt).toNat, by omega⟩
      have w5 := ib244 hI w4n
      refine zs_iald (pc := 17) t116_17 (j := w4n) (by decide) (zk1 (hs.k fk_zMc_244)) (show a.toInt = ((w4n : Nat) : Int) by omega) (zk2 (hs.k fk_zMc_244) (by omega)) rfl ?_
      refine zs_goto (pc := 18) t116_18 ?_
      exact zs_iret (pc := 22) t116_22 mr116 rfl (hQ _ (fun n h1 h2 => by obtain rfl : w4n = n := (by omega); first | rfl | omega))
set_option maxHeartbeats 8000000 in
theorem V114_166 {X : zX} {l : Launch} {M : zM} {Q : Option Value → zM → Prop} {a : Int32} (hs : zSk zMc M) (hI : zIv cLo cHi M) {F : Nat → Int} {L : Nat → Bool} {φ : Nat → Nat} {n s : Nat} {k t : Int} (u0 : (zI M 166 10).toInt ≤ 2000000000) (x0 : zWF F) (x1 : zPn M 166 169 170 F) (x2 : zVt M 166 171 172 173 F L n φ) (x3 : zSp M 166 174) (x4 : a.toInt = (s : Int) ∧ (s : Int) < (zI M 166 0).toInt ∧ (zI M 167 s).toInt = k ∧ (zI M 168 s).toInt = t ∧ zIr F k t) (hQ : ∀ M', zSk zMc M' → zIv cLo cHi M' → zFr [(174, 177, none), (166, 166, some 10), (166, 166, some 15), (166, 166, some 17), (166, 166, some 18), (178, 178, none)] M M' → ((zI M' 166 10).toInt = (zI M 166 10).toInt + 1) → (zBx F L k t (zI M' 166 17).toInt (zI M' 166 18).toInt) → (zSp M' 166 174) → Q none M') : zCall X l 1 0 0 114 [.ref 166, .int a] M Q := by
  have ga := zrg a
  refine zs_in (by decide) mf114 (Nat.le_of_ble_eq_true rfl) ?_
  show zGo X l 1 0 0 114 0 [(0, .ref 166), (1, .int a)] [] M _
  obtain ⟨xs, xn, xk, xt, xr⟩ := x4
  have f1 := x0.1
  have f3 := x0.2.2.2
  have xz := xr
  unfold zIr at xz
  have xw := x1.1
  have xm := x2.1
  have xl := x2.2.1
  refine zs_aload_n (pc := 0) t114_0 rfl ?_
  refine zs_iload_n (pc := 1) t114_1 rfl ?_
  refine zs_invV (pc := 2) (k := 166) (as' := [.int a]) (st := []) t114_2 mf115 rfl rfl (Or.inl ⟨by decide, (zk1 (hs.k fk_zMc_166))⟩) ⟨by decide, by decide, Nat.le_of_ble_eq_true rfl, Nat.le_of_ble_eq_true rfl⟩ (V115_166 hs hI ?_) (fun _ _ q => q)
  intro w1v w1x0
  have w1g := zrg w1v
  have w1y : w1v.toInt = k := (w1x0 s (by omega) (by omega)).trans xk
  have w1z : -3 ≤ w1v.toInt ∧ w1v.toInt ≤ 3 := by omega
  show zGo X l 1 0 0 114 5 [(0, .ref 166), (1, .int a)] [.int w1v] M _
  refine zs_iconst (pc := 5) t114_5 (v := 3) (by decide) ?_
  obtain ⟨w2v, w2e, w2⟩ := ziadd (a := w1v) (b := (3 : Int32)) rfl li3 (by omega) (by omega)
  refine zs_iadd (pc := 6) t114_6 (c := w2v) w2e ?_
  refine zs_bipush (pc := 7) t114_7 (v := 8) (by decide) ?_
  obtain ⟨w3v, w3⟩ : ∃ v, w2v * (8 : Int32) = v := ⟨_, rfl⟩
  have w3g : w3v.toInt = (w1v.toInt + 3) * 8 := by rw [← w3]; exact zmulc w2 li8 (by omega) (by omega)
  refine zs_imul (pc := 9) t114_9 (c := w3v) w3 ?_
  refine zs_istore_n (pc := 10) t114_10 (ls' := [(2, .int w3v), (0, .ref 166), (1, .int a)]) (zml mf114 (by decide)) rfl ?_
  refine zs_aload_n (pc := 11) t114_11 rfl ?_
  refine zs_iload_n (pc := 12) t114_12 rfl ?_
  refine zs_invV (pc := 13) (k := 166) (as' := [.int a]) (st := []) t114_13 mf116 rfl rfl (Or.inl ⟨by decide, (zk1 (hs.k fk_zMc_166))⟩) ⟨by decide, by decide, Nat.le_of_ble_eq_true rfl, Nat.le_of_ble_eq_true rfl⟩ (V116_166 hs hI ?_) (fun _ _ q => q)
  intro w4v w4x0
  have w4g := zrg w4v
  have w4y : w4v.toInt = t := (w4x0 s (by omega) (by omega)).trans xt
  have w4z : -20 ≤ w4v.toInt ∧ w4v.toInt ≤ 20 := by omega
  show zGo X l 1 0 0 114 16 [(2, .int w3v), (0, .ref 166), (1, .int a)] [.int w4v] M _
  refine zs_bipush (pc := 16) t114_16 (v := 20) (by decide) ?_
  obtain ⟨w5v, w5e, w5⟩ := ziadd (a := w4v) (b := (20 : Int32)) rfl li20 (by omega) (by omega)
  refine zs_iadd (pc := 18) t114_18 (c := w5v) w5e ?_
  refine zs_bipush (pc := 19) t114_19 (v := 8) (by decide) ?_
  obtain ⟨w6v, w6⟩ : ∃ v, w5v * (8 : Int32) = v := ⟨_, rfl⟩
  have w6g : w6v.toInt = (w4v.toInt + 20) * 8 := by rw [← w6]; exact zmulc w5 li8 (by omega) (by omega)
  refine zs_imul (pc := 21) t114_21 (c := w6v) w6 ?_
  refine zs_istore_n (pc := 22) t114_22 (ls' := [(3, .int w6v), (2, .int w3v), (0, .ref 166), (1, .int a)]) (zml mf114 (by decide)) rfl ?_
  refine zs_aload_n (pc := 23) t114_23 rfl ?_
  refine zs_dup (pc := 24) t114_24 rfl ?_
  have w7 := zrg (zI M 166 10)
  refine zs_get (pc := 25) t114_25 (by decide) (zk1 (hs.k fk_zMc_166)) (zfvi rfl rfl) ?_
  refine zs_iconst (pc := 28) t114_28 (v := 1) (by decide) ?_
  obtain ⟨w8v, w8e, w8⟩ := ziadd (a := (zI M 166 10)) (b := (1 : Int32)) rfl li1 (by omega) (by omega)
  refine zs_iadd (pc := 29) t114_29 (c := w8v) w8e ?_
  have w9 : zIv cLo cHi (zsI M 166 10 w8v) := zIv.put hI (show (-2147483648) ≤ w8v.toInt ∧ w8v.toInt ≤ 2147483647 from zrg w8v)
  refine zs_putI (pc := 30) t114_30 (zk1 (hs.k fk_zMc_166)) rfl ?_
  refine zs_aload_n (pc := 33) t114_33 rfl ?_
  refine zs_iconst (pc := 34) t114_34 (v := 0) (by decide) ?_
  have w10 : zIv cLo cHi (zsI (zsI M 166 10 w8v) 166 15 (0 : Int32)) := zIv.put w9 (show 0 ≤ (0 : Int32).toInt ∧ (0 : Int32).toInt ≤ 60 from ⟨by decide, by decide⟩)
  refine zs_putI (pc := 35) t114_35 (zk1 (hs.k fk_zMc_166)) rfl ?_
  refine zs_aload_n (pc := 38) t114_38 rfl ?_
  refine zs_iconst (pc := 39) t114_39 (v := 0) (by decide) ?_
  have w11 : zIv cLo cHi (zsI (zsI (zsI M 166 10 w8v) 166 15 (0 : Int32)) 166 17 (0 : Int32)) := zIv.put w10 (show (-2147483648) ≤ (0 : Int32).toInt ∧ (0 : Int32).toInt ≤ 2147483647 from zrg (0 : Int32))
  refine zs_putI (pc := 40) t114_40 (zk1 (hs.k fk_zMc_166)) rfl ?_
  refine zs_aload_n (pc := 43) t114_43 rfl ?_
  refine zs_iconst (pc := 44) t114_44 (v := 0) (by decide) ?_
  have w12 : zIv cLo cHi (zsI (zsI (zsI (zsI M 166 10 w8v) 166 15 (0 : Int32)) 166 17 (0 : Int32)) 166 18 (0 : Int32)) := zIv.put w11 (show (-2147483648) ≤ (0 : Int32).toInt ∧ (0 : Int32).toInt ≤ 2147483647 from zrg (0 : Int32))
  refine zs_putI (pc := 45) t114_45 (zk1 (hs.k fk_zMc_166)) rfl ?_
  refine zs_iconst (pc := 48) t114_48 (v := 0) (by decide) ?_
  refine zs_istore (pc := 49) t114_49 (ls' := [(4, .int (0 : Int32)), (3, .int w6v), (2, .int w3v), (0, .ref 166), (1, .int a)]) (zml mf114 (by decide)) rfl ?_
  have w13L : ∀ (m : Nat) (w13x4 : Int32) (w13M : zM), (0 ≤ w13x4.toInt ∧ w13x4.toInt ≤ 60) → zSk zMc w13M → zIv cLo cHi w13M → zFr [(174, 177, none), (166, 166, some 10), (166, 166, some 15), (166, 166, some 17), (166, 166, some 18), (178, 178, none)] (zsI (zsI (zsI (zsI M 166 10 w8v) 166 15 (0 : Int32)) 166 17 (0 : Int32)) 166 18 (0 : Int32)) w13M → (w13x4.toInt ≤ n) → ((zI w13M 166 10).toInt = (zI (zsI (zsI (zsI (zsI M 166 10 w8v) 166 15 (0 : Int32)) 166 17 (0 : Int32)) 166 18 (0 : Int32)) 166 10).toInt) → (∀ i : Nat, (i : Int) = w13x4.toInt → zTl w13M 166 174 175 176 177 F φ i k t) → 60 - w13x4.toInt ≤ (m : Int) → zGo X l 1 0 0 114 51 [(0, .ref 166), (1, .int a), (2, .int w3v), (3, .int w6v), (4, .int w13x4)] [] w13M Q := by
    intro m
    induction m using Nat.strongRecOn with
    | ind w13m w13ih =>
      intro w13x4 w13M w13b4 w13s w13I w13F w13r0 w13r1 w13t0 w13q
      obtain ⟨w14n, w14⟩ : ∃ n : Nat, w13x4.toInt = (n : Int) := ⟨(w13x4.toInt).toNat, by omega⟩
      have hT := w13t0 w14n (by omega)
      have w15 := zrg (zI w13M 166 10)
      have w16 : (zI (zsI (zsI (zsI (zsI M 166 10 w8v) 166 15 (0 : Int32)) 166 17 (0 : Int32)) 166 18 (0 : Int32)) 166 10).toInt = ((zI M 166 10).toInt + 1) := (congrArg Int32.toInt ((zIoj (by decide)).trans ((zIoj (by decide)).trans ((zIoj (by decide)).trans zIs)))).trans w8
      refine zs_iload (pc := 51) t114_51 rfl ?_
      refine zs_aload_n (pc := 53) t114_53 rfl ?_
      have w17 := ib166_6 hI
      refine zs_get (pc := 54) t114_54 (by decide) (zk1 (w13s.k fk_zMc_166)) (zfvi rfl ((w13F 166 6 rfl).trans ((zIoj (by decide)).trans ((zIoj (by decide)).trans ((zIoj (by decide)).trans ((zIoj (by decide)).trans rfl)))))) ?_
      by_cases w18 : (zI M 166 6).toInt ≤ w13x4.toInt
      · refine zs_icmp_geT (pc := 57) t114_57 rfl rfl (by omega) ?_
        have w19 : (zI w13M 166 10).toInt = (zI w13M 166 10).toInt := (congrArg Int32.toInt rfl).trans rfl
        exact zs_vret (pc := 214) t114_214 mr114 (hQ _ w13s w13I ((((((zFr.refl).put rfl).put rfl).put rfl).put rfl).trans (w13F.mono rfl)) (by omega) (by obtain rfl : n = w14n := (by omega); exact hT.2.1.lp x2.lp) hT.2.2)
      · refine zs_icmp_geF (pc := 57) t114_57 rfl rfl (by omega) ?_
        refine zs_aload_n (pc := 60) t114_60 rfl ?_
        refine zs_get (pc := 61) t114_61 (by decide) (zk1 (w13s.k fk_zMc_166)) (w13s.p rfl fv_zMc_166_8) ?_
        refine zs_iload (pc := 64) t114_64 rfl ?_
        have w20 := ib172 hI w14n
        have hv := x2.2.2.1 w14n (by omega)
        have hv1 := hv.1
        have hv4 := hv.2.2.2.1
        have hv5 := hv.2.2.2.2
        have hw := x0.2.2.1 (φ w14n) hv1
        obtain ⟨w21n, w21⟩ : ∃ n : Nat, (zI M 172 w14n).toInt = (n : Int) := ⟨((zI M 172 w14n).toInt).toNat, by omega⟩
        have hx := x0.2.1 w21n (by omega)
        have hb := pLf.b (F := F) (l := w21n) (t := t) (k := k) hx.1 hx.2.1 (by omega) (by omega) (by omega) (by omega)
        refine zs_iald (pc := 66) t114_66 (j := w14n) (by decide) (zk1 (w13s.k fk_zMc_172)) (show w13x4.toInt = ((w14n : Nat) : Int) by omega) (zk2 (w13s.k fk_zMc_172) (by omega)) ((w13F 172 w14n rfl).trans ((zIo (by decide)).trans ((zIo (by decide)).trans ((zIo (by decide)).trans ((zIo (by decide)).trans rfl))))) ?_
        refine zs_istore (pc := 67) t114_67 (ls' := [(5, .int (zI M 172 w14n)), (0, .ref 166), (1, .int a), (2, .int w3v), (3, .int w6v), (4, .int w13x4)]) (zml mf114 (by decide)) rfl ?_
        refine zs_aload_n (pc := 69) t114_69 rfl ?_
        refine zs_get (pc := 70) t114_70 (by decide) (zk1 (w13s.k fk_zMc_166)) (w13s.p rfl fv_zMc_166_9) ?_
        refine zs_iload (pc := 73) t114_73 rfl ?_
        have w22 := zrg (zI M 173 w14n)
        refine zs_iald (pc := 75) t114_75 (j := w14n) (by decide) (zk1 (w13s.k fk_zMc_173)) (show w13x4.toInt = ((w14n : Nat) : Int) by omega) (zk2 (w13s.k fk_zMc_173) (by omega)) ((w13F 173 w14n rfl).trans ((zIo (by decide)).trans ((zIo (by decide)).trans ((zIo (by decide)).trans ((zIo (by decide)).trans rfl))))) ?_
        refine zs_aload_n (pc := 76) t114_76 rfl ?_
        refine zs_get (pc := 77) t114_77 (by decide) (zk1 (w13s.k fk_zMc_166)) (w13s.p rfl fv_zMc_166_3) ?_
        refine zs_iload_n (pc := 80) t114_80 rfl ?_
        refine zs_iload (pc := 81) t114_81 rfl ?_
        obtain ⟨w23v, w23e, w23⟩ := ziadd (a := w3v) (b := (zI M 172 w14n)) w3g rfl (by omega) (by omega)
        refine zs_iadd (pc := 83) t114_83 (c := w23v) w23e ?_
        obtain ⟨w24n, w24⟩ : ∃ n : Nat, w23v.toInt = (n : Int) := ⟨w23v.toInt.toNat, by omega⟩
        have w25 := zrg (zI M 169 w24n)
        have w26 := x1.2.1 w21n w24n k (by omega) (by omega) (by omega) (by omega)
        have w27 : -98802099 ≤ (zI M 169 w24n).toInt ∧ (zI M 169 w24n).toInt ≤ 98802099 := by omega
        refine zs_iald (pc := 84) t114_84 (j := w24n) (by decide) (zk1 (w13s.k fk_zMc_169)) w24 (zk2 (w13s.k fk_zMc_169) (by omega)) ((w13F 169 w24n rfl).trans ((zIo (by decide)).trans ((zIo (by decide)).trans ((zIo (by decide)).trans ((zIo (by decide)).trans rfl))))) ?_
        obtain ⟨w28v, w28e, w28⟩ := zisub (a := (zI M 173 w14n)) (b := (zI M 169 w24n)) rfl rfl (by omega) (by omega)
        refine zs_isub (pc := 85) t114_85 (c := w28v) w28e ?_
        refine zs_aload_n (pc := 86) t114_86 rfl ?_
        refine zs_get (pc := 87) t114_87 (by decide) (zk1 (w13s.k fk_zMc_166)) (w13s.p rfl fv_zMc_166_4) ?_
        refine zs_iload_n (pc := 90) t114_90 rfl ?_
        refine zs_iload (pc := 91) t114_91 rfl ?_
        obtain ⟨w29v, w29e, w29⟩ := ziadd (a := w6v) (b := (zI M 172 w14n)) w6g rfl (by omega) (by omega)
        refine zs_iadd (pc := 93) t114_93 (c := w29v) w29e ?_
        obtain ⟨w30n, w30⟩ : ∃ n : Nat, w29v.toInt = (n : Int) := ⟨w29v.toInt.toNat, by omega⟩
        have w31 := zrg (zI M 170 w30n)
        have w32 := x1.2.2 w21n w30n t (by omega) (by omega) (by omega) (by omega)
        have w33 : -98901 ≤ (zI M 170 w30n).toInt ∧ (zI M 170 w30n).toInt ≤ 98901 := by omega
        refine zs_iald (pc := 94) t114_94 (j := w30n) (by decide) (zk1 (w13s.k fk_zMc_170)) w30 (zk2 (w13s.k fk_zMc_170) (by omega)) ((w13F 170 w30n rfl).trans ((zIo (by decide)).trans ((zIo (by decide)).trans ((zIo (by decide)).trans ((zIo (by decide)).trans rfl))))) ?_
        obtain ⟨w34v, w34e, w34⟩ := zisub (a := w28v) (b := (zI M 170 w30n)) w28 rfl (by omega) (by omega)
        refine zs_isub (pc := 95) t114_95 (c := w34v) w34e ?_
        refine zs_istore (pc := 96) t114_96 (ls' := [(6, .int w34v), (5, .int (zI M 172 w14n)), (0, .ref 166), (1, .int a), (2, .int w3v), (3, .int w6v), (4, .int w13x4)]) (zml mf114 (by decide)) rfl ?_
        refine zs_iload (pc := 98) t114_98 rfl ?_
        refine zs_aload_n (pc := 100) t114_100 rfl ?_
        have w35 := ib166_5 hI
        refine zs_get (pc := 101) t114_101 (by decide) (zk1 (w13s.k fk_zMc_166)) (zfvi rfl ((w13F 166 5 rfl).trans ((zIoj (by decide)).trans ((zIoj (by decide)).trans ((zIoj (by decide)).trans ((zIoj (by decide)).trans rfl)))))) ?_
        have w36 : w34v.toInt = (((zI M 173 w14n).toInt - (zI M 169 w24n).toInt) - (zI M 170 w30n).toInt) := w34
        have w37 : w34v.toInt = (((zI M 173 w14n).toInt - (zI M 169 w24n).toInt) - (zI M 170 w30n).toInt) := w34
        refine zs_invS (pc := 104) (as := [.int w34v, .int (zI M 166 5)]) (st := []) t114_104 (by decide) mf54 rfl rfl ⟨by decide, by decide, Nat.le_of_ble_eq_true rfl, Nat.le_of_ble_eq_true rfl⟩ (X54 w13s w13I ⟨by omega, by omega⟩ ?_) (fun _ _ q => q)
        intro w38v w38x0
        have w38g := zrg w38v
        have hc : w38v.toInt = cel F k t (φ w14n) := by
          rw [w38x0, show w34v.toInt = F (31 + 4 * φ w14n) - pLf F w21n t k by unfold pLf; omega, show (zI M 166 5).toInt = F 7 by omega]
          unfold cel
          rw [show (F (30 + 4 * φ w14n)).toNat = w21n by omega]
        show zGo X l 1 0 0 114 107 [(6, .int w34v), (5, .int (zI M 172 w14n)), (0, .ref 166), (1, .int a), (2, .int w3v), (3, .int w6v), (4, .int w13x4)] [.int w38v] w13M _
        refine zs_istore (pc := 107) t114_107 (ls' := [(7, .int w38v), (6, .int w34v), (5, .int (zI M 172 w14n)), (0, .ref 166), (1, .int a), (2, .int w3v), (3, .int w6v), (4, .int w13x4)]) (zml mf114 (by decide)) rfl ?_
        refine zs_aload_n (pc := 109) t114_109 rfl ?_
        refine zs_iload (pc := 110) t114_110 rfl ?_
        refine zs_invV (pc := 112) (k := 166) (as' := [.int w38v]) (st := []) t114_112 mf117 rfl rfl (Or.inl ⟨by decide, (zk1 (w13s.k fk_zMc_166))⟩) ⟨by decide, by decide, Nat.le_of_ble_eq_true rfl, Nat.le_of_ble_eq_true rfl⟩ (V117_166 w13s w13I hT.1.1 (by have z := hT.1.2.1; omega) ?_) (fun _ _ q => q)
        intro w39M w39v w39s w39I w39F w39x0 w39a w39b
        obtain ⟨w39sl, w39h, hz⟩ := w39x0
        have hk := hT.mask hz
        have hk2 := hk.2
        have hk3 : 0 ≤ (zI w39M 177 w39sl).toInt ∧ (zI w39M 177 w39sl).toInt ≤ 8 := by rw [hk2]; exact vot.rg
        have hr := hT.2.1.rg
        show zGo X l 1 0 0 114 115 [(7, .int w38v), (6, .int w34v), (5, .int (zI M 172 w14n)), (0, .ref 166), (1, .int a), (2, .int w3v), (3, .int w6v), (4, .int w13x4)] [.int w39v] w39M _
        refine zs_istore (pc := 115) t114_115 (ls' := [(8, .int w39v), (7, .int w38v), (6, .int w34v), (5, .int (zI M 172 w14n)), (0, .ref 166), (1, .int a), (2, .int w3v), (3, .int w6v), (4, .int w13x4)]) (zml mf114 (by decide)) rfl ?_
        refine zs_aload_n (pc := 117) t114_117 rfl ?_
        refine zs_get (pc := 118) t114_118 (by decide) (zk1 (w39s.k fk_zMc_166)) (w39s.p rfl fv_zMc_166_13) ?_
        refine zs_iload (pc := 121) t114_121 rfl ?_
        have w40 := zrg (zI w39M 176 w39sl)
        refine zs_iald (pc := 123) t114_123 (j := w39sl) (by decide) (zk1 (w39s.k fk_zMc_176)) (show w39v.toInt = ((w39sl : Nat) : Int) by omega) (zk2 (w39s.k fk_zMc_176) (by omega)) rfl ?_
        refine zs_iconst (pc := 124) t114_124 (v := 1) (by decide) ?_
        refine zs_iload (pc := 125) t114_125 rfl ?_
        obtain ⟨w41v, w41⟩ : ∃ v, (1 : Int32) <<< ((zI M 172 w14n) &&& 31) = v := ⟨_, rfl⟩
        have w41g := zrg w41v
        refine zs_ishl (pc := 127) t114_127 (c := w41v) w41 ?_
        obtain ⟨w42v, w42⟩ : ∃ v, (zI w39M 176 w39sl) &&& w41v = v := ⟨_, rfl⟩
        have w42g := zrg w42v
        refine zs_iand (pc := 128) t114_128 (c := w42v) w42 ?_
        by_cases w43 : w42v.toInt = 0
        · refine zs_if_eqT (pc := 129) t114_129 rfl (by omega) ?_
          refine zs_aload_n (pc := 135) t114_135 rfl ?_
          refine zs_get (pc := 136) t114_136 (by decide) (zk1 (w39s.k fk_zMc_166)) (w39s.p rfl fv_zMc_166_13) ?_
          refine zs_iload (pc := 139) t114_139 rfl ?_
          refine zs_dup2 (pc := 141) t114_141 ⟨rfl, rfl⟩ ?_
          refine zs_iald (pc := 142) t114_142 (j := w39sl) (by decide) (zk1 (w39s.k fk_zMc_176)) (show w39v.toInt = ((w39sl : Nat) : Int) by omega) (zk2 (w39s.k fk_zMc_176) (by omega)) rfl ?_
          refine zs_iconst (pc := 143) t114_143 (v := 1) (by decide) ?_
          refine zs_iload (pc := 144) t114_144 rfl ?_
          obtain ⟨w44v, w44⟩ : ∃ v, (1 : Int32) <<< ((zI M 172 w14n) &&& 31) = v := ⟨_, rfl⟩
          have w44g := zrg w44v
          refine zs_ishl (pc := 146) t114_146 (c := w44v) w44 ?_
          obtain ⟨w45v, w45⟩ : ∃ v, (zI w39M 176 w39sl) ||| w44v = v := ⟨_, rfl⟩
          have w45g := zrg w45v
          refine zs_ior (pc := 147) t114_147 (c := w45v) w45 ?_
          have w46 : zIv cLo cHi (zsI w39M 176 w39sl w45v) := zIv.put w39I (show (-2147483648) ≤ w45v.toInt ∧ w45v.toInt ≤ 2147483647 from zrg w45v)
          refine zs_iast (pc := 148) t114_148 (j := w39sl) (by decide) (zk1 (w39s.k fk_zMc_176)) (show w39v.toInt = ((w39sl : Nat) : Int) by omega) (zk2 (w39s.k fk_zMc_176) (by omega)) ?_
          refine zs_aload_n (pc := 149) t114_149 rfl ?_
          refine zs_get (pc := 150) t114_150 (by decide) (zk1 (w39s.k fk_zMc_166)) (w39s.p rfl fv_zMc_166_14) ?_
          refine zs_iload (pc := 153) t114_153 rfl ?_
          refine zs_dup2 (pc := 155) t114_155 ⟨rfl, rfl⟩ ?_
          have w47 := zrg (zI w39M 177 w39sl)
          refine zs_iald (pc := 156) t114_156 (j := w39sl) (by decide) (zk1 (w39s.k fk_zMc_177)) (show w39v.toInt = ((w39sl : Nat) : Int) by omega) (zk2 (w39s.k fk_zMc_177) (by omega)) ((zIo (by decide)).trans rfl) ?_
          refine zs_iconst (pc := 157) t114_157 (v := 1) (by decide) ?_
          obtain ⟨w48v, w48e, w48⟩ := ziadd (a := (zI w39M 177 w39sl)) (b := (1 : Int32)) rfl li1 (by omega) (by omega)
          refine zs_iadd (pc := 158) t114_158 (c := w48v) w48e ?_
          have w49 : zIv cLo cHi (zsI (zsI w39M 176 w39sl w45v) 177 w39sl w48v) := zIv.put w46 (show (-2147483648) ≤ w48v.toInt ∧ w48v.toInt ≤ 2147483647 from zrg w48v)
          refine zs_iast (pc := 159) t114_159 (j := w39sl) (by decide) (zk1 (w39s.k fk_zMc_177)) (show w39v.toInt = ((w39sl : Nat) : Int) by omega) (zk2 (w39s.k fk_zMc_177) (by omega)) ?_
          refine zs_aload_n (pc := 160) t114_160 rfl ?_
          refine zs_get (pc := 161) t114_161 (by decide) (zk1 (w39s.k fk_zMc_166)) (w39s.p rfl fv_zMc_166_14) ?_
          refine zs_iload (pc := 164) t114_164 rfl ?_
          refine zs_iald (pc := 166) t114_166 (j := w39sl) (by decide) (zk1 (w39s.k fk_zMc_177)) (show w39v.toInt = ((w39sl : Nat) : Int) by omega) (zk2 (w39s.k fk_zMc_177) (by omega)) zIs ?_
          refine zs_istore (pc := 167) t114_167 (ls' := [(9, .int w48v), (8, .int w39v), (7, .int w38v), (6, .int w34v), (5, .int (zI M 172 w14n)), (0, .ref 166), (1, .int a), (2, .int w3v), (3, .int w6v), (4, .int w13x4)]) (zml mf114 (by decide)) rfl ?_
          refine zs_iload (pc := 169) t114_169 rfl ?_
          refine zs_aload_n (pc := 171) t114_171 rfl ?_
          have w50 := zrg (zI w13M 166 17)
          refine zs_get (pc := 172) t114_172 (by decide) (zk1 (w39s.k fk_zMc_166)) (zfvi rfl ((zIo (by decide)).trans ((zIo (by decide)).trans ((w39F 166 17 rfl).trans rfl)))) ?_
          by_cases w51 : (zI w13M 166 17).toInt < ((zI w39M 177 w39sl).toInt + 1)
          · refine zs_icmp_gtT (pc := 175) t114_175 w48 rfl (by omega) ?_
            refine zs_aload_n (pc := 196) t114_196 rfl ?_
            refine zs_iload (pc := 197) t114_197 rfl ?_
            have w52 : zIv cLo cHi (zsI (zsI (zsI w39M 176 w39sl w45v) 177 w39sl w48v) 166 17 w48v) := zIv.put w49 (show (-2147483648) ≤ w48v.toInt ∧ w48v.toInt ≤ 2147483647 from zrg w48v)
            refine zs_putI (pc := 199) t114_199 (zk1 (w39s.k fk_zMc_166)) rfl ?_
            refine zs_aload_n (pc := 202) t114_202 rfl ?_
            refine zs_iload (pc := 203) t114_203 rfl ?_
            have w53 : zIv cLo cHi (zsI (zsI (zsI (zsI w39M 176 w39sl w45v) 177 w39sl w48v) 166 17 w48v) 166 18 w38v) := zIv.put w52 (show (-2147483648) ≤ w38v.toInt ∧ w38v.toInt ≤ 2147483647 from zrg w38v)
            refine zs_putI (pc := 205) t114_205 (zk1 (w39s.k fk_zMc_166)) rfl ?_
            obtain ⟨w54v, w54e, w54⟩ := ziadd (a := w13x4) (b := Int32.ofInt 1) rfl (show (Int32.ofInt 1).toInt = 1 by decide) (by omega) (by omega)
            refine zs_iinc (pc := 208) t114_208 (ls' := [(4, .int w54v), (9, .int w48v), (8, .int w39v), (7, .int w38v), (6, .int w34v), (5, .int (zI M 172 w14n)), (0, .ref 166), (1, .int a), (2, .int w3v), (3, .int w6v)]) (zml mf114 (by decide)) rfl (c := w54v) w54e rfl ?_
            refine zs_goto (pc := 211) t114_211 ?_
            refine zGo.locals (ls' := [(0, .ref 166), (1, .int a), (2, .int w3v), (3, .int w6v), (4, .int w54v)]) (by simp) ?_
            have w55 := w54
            have w56 : (zI (zsI (zsI (zsI (zsI w39M 176 w39sl w45v) 177 w39sl w48v) 166 17 w48v) 166 18 w38v) 166 10).toInt = (zI w13M 166 10).toInt := (congrArg Int32.toInt ((zIoj (by decide)).trans ((zIoj (by decide)).trans ((zIo (by decide)).trans ((zIo (by decide)).trans ((w39F 166 10 rfl).trans rfl)))))).trans rfl
            have w57 : (zI (zsI (zsI (zsI (zsI w39M 176 w39sl w45v) 177 w39sl w48v) 166 17 w48v) 166 18 w38v) 166 17).toInt = ((zI w39M 177 w39sl).toInt + 1) := (congrArg Int32.toInt ((zIoj (by decide)).trans zIs)).trans w48
            have w58 : (zI (zsI (zsI (zsI (zsI w39M 176 w39sl w45v) 177 w39sl w48v) 166 17 w48v) 166 18 w38v) 166 18).toInt = w38v.toInt := (congrArg Int32.toInt zIs).trans rfl
            exact w13ih (w13m - 1) (by omega) w54v (zsI (zsI (zsI (zsI w39M 176 w39sl w45v) 177 w39sl w48v) 166 17 w48v) 166 18 w38v) ⟨by omega, by omega⟩ w39s w53 (((((((zFr.refl).trans (w13F.mono rfl)).trans (w39F.mono rfl)).put rfl).put rfl).put rfl).put rfl) (by omega) (by omega) (fun i hi => by obtain rfl : i = w14n + 1 := (by omega); have hh := hk.1.has (l := (zI M 172 w14n)) (j := w21n) (by omega) (by omega) w41 w42; exact hT.vote hz (by omega) hv1 (by omega) (by omega) (hh.1 (by omega)) ((zIoj (by decide)).trans ((zIoj (by decide)).trans ((zIo (by decide)).trans ((zIo (by decide)).trans rfl)))) (fun j => ((zIo (by decide)).trans ((zIo (by decide)).trans ((zIo (by decide)).trans ((zIo (by decide)).trans rfl))))) (fun j => ((zIo (by decide)).trans ((zIo (by decide)).trans ((zIo (by decide)).trans ((zIo (by decide)).trans rfl))))) (fun j q => ((zIo (by decide)).trans ((zIo (by decide)).trans ((zIo (by decide)).trans ((zIoj q).trans rfl))))) (fun j q => ((zIo (by decide)).trans ((zIo (by decide)).trans ((zIoj q).trans ((zIo (by decide)).trans rfl))))) (fun S hS => by rw [show zI (zsI (zsI (zsI (zsI w39M 176 w39sl w45v) 177 w39sl w48v) 166 17 w48v) 166 18 w38v) 176 w39sl = w45v from (zIo (by decide)).trans ((zIo (by decide)).trans ((zIo (by decide)).trans (zIs)))]; exact hS.add (l := (zI M 172 w14n)) (j := w21n) (by omega) (by omega) w44 w45 (fun _ => rfl)) (congrArg Int32.toInt ((zIo (by decide)).trans ((zIo (by decide)).trans (zIs)))) (by omega) rfl rfl (by omega)) (by omega)
          · refine zs_icmp_gtF (pc := 175) t114_175 w48 rfl (by omega) ?_
            refine zs_iload (pc := 178) t114_178 rfl ?_
            refine zs_aload_n (pc := 180) t114_180 rfl ?_
            refine zs_get (pc := 181) t114_181 (by decide) (zk1 (w39s.k fk_zMc_166)) (zfvi rfl ((zIo (by decide)).trans ((zIo (by decide)).trans ((w39F 166 17 rfl).trans rfl)))) ?_
            by_cases w59 : ((zI w39M 177 w39sl).toInt + 1) ≠ (zI w13M 166 17).toInt
            · refine zs_icmp_neT (pc := 184) t114_184 w48 rfl (by omega) ?_
              obtain ⟨w60v, w60e, w60⟩ := ziadd (a := w13x4) (b := Int32.ofInt 1) rfl (show (Int32.ofInt 1).toInt = 1 by decide) (by omega) (by omega)
              refine zs_iinc (pc := 208) t114_208 (ls' := [(4, .int w60v), (9, .int w48v), (8, .int w39v), (7, .int w38v), (6, .int w34v), (5, .int (zI M 172 w14n)), (0, .ref 166), (1, .int a), (2, .int w3v), (3, .int w6v)]) (zml mf114 (by decide)) rfl (c := w60v) w60e rfl ?_
              refine zs_goto (pc := 211) t114_211 ?_
              refine zGo.locals (ls' := [(0, .ref 166), (1, .int a), (2, .int w3v), (3, .int w6v), (4, .int w60v)]) (by simp) ?_
              have w61 := w60
              have w62 : (zI (zsI (zsI w39M 176 w39sl w45v) 177 w39sl w48v) 166 10).toInt = (zI w13M 166 10).toInt := (congrArg Int32.toInt ((zIo (by decide)).trans ((zIo (by decide)).trans ((w39F 166 10 rfl).trans rfl)))).trans rfl
              have w63 : (zI (zsI (zsI w39M 176 w39sl w45v) 177 w39sl w48v) 166 17).toInt = (zI w13M 166 17).toInt := (congrArg Int32.toInt ((zIo (by decide)).trans ((zIo (by decide)).trans ((w39F 166 17 rfl).trans rfl)))).trans rfl
              have w64 := zrg (zI w13M 166 18)
              have w65 : (zI (zsI (zsI w39M 176 w39sl w45v) 177 w39sl w48v) 166 18).toInt = (zI w13M 166 18).toInt := (congrArg Int32.toInt ((zIo (by decide)).trans ((zIo (by decide)).trans ((w39F 166 18 rfl).trans rfl)))).trans rfl
              exact w13ih (w13m - 1) (by omega) w60v (zsI (zsI w39M 176 w39sl w45v) 177 w39sl w48v) ⟨by omega, by omega⟩ w39s w49 (((((zFr.refl).trans (w13F.mono rfl)).trans (w39F.mono rfl)).put rfl).put rfl) (by omega) (by omega) (fun i hi => by obtain rfl : i = w14n + 1 := (by omega); have hh := hk.1.has (l := (zI M 172 w14n)) (j := w21n) (by omega) (by omega) w41 w42; exact hT.vote hz (by omega) hv1 (by omega) (by omega) (hh.1 (by omega)) ((zIo (by decide)).trans ((zIo (by decide)).trans rfl)) (fun j => ((zIo (by decide)).trans ((zIo (by decide)).trans rfl))) (fun j => ((zIo (by decide)).trans ((zIo (by decide)).trans rfl))) (fun j q => ((zIo (by decide)).trans ((zIoj q).trans rfl))) (fun j q => ((zIoj q).trans ((zIo (by decide)).trans rfl))) (fun S hS => by rw [show zI (zsI (zsI w39M 176 w39sl w45v) 177 w39sl w48v) 176 w39sl = w45v from (zIo (by decide)).trans (zIs)]; exact hS.add (l := (zI M 172 w14n)) (j := w21n) (by omega) (by omega) w44 w45 (fun _ => rfl)) (congrArg Int32.toInt (zIs)) (by omega) rfl rfl (by omega)) (by omega)
            · refine zs_icmp_neF (pc := 184) t114_184 w48 rfl (by omega) ?_
              refine zs_iload (pc := 187) t114_187 rfl ?_
              refine zs_aload_n (pc := 189) t114_189 rfl ?_
              refine zs_get (pc := 190) t114_190 (by decide) (zk1 (w39s.k fk_zMc_166)) (zfvi rfl ((zIo (by decide)).trans ((zIo (by decide)).trans ((w39F 166 18 rfl).trans rfl)))) ?_
              by_cases w66 : (zI w13M 166 18).toInt ≤ w38v.toInt
              · refine zs_icmp_geT (pc := 193) t114_193 rfl rfl (by omega) ?_
                obtain ⟨w67v, w67e, w67⟩ := ziadd (a := w13x4) (b := Int32.ofInt 1) rfl (show (Int32.ofInt 1).toInt = 1 by decide) (by omega) (by omega)
                refine zs_iinc (pc := 208) t114_208 (ls' := [(4, .int w67v), (9, .int w48v), (8, .int w39v), (7, .int w38v), (6, .int w34v), (5, .int (zI M 172 w14n)), (0, .ref 166), (1, .int a), (2, .int w3v), (3, .int w6v)]) (zml mf114 (by decide)) rfl (c := w67v) w67e rfl ?_
                refine zs_goto (pc := 211) t114_211 ?_
                refine zGo.locals (ls' := [(0, .ref 166), (1, .int a), (2, .int w3v), (3, .int w6v), (4, .int w67v)]) (by simp) ?_
                have w68 := w67
                have w69 : (zI (zsI (zsI w39M 176 w39sl w45v) 177 w39sl w48v) 166 10).toInt = (zI w13M 166 10).toInt := (congrArg Int32.toInt ((zIo (by decide)).trans ((zIo (by decide)).trans ((w39F 166 10 rfl).trans rfl)))).trans rfl
                have w70 : (zI (zsI (zsI w39M 176 w39sl w45v) 177 w39sl w48v) 166 17).toInt = (zI w13M 166 17).toInt := (congrArg Int32.toInt ((zIo (by decide)).trans ((zIo (by decide)).trans ((w39F 166 17 rfl).trans rfl)))).trans rfl
                have w71 : (zI (zsI (zsI w39M 176 w39sl w45v) 177 w39sl w48v) 166 18).toInt = (zI w13M 166 18).toInt := (congrArg Int32.toInt ((zIo (by decide)).trans ((zIo (by decide)).trans ((w39F 166 18 rfl).trans rfl)))).trans rfl
                exact w13ih (w13m - 1) (by omega) w67v (zsI (zsI w39M 176 w39sl w45v) 177 w39sl w48v) ⟨by omega, by omega⟩ w39s w49 (((((zFr.refl).trans (w13F.mono rfl)).trans (w39F.mono rfl)).put rfl).put rfl) (by omega) (by omega) (fun i hi => by obtain rfl : i = w14n + 1 := (by omega); have hh := hk.1.has (l := (zI M 172 w14n)) (j := w21n) (by omega) (by omega) w41 w42; exact hT.vote hz (by omega) hv1 (by omega) (by omega) (hh.1 (by omega)) ((zIo (by decide)).trans ((zIo (by decide)).trans rfl)) (fun j => ((zIo (by decide)).trans ((zIo (by decide)).trans rfl))) (fun j => ((zIo (by decide)).trans ((zIo (by decide)).trans rfl))) (fun j q => ((zIo (by decide)).trans ((zIoj q).trans rfl))) (fun j q => ((zIoj q).trans ((zIo (by decide)).trans rfl))) (fun S hS => by rw [show zI (zsI (zsI w39M 176 w39sl w45v) 177 w39sl w48v) 176 w39sl = w45v from (zIo (by decide)).trans (zIs)]; exact hS.add (l := (zI M 172 w14n)) (j := w21n) (by omega) (by omega) w44 w45 (fun _ => rfl)) (congrArg Int32.toInt (zIs)) (by omega) rfl rfl (by omega)) (by omega)
              · refine zs_icmp_geF (pc := 193) t114_193 rfl rfl (by omega) ?_
                refine zs_aload_n (pc := 196) t114_196 rfl ?_
                refine zs_iload (pc := 197) t114_197 rfl ?_
                have w72 : zIv cLo cHi (zsI (zsI (zsI w39M 176 w39sl w45v) 177 w39sl w48v) 166 17 w48v) := zIv.put w49 (show (-2147483648) ≤ w48v.toInt ∧ w48v.toInt ≤ 2147483647 from zrg w48v)
                refine zs_putI (pc := 199) t114_199 (zk1 (w39s.k fk_zMc_166)) rfl ?_
                refine zs_aload_n (pc := 202) t114_202 rfl ?_
                refine zs_iload (pc := 203) t114_203 rfl ?_
                have w73 : zIv cLo cHi (zsI (zsI (zsI (zsI w39M 176 w39sl w45v) 177 w39sl w48v) 166 17 w48v) 166 18 w38v) := zIv.put w72 (show (-2147483648) ≤ w38v.toInt ∧ w38v.toInt ≤ 2147483647 from zrg w38v)
                refine zs_putI (pc := 205) t114_205 (zk1 (w39s.k fk_zMc_166)) rfl ?_
                obtain ⟨w74v, w74e, w74⟩ := ziadd (a := w13x4) (b := Int32.ofInt 1) rfl (show (Int32.ofInt 1).toInt = 1 by decide) (by omega) (by omega)
                refine zs_iinc (pc := 208) t114_208 (ls' := [(4, .int w74v), (9, .int w48v), (8, .int w39v), (7, .int w38v), (6, .int w34v), (5, .int (zI M 172 w14n)), (0, .ref 166), (1, .int a), (2, .int w3v), (3, .int w6v)]) (zml mf114 (by decide)) rfl (c := w74v) w74e rfl ?_
                refine zs_goto (pc := 211) t114_211 ?_
                refine zGo.locals (ls' := [(0, .ref 166), (1, .int a), (2, .int w3v), (3, .int w6v), (4, .int w74v)]) (by simp) ?_
                have w75 := w74
                have w76 : (zI (zsI (zsI (zsI (zsI w39M 176 w39sl w45v) 177 w39sl w48v) 166 17 w48v) 166 18 w38v) 166 10).toInt = (zI w13M 166 10).toInt := (congrArg Int32.toInt ((zIoj (by decide)).trans ((zIoj (by decide)).trans ((zIo (by decide)).trans ((zIo (by decide)).trans ((w39F 166 10 rfl).trans rfl)))))).trans rfl
                have w77 : (zI (zsI (zsI (zsI (zsI w39M 176 w39sl w45v) 177 w39sl w48v) 166 17 w48v) 166 18 w38v) 166 17).toInt = ((zI w39M 177 w39sl).toInt + 1) := (congrArg Int32.toInt ((zIoj (by decide)).trans zIs)).trans w48
                have w78 : (zI (zsI (zsI (zsI (zsI w39M 176 w39sl w45v) 177 w39sl w48v) 166 17 w48v) 166 18 w38v) 166 18).toInt = w38v.toInt := (congrArg Int32.toInt zIs).trans rfl
                exact w13ih (w13m - 1) (by omega) w74v (zsI (zsI (zsI (zsI w39M 176 w39sl w45v) 177 w39sl w48v) 166 17 w48v) 166 18 w38v) ⟨by omega, by omega⟩ w39s w73 (((((((zFr.refl).trans (w13F.mono rfl)).trans (w39F.mono rfl)).put rfl).put rfl).put rfl).put rfl) (by omega) (by omega) (fun i hi => by obtain rfl : i = w14n + 1 := (by omega); have hh := hk.1.has (l := (zI M 172 w14n)) (j := w21n) (by omega) (by omega) w41 w42; exact hT.vote hz (by omega) hv1 (by omega) (by omega) (hh.1 (by omega)) ((zIoj (by decide)).trans ((zIoj (by decide)).trans ((zIo (by decide)).trans ((zIo (by decide)).trans rfl)))) (fun j => ((zIo (by decide)).trans ((zIo (by decide)).trans ((zIo (by decide)).trans ((zIo (by decide)).trans rfl))))) (fun j => ((zIo (by decide)).trans ((zIo (by decide)).trans ((zIo (by decide)).trans ((zIo (by decide)).trans rfl))))) (fun j q => ((zIo (by decide)).trans ((zIo (by decide)).trans ((zIo (by decide)).trans ((zIoj q).trans rfl))))) (fun j q => ((zIo (by decide)).trans ((zIo (by decide)).trans ((zIoj q).trans ((zIo (by decide)).trans rfl))))) (fun S hS => by rw [show zI (zsI (zsI (zsI (zsI w39M 176 w39sl w45v) 177 w39sl w48v) 166 17 w48v) 166 18 w38v) 176 w39sl = w45v from (zIo (by decide)).trans ((zIo (by decide)).trans ((zIo (by decide)).trans (zIs)))]; exact hS.add (l := (zI M 172 w14n)) (j := w21n) (by omega) (by omega) w44 w45 (fun _ => rfl)) (congrArg Int32.toInt ((zIo (by decide)).trans ((zIo (by decide)).trans (zIs)))) (by omega) rfl rfl (by omega)) (by omega)
        · refine zs_if_eqF (pc := 129) t114_129 rfl (by omega) ?_
          refine zs_goto (pc := 132) t114_132 ?_
          obtain ⟨w79v, w79e, w79⟩ := ziadd (a := w13x4) (b := Int32.ofInt 1) rfl (show (Int32.ofInt 1).toInt = 1 by decide) (by omega) (by omega)
          refine zs_iinc (pc := 208) t114_208 (ls' := [(4, .int w79v), (8, .int w39v), (7, .int w38v), (6, .int w34v), (5, .int (zI M 172 w14n)), (0, .ref 166), (1, .int a), (2, .int w3v), (3, .int w6v)]) (zml mf114 (by decide)) rfl (c := w79v) w79e rfl ?_
          refine zs_goto (pc := 211) t114_211 ?_
          refine zGo.locals (ls' := [(0, .ref 166), (1, .int a), (2, .int w3v), (3, .int w6v), (4, .int w79v)]) (by simp) ?_
          have w80 := w79
          have w81 : (zI w39M 166 10).toInt = (zI w13M 166 10).toInt := (congrArg Int32.toInt ((w39F 166 10 rfl).trans rfl)).trans rfl
          exact w13ih (w13m - 1) (by omega) w79v w39M ⟨by omega, by omega⟩ w39s w39I (((zFr.refl).trans (w13F.mono rfl)).trans (w39F.mono rfl)) (by omega) (by omega) (fun i hi => by obtain rfl : i = w14n + 1 := (by omega); have hh := hk.1.has (l := (zI M 172 w14n)) (j := w21n) (by omega) (by omega) w41 w42; exact hT.skip hz (by omega) hv1 (by omega) (hh.2 (by omega)) (w39F 166 17 rfl) (w39F 166 18 rfl)) (by omega)
  refine zGo.locals (ls' := [(0, .ref 166), (1, .int a), (2, .int w3v), (3, .int w6v), (4, .int (0 : Int32))]) (by simp) ?_
  have w82 := li0
  have w83 : (zI (zsI (zsI (zsI (zsI M 166 10 w8v) 166 15 (0 : Int32)) 166 17 (0 : Int32)) 166 18 (0 : Int32)) 166 10).toInt = ((zI M 166 10).toInt + 1) := (congrArg Int32.toInt ((zIoj (by decide)).trans ((zIoj (by decide)).trans ((zIoj (by decide)).trans zIs)))).trans w8
  have w84 : (zI (zsI (zsI (zsI (zsI M 166 10 w8v) 166 15 (0 : Int32)) 166 17 (0 : Int32)) 166 18 (0 : Int32)) 166 17).toInt = 0 := (congrArg Int32.toInt ((zIoj (by decide)).trans zIs)).trans li0
  have w85 : (zI (zsI (zsI (zsI (zsI M 166 10 w8v) 166 15 (0 : Int32)) 166 17 (0 : Int32)) 166 18 (0 : Int32)) 166 10).toInt = ((zI M 166 10).toInt + 1) := (congrArg Int32.toInt ((zIoj (by decide)).trans ((zIoj (by decide)).trans ((zIoj (by decide)).trans zIs)))).trans w8
  exact w13L ((60 - 0 : Int).toNat) (0 : Int32) (zsI (zsI (zsI (zsI M 166 10 w8v) 166 15 (0 : Int32)) 166 17 (0 : Int32)) 166 18 (0 : Int32)) ⟨by decide, by decide⟩ hs w12 zFr.refl (by omega) (by omega) (fun i hi => by obtain rfl : i = 0 := (by omega); exact ⟨zTy.zero rfl (x3.no (fun j => ((zIo (by decide)).trans ((zIo (by decide)).trans ((zIo (by decide)).trans (zIo (by decide)))))) (by omega)), zBx.zero rfl (by omega), x3.up (fun j => ((zIo (by decide)).trans ((zIo (by decide)).trans ((zIo (by decide)).trans (zIo (by decide)))))) (by omega)⟩) (by omega)
