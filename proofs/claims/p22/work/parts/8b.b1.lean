set_option maxHeartbeats 8000000 in
theorem V141 {X : zX} {l : Launch} {M : zM} {Q : Option Value → zM → Prop} {a : Int32} (hs : zSk zMc M) (hI : zIv cLo cHi M) {F : Nat → Int} {n mm : Nat} {τ : Nat → zTkk} (x0 : (zI M 165 2).toInt = (n : Int) ∧ n ≤ 20 ∧ mm ≤ n) (x1 : ∀ q : Nat, q < mm → zDr M F τ q) (x2 : (zI M 164 4).toInt = (mm : Int)) (x3 : zOd M 320 (fun i => sT F (τ i)) mm) (hQ : ∀ M', zSk zMc M' → zIv cLo cHi M' → zFr [(164, 164, some 9), (321, 322, none), (181, 240, none)] M M' → (zVxm M' (zJn (fun i => sT F (τ i)) (zOrd (fun i => sT F (τ i)) mm) a.toInt mm) (zOrd (fun i => sT F (τ i)) mm) mm) → (zT4 M M') → (∀ k j : Nat, zJ M' k j = zJ M k j) → Q none M') : zCall X l 3 0 0 141 [.ref 164, .int a] M Q := by
  have ga := zrg a
  refine zs_in (by decide) mf141 (Nat.le_of_ble_eq_true rfl) ?_
  show zGo X l 3 0 0 141 0 [(0, .ref 164), (1, .int a)] [] M _
  obtain ⟨xn, xn2, xn3⟩ := x0
  refine zs_aload_n (pc := 0) t141_0 rfl ?_
  refine zs_iconst (pc := 1) t141_1 (v := 0) (by decide) ?_
  have w1 : zIv cLo cHi (zsI M 164 9 (0 : Int32)) := zIv.put hI (show 0 ≤ (0 : Int32).toInt ∧ (0 : Int32).toInt ≤ 20 from ⟨by decide, by decide⟩)
  refine zs_putI (pc := 2) t141_2 (zk1 (hs.k fk_zMc_164)) rfl ?_
  refine zs_iconst (pc := 5) t141_5 (v := 0) (by decide) ?_
  refine zs_istore_n (pc := 6) t141_6 (ls' := [(2, .int (0 : Int32)), (0, .ref 164), (1, .int a)]) (zml mf141 (by decide)) rfl ?_
  have w2L : ∀ (m : Nat) (w2x2 : Int32) (w2M : zM), (0 ≤ w2x2.toInt ∧ w2x2.toInt ≤ 20) → zSk zMc w2M → zIv cLo cHi w2M → zFr [(164, 164, some 9), (321, 322, none), (181, 240, none)] (zsI M 164 9 (0 : Int32)) w2M → (w2x2.toInt ≤ mm) → (∀ p : Nat, (p : Int) = w2x2.toInt → zVxm w2M (zJn (fun i => sT F (τ i)) (zOrd (fun i => sT F (τ i)) mm) a.toInt p) (zOrd (fun i => sT F (τ i)) mm) p) → (zT4 M w2M) → (∀ k j : Nat, zJ w2M k j = zJ M k j) → 20 - w2x2.toInt ≤ (m : Int) → zGo X l 3 0 0 141 7 [(0, .ref 164), (1, .int a), (2, .int w2x2)] [] w2M Q := by
    intro m
    induction m using Nat.strongRecOn with
    | ind w2m w2ih =>
      intro w2x2 w2M w2b2 w2s w2I w2F w2r0 w2t0 w2t1 w2t2 w2q
      obtain ⟨w3n, w3⟩ : ∃ n : Nat, w2x2.toInt = (n : Int) := ⟨(w2x2.toInt).toNat, by omega⟩
      have hT := w2t0 w3n (by omega)
      have hz := zJn.rg (st := (fun i => sT F (τ i))) (o := (zOrd (fun i => sT F (τ i)) mm)) (gap := a.toInt) w3n
      have hT1 := hT.1
      refine zs_iload_n (pc := 7) t141_7 rfl ?_
      refine zs_aload_n (pc := 8) t141_8 rfl ?_
      have w4 := ib164_4 hI
      refine zs_get (pc := 9) t141_9 (by decide) (zk1 (w2s.k fk_zMc_164)) (zfvi rfl ((w2F 164 4 rfl).trans ((zIoj (by decide)).trans rfl))) ?_
      by_cases w5 : (zI M 164 4).toInt ≤ w2x2.toInt
      · refine zs_icmp_geT (pc := 12) t141_12 rfl rfl (by omega) ?_
        exact zs_vret (pc := 145) t141_145 mr141 (hQ _ w2s w2I (((zFr.refl).put rfl).trans (w2F.mono rfl)) (w2t0 mm (by omega)) w2t1 w2t2)
      · refine zs_icmp_geF (pc := 12) t141_12 rfl rfl (by omega) ?_
        refine zs_aload_n (pc := 15) t141_15 rfl ?_
        refine zs_aload_n (pc := 16) t141_16 rfl ?_
        refine zs_get (pc := 17) t141_17 (by decide) (zk1 (w2s.k fk_zMc_164)) (w2s.p rfl fv_zMc_164_10) ?_
        refine zs_iload_n (pc := 20) t141_20 rfl ?_
        have w6 := zrg (zI M 320 w3n)
        have w7 := zOrd.lt (st := (fun i => sT F (τ i))) mm w3n (by omega)
        have w8 : (zI M 320 w3n).toInt = ((zOrd (fun i => sT F (τ i)) mm) w3n : Int) := x3 w3n (by omega)
        refine zs_iald (pc := 21) t141_21 (j := w3n) (by decide) (zk1 (w2s.k fk_zMc_320)) (show w2x2.toInt = ((w3n : Nat) : Int) by omega) (zk2 (w2s.k fk_zMc_320) (by omega)) ((w2F 320 w3n rfl).trans ((zIo (by decide)).trans rfl)) ?_
        refine zs_invV (pc := 22) (k := 164) (as' := [.int (zI M 320 w3n)]) (st := []) t141_22 mf138 rfl rfl (Or.inl ⟨by decide, (zk1 (w2s.k fk_zMc_164))⟩) ⟨by decide, by decide, Nat.le_of_ble_eq_true rfl, Nat.le_of_ble_eq_true rfl⟩ (V138 w2s w2I ⟨(congrArg Int32.toInt ((w2F 165 2 rfl).trans (zIo (by decide)))).trans xn, xn2, xn3⟩ (fun q hq => (x1 q hq).fr (fun j => w2t2 _ j) ((w2t1 q (by omega)).1 5 (by decide))) ?_) (fun _ _ q => q)
        intro w9v w9x0
        have w9g := zrg w9v
        have w9y : w9v = sT F (τ ((zOrd (fun i => sT F (τ i)) mm) w3n)) := w9x0 ((zOrd (fun i => sT F (τ i)) mm) w3n) (by omega) (by omega)
        show zGo X l 3 0 0 141 25 [(0, .ref 164), (1, .int a), (2, .int w2x2)] [.int w9v] w2M _
        refine zs_istore_n (pc := 25) t141_25 (ls' := [(3, .int w9v), (0, .ref 164), (1, .int a), (2, .int w2x2)]) (zml mf141 (by decide)) rfl ?_
        refine zs_iload_n (pc := 26) t141_26 rfl ?_
        by_cases w10 : w2x2.toInt = 0
        · refine zs_if_eqT (pc := 27) t141_27 rfl (by omega) ?_
          refine zs_aload_n (pc := 48) t141_48 rfl ?_
          refine zs_get (pc := 49) t141_49 (by decide) (zk1 (w2s.k fk_zMc_164)) (w2s.p rfl fv_zMc_164_11) ?_
          refine zs_aload_n (pc := 52) t141_52 rfl ?_
          have w11 := ib164_9 w2I
          refine zs_get (pc := 53) t141_53 (by decide) (zk1 (w2s.k fk_zMc_164)) (zfvi rfl rfl) ?_
          refine zs_iconst (pc := 56) t141_56 (v := 0) (by decide) ?_
          obtain ⟨w12n, w12⟩ : ∃ n : Nat, (zI w2M 164 9).toInt = (n : Int) := ⟨((zI w2M 164 9).toInt).toNat, by omega⟩
          have w13 : zIv cLo cHi (zsI w2M 321 w12n (0 : Int32)) := zIv.put w2I (show (-2147483648) ≤ (0 : Int32).toInt ∧ (0 : Int32).toInt ≤ 2147483647 from zrg (0 : Int32))
          refine zs_iast (pc := 57) t141_57 (j := w12n) (by decide) (zk1 (w2s.k fk_zMc_321)) (show (zI w2M 164 9).toInt = ((w12n : Nat) : Int) by omega) (zk2 (w2s.k fk_zMc_321) (by omega)) ?_
          refine zs_aload_n (pc := 58) t141_58 rfl ?_
          refine zs_get (pc := 59) t141_59 (by decide) (zk1 (w2s.k fk_zMc_164)) (w2s.p rfl fv_zMc_164_12) ?_
          refine zs_aload_n (pc := 62) t141_62 rfl ?_
          refine zs_get (pc := 63) t141_63 (by decide) (zk1 (w2s.k fk_zMc_164)) (zfvi rfl ((zIo (by decide)).trans rfl)) ?_
          refine zs_iconst (pc := 66) t141_66 (v := 0) (by decide) ?_
          have w14 : zIv cLo cHi (zsI (zsI w2M 321 w12n (0 : Int32)) 322 w12n (0 : Int32)) := zIv.put w13 (show (-2147483648) ≤ (0 : Int32).toInt ∧ (0 : Int32).toInt ≤ 2147483647 from zrg (0 : Int32))
          refine zs_iast (pc := 67) t141_67 (j := w12n) (by decide) (zk1 (w2s.k fk_zMc_322)) (show (zI w2M 164 9).toInt = ((w12n : Nat) : Int) by omega) (zk2 (w2s.k fk_zMc_322) (by omega)) ?_
          refine zs_aload_n (pc := 68) t141_68 rfl ?_
          refine zs_dup (pc := 69) t141_69 rfl ?_
          refine zs_get (pc := 70) t141_70 (by decide) (zk1 (w2s.k fk_zMc_164)) (zfvi rfl ((zIo (by decide)).trans ((zIo (by decide)).trans rfl))) ?_
          refine zs_iconst (pc := 73) t141_73 (v := 1) (by decide) ?_
          obtain ⟨w15v, w15e, w15⟩ := ziadd (a := (zI w2M 164 9)) (b := (1 : Int32)) rfl li1 (by omega) (by omega)
          refine zs_iadd (pc := 74) t141_74 (c := w15v) w15e ?_
          have w16 : zIv cLo cHi (zsI (zsI (zsI w2M 321 w12n (0 : Int32)) 322 w12n (0 : Int32)) 164 9 w15v) := zIv.put w14 (show 0 ≤ w15v.toInt ∧ w15v.toInt ≤ 20 from ⟨by omega, by omega⟩)
          refine zs_putI (pc := 75) t141_75 (zk1 (w2s.k fk_zMc_164)) rfl ?_
          refine zs_aload_n (pc := 78) t141_78 rfl ?_
          refine zs_get (pc := 79) t141_79 (by decide) (zk1 (w2s.k fk_zMc_164)) (w2s.p rfl fv_zMc_164_11) ?_
          refine zs_aload_n (pc := 82) t141_82 rfl ?_
          refine zs_get (pc := 83) t141_83 (by decide) (zk1 (w2s.k fk_zMc_164)) (zfvi rfl zIs) ?_
          refine zs_iconst (pc := 86) t141_86 (v := 1) (by decide) ?_
          obtain ⟨w17v, w17e, w17⟩ := zisub (a := w15v) (b := (1 : Int32)) w15 li1 (by omega) (by omega)
          refine zs_isub (pc := 87) t141_87 (c := w17v) w17e ?_
          refine zs_dup2 (pc := 88) t141_88 ⟨rfl, rfl⟩ ?_
          refine zs_iald (pc := 89) t141_89 (j := w12n) (by decide) (zk1 (w2s.k fk_zMc_321)) (show w17v.toInt = ((w12n : Nat) : Int) by omega) (zk2 (w2s.k fk_zMc_321) (by omega)) ((zIo (by decide)).trans ((zIo (by decide)).trans zIs)) ?_
          refine zs_iconst (pc := 90) t141_90 (v := 1) (by decide) ?_
          refine zs_iadd (pc := 91) t141_91 (c := 1) (by decide) ?_
          have w18 : zIv cLo cHi (zsI (zsI (zsI (zsI w2M 321 w12n (0 : Int32)) 322 w12n (0 : Int32)) 164 9 w15v) 321 w12n (1 : Int32)) := zIv.put w16 (show (-2147483648) ≤ (1 : Int32).toInt ∧ (1 : Int32).toInt ≤ 2147483647 from zrg (1 : Int32))
          refine zs_iast (pc := 92) t141_92 (j := w12n) (by decide) (zk1 (w2s.k fk_zMc_321)) (show w17v.toInt = ((w12n : Nat) : Int) by omega) (zk2 (w2s.k fk_zMc_321) (by omega)) ?_
          refine zs_aload_n (pc := 93) t141_93 rfl ?_
          refine zs_get (pc := 94) t141_94 (by decide) (zk1 (w2s.k fk_zMc_164)) (w2s.p rfl fv_zMc_164_12) ?_
          refine zs_aload_n (pc := 97) t141_97 rfl ?_
          refine zs_get (pc := 98) t141_98 (by decide) (zk1 (w2s.k fk_zMc_164)) (zfvi rfl ((zIo (by decide)).trans zIs)) ?_
          refine zs_iconst (pc := 101) t141_101 (v := 1) (by decide) ?_
          obtain ⟨w19v, w19e, w19⟩ := zisub (a := w15v) (b := (1 : Int32)) w15 li1 (by omega) (by omega)
          refine zs_isub (pc := 102) t141_102 (c := w19v) w19e ?_
          refine zs_dup2 (pc := 103) t141_103 ⟨rfl, rfl⟩ ?_
          refine zs_iald (pc := 104) t141_104 (j := w12n) (by decide) (zk1 (w2s.k fk_zMc_322)) (show w19v.toInt = ((w12n : Nat) : Int) by omega) (zk2 (w2s.k fk_zMc_322) (by omega)) ((zIo (by decide)).trans ((zIo (by decide)).trans zIs)) ?_
          refine zs_iload_n (pc := 105) t141_105 rfl ?_
          obtain ⟨w20v, w20e, w20⟩ := ziadd (a := (0 : Int32)) (b := w9v) li0 rfl (by omega) (by omega)
          refine zs_iadd (pc := 106) t141_106 (c := w20v) w20e ?_
          have w21 : zIv cLo cHi (zsI (zsI (zsI (zsI (zsI w2M 321 w12n (0 : Int32)) 322 w12n (0 : Int32)) 164 9 w15v) 321 w12n (1 : Int32)) 322 w12n w20v) := zIv.put w18 (show (-2147483648) ≤ w20v.toInt ∧ w20v.toInt ≤ 2147483647 from zrg w20v)
          refine zs_iast (pc := 107) t141_107 (j := w12n) (by decide) (zk1 (w2s.k fk_zMc_322)) (show w19v.toInt = ((w12n : Nat) : Int) by omega) (zk2 (w2s.k fk_zMc_322) (by omega)) ?_
          refine zs_aload_n (pc := 108) t141_108 rfl ?_
          refine zs_get (pc := 109) t141_109 (by decide) (zk1 (w2s.k fk_zMc_164)) (w2s.p rfl fv_zMc_164_1) ?_
          refine zs_aload_n (pc := 112) t141_112 rfl ?_
          refine zs_get (pc := 113) t141_113 (by decide) (zk1 (w2s.k fk_zMc_164)) (w2s.p rfl fv_zMc_164_10) ?_
          refine zs_iload_n (pc := 116) t141_116 rfl ?_
          have w22 := zOrd.lt (st := (fun i => sT F (τ i))) mm w3n (by omega)
          have w23 : (zI M 320 w3n).toInt = ((zOrd (fun i => sT F (τ i)) mm) w3n : Int) := x3 w3n (by omega)
          refine zs_iald (pc := 117) t141_117 (j := w3n) (by decide) (zk1 (w2s.k fk_zMc_320)) (show w2x2.toInt = ((w3n : Nat) : Int) by omega) (zk2 (w2s.k fk_zMc_320) (by omega)) ((zIo (by decide)).trans ((zIo (by decide)).trans ((zIo (by decide)).trans ((zIo (by decide)).trans ((zIo (by decide)).trans ((w2F 320 w3n rfl).trans ((zIo (by decide)).trans rfl))))))) ?_
          refine zs_invV (pc := 118) (k := 165) (as' := [.int (zI M 320 w3n)]) (st := []) t141_118 mf126 rfl rfl (Or.inl ⟨by decide, (zk1 (w2s.k fk_zMc_165))⟩) ⟨by decide, by decide, Nat.le_of_ble_eq_true rfl, Nat.le_of_ble_eq_true rfl⟩ (zs_in (by decide) mf126 (Nat.le_of_ble_eq_true rfl) ?_) (fun _ _ q => q)
          show zGo X l 0 0 0 126 0 [(0, .ref 165), (1, .int (zI M 320 w3n))] [] (zsI (zsI (zsI (zsI (zsI w2M 321 w12n (0 : Int32)) 322 w12n (0 : Int32)) 164 9 w15v) 321 w12n (1 : Int32)) 322 w12n w20v) _
          refine zs_iload_n (pc := 0) t126_0 rfl ?_
          by_cases w24 : (zI M 320 w3n).toInt < 0
          · refine zs_if_ltT (pc := 1) t126_1 rfl (by omega) ?_
            refine zs_aconst_null (pc := 21) t126_21 ?_
            refine zs_aret0 (pc := 22) t126_22 (by rw [mr126]; rfl) ?_
            show zGo X l 3 0 0 141 121 [(3, .int w9v), (0, .ref 164), (1, .int a), (2, .int w2x2)] [.null] (zsI (zsI (zsI (zsI (zsI w2M 321 w12n (0 : Int32)) 322 w12n (0 : Int32)) 164 9 w15v) 321 w12n (1 : Int32)) 322 w12n w20v) _
            refine zs_astore0 (pc := 121) t141_121 (ls' := [(4, .null), (3, .int w9v), (0, .ref 164), (1, .int a), (2, .int w2x2)]) (zml mf141 (by decide)) rfl ?_
            refine zs_aload0 (pc := 123) t141_123 rfl ?_
            refine zs_ifnullT (pc := 125) t141_125 ?_
            obtain ⟨w25v, w25e, w25⟩ := ziadd (a := w2x2) (b := Int32.ofInt 1) rfl (show (Int32.ofInt 1).toInt = 1 by decide) (by omega) (by omega)
            refine zs_iinc (pc := 139) t141_139 (ls' := [(2, .int w25v), (4, .null), (3, .int w9v), (0, .ref 164), (1, .int a)]) (zml mf141 (by decide)) rfl (c := w25v) w25e rfl ?_
            refine zs_goto (pc := 142) t141_142 ?_
            refine zGo.locals (ls' := [(0, .ref 164), (1, .int a), (2, .int w25v)]) (by simp) ?_
            have w26 := w25
            exact w2ih (w2m - 1) (by omega) w25v (zsI (zsI (zsI (zsI (zsI w2M 321 w12n (0 : Int32)) 322 w12n (0 : Int32)) 164 9 w15v) 321 w12n (1 : Int32)) 322 w12n w20v) ⟨by omega, by omega⟩ w2s w21 (((((((zFr.refl).trans (w2F.mono rfl)).put rfl).put rfl).put rfl).put rfl).put rfl) (by omega) (by exfalso; omega) (by exfalso; omega) w2t2 (by omega)
          · refine zs_if_ltF (pc := 1) t126_1 rfl (by omega) ?_
            refine zs_iload_n (pc := 4) t126_4 rfl ?_
            refine zs_aload_n (pc := 5) t126_5 rfl ?_
            have w27 := ib165_2 hI
            refine zs_get (pc := 6) t126_6 (by decide) (zk1 (w2s.k fk_zMc_165)) (zfvi rfl ((zIo (by decide)).trans ((zIo (by decide)).trans ((zIo (by decide)).trans ((zIo (by decide)).trans ((zIo (by decide)).trans ((w2F 165 2 rfl).trans ((zIo (by decide)).trans rfl)))))))) ?_
            by_cases w28 : (zI M 165 2).toInt ≤ (zI M 320 w3n).toInt
            · refine zs_icmp_geT (pc := 9) t126_9 rfl rfl (by omega) ?_
              refine zs_aconst_null (pc := 21) t126_21 ?_
              refine zs_aret0 (pc := 22) t126_22 (by rw [mr126]; rfl) ?_
              show zGo X l 3 0 0 141 121 [(3, .int w9v), (0, .ref 164), (1, .int a), (2, .int w2x2)] [.null] (zsI (zsI (zsI (zsI (zsI w2M 321 w12n (0 : Int32)) 322 w12n (0 : Int32)) 164 9 w15v) 321 w12n (1 : Int32)) 322 w12n w20v) _
              refine zs_astore0 (pc := 121) t141_121 (ls' := [(4, .null), (3, .int w9v), (0, .ref 164), (1, .int a), (2, .int w2x2)]) (zml mf141 (by decide)) rfl ?_
              refine zs_aload0 (pc := 123) t141_123 rfl ?_
              refine zs_ifnullT (pc := 125) t141_125 ?_
              obtain ⟨w29v, w29e, w29⟩ := ziadd (a := w2x2) (b := Int32.ofInt 1) rfl (show (Int32.ofInt 1).toInt = 1 by decide) (by omega) (by omega)
              refine zs_iinc (pc := 139) t141_139 (ls' := [(2, .int w29v), (4, .null), (3, .int w9v), (0, .ref 164), (1, .int a)]) (zml mf141 (by decide)) rfl (c := w29v) w29e rfl ?_
              refine zs_goto (pc := 142) t141_142 ?_
              refine zGo.locals (ls' := [(0, .ref 164), (1, .int a), (2, .int w29v)]) (by simp) ?_
              have w30 := w29
              exact w2ih (w2m - 1) (by omega) w29v (zsI (zsI (zsI (zsI (zsI w2M 321 w12n (0 : Int32)) 322 w12n (0 : Int32)) 164 9 w15v) 321 w12n (1 : Int32)) 322 w12n w20v) ⟨by omega, by omega⟩ w2s w21 (((((((zFr.refl).trans (w2F.mono rfl)).put rfl).put rfl).put rfl).put rfl).put rfl) (by omega) (by exfalso; omega) (by exfalso; omega) w2t2 (by omega)
            · refine zs_icmp_geF (pc := 9) t126_9 rfl rfl (by omega) ?_
              refine zs_aload_n (pc := 12) t126_12 rfl ?_
              refine zs_get (pc := 13) t126_13 (by decide) (zk1 (w2s.k fk_zMc_165)) (w2s.p rfl fv_zMc_165_1) ?_
              refine zs_iload_n (pc := 16) t126_16 rfl ?_
              obtain ⟨w31n, w31⟩ : ∃ n : Nat, (zI M 320 w3n).toInt = (n : Int) := ⟨((zI M 320 w3n).toInt).toNat, by omega⟩
              have w32 : w31n < 20 := by omega
              refine zs_aald (pc := 17) t126_17 (j := w31n) (Or.inr (zk1 (w2s.k fk_zMc_179))) (show (zI M 320 w3n).toInt = ((w31n : Nat) : Int) by omega) (zk2 (w2s.k fk_zMc_179) (by omega)) (w2s.a (fpT181 w31n w32)) ?_
              refine zs_goto (pc := 18) t126_18 ?_
              refine zs_aret (pc := 22) t126_22 (by rw [mr126]; rfl) ?_
              show zGo X l 3 0 0 141 121 [(3, .int w9v), (0, .ref 164), (1, .int a), (2, .int w2x2)] [.ref (181 + 3 * w31n)] (zsI (zsI (zsI (zsI (zsI w2M 321 w12n (0 : Int32)) 322 w12n (0 : Int32)) 164 9 w15v) 321 w12n (1 : Int32)) 322 w12n w20v) _
              refine zs_astore (pc := 121) t141_121 (ls' := [(4, .ref (181 + 3 * w31n)), (3, .int w9v), (0, .ref 164), (1, .int a), (2, .int w2x2)]) (zml mf141 (by decide)) rfl ?_
              refine zs_aload (pc := 123) t141_123 rfl ?_
              refine zs_ifnullF (pc := 125) t141_125 ?_
              refine zs_aload (pc := 128) t141_128 rfl ?_
              refine zs_aload_n (pc := 130) t141_130 rfl ?_
              refine zs_get (pc := 131) t141_131 (by decide) (zk1 (w2s.k fk_zMc_164)) (zfvi rfl ((zIo (by decide)).trans ((zIo (by decide)).trans zIs))) ?_
              refine zs_iconst (pc := 134) t141_134 (v := 1) (by decide) ?_
              obtain ⟨w33v, w33e, w33⟩ := zisub (a := w15v) (b := (1 : Int32)) w15 li1 (by omega) (by omega)
              refine zs_isub (pc := 135) t141_135 (c := w33v) w33e ?_
              have w34 : zIv cLo cHi (zsI (zsI (zsI (zsI (zsI (zsI w2M 321 w12n (0 : Int32)) 322 w12n (0 : Int32)) 164 9 w15v) 321 w12n (1 : Int32)) 322 w12n w20v) (181 + 3 * w31n) 4 w33v) := zIv.put w21 (by rw [(cT181_0_4 w31n w32).1, (cT181_0_4 w31n w32).2]; exact zrg w33v)
              refine zs_putI (pc := 136) t141_136 (zk1 (w2s.k (fT181_0 w31n w32))) rfl ?_
              obtain ⟨w35v, w35e, w35⟩ := ziadd (a := w2x2) (b := Int32.ofInt 1) rfl (show (Int32.ofInt 1).toInt = 1 by decide) (by omega) (by omega)
              refine zs_iinc (pc := 139) t141_139 (ls' := [(2, .int w35v), (4, .ref (181 + 3 * w31n)), (3, .int w9v), (0, .ref 164), (1, .int a)]) (zml mf141 (by decide)) rfl (c := w35v) w35e rfl ?_
              refine zs_goto (pc := 142) t141_142 ?_
              refine zGo.locals (ls' := [(0, .ref 164), (1, .int a), (2, .int w35v)]) (by simp) ?_
              have w36 := w35
              have w37 : (1 : Int32).toInt = 1 := li1
              have w38 : w33v.toInt = (((zI w2M 164 9).toInt + 1) - 1) := w33
              exact w2ih (w2m - 1) (by omega) w35v (zsI (zsI (zsI (zsI (zsI (zsI w2M 321 w12n (0 : Int32)) 322 w12n (0 : Int32)) 164 9 w15v) 321 w12n (1 : Int32)) 322 w12n w20v) (181 + 3 * w31n) 4 w33v) ⟨by omega, by omega⟩ w2s w34 ((((((((zFr.refl).trans (w2F.mono rfl)).put rfl).put rfl).put rfl).put rfl).put rfl).put (zinW_r (lo := 181) (hi := 240) (by decide) (by omega) (by omega))) (by omega) (fun p hp => by obtain rfl : p = w3n + 1 := (by omega); have N1 := zVxm.new (V := w12n) (a := (0 : Int32)) (b := (0 : Int32)) (c := w15v) hT (by omega) (fun q hq => by have z := zOrd.lt (st := (fun i => sT F (τ i))) mm q (by omega); omega) (by decide) rfl (by omega); rw [zJn.y (st := (fun i => sT F (τ i))) (o := (zOrd (fun i => sT F (τ i)) mm)) (gap := a.toInt) (p := w3n) (Or.inl (by omega))]; exact N1.add (V := w12n) (V2 := w12n) (x := w31n) (a := (1 : Int32)) (b := w20v) (c := w33v) (st := sT F (τ ((zOrd (fun i => sT F (τ i)) mm) w3n))) (show w12n + 1 = (zJn (fun i => sT F (τ i)) (zOrd (fun i => sT F (τ i)) mm) a.toInt w3n).1 + 1 by omega) (by omega) (fun q hq => by have z := zOrd.lt (st := (fun i => sT F (τ i))) mm q (by omega); omega) (by omega) (by rw [vNew.a (by omega)]; first | decide | omega) (by rw [w20e.symm, w9y, vNew.b (by omega)]) (by omega) (by omega)) ((((((w2t1.out (by decide)).out (by decide)).out (by decide)).out (by decide)).out (by decide)).put) w2t2 (by omega)
        · refine zs_if_eqF (pc := 27) t141_27 rfl (by omega) ?_
          refine zs_iload_n (pc := 30) t141_30 rfl ?_
          refine zs_aload_n (pc := 31) t141_31 rfl ?_
          refine zs_aload_n (pc := 32) t141_32 rfl ?_
          refine zs_get (pc := 33) t141_33 (by decide) (zk1 (w2s.k fk_zMc_164)) (w2s.p rfl fv_zMc_164_10) ?_
          refine zs_iload_n (pc := 36) t141_36 rfl ?_
          refine zs_iconst (pc := 37) t141_37 (v := 1) (by decide) ?_
          obtain ⟨w39v, w39e, w39⟩ := zisub (a := w2x2) (b := (1 : Int32)) rfl li1 (by omega) (by omega)
          refine zs_isub (pc := 38) t141_38 (c := w39v) w39e ?_
          obtain ⟨w40n, w40⟩ : ∃ n : Nat, w39v.toInt = (n : Int) := ⟨w39v.toInt.toNat, by omega⟩
          have w41 := zrg (zI M 320 w40n)
          have w42 := zOrd.lt (st := (fun i => sT F (τ i))) mm w40n (by omega)
          have w43 : (zI M 320 w40n).toInt = ((zOrd (fun i => sT F (τ i)) mm) w40n : Int) := x3 w40n (by omega)
          refine zs_iald (pc := 39) t141_39 (j := w40n) (by decide) (zk1 (w2s.k fk_zMc_320)) w40 (zk2 (w2s.k fk_zMc_320) (by omega)) ((w2F 320 w40n rfl).trans ((zIo (by decide)).trans rfl)) ?_
          refine zs_invV (pc := 40) (k := 164) (as' := [.int (zI M 320 w40n)]) (st := [.int w9v]) t141_40 mf138 rfl rfl (Or.inl ⟨by decide, (zk1 (w2s.k fk_zMc_164))⟩) ⟨by decide, by decide, Nat.le_of_ble_eq_true rfl, Nat.le_of_ble_eq_true rfl⟩ (V138 w2s w2I ⟨(congrArg Int32.toInt ((w2F 165 2 rfl).trans (zIo (by decide)))).trans xn, xn2, xn3⟩ (fun q hq => (x1 q hq).fr (fun j => w2t2 _ j) ((w2t1 q (by omega)).1 5 (by decide))) ?_) (fun _ _ q => q)
          intro w44v w44x0
          have w44g := zrg w44v
          have w44y : w44v = sT F (τ ((zOrd (fun i => sT F (τ i)) mm) (w3n - 1))) := by
            rw [show w3n - 1 = w40n by omega]
            exact w44x0 ((zOrd (fun i => sT F (τ i)) mm) w40n) (by omega) (by omega)
          show zGo X l 3 0 0 141 43 [(3, .int w9v), (0, .ref 164), (1, .int a), (2, .int w2x2)] [.int w44v, .int w9v] w2M _
          obtain ⟨w45v, w45⟩ : ∃ v, v = w9v - w44v := ⟨_, rfl⟩
          have w45g := zrg w45v
          refine zs_isub (pc := 43) t141_43 (c := w45v) w45.symm ?_
          refine zs_iload_n (pc := 44) t141_44 rfl ?_
          by_cases w46 : w45v.toInt ≤ a.toInt
          · refine zs_icmp_leT (pc := 45) t141_45 rfl rfl (by omega) ?_
            refine zs_aload_n (pc := 78) t141_78 rfl ?_
            refine zs_get (pc := 79) t141_79 (by decide) (zk1 (w2s.k fk_zMc_164)) (w2s.p rfl fv_zMc_164_11) ?_
            refine zs_aload_n (pc := 82) t141_82 rfl ?_
            have w47 := ib164_9 w2I
            refine zs_get (pc := 83) t141_83 (by decide) (zk1 (w2s.k fk_zMc_164)) (zfvi rfl rfl) ?_
            refine zs_iconst (pc := 86) t141_86 (v := 1) (by decide) ?_
            obtain ⟨w48v, w48e, w48⟩ := zisub (a := (zI w2M 164 9)) (b := (1 : Int32)) rfl li1 (by omega) (by omega)
            refine zs_isub (pc := 87) t141_87 (c := w48v) w48e ?_
            refine zs_dup2 (pc := 88) t141_88 ⟨rfl, rfl⟩ ?_
            obtain ⟨w49n, w49⟩ : ∃ n : Nat, w48v.toInt = (n : Int) := ⟨w48v.toInt.toNat, by omega⟩
            have w50 := zrg (zI w2M 321 w49n)
            have hr321 := (hT.2.1 w49n (by omega)).1
            refine zs_iald (pc := 89) t141_89 (j := w49n) (by decide) (zk1 (w2s.k fk_zMc_321)) w49 (zk2 (w2s.k fk_zMc_321) (by omega)) rfl ?_
            refine zs_iconst (pc := 90) t141_90 (v := 1) (by decide) ?_
            obtain ⟨w51v, w51⟩ : ∃ v, v = (zI w2M 321 w49n) + (1 : Int32) := ⟨_, rfl⟩
            have w51g := zrg w51v
            refine zs_iadd (pc := 91) t141_91 (c := w51v) w51.symm ?_
            have w52 : zIv cLo cHi (zsI w2M 321 w49n w51v) := zIv.put w2I (show (-2147483648) ≤ w51v.toInt ∧ w51v.toInt ≤ 2147483647 from zrg w51v)
            refine zs_iast (pc := 92) t141_92 (j := w49n) (by decide) (zk1 (w2s.k fk_zMc_321)) w49 (zk2 (w2s.k fk_zMc_321) (by omega)) ?_
            refine zs_aload_n (pc := 93) t141_93 rfl ?_
            refine zs_get (pc := 94) t141_94 (by decide) (zk1 (w2s.k fk_zMc_164)) (w2s.p rfl fv_zMc_164_12) ?_
            refine zs_aload_n (pc := 97) t141_97 rfl ?_
            refine zs_get (pc := 98) t141_98 (by decide) (zk1 (w2s.k fk_zMc_164)) (zfvi rfl ((zIo (by decide)).trans rfl)) ?_
            refine zs_iconst (pc := 101) t141_101 (v := 1) (by decide) ?_
            obtain ⟨w53v, w53e, w53⟩ := zisub (a := (zI w2M 164 9)) (b := (1 : Int32)) rfl li1 (by omega) (by omega)
            refine zs_isub (pc := 102) t141_102 (c := w53v) w53e ?_
            refine zs_dup2 (pc := 103) t141_103 ⟨rfl, rfl⟩ ?_
            obtain ⟨w54n, w54⟩ : ∃ n : Nat, w53v.toInt = (n : Int) := ⟨w53v.toInt.toNat, by omega⟩
            have w55 := zrg (zI w2M 322 w54n)
            have hr322 := (hT.2.1 w54n (by omega)).2
            refine zs_iald (pc := 104) t141_104 (j := w54n) (by decide) (zk1 (w2s.k fk_zMc_322)) w54 (zk2 (w2s.k fk_zMc_322) (by omega)) ((zIo (by decide)).trans rfl) ?_
            refine zs_iload_n (pc := 105) t141_105 rfl ?_
            obtain ⟨w56v, w56⟩ : ∃ v, v = (zI w2M 322 w54n) + w9v := ⟨_, rfl⟩
            have w56g := zrg w56v
            refine zs_iadd (pc := 106) t141_106 (c := w56v) w56.symm ?_
            have w57 : zIv cLo cHi (zsI (zsI w2M 321 w49n w51v) 322 w54n w56v) := zIv.put w52 (show (-2147483648) ≤ w56v.toInt ∧ w56v.toInt ≤ 2147483647 from zrg w56v)
            refine zs_iast (pc := 107) t141_107 (j := w54n) (by decide) (zk1 (w2s.k fk_zMc_322)) w54 (zk2 (w2s.k fk_zMc_322) (by omega)) ?_
            refine zs_aload_n (pc := 108) t141_108 rfl ?_
            refine zs_get (pc := 109) t141_109 (by decide) (zk1 (w2s.k fk_zMc_164)) (w2s.p rfl fv_zMc_164_1) ?_
            refine zs_aload_n (pc := 112) t141_112 rfl ?_
            refine zs_get (pc := 113) t141_113 (by decide) (zk1 (w2s.k fk_zMc_164)) (w2s.p rfl fv_zMc_164_10) ?_
            refine zs_iload_n (pc := 116) t141_116 rfl ?_
            have w58 := zOrd.lt (st := (fun i => sT F (τ i))) mm w3n (by omega)
            have w59 : (zI M 320 w3n).toInt = ((zOrd (fun i => sT F (τ i)) mm) w3n : Int) := x3 w3n (by omega)
            refine zs_iald (pc := 117) t141_117 (j := w3n) (by decide) (zk1 (w2s.k fk_zMc_320)) (show w2x2.toInt = ((w3n : Nat) : Int) by omega) (zk2 (w2s.k fk_zMc_320) (by omega)) ((zIo (by decide)).trans ((zIo (by decide)).trans ((w2F 320 w3n rfl).trans ((zIo (by decide)).trans rfl)))) ?_
            refine zs_invV (pc := 118) (k := 165) (as' := [.int (zI M 320 w3n)]) (st := []) t141_118 mf126 rfl rfl (Or.inl ⟨by decide, (zk1 (w2s.k fk_zMc_165))⟩) ⟨by decide, by decide, Nat.le_of_ble_eq_true rfl, Nat.le_of_ble_eq_true rfl⟩ (zs_in (by decide) mf126 (Nat.le_of_ble_eq_true rfl) ?_) (fun _ _ q => q)
            show zGo X l 0 0 0 126 0 [(0, .ref 165), (1, .int (zI M 320 w3n))] [] (zsI (zsI w2M 321 w49n w51v) 322 w54n w56v) _
            refine zs_iload_n (pc := 0) t126_0 rfl ?_
            by_cases w60 : (zI M 320 w3n).toInt < 0
            · refine zs_if_ltT (pc := 1) t126_1 rfl (by omega) ?_
              refine zs_aconst_null (pc := 21) t126_21 ?_
              refine zs_aret0 (pc := 22) t126_22 (by rw [mr126]; rfl) ?_
              show zGo X l 3 0 0 141 121 [(3, .int w9v), (0, .ref 164), (1, .int a), (2, .int w2x2)] [.null] (zsI (zsI w2M 321 w49n w51v) 322 w54n w56v) _
              refine zs_astore0 (pc := 121) t141_121 (ls' := [(4, .null), (3, .int w9v), (0, .ref 164), (1, .int a), (2, .int w2x2)]) (zml mf141 (by decide)) rfl ?_
              refine zs_aload0 (pc := 123) t141_123 rfl ?_
              refine zs_ifnullT (pc := 125) t141_125 ?_
              obtain ⟨w61v, w61e, w61⟩ := ziadd (a := w2x2) (b := Int32.ofInt 1) rfl (show (Int32.ofInt 1).toInt = 1 by decide) (by omega) (by omega)
              refine zs_iinc (pc := 139) t141_139 (ls' := [(2, .int w61v), (4, .null), (3, .int w9v), (0, .ref 164), (1, .int a)]) (zml mf141 (by decide)) rfl (c := w61v) w61e rfl ?_
              refine zs_goto (pc := 142) t141_142 ?_
              refine zGo.locals (ls' := [(0, .ref 164), (1, .int a), (2, .int w61v)]) (by simp) ?_
              have w62 := w61
              exact w2ih (w2m - 1) (by omega) w61v (zsI (zsI w2M 321 w49n w51v) 322 w54n w56v) ⟨by omega, by omega⟩ w2s w57 ((((zFr.refl).trans (w2F.mono rfl)).put rfl).put rfl) (by omega) (by exfalso; omega) (by exfalso; omega) w2t2 (by omega)
            · refine zs_if_ltF (pc := 1) t126_1 rfl (by omega) ?_
              refine zs_iload_n (pc := 4) t126_4 rfl ?_
              refine zs_aload_n (pc := 5) t126_5 rfl ?_
              refine zs_get (pc := 6) t126_6 (by decide) (zk1 (w2s.k fk_zMc_165)) (zfvi rfl ((zIo (by decide)).trans ((zIo (by decide)).trans ((w2F 165 2 rfl).trans ((zIo (by decide)).trans rfl))))) ?_
              by_cases w63 : (zI M 165 2).toInt ≤ (zI M 320 w3n).toInt
              · refine zs_icmp_geT (pc := 9) t126_9 rfl rfl (by omega) ?_
                refine zs_aconst_null (pc := 21) t126_21 ?_
                refine zs_aret0 (pc := 22) t126_22 (by rw [mr126]; rfl) ?_
                show zGo X l 3 0 0 141 121 [(3, .int w9v), (0, .ref 164), (1, .int a), (2, .int w2x2)] [.null] (zsI (zsI w2M 321 w49n w51v) 322 w54n w56v) _
                refine zs_astore0 (pc := 121) t141_121 (ls' := [(4, .null), (3, .int w9v), (0, .ref 164), (1, .int a), (2, .int w2x2)]) (zml mf141 (by decide)) rfl ?_
                refine zs_aload0 (pc := 123) t141_123 rfl ?_
                refine zs_ifnullT (pc := 125) t141_125 ?_
                obtain ⟨w64v, w64e, w64⟩ := ziadd (a := w2x2) (b := Int32.ofInt 1) rfl (show (Int32.ofInt 1).toInt = 1 by decide) (by omega) (by omega)
                refine zs_iinc (pc := 139) t141_139 (ls' := [(2, .int w64v), (4, .null), (3, .int w9v), (0, .ref 164), (1, .int a)]) (zml mf141 (by decide)) rfl (c := w64v) w64e rfl ?_
                refine zs_goto (pc := 142) t141_142 ?_
                refine zGo.locals (ls' := [(0, .ref 164), (1, .int a), (2, .int w64v)]) (by simp) ?_
                have w65 := w64
                exact w2ih (w2m - 1) (by omega) w64v (zsI (zsI w2M 321 w49n w51v) 322 w54n w56v) ⟨by omega, by omega⟩ w2s w57 ((((zFr.refl).trans (w2F.mono rfl)).put rfl).put rfl) (by omega) (by exfalso; omega) (by exfalso; omega) w2t2 (by omega)
              · refine zs_icmp_geF (pc := 9) t126_9 rfl rfl (by omega) ?_
                refine zs_aload_n (pc := 12) t126_12 rfl ?_
                refine zs_get (pc := 13) t126_13 (by decide) (zk1 (w2s.k fk_zMc_165)) (w2s.p rfl fv_zMc_165_1) ?_
                refine zs_iload_n (pc := 16) t126_16 rfl ?_
                obtain ⟨w66n, w66⟩ : ∃ n : Nat, (zI M 320 w3n).toInt = (n : Int) := ⟨((zI M 320 w3n).toInt).toNat, by omega⟩
                have w67 : w66n < 20 := by omega
                refine zs_aald (pc := 17) t126_17 (j := w66n) (Or.inr (zk1 (w2s.k fk_zMc_179))) (show (zI M 320 w3n).toInt = ((w66n : Nat) : Int) by omega) (zk2 (w2s.k fk_zMc_179) (by omega)) (w2s.a (fpT181 w66n w67)) ?_
                refine zs_goto (pc := 18) t126_18 ?_
                refine zs_aret (pc := 22) t126_22 (by rw [mr126]; rfl) ?_
                show zGo X l 3 0 0 141 121 [(3, .int w9v), (0, .ref 164), (1, .int a), (2, .int w2x2)] [.ref (181 + 3 * w66n)] (zsI (zsI w2M 321 w49n w51v) 322 w54n w56v) _
                refine zs_astore (pc := 121) t141_121 (ls' := [(4, .ref (181 + 3 * w66n)), (3, .int w9v), (0, .ref 164), (1, .int a), (2, .int w2x2)]) (zml mf141 (by decide)) rfl ?_
                refine zs_aload (pc := 123) t141_123 rfl ?_
                refine zs_ifnullF (pc := 125) t141_125 ?_
                refine zs_aload (pc := 128) t141_128 rfl ?_
                refine zs_aload_n (pc := 130) t141_130 rfl ?_
                refine zs_get (pc := 131) t141_131 (by decide) (zk1 (w2s.k fk_zMc_164)) (zfvi rfl ((zIo (by decide)).trans ((zIo (by decide)).trans rfl))) ?_
                refine zs_iconst (pc := 134) t141_134 (v := 1) (by decide) ?_
                obtain ⟨w68v, w68e, w68⟩ := zisub (a := (zI w2M 164 9)) (b := (1 : Int32)) rfl li1 (by omega) (by omega)
                refine zs_isub (pc := 135) t141_135 (c := w68v) w68e ?_
                have w69 : zIv cLo cHi (zsI (zsI (zsI w2M 321 w49n w51v) 322 w54n w56v) (181 + 3 * w66n) 4 w68v) := zIv.put w57 (by rw [(cT181_0_4 w66n w67).1, (cT181_0_4 w66n w67).2]; exact zrg w68v)
                refine zs_putI (pc := 136) t141_136 (zk1 (w2s.k (fT181_0 w66n w67))) rfl ?_
                obtain ⟨w70v, w70e, w70⟩ := ziadd (a := w2x2) (b := Int32.ofInt 1) rfl (show (Int32.ofInt 1).toInt = 1 by decide) (by omega) (by omega)
                refine zs_iinc (pc := 139) t141_139 (ls' := [(2, .int w70v), (4, .ref (181 + 3 * w66n)), (3, .int w9v), (0, .ref 164), (1, .int a)]) (zml mf141 (by decide)) rfl (c := w70v) w70e rfl ?_
                refine zs_goto (pc := 142) t141_142 ?_
                refine zGo.locals (ls' := [(0, .ref 164), (1, .int a), (2, .int w70v)]) (by simp) ?_
                have w71 := w70
                have w72 : w68v.toInt = ((zI w2M 164 9).toInt - 1) := w68
                have hcn := zJn.c (st := (fun i => sT F (τ i))) (o := (zOrd (fun i => sT F (τ i)) mm)) (gap := a.toInt) w3n w49n
                obtain ⟨cv, ce, ct⟩ := ziadd (a := (zI w2M 321 w49n)) (b := (1 : Int32)) hr321 li1 (by omega) (by omega)
                exact w2ih (w2m - 1) (by omega) w70v (zsI (zsI (zsI w2M 321 w49n w51v) 322 w54n w56v) (181 + 3 * w66n) 4 w68v) ⟨by omega, by omega⟩ w2s w69 (((((zFr.refl).trans (w2F.mono rfl)).put rfl).put rfl).put (zinW_r (lo := 181) (hi := 240) (by decide) (by omega) (by omega))) (by omega) (fun p hp => by obtain rfl : p = w3n + 1 := (by omega); rw [zJn.n (st := (fun i => sT F (τ i))) (o := (zOrd (fun i => sT F (τ i)) mm)) (gap := a.toInt) (p := w3n) (fun c => c.elim (fun c => by omega) (fun c => by have c : a.toInt < (sT F (τ ((zOrd (fun i => sT F (τ i)) mm) w3n)) - sT F (τ ((zOrd (fun i => sT F (τ i)) mm) (w3n - 1)))).toInt := c; rw [← w9y, ← w44y, ← w45] at c; omega))]; exact hT.add (V := w49n) (V2 := w54n) (x := w66n) (a := w51v) (b := w56v) (c := w68v) (st := sT F (τ ((zOrd (fun i => sT F (τ i)) mm) w3n))) (by omega) (by omega) (fun q hq => by have z := zOrd.lt (st := (fun i => sT F (τ i))) mm q (by omega); omega) (by omega) (by rw [w51, ce, ct]) (by rw [w56, w9y, hr322]) (by omega) (by omega)) (((w2t1.out (by decide)).out (by decide)).put) w2t2 (by omega)
          · refine zs_icmp_leF (pc := 45) t141_45 rfl rfl (by omega) ?_
            refine zs_aload_n (pc := 48) t141_48 rfl ?_
            refine zs_get (pc := 49) t141_49 (by decide) (zk1 (w2s.k fk_zMc_164)) (w2s.p rfl fv_zMc_164_11) ?_
            refine zs_aload_n (pc := 52) t141_52 rfl ?_
            have w73 := ib164_9 w2I
            refine zs_get (pc := 53) t141_53 (by decide) (zk1 (w2s.k fk_zMc_164)) (zfvi rfl rfl) ?_
            refine zs_iconst (pc := 56) t141_56 (v := 0) (by decide) ?_
            obtain ⟨w74n, w74⟩ : ∃ n : Nat, (zI w2M 164 9).toInt = (n : Int) := ⟨((zI w2M 164 9).toInt).toNat, by omega⟩
            have w75 : zIv cLo cHi (zsI w2M 321 w74n (0 : Int32)) := zIv.put w2I (show (-2147483648) ≤ (0 : Int32).toInt ∧ (0 : Int32).toInt ≤ 2147483647 from zrg (0 : Int32))
            refine zs_iast (pc := 57) t141_57 (j := w74n) (by decide) (zk1 (w2s.k fk_zMc_321)) (show (zI w2M 164 9).toInt = ((w74n : Nat) : Int) by omega) (zk2 (w2s.k fk_zMc_321) (by omega)) ?_
            refine zs_aload_n (pc := 58) t141_58 rfl ?_
            refine zs_get (pc := 59) t141_59 (by decide) (zk1 (w2s.k fk_zMc_164)) (w2s.p rfl fv_zMc_164_12) ?_
            refine zs_aload_n (pc := 62) t141_62 rfl ?_
            refine zs_get (pc := 63) t141_63 (by decide) (zk1 (w2s.k fk_zMc_164)) (zfvi rfl ((zIo (by decide)).trans rfl)) ?_
            refine zs_iconst (pc := 66) t141_66 (v := 0) (by decide) ?_
            have w76 : zIv cLo cHi (zsI (zsI w2M 321 w74n (0 : Int32)) 322 w74n (0 : Int32)) := zIv.put w75 (show (-2147483648) ≤ (0 : Int32).toInt ∧ (0 : Int32).toInt ≤ 2147483647 from zrg (0 : Int32))
            refine zs_iast (pc := 67) t141_67 (j := w74n) (by decide) (zk1 (w2s.k fk_zMc_322)) (show (zI w2M 164 9).toInt = ((w74n : Nat) : Int) by omega) (zk2 (w2s.k fk_zMc_322) (by omega)) ?_
            refine zs_aload_n (pc := 68) t141_68 rfl ?_
            refine zs_dup (pc := 69) t141_69 rfl ?_
            refine zs_get (pc := 70) t141_70 (by decide) (zk1 (w2s.k fk_zMc_164)) (zfvi rfl ((zIo (by decide)).trans ((zIo (by decide)).trans rfl))) ?_
            refine zs_iconst (pc := 73) t141_73 (v := 1) (by decide) ?_
            obtain ⟨w77v, w77e, w77⟩ := ziadd (a := (zI w2M 164 9)) (b := (1 : Int32)) rfl li1 (by omega) (by omega)
            refine zs_iadd (pc := 74) t141_74 (c := w77v) w77e ?_
            have w78 : zIv cLo cHi (zsI (zsI (zsI w2M 321 w74n (0 : Int32)) 322 w74n (0 : Int32)) 164 9 w77v) := zIv.put w76 (show 0 ≤ w77v.toInt ∧ w77v.toInt ≤ 20 from ⟨by omega, by omega⟩)
            refine zs_putI (pc := 75) t141_75 (zk1 (w2s.k fk_zMc_164)) rfl ?_
            refine zs_aload_n (pc := 78) t141_78 rfl ?_
            refine zs_get (pc := 79) t141_79 (by decide) (zk1 (w2s.k fk_zMc_164)) (w2s.p rfl fv_zMc_164_11) ?_
            refine zs_aload_n (pc := 82) t141_82 rfl ?_
            refine zs_get (pc := 83) t141_83 (by decide) (zk1 (w2s.k fk_zMc_164)) (zfvi rfl zIs) ?_
            refine zs_iconst (pc := 86) t141_86 (v := 1) (by decide) ?_
            obtain ⟨w79v, w79e, w79⟩ := zisub (a := w77v) (b := (1 : Int32)) w77 li1 (by omega) (by omega)
            refine zs_isub (pc := 87) t141_87 (c := w79v) w79e ?_
            refine zs_dup2 (pc := 88) t141_88 ⟨rfl, rfl⟩ ?_
            refine zs_iald (pc := 89) t141_89 (j := w74n) (by decide) (zk1 (w2s.k fk_zMc_321)) (show w79v.toInt = ((w74n : Nat) : Int) by omega) (zk2 (w2s.k fk_zMc_321) (by omega)) ((zIo (by decide)).trans ((zIo (by decide)).trans zIs)) ?_
            refine zs_iconst (pc := 90) t141_90 (v := 1) (by decide) ?_
            refine zs_iadd (pc := 91) t141_91 (c := 1) (by decide) ?_
            have w80 : zIv cLo cHi (zsI (zsI (zsI (zsI w2M 321 w74n (0 : Int32)) 322 w74n (0 : Int32)) 164 9 w77v) 321 w74n (1 : Int32)) := zIv.put w78 (show (-2147483648) ≤ (1 : Int32).toInt ∧ (1 : Int32).toInt ≤ 2147483647 from zrg (1 : Int32))
            refine zs_iast (pc := 92) t141_92 (j := w74n) (by decide) (zk1 (w2s.k fk_zMc_321)) (show w79v.toInt = ((w74n : Nat) : Int) by omega) (zk2 (w2s.k fk_zMc_321) (by omega)) ?_
            refine zs_aload_n (pc := 93) t141_93 rfl ?_
            refine zs_get (pc := 94) t141_94 (by decide) (zk1 (w2s.k fk_zMc_164)) (w2s.p rfl fv_zMc_164_12) ?_
            refine zs_aload_n (pc := 97) t141_97 rfl ?_
            refine zs_get (pc := 98) t141_98 (by decide) (zk1 (w2s.k fk_zMc_164)) (zfvi rfl ((zIo (by decide)).trans zIs)) ?_
            refine zs_iconst (pc := 101) t141_101 (v := 1) (by decide) ?_
            obtain ⟨w81v, w81e, w81⟩ := zisub (a := w77v) (b := (1 : Int32)) w77 li1 (by omega) (by omega)
            refine zs_isub (pc := 102) t141_102 (c := w81v) w81e ?_
            refine zs_dup2 (pc := 103) t141_103 ⟨rfl, rfl⟩ ?_
            refine zs_iald (pc := 104) t141_104 (j := w74n) (by decide) (zk1 (w2s.k fk_zMc_322)) (show w81v.toInt = ((w74n : Nat) : Int) by omega) (zk2 (w2s.k fk_zMc_322) (by omega)) ((zIo (by decide)).trans ((zIo (by decide)).trans zIs)) ?_
            refine zs_iload_n (pc := 105) t141_105 rfl ?_
            obtain ⟨w82v, w82e, w82⟩ := ziadd (a := (0 : Int32)) (b := w9v) li0 rfl (by omega) (by omega)
            refine zs_iadd (pc := 106) t141_106 (c := w82v) w82e ?_
            have w83 : zIv cLo cHi (zsI (zsI (zsI (zsI (zsI w2M 321 w74n (0 : Int32)) 322 w74n (0 : Int32)) 164 9 w77v) 321 w74n (1 : Int32)) 322 w74n w82v) := zIv.put w80 (show (-2147483648) ≤ w82v.toInt ∧ w82v.toInt ≤ 2147483647 from zrg w82v)
            refine zs_iast (pc := 107) t141_107 (j := w74n) (by decide) (zk1 (w2s.k fk_zMc_322)) (show w81v.toInt = ((w74n : Nat) : Int) by omega) (zk2 (w2s.k fk_zMc_322) (by omega)) ?_
            refine zs_aload_n (pc := 108) t141_108 rfl ?_
            refine zs_get (pc := 109) t141_109 (by decide) (zk1 (w2s.k fk_zMc_164)) (w2s.p rfl fv_zMc_164_1) ?_
            refine zs_aload_n (pc := 112) t141_112 rfl ?_
            refine zs_get (pc := 113) t141_113 (by decide) (zk1 (w2s.k fk_zMc_164)) (w2s.p rfl fv_zMc_164_10) ?_
            refine zs_iload_n (pc := 116) t141_116 rfl ?_
            have w84 := zOrd.lt (st := (fun i => sT F (τ i))) mm w3n (by omega)
            have w85 : (zI M 320 w3n).toInt = ((zOrd (fun i => sT F (τ i)) mm) w3n : Int) := x3 w3n (by omega)
            refine zs_iald (pc := 117) t141_117 (j := w3n) (by decide) (zk1 (w2s.k fk_zMc_320)) (show w2x2.toInt = ((w3n : Nat) : Int) by omega) (zk2 (w2s.k fk_zMc_320) (by omega)) ((zIo (by decide)).trans ((zIo (by decide)).trans ((zIo (by decide)).trans ((zIo (by decide)).trans ((zIo (by decide)).trans ((w2F 320 w3n rfl).trans ((zIo (by decide)).trans rfl))))))) ?_
            refine zs_invV (pc := 118) (k := 165) (as' := [.int (zI M 320 w3n)]) (st := []) t141_118 mf126 rfl rfl (Or.inl ⟨by decide, (zk1 (w2s.k fk_zMc_165))⟩) ⟨by decide, by decide, Nat.le_of_ble_eq_true rfl, Nat.le_of_ble_eq_true rfl⟩ (zs_in (by decide) mf126 (Nat.le_of_ble_eq_true rfl) ?_) (fun _ _ q => q)
            show zGo X l 0 0 0 126 0 [(0, .ref 165), (1, .int (zI M 320 w3n))] [] (zsI (zsI (zsI (zsI (zsI w2M 321 w74n (0 : Int32)) 322 w74n (0 : Int32)) 164 9 w77v) 321 w74n (1 : Int32)) 322 w74n w82v) _
            refine zs_iload_n (pc := 0) t126_0 rfl ?_
            by_cases w86 : (zI M 320 w3n).toInt < 0
            · refine zs_if_ltT (pc := 1) t126_1 rfl (by omega) ?_
              refine zs_aconst_null (pc := 21) t126_21 ?_
              refine zs_aret0 (pc := 22) t126_22 (by rw [mr126]; rfl) ?_
              show zGo X l 3 0 0 141 121 [(3, .int w9v), (0, .ref 164), (1, .int a), (2, .int w2x2)] [.null] (zsI (zsI (zsI (zsI (zsI w2M 321 w74n (0 : Int32)) 322 w74n (0 : Int32)) 164 9 w77v) 321 w74n (1 : Int32)) 322 w74n w82v) _
              refine zs_astore0 (pc := 121) t141_121 (ls' := [(4, .null), (3, .int w9v), (0, .ref 164), (1, .int a), (2, .int w2x2)]) (zml mf141 (by decide)) rfl ?_
              refine zs_aload0 (pc := 123) t141_123 rfl ?_
              refine zs_ifnullT (pc := 125) t141_125 ?_
              obtain ⟨w87v, w87e, w87⟩ := ziadd (a := w2x2) (b := Int32.ofInt 1) rfl (show (Int32.ofInt 1).toInt = 1 by decide) (by omega) (by omega)
              refine zs_iinc (pc := 139) t141_139 (ls' := [(2, .int w87v), (4, .null), (3, .int w9v), (0, .ref 164), (1, .int a)]) (zml mf141 (by decide)) rfl (c := w87v) w87e rfl ?_
              refine zs_goto (pc := 142) t141_142 ?_
              refine zGo.locals (ls' := [(0, .ref 164), (1, .int a), (2, .int w87v)]) (by simp) ?_
              have w88 := w87
              exact w2ih (w2m - 1) (by omega) w87v (zsI (zsI (zsI (zsI (zsI w2M 321 w74n (0 : Int32)) 322 w74n (0 : Int32)) 164 9 w77v) 321 w74n (1 : Int32)) 322 w74n w82v) ⟨by omega, by omega⟩ w2s w83 (((((((zFr.refl).trans (w2F.mono rfl)).put rfl).put rfl).put rfl).put rfl).put rfl) (by omega) (by exfalso; omega) (by exfalso; omega) w2t2 (by omega)
            · refine zs_if_ltF (pc := 1) t126_1 rfl (by omega) ?_
              refine zs_iload_n (pc := 4) t126_4 rfl ?_
              refine zs_aload_n (pc := 5) t126_5 rfl ?_
              refine zs_get (pc := 6) t126_6 (by decide) (zk1 (w2s.k fk_zMc_165)) (zfvi rfl ((zIo (by decide)).trans ((zIo (by decide)).trans ((zIo (by decide)).trans ((zIo (by decide)).trans ((zIo (by decide)).trans ((w2F 165 2 rfl).trans ((zIo (by decide)).trans rfl)))))))) ?_
              by_cases w89 : (zI M 165 2).toInt ≤ (zI M 320 w3n).toInt
              · refine zs_icmp_geT (pc := 9) t126_9 rfl rfl (by omega) ?_
                refine zs_aconst_null (pc := 21) t126_21 ?_
                refine zs_aret0 (pc := 22) t126_22 (by rw [mr126]; rfl) ?_
                show zGo X l 3 0 0 141 121 [(3, .int w9v), (0, .ref 164), (1, .int a), (2, .int w2x2)] [.null] (zsI (zsI (zsI (zsI (zsI w2M 321 w74n (0 : Int32)) 322 w74n (0 : Int32)) 164 9 w77v) 321 w74n (1 : Int32)) 322 w74n w82v) _
                refine zs_astore0 (pc := 121) t141_121 (ls' := [(4, .null), (3, .int w9v), (0, .ref 164), (1, .int a), (2, .int w2x2)]) (zml mf141 (by decide)) rfl ?_
                refine zs_aload0 (pc := 123) t141_123 rfl ?_
                refine zs_ifnullT (pc := 125) t141_125 ?_
                obtain ⟨w90v, w90e, w90⟩ := ziadd (a := w2x2) (b := Int32.ofInt 1) rfl (show (Int32.ofInt 1).toInt = 1 by decide) (by omega) (by omega)
                refine zs_iinc (pc := 139) t141_139 (ls' := [(2, .int w90v), (4, .null), (3, .int w9v), (0, .ref 164), (1, .int a)]) (zml mf141 (by decide)) rfl (c := w90v) w90e rfl ?_
                refine zs_goto (pc := 142) t141_142 ?_
                refine zGo.locals (ls' := [(0, .ref 164), (1, .int a), (2, .int w90v)]) (by simp) ?_
                have w91 := w90
                exact w2ih (w2m - 1) (by omega) w90v (zsI (zsI (zsI (zsI (zsI w2M 321 w74n (0 : Int32)) 322 w74n (0 : Int32)) 164 9 w77v) 321 w74n (1 : Int32)) 322 w74n w82v) ⟨by omega, by omega⟩ w2s w83 (((((((zFr.refl).trans (w2F.mono rfl)).put rfl).put rfl).put rfl).put rfl).put rfl) (by omega) (by exfalso; omega) (by exfalso; omega) w2t2 (by omega)
              · refine zs_icmp_geF (pc := 9) t126_9 rfl rfl (by omega) ?_
                refine zs_aload_n (pc := 12) t126_12 rfl ?_
                refine zs_get (pc := 13) t126_13 (by decide) (zk1 (w2s.k fk_zMc_165)) (w2s.p rfl fv_zMc_165_1) ?_
                refine zs_iload_n (pc := 16) t126_16 rfl ?_
                obtain ⟨w92n, w92⟩ : ∃ n : Nat, (zI M 320 w3n).toInt = (n : Int) := ⟨((zI M 320 w3n).toInt).toNat, by omega⟩
                have w93 : w92n < 20 := by omega
                refine zs_aald (pc := 17) t126_17 (j := w92n) (Or.inr (zk1 (w2s.k fk_zMc_179))) (show (zI M 320 w3n).toInt = ((w92n : Nat) : Int) by omega) (zk2 (w2s.k fk_zMc_179) (by omega)) (w2s.a (fpT181 w92n w93)) ?_
                refine zs_goto (pc := 18) t126_18 ?_
                refine zs_aret (pc := 22) t126_22 (by rw [mr126]; rfl) ?_
                show zGo X l 3 0 0 141 121 [(3, .int w9v), (0, .ref 164), (1, .int a), (2, .int w2x2)] [.ref (181 + 3 * w92n)] (zsI (zsI (zsI (zsI (zsI w2M 321 w74n (0 : Int32)) 322 w74n (0 : Int32)) 164 9 w77v) 321 w74n (1 : Int32)) 322 w74n w82v) _
                refine zs_astore (pc := 121) t141_121 (ls' := [(4, .ref (181 + 3 * w92n)), (3, .int w9v), (0, .ref 164), (1, .int a), (2, .int w2x2)]) (zml mf141 (by decide)) rfl ?_
                refine zs_aload (pc := 123) t141_123 rfl ?_
                refine zs_ifnullF (pc := 125) t141_125 ?_
                refine zs_aload (pc := 128) t141_128 rfl ?_
                refine zs_aload_n (pc := 130) t141_130 rfl ?_
                refine zs_get (pc := 131) t141_131 (by decide) (zk1 (w2s.k fk_zMc_164)) (zfvi rfl ((zIo (by decide)).trans ((zIo (by decide)).trans zIs))) ?_
                refine zs_iconst (pc := 134) t141_134 (v := 1) (by decide) ?_
                obtain ⟨w94v, w94e, w94⟩ := zisub (a := w77v) (b := (1 : Int32)) w77 li1 (by omega) (by omega)
                refine zs_isub (pc := 135) t141_135 (c := w94v) w94e ?_
                have w95 : zIv cLo cHi (zsI (zsI (zsI (zsI (zsI (zsI w2M 321 w74n (0 : Int32)) 322 w74n (0 : Int32)) 164 9 w77v) 321 w74n (1 : Int32)) 322 w74n w82v) (181 + 3 * w92n) 4 w94v) := zIv.put w83 (by rw [(cT181_0_4 w92n w93).1, (cT181_0_4 w92n w93).2]; exact zrg w94v)
                refine zs_putI (pc := 136) t141_136 (zk1 (w2s.k (fT181_0 w92n w93))) rfl ?_
                obtain ⟨w96v, w96e, w96⟩ := ziadd (a := w2x2) (b := Int32.ofInt 1) rfl (show (Int32.ofInt 1).toInt = 1 by decide) (by omega) (by omega)
                refine zs_iinc (pc := 139) t141_139 (ls' := [(2, .int w96v), (4, .ref (181 + 3 * w92n)), (3, .int w9v), (0, .ref 164), (1, .int a)]) (zml mf141 (by decide)) rfl (c := w96v) w96e rfl ?_
                refine zs_goto (pc := 142) t141_142 ?_
                refine zGo.locals (ls' := [(0, .ref 164), (1, .int a), (2, .int w96v)]) (by simp) ?_
                have w97 := w96
                have w98 : (1 : Int32).toInt = 1 := li1
                have w99 : w94v.toInt = (((zI w2M 164 9).toInt + 1) - 1) := w94
                exact w2ih (w2m - 1) (by omega) w96v (zsI (zsI (zsI (zsI (zsI (zsI w2M 321 w74n (0 : Int32)) 322 w74n (0 : Int32)) 164 9 w77v) 321 w74n (1 : Int32)) 322 w74n w82v) (181 + 3 * w92n) 4 w94v) ⟨by omega, by omega⟩ w2s w95 ((((((((zFr.refl).trans (w2F.mono rfl)).put rfl).put rfl).put rfl).put rfl).put rfl).put (zinW_r (lo := 181) (hi := 240) (by decide) (by omega) (by omega))) (by omega) (fun p hp => by obtain rfl : p = w3n + 1 := (by omega); have N1 := zVxm.new (V := w74n) (a := (0 : Int32)) (b := (0 : Int32)) (c := w77v) hT (by omega) (fun q hq => by have z := zOrd.lt (st := (fun i => sT F (τ i))) mm q (by omega); omega) (by decide) rfl (by omega); rw [zJn.y (st := (fun i => sT F (τ i))) (o := (zOrd (fun i => sT F (τ i)) mm)) (gap := a.toInt) (p := w3n) (Or.inr (by show a.toInt < (sT F (τ ((zOrd (fun i => sT F (τ i)) mm) w3n)) - sT F (τ ((zOrd (fun i => sT F (τ i)) mm) (w3n - 1)))).toInt; rw [← w9y, ← w44y, ← w45]; omega))]; exact N1.add (V := w74n) (V2 := w74n) (x := w92n) (a := (1 : Int32)) (b := w82v) (c := w94v) (st := sT F (τ ((zOrd (fun i => sT F (τ i)) mm) w3n))) (show w74n + 1 = (zJn (fun i => sT F (τ i)) (zOrd (fun i => sT F (τ i)) mm) a.toInt w3n).1 + 1 by omega) (by omega) (fun q hq => by have z := zOrd.lt (st := (fun i => sT F (τ i))) mm q (by omega); omega) (by omega) (by rw [vNew.a (by omega)]; first | decide | omega) (by rw [w82e.symm, w9y, vNew.b (by omega)]) (by omega) (by omega)) ((((((w2t1.out (by decide)).out (by decide)).out (by decide)).out (by decide)).out (by decide)).put) w2t2 (by omega)
  refine zGo.locals (ls' := [(0, .ref 164), (1, .int a), (2, .int (0 : Int32))]) (by simp) ?_
  have w100 := li0
  have w101 : (zI (zsI M 164 9 (0 : Int32)) 164 9).toInt = 0 := (congrArg Int32.toInt zIs).trans li0
  exact w2L ((20 - 0 : Int).toNat) (0 : Int32) (zsI M 164 9 (0 : Int32)) ⟨by decide, by decide⟩ hs w1 zFr.refl (by omega) (fun p hp => zVxm.zero (by omega) (by omega)) (zT4.id.out (by decide)) (fun k j => rfl) (by omega)
theorem V105 {X : zX} {l : Launch} {M : zM} {Q : Option Value → zM → Prop} (hs : zSk zMc M) (hI : zIv cLo cHi M) {F : Nat → Int} (u0 : (zI M 166 10).toInt ≤ 1700000000) (u1 : 0 ≤ (zI M 166 10).toInt) (x0 : zSo M 7 F) (x1 : zWF F) (x2 : zKnA M F) (x3 : zSp M 166 174) (hQ : ∀ M', zSk zMc M' → zIv cLo cHi M' → zFr [(164, 165, none), (166, 178, none), (180, 180, none), (181, 240, none), (317, 324, none)] M M' → ((zI M' 166 10).toInt ≤ (zI M 166 10).toInt + 6027) → ((zI M 166 10).toInt ≤ (zI M' 166 10).toInt) → (zPicA M' F) → (zSp M' 166 174) → ((zI M' 164 0).toInt ≠ 0) → Q (some (.ref 164)) M') : zCall X l 5 0 0 105 [.ref 164, .ref 7] M Q := by
  refine zs_in (by decide) mf105 (Nat.le_of_ble_eq_true rfl) ?_
  show zGo X l 5 0 0 105 0 [(0, .ref 164), (1, .ref 7)] [] M _
  have f0 := x0.1
  have w1 := ib7_0 hI
  have w2 : (zI M 7 0).toInt = (zI M 7 0).toInt := (congrArg Int32.toInt rfl).trans rfl
  have w3 := ib7_3 hI
  have w4 : (zI M 7 3).toInt = (zI M 7 3).toInt := (congrArg Int32.toInt rfl).trans rfl
  have w5 := ib7_8 hI
  have w6 : (zI M 7 8).toInt = (zI M 7 8).toInt := (congrArg Int32.toInt rfl).trans rfl
  have f1 := x1.1
  have f3 := x1.2.2.2
  have f2 := (show (zI M 7 0).toInt = F 0 ∧ (zI M 7 3).toInt = F 1 ∧ (zI M 7 8).toInt = F 2 from ⟨x0.1.1, x0.1.2.1, x0.1.2.2.1⟩)
  refine zs_aload_n (pc := 0) t105_0 rfl ?_
  have w7 := ib164_0 hI
  refine zs_get (pc := 1) t105_1 (by decide) (zk1 (hs.k fk_zMc_164)) (zfvi rfl rfl) ?_
  by_cases w8 : (zI M 164 0).toInt = 0
  · refine zs_if_eqT (pc := 4) t105_4 rfl (by omega) ?_
    refine zs_aload_n (pc := 9) t105_9 rfl ?_
    refine zs_iconst (pc := 10) t105_10 (v := 1) (by decide) ?_
    have w9 : zIv cLo cHi (zsI M 164 0 (1 : Int32)) := zIv.put hI (show 0 ≤ (1 : Int32).toInt ∧ (1 : Int32).toInt ≤ 1 from ⟨by decide, by decide⟩)
    refine zs_putI (pc := 11) t105_11 (zk1 (hs.k fk_zMc_164)) (by decide) ?_
    refine zs_aload_n (pc := 14) t105_14 rfl ?_
    refine zs_aload_n (pc := 15) t105_15 rfl ?_
    refine zs_iconst (pc := 16) t105_16 (v := 3) (by decide) ?_
    refine zs_invV (pc := 17) (k := 7) (as' := [.int (3 : Int32)]) (st := [.ref 164]) t105_17 mf96 rfl rfl (Or.inl ⟨by decide, (zk1 (hs.k fk_zMc_7))⟩) ⟨by decide, by decide, Nat.le_of_ble_eq_true rfl, Nat.le_of_ble_eq_true rfl⟩ (zs_in (by decide) mf96 (Nat.le_of_ble_eq_true rfl) ?_) (fun _ _ q => q)
    show zGo X l 0 0 0 96 0 [(0, .ref 7), (1, .int (3 : Int32))] [] (zsI M 164 0 (1 : Int32)) _
    refine zs_iload_n (pc := 0) t96_0 rfl ?_
    refine zs_if_ltF (pc := 1) t96_1 li3 (by decide) ?_
    refine zs_iload_n (pc := 4) t96_4 rfl ?_
    refine zs_bipush (pc := 5) t96_5 (v := 9) (by decide) ?_
    refine zs_icmp_geF (pc := 7) t96_7 li3 li9 (by decide) ?_
    refine zs_aload_n (pc := 10) t96_10 rfl ?_
    refine zs_get (pc := 11) t96_11 (by decide) (zk1 (hs.k fk_zMc_7)) (hs.p rfl fv_zMc_7_12) ?_
    refine zs_iload_n (pc := 14) t96_14 rfl ?_
    have w10 := ib17 hI 3
    have w11 : (zI M 17 3).toInt = F 8 := x0.2.2.2.2.1 3 (by decide)
    refine zs_iald (pc := 15) t96_15 (j := 3) (by decide) (zk1 (hs.k fk_zMc_17)) li3 (zk2 (hs.k fk_zMc_17) (by decide)) ((zIo (by decide)).trans rfl) ?_
    refine zs_goto (pc := 16) t96_16 ?_
    refine zs_iret (pc := 20) t96_20 mr96 rfl ?_
    show zGo X l 5 0 0 105 20 [(0, .ref 164), (1, .ref 7)] [.int (zI M 17 3), .ref 164] (zsI M 164 0 (1 : Int32)) _
    have w12 : zIv cLo cHi (zsI (zsI M 164 0 (1 : Int32)) 164 3 (zI M 17 3)) := zIv.put w9 (show (-2147483648) ≤ (zI M 17 3).toInt ∧ (zI M 17 3).toInt ≤ 2147483647 from zrg (zI M 17 3))
    refine zs_putI (pc := 20) t105_20 (zk1 (hs.k fk_zMc_164)) rfl ?_
    refine zs_aload_n (pc := 23) t105_23 rfl ?_
    refine zs_aload_n (pc := 24) t105_24 rfl ?_
    refine zs_get (pc := 25) t105_25 (by decide) (zk1 (hs.k fk_zMc_7)) (zfvi rfl ((zIo (by decide)).trans ((zIo (by decide)).trans rfl))) ?_
    have w13 : zIv cLo cHi (zsI (zsI (zsI M 164 0 (1 : Int32)) 164 3 (zI M 17 3)) 164 5 (zI M 7 8)) := zIv.put w12 (show 0 ≤ (zI M 7 8).toInt ∧ (zI M 7 8).toInt ≤ 12 from ⟨by omega, by omega⟩)
    refine zs_putI (pc := 28) t105_28 (zk1 (hs.k fk_zMc_164)) rfl ?_
    refine zs_aload_n (pc := 31) t105_31 rfl ?_
    refine zs_get (pc := 32) t105_32 (by decide) (zk1 (hs.k fk_zMc_164)) (hs.p rfl fv_zMc_164_1) ?_
    refine zs_aload_n (pc := 35) t105_35 rfl ?_
    refine zs_iconst (pc := 36) t105_36 (v := -1) (by decide) ?_
    refine zs_iconst (pc := 37) t105_37 (v := 2) (by decide) ?_
    have w14 : (-1 : Int32).toInt = (-1) := lin1
    have w15 : (2 : Int32).toInt = 2 := li2
    have w16 := zrg (zI M 166 10)
    have w17 : (zI (zsI (zsI (zsI M 164 0 (1 : Int32)) 164 3 (zI M 17 3)) 164 5 (zI M 7 8)) 166 10).toInt = (zI M 166 10).toInt := (congrArg Int32.toInt ((zIo (by decide)).trans ((zIo (by decide)).trans ((zIo (by decide)).trans rfl)))).trans rfl
    have w18 : (zI (zsI (zsI (zsI M 164 0 (1 : Int32)) 164 3 (zI M 17 3)) 164 5 (zI M 7 8)) 166 10).toInt = (zI M 166 10).toInt := (congrArg Int32.toInt ((zIo (by decide)).trans ((zIo (by decide)).trans ((zIo (by decide)).trans rfl)))).trans rfl
    refine zs_invV (pc := 38) (k := 165) (as' := [.ref 7, .int (-1 : Int32), .int (2 : Int32)]) (st := []) t105_38 mf106 rfl rfl (Or.inl ⟨by decide, (zk1 (hs.k fk_zMc_165))⟩) ⟨by decide, by decide, Nat.le_of_ble_eq_true rfl, Nat.le_of_ble_eq_true rfl⟩ (V106_165 hs w13 ⟨by decide, by decide⟩ (by omega) (by omega) (zSo.fr x0 (zEq.tr (zEq.tr (zEq.put rfl) (zEq.put rfl)) (zEq.put rfl))) x1 (zSp.fr x3 (fun j => ((zIo (by decide)).trans ((zIo (by decide)).trans (zIo (by decide))))) ((zIo (by decide)).trans ((zIo (by decide)).trans (zIo (by decide))))) ?_) (fun _ _ q => q)
    intro w19M w19s w19I w19F w19t0 w19t1 w19x0
    have w20 := zrg (zI w19M 166 10)
    have w19y : zFe w19M 166 181 165 180 F (-1) 2 := by
      have z := w19x0
      rw [show (-1 : Int32).toInt = -1 by decide, show (2 : Int32).toInt = 2 by decide] at z
      exact z
    obtain ⟨w19n, w19τ, w19Λ, w19sn, w19mz, w19φ, w19c, w19e⟩ := w19y
    obtain ⟨⟨c1, c2⟩, c3, c4, c5, c6, c7, c8, c9, c10⟩ := w19c
    obtain ⟨mm, m1, m2, m3, m4⟩ := c3.cnt (F 8)
    show zGo X l 5 0 0 105 41 [(0, .ref 164), (1, .ref 7)] [] w19M _
    refine zs_aload_n (pc := 41) t105_41 rfl ?_
    refine zs_aload_n (pc := 42) t105_42 rfl ?_
    refine zs_aload_n (pc := 43) t105_43 rfl ?_
    refine zs_get (pc := 44) t105_44 (by decide) (zk1 (w19s.k fk_zMc_164)) (zfvi rfl ((w19F 164 3 rfl).trans ((zIoj (by decide)).trans zIs))) ?_
    refine zs_invV (pc := 47) (k := 164) (as' := [.int (zI M 17 3)]) (st := [.ref 164]) t105_47 mf124 rfl rfl (Or.inl ⟨by decide, (zk1 (w19s.k fk_zMc_164))⟩) ⟨by decide, by decide, Nat.le_of_ble_eq_true rfl, Nat.le_of_ble_eq_true rfl⟩ (V124 (τ := w19τ) w19s w19I ⟨(congrArg Int32.toInt rfl).trans c1, c2⟩ (fun i hi => (c5 i hi).fr (fun k j q1 q2 => rfl)) ?_) (fun _ _ q => q)
    intro w21v w21x0 w21a w21b
    have hm : w21v.toInt = (mm : Int) := by
      rw [w21x0, show (zI M 17 3).toInt = F 8 by omega]
      exact m2
    show zGo X l 5 0 0 105 50 [(0, .ref 164), (1, .ref 7)] [.int w21v, .ref 164] w19M _
    have w22 : zIv cLo cHi (zsI w19M 164 4 w21v) := zIv.put w19I (show 0 ≤ w21v.toInt ∧ w21v.toInt ≤ 20 from ⟨by omega, by omega⟩)
    refine zs_putI (pc := 50) t105_50 (zk1 (w19s.k fk_zMc_164)) rfl ?_
    refine zs_iconst (pc := 53) t105_53 (v := 0) (by decide) ?_
    refine zs_istore_n (pc := 54) t105_54 (ls' := [(2, .int (0 : Int32)), (0, .ref 164), (1, .ref 7)]) (zml mf105 (by decide)) rfl ?_
    refine zs_iload_n (pc := 55) t105_55 rfl ?_
    refine zs_bipush (pc := 56) t105_56 (v := 8) (by decide) ?_
    refine zs_icmp_geF (pc := 58) t105_58 li0 li8 (by decide) ?_
    refine zs_aload_n (pc := 61) t105_61 rfl ?_
    refine zs_get (pc := 62) t105_62 (by decide) (zk1 (w19s.k fk_zMc_164)) (w19s.p rfl fv_zMc_164_13) ?_
    refine zs_iload_n (pc := 65) t105_65 rfl ?_
    refine zs_iconst (pc := 66) t105_66 (v := 0) (by decide) ?_
    have w23e : vp_nar .boolean (0 : Int32) = (0 : Int32) := by decide
    have w24 : zIv cLo cHi (zsI (zsI w19M 164 4 w21v) 323 0 (0 : Int32)) := zIv.put w22 (show 0 ≤ (0 : Int32).toInt ∧ (0 : Int32).toInt ≤ 1 from ⟨by decide, by decide⟩)
    refine zs_bastZ (pc := 67) t105_67 (j := 0) (by decide) (zk1 (w19s.k fk_zMc_323)) li0 (zk2 (w19s.k fk_zMc_323) (by decide)) w23e ?_
    refine zs_iinc (pc := 68) t105_68 (ls' := [(2, .int (1 : Int32)), (0, .ref 164), (1, .ref 7)]) (zml mf105 (by decide)) rfl (c := 1) (by decide) rfl ?_
    refine zs_goto (pc := 71) t105_71 ?_
    refine zs_iload_n (pc := 55) t105_55 rfl ?_
    refine zs_bipush (pc := 56) t105_56 (v := 8) (by decide) ?_
    refine zs_icmp_geF (pc := 58) t105_58 li1 li8 (by decide) ?_
    refine zs_aload_n (pc := 61) t105_61 rfl ?_
    refine zs_get (pc := 62) t105_62 (by decide) (zk1 (w19s.k fk_zMc_164)) (w19s.p rfl fv_zMc_164_13) ?_
    refine zs_iload_n (pc := 65) t105_65 rfl ?_
    refine zs_iconst (pc := 66) t105_66 (v := 0) (by decide) ?_
    have w25e : vp_nar .boolean (0 : Int32) = (0 : Int32) := by decide
    have w26 : zIv cLo cHi (zsI (zsI (zsI w19M 164 4 w21v) 323 0 (0 : Int32)) 323 1 (0 : Int32)) := zIv.put w24 (show 0 ≤ (0 : Int32).toInt ∧ (0 : Int32).toInt ≤ 1 from ⟨by decide, by decide⟩)
    refine zs_bastZ (pc := 67) t105_67 (j := 1) (by decide) (zk1 (w19s.k fk_zMc_323)) li1 (zk2 (w19s.k fk_zMc_323) (by decide)) w25e ?_
    refine zs_iinc (pc := 68) t105_68 (ls' := [(2, .int (2 : Int32)), (0, .ref 164), (1, .ref 7)]) (zml mf105 (by decide)) rfl (c := 2) (by decide) rfl ?_
    refine zs_goto (pc := 71) t105_71 ?_
    refine zs_iload_n (pc := 55) t105_55 rfl ?_
    refine zs_bipush (pc := 56) t105_56 (v := 8) (by decide) ?_
    refine zs_icmp_geF (pc := 58) t105_58 li2 li8 (by decide) ?_
    refine zs_aload_n (pc := 61) t105_61 rfl ?_
    refine zs_get (pc := 62) t105_62 (by decide) (zk1 (w19s.k fk_zMc_164)) (w19s.p rfl fv_zMc_164_13) ?_
    refine zs_iload_n (pc := 65) t105_65 rfl ?_
    refine zs_iconst (pc := 66) t105_66 (v := 0) (by decide) ?_
    have w27e : vp_nar .boolean (0 : Int32) = (0 : Int32) := by decide
    have w28 : zIv cLo cHi (zsI (zsI (zsI (zsI w19M 164 4 w21v) 323 0 (0 : Int32)) 323 1 (0 : Int32)) 323 2 (0 : Int32)) := zIv.put w26 (show 0 ≤ (0 : Int32).toInt ∧ (0 : Int32).toInt ≤ 1 from ⟨by decide, by decide⟩)
    refine zs_bastZ (pc := 67) t105_67 (j := 2) (by decide) (zk1 (w19s.k fk_zMc_323)) li2 (zk2 (w19s.k fk_zMc_323) (by decide)) w27e ?_
    refine zs_iinc (pc := 68) t105_68 (ls' := [(2, .int (3 : Int32)), (0, .ref 164), (1, .ref 7)]) (zml mf105 (by decide)) rfl (c := 3) (by decide) rfl ?_
    refine zs_goto (pc := 71) t105_71 ?_
    refine zs_iload_n (pc := 55) t105_55 rfl ?_
    refine zs_bipush (pc := 56) t105_56 (v := 8) (by decide) ?_
    refine zs_icmp_geF (pc := 58) t105_58 li3 li8 (by decide) ?_
    refine zs_aload_n (pc := 61) t105_61 rfl ?_
    refine zs_get (pc := 62) t105_62 (by decide) (zk1 (w19s.k fk_zMc_164)) (w19s.p rfl fv_zMc_164_13) ?_
    refine zs_iload_n (pc := 65) t105_65 rfl ?_
    refine zs_iconst (pc := 66) t105_66 (v := 0) (by decide) ?_
    have w29e : vp_nar .boolean (0 : Int32) = (0 : Int32) := by decide
    have w30 : zIv cLo cHi (zsI (zsI (zsI (zsI (zsI w19M 164 4 w21v) 323 0 (0 : Int32)) 323 1 (0 : Int32)) 323 2 (0 : Int32)) 323 3 (0 : Int32)) := zIv.put w28 (show 0 ≤ (0 : Int32).toInt ∧ (0 : Int32).toInt ≤ 1 from ⟨by decide, by decide⟩)
    refine zs_bastZ (pc := 67) t105_67 (j := 3) (by decide) (zk1 (w19s.k fk_zMc_323)) li3 (zk2 (w19s.k fk_zMc_323) (by decide)) w29e ?_
    refine zs_iinc (pc := 68) t105_68 (ls' := [(2, .int (4 : Int32)), (0, .ref 164), (1, .ref 7)]) (zml mf105 (by decide)) rfl (c := 4) (by decide) rfl ?_
    refine zs_goto (pc := 71) t105_71 ?_
    refine zs_iload_n (pc := 55) t105_55 rfl ?_
    refine zs_bipush (pc := 56) t105_56 (v := 8) (by decide) ?_
    refine zs_icmp_geF (pc := 58) t105_58 li4 li8 (by decide) ?_
    refine zs_aload_n (pc := 61) t105_61 rfl ?_
    refine zs_get (pc := 62) t105_62 (by decide) (zk1 (w19s.k fk_zMc_164)) (w19s.p rfl fv_zMc_164_13) ?_
    refine zs_iload_n (pc := 65) t105_65 rfl ?_
    refine zs_iconst (pc := 66) t105_66 (v := 0) (by decide) ?_
    have w31e : vp_nar .boolean (0 : Int32) = (0 : Int32) := by decide
    have w32 : zIv cLo cHi (zsI (zsI (zsI (zsI (zsI (zsI w19M 164 4 w21v) 323 0 (0 : Int32)) 323 1 (0 : Int32)) 323 2 (0 : Int32)) 323 3 (0 : Int32)) 323 4 (0 : Int32)) := zIv.put w30 (show 0 ≤ (0 : Int32).toInt ∧ (0 : Int32).toInt ≤ 1 from ⟨by decide, by decide⟩)
    refine zs_bastZ (pc := 67) t105_67 (j := 4) (by decide) (zk1 (w19s.k fk_zMc_323)) li4 (zk2 (w19s.k fk_zMc_323) (by decide)) w31e ?_
    refine zs_iinc (pc := 68) t105_68 (ls' := [(2, .int (5 : Int32)), (0, .ref 164), (1, .ref 7)]) (zml mf105 (by decide)) rfl (c := 5) (by decide) rfl ?_
    refine zs_goto (pc := 71) t105_71 ?_
    refine zs_iload_n (pc := 55) t105_55 rfl ?_
    refine zs_bipush (pc := 56) t105_56 (v := 8) (by decide) ?_
    refine zs_icmp_geF (pc := 58) t105_58 li5 li8 (by decide) ?_
    refine zs_aload_n (pc := 61) t105_61 rfl ?_
    refine zs_get (pc := 62) t105_62 (by decide) (zk1 (w19s.k fk_zMc_164)) (w19s.p rfl fv_zMc_164_13) ?_
    refine zs_iload_n (pc := 65) t105_65 rfl ?_
    refine zs_iconst (pc := 66) t105_66 (v := 0) (by decide) ?_
    have w33e : vp_nar .boolean (0 : Int32) = (0 : Int32) := by decide
    have w34 : zIv cLo cHi (zsI (zsI (zsI (zsI (zsI (zsI (zsI w19M 164 4 w21v) 323 0 (0 : Int32)) 323 1 (0 : Int32)) 323 2 (0 : Int32)) 323 3 (0 : Int32)) 323 4 (0 : Int32)) 323 5 (0 : Int32)) := zIv.put w32 (show 0 ≤ (0 : Int32).toInt ∧ (0 : Int32).toInt ≤ 1 from ⟨by decide, by decide⟩)
    refine zs_bastZ (pc := 67) t105_67 (j := 5) (by decide) (zk1 (w19s.k fk_zMc_323)) li5 (zk2 (w19s.k fk_zMc_323) (by decide)) w33e ?_
    refine zs_iinc (pc := 68) t105_68 (ls' := [(2, .int (6 : Int32)), (0, .ref 164), (1, .ref 7)]) (zml mf105 (by decide)) rfl (c := 6) (by decide) rfl ?_
    refine zs_goto (pc := 71) t105_71 ?_
    refine zs_iload_n (pc := 55) t105_55 rfl ?_
    refine zs_bipush (pc := 56) t105_56 (v := 8) (by decide) ?_
    refine zs_icmp_geF (pc := 58) t105_58 li6 li8 (by decide) ?_
    refine zs_aload_n (pc := 61) t105_61 rfl ?_
    refine zs_get (pc := 62) t105_62 (by decide) (zk1 (w19s.k fk_zMc_164)) (w19s.p rfl fv_zMc_164_13) ?_
    refine zs_iload_n (pc := 65) t105_65 rfl ?_
    refine zs_iconst (pc := 66) t105_66 (v := 0) (by decide) ?_
    have w35e : vp_nar .boolean (0 : Int32) = (0 : Int32) := by decide
    have w36 : zIv cLo cHi (zsI (zsI (zsI (zsI (zsI (zsI (zsI (zsI w19M 164 4 w21v) 323 0 (0 : Int32)) 323 1 (0 : Int32)) 323 2 (0 : Int32)) 323 3 (0 : Int32)) 323 4 (0 : Int32)) 323 5 (0 : Int32)) 323 6 (0 : Int32)) := zIv.put w34 (show 0 ≤ (0 : Int32).toInt ∧ (0 : Int32).toInt ≤ 1 from ⟨by decide, by decide⟩)
    refine zs_bastZ (pc := 67) t105_67 (j := 6) (by decide) (zk1 (w19s.k fk_zMc_323)) li6 (zk2 (w19s.k fk_zMc_323) (by decide)) w35e ?_
    refine zs_iinc (pc := 68) t105_68 (ls' := [(2, .int (7 : Int32)), (0, .ref 164), (1, .ref 7)]) (zml mf105 (by decide)) rfl (c := 7) (by decide) rfl ?_
    refine zs_goto (pc := 71) t105_71 ?_
    refine zs_iload_n (pc := 55) t105_55 rfl ?_
    refine zs_bipush (pc := 56) t105_56 (v := 8) (by decide) ?_
    refine zs_icmp_geF (pc := 58) t105_58 li7 li8 (by decide) ?_
    refine zs_aload_n (pc := 61) t105_61 rfl ?_
    refine zs_get (pc := 62) t105_62 (by decide) (zk1 (w19s.k fk_zMc_164)) (w19s.p rfl fv_zMc_164_13) ?_
    refine zs_iload_n (pc := 65) t105_65 rfl ?_
    refine zs_iconst (pc := 66) t105_66 (v := 0) (by decide) ?_
    have w37e : vp_nar .boolean (0 : Int32) = (0 : Int32) := by decide
    have w38 : zIv cLo cHi (zsI (zsI (zsI (zsI (zsI (zsI (zsI (zsI (zsI w19M 164 4 w21v) 323 0 (0 : Int32)) 323 1 (0 : Int32)) 323 2 (0 : Int32)) 323 3 (0 : Int32)) 323 4 (0 : Int32)) 323 5 (0 : Int32)) 323 6 (0 : Int32)) 323 7 (0 : Int32)) := zIv.put w36 (show 0 ≤ (0 : Int32).toInt ∧ (0 : Int32).toInt ≤ 1 from ⟨by decide, by decide⟩)
    refine zs_bastZ (pc := 67) t105_67 (j := 7) (by decide) (zk1 (w19s.k fk_zMc_323)) li7 (zk2 (w19s.k fk_zMc_323) (by decide)) w37e ?_
    refine zs_iinc (pc := 68) t105_68 (ls' := [(2, .int (8 : Int32)), (0, .ref 164), (1, .ref 7)]) (zml mf105 (by decide)) rfl (c := 8) (by decide) rfl ?_
    refine zs_goto (pc := 71) t105_71 ?_
    refine zs_iload_n (pc := 55) t105_55 rfl ?_
    refine zs_bipush (pc := 56) t105_56 (v := 8) (by decide) ?_
    refine zs_icmp_geT (pc := 58) t105_58 li8 li8 (by decide) ?_
    refine zs_aload_n (pc := 74) t105_74 rfl ?_
    refine zs_aload_n (pc := 75) t105_75 rfl ?_
    refine zs_invV (pc := 76) (k := 164) (as' := [.ref 7]) (st := []) t105_76 mf127 rfl rfl (Or.inl ⟨by decide, (zk1 (w19s.k fk_zMc_164))⟩) ⟨by decide, by decide, Nat.le_of_ble_eq_true rfl, Nat.le_of_ble_eq_true rfl⟩ (C127_164_7 w19s w38 ?_) (fun _ _ q => q)
    intro w39M w39s w39I w39F
    show zGo X l 5 0 0 105 79 [(2, .int (8 : Int32)), (0, .ref 164), (1, .ref 7)] [] w39M _
    refine zs_aload_n (pc := 79) t105_79 rfl ?_
    refine zs_aload_n (pc := 80) t105_80 rfl ?_
    have w40 : (zI w39M 164 4).toInt = w21v.toInt := (congrArg Int32.toInt ((w39F 164 4 rfl).trans ((zIo (by decide)).trans ((zIo (by decide)).trans ((zIo (by decide)).trans ((zIo (by decide)).trans ((zIo (by decide)).trans ((zIo (by decide)).trans ((zIo (by decide)).trans ((zIo (by decide)).trans zIs)))))))))).trans rfl
    refine zs_invV (pc := 81) (k := 164) (as' := [.ref 7]) (st := []) t105_81 mf131 rfl rfl (Or.inl ⟨by decide, (zk1 (w39s.k fk_zMc_164))⟩) ⟨by decide, by decide, Nat.le_of_ble_eq_true rfl, Nat.le_of_ble_eq_true rfl⟩ (V131 (τ := w19τ) w39s w39I (zSo.fr x0 (zEq.tr (zEq.tr (zEq.tr (zEq.tr (zEq.tr (zEq.tr (zEq.tr (zEq.tr (zEq.tr (zEq.tr (zEq.tr (zEq.tr (zEq.tr (zEq.put rfl) (zEq.put rfl)) (zEq.put rfl)) (zFr.eq w19F rfl)) (zEq.put rfl)) (zEq.put rfl)) (zEq.put rfl)) (zEq.put rfl)) (zEq.put rfl)) (zEq.put rfl)) (zEq.put rfl)) (zEq.put rfl)) (zEq.put rfl)) (zFr.eq w39F rfl))) x1 ⟨(congrArg Int32.toInt ((w39F 165 2 rfl).trans ((zIo (by decide)).trans ((zIo (by decide)).trans ((zIo (by decide)).trans ((zIo (by decide)).trans ((zIo (by decide)).trans ((zIo (by decide)).trans ((zIo (by decide)).trans ((zIo (by decide)).trans (zIo (by decide)))))))))))).trans c1, c2⟩ (fun i hi => (c5 i hi).fr (fun k j q1 q2 => ((w39F k j (zoC (by omega) rfl)).trans ((zIo (by omega)).trans ((zIo (by omega)).trans ((zIo (by omega)).trans ((zIo (by omega)).trans ((zIo (by omega)).trans ((zIo (by omega)).trans ((zIo (by omega)).trans ((zIo (by omega)).trans (zIo (by omega))))))))))))) ⟨by omega, m1⟩ c3.hv ?_) (fun _ _ q => q)
    intro w41M w41s w41I w41F w41x0
    obtain ⟨w41a, w41b⟩ := w41x0
    show zGo X l 5 0 0 105 84 [(2, .int (8 : Int32)), (0, .ref 164), (1, .ref 7)] [] w41M _
    refine zs_aload_n (pc := 84) t105_84 rfl ?_
    have w42 : (zI w41M 164 4).toInt = w21v.toInt := (congrArg Int32.toInt ((w41F 164 4 rfl).trans ((w39F 164 4 rfl).trans ((zIo (by decide)).trans ((zIo (by decide)).trans ((zIo (by decide)).trans ((zIo (by decide)).trans ((zIo (by decide)).trans ((zIo (by decide)).trans ((zIo (by decide)).trans ((zIo (by decide)).trans zIs))))))))))).trans rfl
    refine zs_invV (pc := 85) (k := 164) (as' := []) (st := []) t105_85 mf137 rfl rfl (Or.inl ⟨by decide, (zk1 (w41s.k fk_zMc_164))⟩) ⟨by decide, by decide, Nat.le_of_ble_eq_true rfl, Nat.le_of_ble_eq_true rfl⟩ (V137 (τ := w19τ) w41s w41I ⟨(congrArg Int32.toInt ((w41F 165 2 rfl).trans ((w39F 165 2 rfl).trans ((zIo (by decide)).trans ((zIo (by decide)).trans ((zIo (by decide)).trans ((zIo (by decide)).trans ((zIo (by decide)).trans ((zIo (by decide)).trans ((zIo (by decide)).trans ((zIo (by decide)).trans (zIo (by decide))))))))))))).trans c1, c2, m1⟩ w41b (by omega) ?_) (fun _ _ q => q)
    intro w43M w43s w43I w43F w43x0 w43x1
    show zGo X l 5 0 0 105 88 [(2, .int (8 : Int32)), (0, .ref 164), (1, .ref 7)] [] w43M _
    refine zs_aload_n (pc := 88) t105_88 rfl ?_
    refine zs_aload_n (pc := 89) t105_89 rfl ?_
    refine zs_iconst (pc := 90) t105_90 (v := 4) (by decide) ?_
    refine zs_invV (pc := 91) (k := 7) (as' := [.int (4 : Int32)]) (st := [.ref 164]) t105_91 mf96 rfl rfl (Or.inl ⟨by decide, (zk1 (w43s.k fk_zMc_7))⟩) ⟨by decide, by decide, Nat.le_of_ble_eq_true rfl, Nat.le_of_ble_eq_true rfl⟩ (zs_in (by decide) mf96 (Nat.le_of_ble_eq_true rfl) ?_) (fun _ _ q => q)
    show zGo X l 0 0 0 96 0 [(0, .ref 7), (1, .int (4 : Int32))] [] w43M _
    refine zs_iload_n (pc := 0) t96_0 rfl ?_
    refine zs_if_ltF (pc := 1) t96_1 li4 (by decide) ?_
    refine zs_iload_n (pc := 4) t96_4 rfl ?_
    refine zs_bipush (pc := 5) t96_5 (v := 9) (by decide) ?_
    refine zs_icmp_geF (pc := 7) t96_7 li4 li9 (by decide) ?_
    refine zs_aload_n (pc := 10) t96_10 rfl ?_
    refine zs_get (pc := 11) t96_11 (by decide) (zk1 (w43s.k fk_zMc_7)) (w43s.p rfl fv_zMc_7_12) ?_
    refine zs_iload_n (pc := 14) t96_14 rfl ?_
    have w44 := ib17 hI 4
    have w45 : (zI M 17 4).toInt = F 9 := x0.2.2.2.2.1 4 (by decide)
    refine zs_iald (pc := 15) t96_15 (j := 4) (by decide) (zk1 (w43s.k fk_zMc_17)) li4 (zk2 (w43s.k fk_zMc_17) (by decide)) ((w43F 17 4 rfl).trans ((w41F 17 4 rfl).trans ((w39F 17 4 rfl).trans ((zIo (by decide)).trans ((zIo (by decide)).trans ((zIo (by decide)).trans ((zIo (by decide)).trans ((zIo (by decide)).trans ((zIo (by decide)).trans ((zIo (by decide)).trans ((zIo (by decide)).trans ((zIo (by decide)).trans ((w19F 17 4 rfl).trans ((zIo (by decide)).trans ((zIo (by decide)).trans ((zIo (by decide)).trans rfl)))))))))))))))) ?_
    refine zs_goto (pc := 16) t96_16 ?_
    refine zs_iret (pc := 20) t96_20 mr96 rfl ?_
    show zGo X l 5 0 0 105 94 [(2, .int (8 : Int32)), (0, .ref 164), (1, .ref 7)] [.int (zI M 17 4), .ref 164] w43M _
    have w46 : (zI w43M 164 4).toInt = w21v.toInt := (congrArg Int32.toInt ((w43F 164 4 rfl).trans ((w41F 164 4 rfl).trans ((w39F 164 4 rfl).trans ((zIo (by decide)).trans ((zIo (by decide)).trans ((zIo (by decide)).trans ((zIo (by decide)).trans ((zIo (by decide)).trans ((zIo (by decide)).trans ((zIo (by decide)).trans ((zIo (by decide)).trans zIs)))))))))))).trans rfl
    refine zs_invV (pc := 94) (k := 164) (as' := [.int (zI M 17 4)]) (st := []) t105_94 mf141 rfl rfl (Or.inl ⟨by decide, (zk1 (w43s.k fk_zMc_164))⟩) ⟨by decide, by decide, Nat.le_of_ble_eq_true rfl, Nat.le_of_ble_eq_true rfl⟩ (V141 (τ := w19τ) w43s w43I ⟨(congrArg Int32.toInt ((w43F 165 2 rfl).trans ((w41F 165 2 rfl).trans ((w39F 165 2 rfl).trans ((zIo (by decide)).trans ((zIo (by decide)).trans ((zIo (by decide)).trans ((zIo (by decide)).trans ((zIo (by decide)).trans ((zIo (by decide)).trans ((zIo (by decide)).trans ((zIo (by decide)).trans (zIo (by decide)))))))))))))).trans c1, c2, m1⟩ (fun q hq => (w41b q hq).fr (fun j => w43x1 _ j) ((w43F _ 5 (zoC (by omega) rfl)))) (by omega) w43x0 ?_) (fun _ _ q => q)
    intro w47M w47s w47I w47F w47x0 w47x1 w47x2
    show zGo X l 5 0 0 105 97 [(2, .int (8 : Int32)), (0, .ref 164), (1, .ref 7)] [] w47M _
    refine zs_aload_n (pc := 97) t105_97 rfl ?_
    have w48 : (zI w47M 166 10).toInt = (zI w19M 166 10).toInt := (congrArg Int32.toInt ((w47F 166 10 rfl).trans ((w43F 166 10 rfl).trans ((w41F 166 10 rfl).trans ((w39F 166 10 rfl).trans ((zIo (by decide)).trans ((zIo (by decide)).trans ((zIo (by decide)).trans ((zIo (by decide)).trans ((zIo (by decide)).trans ((zIo (by decide)).trans ((zIo (by decide)).trans ((zIo (by decide)).trans ((zIo (by decide)).trans rfl)))))))))))))).trans rfl
    have w49 : (zI w47M 164 3).toInt = (zI M 17 3).toInt := (congrArg Int32.toInt ((w47F 164 3 rfl).trans ((w43F 164 3 rfl).trans ((w41F 164 3 rfl).trans ((w39F 164 3 rfl).trans ((zIo (by decide)).trans ((zIo (by decide)).trans ((zIo (by decide)).trans ((zIo (by decide)).trans ((zIo (by decide)).trans ((zIo (by decide)).trans ((zIo (by decide)).trans ((zIo (by decide)).trans ((zIoj (by decide)).trans ((w19F 164 3 rfl).trans ((zIoj (by decide)).trans zIs)))))))))))))))).trans rfl
    have w50 : (zI w47M 164 4).toInt = w21v.toInt := (congrArg Int32.toInt ((w47F 164 4 rfl).trans ((w43F 164 4 rfl).trans ((w41F 164 4 rfl).trans ((w39F 164 4 rfl).trans ((zIo (by decide)).trans ((zIo (by decide)).trans ((zIo (by decide)).trans ((zIo (by decide)).trans ((zIo (by decide)).trans ((zIo (by decide)).trans ((zIo (by decide)).trans ((zIo (by decide)).trans zIs))))))))))))).trans rfl
    have w51 : (zI w47M 164 5).toInt = (zI M 7 8).toInt := (congrArg Int32.toInt ((w47F 164 5 rfl).trans ((w43F 164 5 rfl).trans ((w41F 164 5 rfl).trans ((w39F 164 5 rfl).trans ((zIo (by decide)).trans ((zIo (by decide)).trans ((zIo (by decide)).trans ((zIo (by decide)).trans ((zIo (by decide)).trans ((zIo (by decide)).trans ((zIo (by decide)).trans ((zIo (by decide)).trans ((zIoj (by decide)).trans ((w19F 164 5 rfl).trans zIs))))))))))))))).trans rfl
    have w52 : (zI w47M 164 0).toInt = 1 := (congrArg Int32.toInt ((w47F 164 0 rfl).trans ((w43F 164 0 rfl).trans ((w41F 164 0 rfl).trans ((w39F 164 0 rfl).trans ((zIo (by decide)).trans ((zIo (by decide)).trans ((zIo (by decide)).trans ((zIo (by decide)).trans ((zIo (by decide)).trans ((zIo (by decide)).trans ((zIo (by decide)).trans ((zIo (by decide)).trans ((zIoj (by decide)).trans ((w19F 164 0 rfl).trans ((zIoj (by decide)).trans ((zIoj (by decide)).trans zIs))))))))))))))))).trans li1
    exact zs_aret (pc := 98) t105_98 (by rw [mr105]; rfl) (hQ _ w47s w47I ((((((((((((((((((zFr.refl).put rfl).put rfl).put rfl).trans (w19F.mono rfl)).put rfl).put rfl).put rfl).put rfl).put rfl).put rfl).put rfl).put rfl).put rfl).trans (w39F.mono rfl)).trans (w41F.mono rfl)).trans (w43F.mono rfl)).trans (w47F.mono rfl)) (by omega) (by omega) ⟨w19n, mm, w19τ, w19Λ, ⟨(congrArg Int32.toInt ((w47F 165 2 rfl).trans ((w43F 165 2 rfl).trans ((w41F 165 2 rfl).trans ((w39F 165 2 rfl).trans ((zIo (by decide)).trans ((zIo (by decide)).trans ((zIo (by decide)).trans ((zIo (by decide)).trans ((zIo (by decide)).trans ((zIo (by decide)).trans ((zIo (by decide)).trans ((zIo (by decide)).trans (zIo (by decide))))))))))))))).trans c1, c2, m1⟩, c3, c4, w19e, (fun i hi => ((((c5 i hi).fr (fun k j q1 q2 => ((w39F k j (zoC (by omega) rfl)).trans ((zIo (by omega)).trans ((zIo (by omega)).trans ((zIo (by omega)).trans ((zIo (by omega)).trans ((zIo (by omega)).trans ((zIo (by omega)).trans ((zIo (by omega)).trans ((zIo (by omega)).trans (zIo (by omega))))))))))))).tf w41a (by omega)).tf (zTf.eq (fun k j q1 q2 => (w43F k j (zoC (by omega) rfl)))) (by omega)).tf w47x1.tf (by omega)), ⟨by omega, by omega, by omega⟩, m3, m4⟩ (zSp.fr c10 (fun j => ((w47F 174 j rfl).trans ((w43F 174 j rfl).trans ((w41F 174 j rfl).trans ((w39F 174 j rfl).trans ((zIo (by decide)).trans ((zIo (by decide)).trans ((zIo (by decide)).trans ((zIo (by decide)).trans ((zIo (by decide)).trans ((zIo (by decide)).trans ((zIo (by decide)).trans ((zIo (by decide)).trans (zIo (by decide))))))))))))))) ((w47F 166 10 rfl).trans ((w43F 166 10 rfl).trans ((w41F 166 10 rfl).trans ((w39F 166 10 rfl).trans ((zIo (by decide)).trans ((zIo (by decide)).trans ((zIo (by decide)).trans ((zIo (by decide)).trans ((zIo (by decide)).trans ((zIo (by decide)).trans ((zIo (by decide)).trans ((zIo (by decide)).trans (zIo (by decide))))))))))))))) (by omega))
  · refine zs_if_eqF (pc := 4) t105_4 rfl (by omega) ?_
    refine zs_aload_n (pc := 7) t105_7 rfl ?_
    have w53 := zrg (zI M 166 10)
    have w54 : (zI M 166 10).toInt = (zI M 166 10).toInt := (congrArg Int32.toInt rfl).trans rfl
    have w55 : (zI M 164 0).toInt = (zI M 164 0).toInt := (congrArg Int32.toInt rfl).trans rfl
    exact zs_aret (pc := 8) t105_8 (by rw [mr105]; rfl) (hQ _ hs hI (zFr.refl) (by omega) (by omega) (x2 (by omega)) x3 (by omega))
