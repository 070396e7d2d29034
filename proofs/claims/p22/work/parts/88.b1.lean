set_option maxHeartbeats 8000000 in
theorem V114_242 {X : zX} {l : Launch} {M : zM} {Q : Option Value → zM → Prop} {a : Int32} (hs : zSk zMc M) (hI : zIv cLo cHi M) {F : Nat → Int} {L : Nat → Bool} {φ : Nat → Nat} {n s : Nat} {k t : Int} (u0 : (zI M 242 10).toInt ≤ 2000000000) (x0 : zWF F) (x1 : zPn M 242 245 246 F) (x2 : zVt M 242 247 248 249 F L n φ) (x3 : zSp M 242 250) (x4 : a.toInt = (s : Int) ∧ (s : Int) < (zI M 242 0).toInt ∧ (zI M 243 s).toInt = k ∧ (zI M 244 s).toInt = t ∧ zIr F k t) (hQ : ∀ M', zSk zMc M' → zIv cLo cHi M' → zFr [(250, 253, none), (242, 242, some 10), (242, 242, some 15), (242, 242, some 17), (242, 242, some 18), (254, 254, none)] M M' → ((zI M' 242 10).toInt = (zI M 242 10).toInt + 1) → (zBx F L k t (zI M' 242 17).toInt (zI M' 242 18).toInt) → (zSp M' 242 250) → Q none M') : zCall X l 1 0 0 114 [.ref 242, .int a] M Q := by
  have ga := zrg a
  refine zs_in (by decide) mf114 (Nat.le_of_ble_eq_true rfl) ?_
  show zGo X l 1 0 0 114 0 [(0, .ref 242), (1, .int a)] [] M _
  obtain ⟨xs, xn, xk, xt, xr⟩ := x4
  have f1 := x0.1
  have f3 := x0.2.2.2
  have xz := xr
  unfold zIr at xz
  have xw := x1.1
  have xm := x2.1
  have xl := x2.2.1
  refine zs_aload_n (pc := 0) t114_0 rfl ?_
  refine zs_iload_n (pc := 1) t114_1 rfl ?_
  refine zs_invV (pc := 2) (k := 242) (as' := [.int a]) (st := []) t114_2 mf115 rfl rfl (Or.inl ⟨by decide, (zk1 (hs.k fk_zMc_242))⟩) ⟨by decide, by decide, Nat.le_of_ble_eq_true rfl, Nat.le_of_ble_eq_true rfl⟩ (V115_242 hs hI ?_) (fun _ _ q => q)
  intro w1v w1x0
  have w1g := zrg w1v
  have w1y : w1v.toInt = k := (w1x0 s (by omega) (by omega)).trans xk
  have w1z : -3 ≤ w1v.toInt ∧ w1v.toInt ≤ 3 := by omega
  show zGo X l 1 0 0 114 5 [(0, .ref 242), (1, .int a)] [.int w1v] M _
  refine zs_iconst (pc := 5) t114_5 (v := 3) (by decide) ?_
  obtain ⟨w2v, w2e, w2⟩ := ziadd (a := w1v) (b := (3 : Int32)) rfl li3 (by omega) (by omega)
  refine zs_iadd (pc := 6) t114_6 (c := w2v) w2e ?_
  refine zs_bipush (pc := 7) t114_7 (v := 8) (by decide) ?_
  obtain ⟨w3v, w3⟩ : ∃ v, w2v * (8 : Int32) = v := ⟨_, rfl⟩
  have w3g : w3v.toInt = (w1v.toInt + 3) * 8 := by rw [← w3]; exact zmulc w2 li8 (by omega) (by omega)
  refine zs_imul (pc := 9) t114_9 (c := w3v) w3 ?_
  refine zs_istore_n (pc := 10) t114_10 (ls' := [(2, .int w3v), (0, .ref 242), (1, .int a)]) (zml mf114 (by decide)) rfl ?_
  refine zs_aload_n (pc := 11) t114_11 rfl ?_
  refine zs_iload_n (pc := 12) t114_12 rfl ?_
  refine zs_invV (pc := 13) (k := 242) (as' := [.int a]) (st := []) t114_13 mf116 rfl rfl (Or.inl ⟨by decide, (zk1 (hs.k fk_zMc_242))⟩) ⟨by decide, by decide, Nat.le_of_ble_eq_true rfl, Nat.le_of_ble_eq_true rfl⟩ (V116_242 hs hI ?_) (fun _ _ q => q)
  intro w4v w4x0
  have w4g := zrg w4v
  have w4y : w4v.toInt = t := (w4x0 s (by omega) (by omega)).trans xt
  have w4z : -20 ≤ w4v.toInt ∧ w4v.toInt ≤ 20 := by omega
  show zGo X l 1 0 0 114 16 [(2, .int w3v), (0, .ref 242), (1, .int a)] [.int w4v] M _
  refine zs_bipush (pc := 16) t114_16 (v := 20) (by decide) ?_
  obtain ⟨w5v, w5e, w5⟩ := ziadd (a := w4v) (b := (20 : Int32)) rfl li20 (by omega) (by omega)
  refine zs_iadd (pc := 18) t114_18 (c := w5v) w5e ?_
  refine zs_bipush (pc := 19) t114_19 (v := 8) (by decide) ?_
  obtain ⟨w6v, w6⟩ : ∃ v, w5v * (8 : Int32) = v := ⟨_, rfl⟩
  have w6g : w6v.toInt = (w4v.toInt + 20) * 8 := by rw [← w6]; exact zmulc w5 li8 (by omega) (by omega)
  refine zs_imul (pc := 21) t114_21 (c := w6v) w6 ?_
  refine zs_istore_n (pc := 22) t114_22 (ls' := [(3, .int w6v), (2, .int w3v), (0, .ref 242), (1, .int a)]) (zml mf114 (by decide)) rfl ?_
  refine zs_aload_n (pc := 23) t114_23 rfl ?_
  refine zs_dup (pc := 24) t114_24 rfl ?_
  have w7 := zrg (zI M 242 10)
  refine zs_get (pc := 25) t114_25 (by decide) (zk1 (hs.k fk_zMc_242)) (zfvi rfl rfl) ?_
  refine zs_iconst (pc := 28) t114_28 (v := 1) (by decide) ?_
  obtain ⟨w8v, w8e, w8⟩ := ziadd (a := (zI M 242 10)) (b := (1 : Int32)) rfl li1 (by omega) (by omega)
  refine zs_iadd (pc := 29) t114_29 (c := w8v) w8e ?_
  have w9 : zIv cLo cHi (zsI M 242 10 w8v) := zIv.put hI (show (-2147483648) ≤ w8v.toInt ∧ w8v.toInt ≤ 2147483647 from zrg w8v)
  refine zs_putI (pc := 30) t114_30 (zk1 (hs.k fk_zMc_242)) rfl ?_
  refine zs_aload_n (pc := 33) t114_33 rfl ?_
  refine zs_iconst (pc := 34) t114_34 (v := 0) (by decide) ?_
  have w10 : zIv cLo cHi (zsI (zsI M 242 10 w8v) 242 15 (0 : Int32)) := zIv.put w9 (show 0 ≤ (0 : Int32).toInt ∧ (0 : Int32).toInt ≤ 60 from ⟨by decide, by decide⟩)
  refine zs_putI (pc := 35) t114_35 (zk1 (hs.k fk_zMc_242)) rfl ?_
  refine zs_aload_n (pc := 38) t114_38 rfl ?_
  refine zs_iconst (pc := 39) t114_39 (v := 0) (by decide) ?_
  have w11 : zIv cLo cHi (zsI (zsI (zsI M 242 10 w8v) 242 15 (0 : Int32)) 242 17 (0 : Int32)) := zIv.put w10 (show (-2147483648) ≤ (0 : Int32).toInt ∧ (0 : Int32).toInt ≤ 2147483647 from zrg (0 : Int32))
  refine zs_putI (pc := 40) t114_40 (zk1 (hs.k fk_zMc_242)) rfl ?_
  refine zs_aload_n (pc := 43) t114_43 rfl ?_
  refine zs_iconst (pc := 44) t114_44 (v := 0) (by decide) ?_
  have w12 : zIv cLo cHi (zsI (zsI (zsI (zsI M 242 10 w8v) 242 15 (0 : Int32)) 242 17 (0 : Int32)) 242 18 (0 : Int32)) := zIv.put w11 (show (-2147483648) ≤ (0 : Int32).toInt ∧ (0 : Int32).toInt ≤ 2147483647 from zrg (0 : Int32))
  refine zs_putI (pc := 45) t114_45 (zk1 (hs.k fk_zMc_242)) rfl ?_
  refine zs_iconst (pc := 48) t114_48 (v := 0) (by decide) ?_
  refine zs_istore (pc := 49) t114_49 (ls' := [(4, .int (0 : Int32)), (3, .int w6v), (2, .int w3v), (0, .ref 242), (1, .int a)]) (zml mf114 (by decide)) rfl ?_
  have w13L : ∀ (m : Nat) (w13x4 : Int32) (w13M : zM), (0 ≤ w13x4.toInt ∧ w13x4.toInt ≤ 60) → zSk zMc w13M → zIv cLo cHi w13M → zFr [(250, 253, none), (242, 242, some 10), (242, 242, some 15), (242, 242, some 17), (242, 242, some 18), (254, 254, none)] (zsI (zsI (zsI (zsI M 242 10 w8v) 242 15 (0 : Int32)) 242 17 (0 : Int32)) 242 18 (0 : Int32)) w13M → (w13x4.toInt ≤ n) → ((zI w13M 242 10).toInt = (zI (zsI (zsI (zsI (zsI M 242 10 w8v) 242 15 (0 : Int32)) 242 17 (0 : Int32)) 242 18 (0 : Int32)) 242 10).toInt) → (∀ i : Nat, (i : Int) = w13x4.toInt → zTl w13M 242 250 251 252 253 F φ i k t) → 60 - w13x4.toInt ≤ (m : Int) → zGo X l 1 0 0 114 51 [(0, .ref 242), (1, .int a), (2, .int w3v), (3, .int w6v), (4, .int w13x4)] [] w13M Q := by
    intro m
    induction m using Nat.strongRecOn with
    | ind w13m w13ih =>
      intro w13x4 w13M w13b4 w13s w13I w13F w13r0 w13r1 w13t0 w13q
      obtain ⟨w14n, w14⟩ : ∃ n : Nat, w13x4.toInt = (n : Int) := ⟨(w13x4.toInt).toNat, by omega⟩
      have hT := w13t0 w14n (by omega)
      have w15 := zrg (zI w13M 242 10)
      have w16 : (zI (zsI (zsI (zsI (zsI M 242 10 w8v) 242 15 (0 : Int32)) 242 17 (0 : Int32)) 242 18 (0 : Int32)) 242 10).toInt = ((zI M 242 10).toInt + 1) := (congrArg Int32.toInt ((zIoj (by decide)).trans ((zIoj (by decide)).trans ((zIoj (by decide)).trans zIs)))).trans w8
      refine zs_iload (pc := 51) t114_51 rfl ?_
      refine zs_aload_n (pc := 53) t114_53 rfl ?_
      have w17 := ib242_6 hI
      refine zs_get (pc := 54) t114_54 (by decide) (zk1 (w13s.k fk_zMc_242)) (zfvi rfl ((w13F 242 6 rfl).trans ((zIoj (by decide)).trans ((zIoj (by decide)).trans ((zIoj (by decide)).trans ((zIoj (by decide)).trans rfl)))))) ?_
      by_cases w18 : (zI M 242 6).toInt ≤ w13x4.toInt
      · refine zs_icmp_geT (pc := 57) t114_57 rfl rfl (by omega) ?_
        have w19 : (zI w13M 242 10).toInt = (zI w13M 242 10).toInt := (congrArg Int32.toInt rfl).trans rfl
        exact zs_vret (pc := 214) t114_214 mr114 (hQ _ w13s w13I ((((((zFr.refl).put rfl).put rfl).put rfl).put rfl).trans (w13F.mono rfl)) (by omega) (by obtain rfl : n = w14n := (by omega); exact hT.2.1.lp x2.lp) hT.2.2)
      · refine zs_icmp_geF (pc := 57) t114_57 rfl rfl (by omega) ?_
        refine zs_aload_n (pc := 60) t114_60 rfl ?_
        refine zs_get (pc := 61) t114_61 (by decide) (zk1 (w13s.k fk_zMc_242)) (w13s.p rfl fv_zMc_242_8) ?_
        refine zs_iload (pc := 64) t114_64 rfl ?_
        have w20 := ib248 hI w14n
        have hv := x2.2.2.1 w14n (by omega)
        have hv1 := hv.1
        have hv4 := hv.2.2.2.1
        have hv5 := hv.2.2.2.2
        have hw := x0.2.2.1 (φ w14n) hv1
        obtain ⟨w21n, w21⟩ : ∃ n : Nat, (zI M 248 w14n).toInt = (n : Int) := ⟨((zI M 248 w14n).toInt).toNat, by omega⟩
        have hx := x0.2.1 w21n (by omega)
        have hb := pLf.b (F := F) (l := w21n) (t := t) (k := k) hx.1 hx.2.1 (by omega) (by omega) (by omega) (by omega)
        refine zs_iald (pc := 66) t114_66 (j := w14n) (by decide) (zk1 (w13s.k fk_zMc_248)) (show w13x4.toInt = ((w14n : Nat) : Int) by omega) (zk2 (w13s.k fk_zMc_248) (by omega)) ((w13F 248 w14n rfl).trans ((zIo (by decide)).trans ((zIo (by decide)).trans ((zIo (by decide)).trans ((zIo (by decide)).trans rfl))))) ?_
        refine zs_istore (pc := 67) t114_67 (ls' := [(5, .int (zI M 248 w14n)), (0, .ref 242), (1, .int a), (2, .int w3v), (3, .int w6v), (4, .int w13x4)]) (zml mf114 (by decide)) rfl ?_
        refine zs_aload_n (pc := 69) t114_69 rfl ?_
        refine zs_get (pc := 70) t114_70 (by decide) (zk1 (w13s.k fk_zMc_242)) (w13s.p rfl fv_zMc_242_9) ?_
        refine zs_iload (pc := 73) t114_73 rfl ?_
        have w22 := zrg (zI M 249 w14n)
        refine zs_iald (pc := 75) t114_75 (j := w14n) (by decide) (zk1 (w13s.k fk_zMc_249)) (show w13x4.toInt = ((w14n : Nat) : Int) by omega) (zk2 (w13s.k fk_zMc_249) (by omega)) ((w13F 249 w14n rfl).trans ((zIo (by decide)).trans ((zIo (by decide)).trans ((zIo (by decide)).trans ((zIo (by decide)).trans rfl))))) ?_
        refine zs_aload_n (pc := 76) t114_76 rfl ?_
        refine zs_get (pc := 77) t114_77 (by decide) (zk1 (w13s.k fk_zMc_242)) (w13s.p rfl fv_zMc_242_3) ?_
        refine zs_iload_n (pc := 80) t114_80 rfl ?_
        refine zs_iload (pc := 81) t114_81 rfl ?_
        obtain ⟨w23v, w23e, w23⟩ := ziadd (a := w3v) (b := (zI M 248 w14n)) w3g rfl (by omega) (by omega)
        refine zs_iadd (pc := 83) t114_83 (c := w23v) w23e ?_
        obtain ⟨w24n, w24⟩ : ∃ n : Nat, w23v.toInt = (n : Int) := ⟨w23v.toInt.toNat, by omega⟩
        have w25 := zrg (zI M 245 w24n)
        have w26 := x1.2.1 w21n w24n k (by omega) (by omega) (by omega) (by omega)
        have w27 : -98802099 ≤ (zI M 245 w24n).toInt ∧ (zI M 245 w24n).toInt ≤ 98802099 := by omega
        refine zs_iald (pc := 84) t114_84 (j := w24n) (by decide) (zk1 (w13s.k fk_zMc_245)) w24 (zk2 (w13s.k fk_zMc_245) (by omega)) ((w13F 245 w24n rfl).trans ((zIo (by decide)).trans ((zIo (by decide)).trans ((zIo (by decide)).trans ((zIo (by decide)).trans rfl))))) ?_
        obtain ⟨w28v, w28e, w28⟩ := zisub (a := (zI M 249 w14n)) (b := (zI M 245 w24n)) rfl rfl (by omega) (by omega)
        refine zs_isub (pc := 85) t114_85 (c := w28v) w28e ?_
        refine zs_aload_n (pc := 86) t114_86 rfl ?_
        refine zs_get (pc := 87) t114_87 (by decide) (zk1 (w13s.k fk_zMc_242)) (w13s.p rfl fv_zMc_242_4) ?_
        refine zs_iload_n (pc := 90) t114_90 rfl ?_
        refine zs_iload (pc := 91) t114_91 rfl ?_
        obtain ⟨w29v, w29e, w29⟩ := ziadd (a := w6v) (b := (zI M 248 w14n)) w6g rfl (by omega) (by omega)
        refine zs_iadd (pc := 93) t114_93 (c := w29v) w29e ?_
        obtain ⟨w30n, w30⟩ : ∃ n : Nat, w29v.toInt = (n : Int) := ⟨w29v.toInt.toNat, by omega⟩
        have w31 := zrg (zI M 246 w30n)
        have w32 := x1.2.2 w21n w30n t (by omega) (by omega) (by omega) (by omega)
        have w33 : -98901 ≤ (zI M 246 w30n).toInt ∧ (zI M 246 w30n).toInt ≤ 98901 := by omega
        refine zs_iald (pc := 94) t114_94 (j := w30n) (by decide) (zk1 (w13s.k fk_zMc_246)) w30 (zk2 (w13s.k fk_zMc_246) (by omega)) ((w13F 246 w30n rfl).trans ((zIo (by decide)).trans ((zIo (by decide)).trans ((zIo (by decide)).trans ((zIo (by decide)).trans rfl))))) ?_
        obtain ⟨w34v, w34e, w34⟩ := zisub (a := w28v) (b := (zI M 246 w30n)) w28 rfl (by omega) (by omega)
        refine zs_isub (pc := 95) t114_95 (c := w34v) w34e ?_
        refine zs_istore (pc := 96) t114_96 (ls' := [(6, .int w34v), (5, .int (zI M 248 w14n)), (0, .ref 242), (1, .int a), (2, .int w3v), (3, .int w6v), (4, .int w13x4)]) (zml mf114 (by decide)) rfl ?_
        refine zs_iload (pc := 98) t114_98 rfl ?_
        refine zs_aload_n (pc := 100) t114_100 rfl ?_
        have w35 := ib242_5 hI
        refine zs_get (pc := 101) t114_101 (by decide) (zk1 (w13s.k fk_zMc_242)) (zfvi rfl ((w13F 242 5 rfl).trans ((zIoj (by decide)).trans ((zIoj (by decide)).trans ((zIoj (by decide)).trans ((zIoj (by decide)).trans rfl)))))) ?_
        have w36 : w34v.toInt = (((zI M 249 w14n).toInt - (zI M 245 w24n).toInt) - (zI M 246 w30n).toInt) := w34
        have w37 : w34v.toInt = (((zI M 249 w14n).toInt - (zI M 245 w24n).toInt) - (zI M 246 w30n).toInt) := w34
        refine zs_invS (pc := 104) (as := [.int w34v, .int (zI M 242 5)]) (st := []) t114_104 (by decide) mf54 rfl rfl ⟨by decide, by decide, Nat.le_of_ble_eq_true rfl, Nat.le_of_ble_eq_true rfl⟩ (X54 w13s w13I ⟨by omega, by omega⟩ ?_) (fun _ _ q => q)
        intro w38v w38x0
        have w38g := zrg w38v
        have hc : w38v.toInt = cel F k t (φ w14n) := by
          rw [w38x0, show w34v.toInt = F (31 + 4 * φ w14n) - pLf F w21n t k by unfold pLf; omega, show (zI M 242 5).toInt = F 7 by omega]
          unfold cel
          rw [show (F (30 + 4 * φ w14n)).toNat = w21n by omega]
        show zGo X l 1 0 0 114 107 [(6, .int w34v), (5, .int (zI M 248 w14n)), (0, .ref 242), (1, .int a), (2, .int w3v), (3, .int w6v), (4, .int w13x4)] [.int w38v] w13M _
        refine zs_istore (pc := 107) t114_107 (ls' := [(7, .int w38v), (6, .int w34v), (5, .int (zI M 248 w14n)), (0, .ref 242), (1, .int a), (2, .int w3v), (3, .int w6v), (4, .int w13x4)]) (zml mf114 (by decide)) rfl ?_
        refine zs_aload_n (pc := 109) t114_109 rfl ?_
        refine zs_iload (pc := 110) t114_110 rfl ?_
        refine zs_invV (pc := 112) (k := 242) (as' := [.int w38v]) (st := []) t114_112 mf117 rfl rfl (Or.inl ⟨by decide, (zk1 (w13s.k fk_zMc_242))⟩) ⟨by decide, by decide, Nat.le_of_ble_eq_true rfl, Nat.le_of_ble_eq_true rfl⟩ (V117_242 w13s w13I hT.1.1 (by have z := hT.1.2.1; omega) ?_) (fun _ _ q => q)
        intro w39M w39v w39s w39I w39F w39x0 w39a w39b
        obtain ⟨w39sl, w39h, hz⟩ := w39x0
        have hk := hT.mask hz
        have hk2 := hk.2
        have hk3 : 0 ≤ (zI w39M 253 w39sl).toInt ∧ (zI w39M 253 w39sl).toInt ≤ 8 := by rw [hk2]; exact vot.rg
        have hr := hT.2.1.rg
        show zGo X l 1 0 0 114 115 [(7, .int w38v), (6, .int w34v), (5, .int (zI M 248 w14n)), (0, .ref 242), (1, .int a), (2, .int w3v), (3, .int w6v), (4, .int w13x4)] [.int w39v] w39M _
        refine zs_istore (pc := 115) t114_115 (ls' := [(8, .int w39v), (7, .int w38v), (6, .int w34v), (5, .int (zI M 248 w14n)), (0, .ref 242), (1, .int a), (2, .int w3v), (3, .int w6v), (4, .int w13x4)]) (zml mf114 (by decide)) rfl ?_
        refine zs_aload_n (pc := 117) t114_117 rfl ?_
        refine zs_get (pc := 118) t114_118 (by decide) (zk1 (w39s.k fk_zMc_242)) (w39s.p rfl fv_zMc_242_13) ?_
        refine zs_iload (pc := 121) t114_121 rfl ?_
        have w40 := zrg (zI w39M 252 w39sl)
        refine zs_iald (pc := 123) t114_123 (j := w39sl) (by decide) (zk1 (w39s.k fk_zMc_252)) (show w39v.toInt = ((w39sl : Nat) : Int) by omega) (zk2 (w39s.k fk_zMc_252) (by omega)) rfl ?_
        refine zs_iconst (pc := 124) t114_124 (v := 1) (by decide) ?_
        refine zs_iload (pc := 125) t114_125 rfl ?_
        obtain ⟨w41v, w41⟩ : ∃ v, (1 : Int32) <<< ((zI M 248 w14n) &&& 31) = v := ⟨_, rfl⟩
        have w41g := zrg w41v
        refine zs_ishl (pc := 127) t114_127 (c := w41v) w41 ?_
        obtain ⟨w42v, w42⟩ : ∃ v, (zI w39M 252 w39sl) &&& w41v = v := ⟨_, rfl⟩
        have w42g := zrg w42v
        refine zs_iand (pc := 128) t114_128 (c := w42v) w42 ?_
        by_cases w43 : w42v.toInt = 0
        · refine zs_if_eqT (pc := 129) t114_129 rfl (by omega) ?_
          refine zs_aload_n (pc := 135) t114_135 rfl ?_
          refine zs_get (pc := 136) t114_136 (by decide) (zk1 (w39s.k fk_zMc_242)) (w39s.p rfl fv_zMc_242_13) ?_
          refine zs_iload (pc := 139) t114_139 rfl ?_
          refine zs_dup2 (pc := 141) t114_141 ⟨rfl, rfl⟩ ?_
          refine zs_iald (pc := 142) t114_142 (j := w39sl) (by decide) (zk1 (w39s.k fk_zMc_252)) (show w39v.toInt = ((w39sl : Nat) : Int) by omega) (zk2 (w39s.k fk_zMc_252) (by omega)) rfl ?_
          refine zs_iconst (pc := 143) t114_143 (v := 1) (by decide) ?_
          refine zs_iload (pc := 144) t114_144 rfl ?_
          obtain ⟨w44v, w44⟩ : ∃ v, (1 : Int32) <<< ((zI M 248 w14n) &&& 31) = v := ⟨_, rfl⟩
          have w44g := zrg w44v
          refine zs_ishl (pc := 146) t114_146 (c := w44v) w44 ?_
          obtain ⟨w45v, w45⟩ : ∃ v, (zI w39M 252 w39sl) ||| w44v = v := ⟨_, rfl⟩
          have w45g := zrg w45v
          refine zs_ior (pc := 147) t114_147 (c := w45v) w45 ?_
          have w46 : zIv cLo cHi (zsI w39M 252 w39sl w45v) := zIv.put w39I (show (-2147483648) ≤ w45v.toInt ∧ w45v.toInt ≤ 2147483647 from zrg w45v)
          refine zs_iast (pc := 148) t114_148 (j := w39sl) (by decide) (zk1 (w39s.k fk_zMc_252)) (show w39v.toInt = ((w39sl : Nat) : Int) by omega) (zk2 (w39s.k fk_zMc_252) (by omega)) ?_
          refine zs_aload_n (pc := 149) t114_149 rfl ?_
          refine zs_get (pc := 150) t114_150 (by decide) (zk1 (w39s.k fk_zMc_242)) (w39s.p rfl fv_zMc_242_14) ?_
          refine zs_iload (pc := 153) t114_153 rfl ?_
          refine zs_dup2 (pc := 155) t114_155 ⟨rfl, rfl⟩ ?_
          have w47 := zrg (zI w39M 253 w39sl)
          refine zs_iald (pc := 156) t114_156 (j := w39sl) (by decide) (zk1 (w39s.k fk_zMc_253)) (show w39v.toInt = ((w39sl : Nat) : Int) by omega) (zk2 (w39s.k fk_zMc_253) (by omega)) ((zIo (by decide)).trans rfl) ?_
          refine zs_iconst (pc := 157) t114_157 (v := 1) (by decide) ?_
          obtain ⟨w48v, w48e, w48⟩ := ziadd (a := (zI w39M 253 w39sl)) (b := (1 : Int32)) rfl li1 (by omega) (by omega)
          refine zs_iadd (pc := 158) t114_158 (c := w48v) w48e ?_
          have w49 : zIv cLo cHi (zsI (zsI w39M 252 w39sl w45v) 253 w39sl w48v) := zIv.put w46 (show (-2147483648) ≤ w48v.toInt ∧ w48v.toInt ≤ 2147483647 from zrg w48v)
          refine zs_iast (pc := 159) t114_159 (j := w39sl) (by decide) (zk1 (w39s.k fk_zMc_253)) (show w39v.toInt = ((w39sl : Nat) : Int) by omega) (zk2 (w39s.k fk_zMc_253) (by omega)) ?_
          refine zs_aload_n (pc := 160) t114_160 rfl ?_
          refine zs_get (pc := 161) t114_161 (by decide) (zk1 (w39s.k fk_zMc_242)) (w39s.p rfl fv_zMc_242_14) ?_
          refine zs_iload (pc := 164) t114_164 rfl ?_
          refine zs_iald (pc := 166) t114_166 (j := w39sl) (by decide) (zk1 (w39s.k fk_zMc_253)) (show w39v.toInt = ((w39sl : Nat) : Int) by omega) (zk2 (w39s.k fk_zMc_253) (by omega)) zIs ?_
          refine zs_istore (pc := 167) t114_167 (ls' := [(9, .int w48v), (8, .int w39v), (7, .int w38v), (6, .int w34v), (5, .int (zI M 248 w14n)), (0, .ref 242), (1, .int a), (2, .int w3v), (3, .int w6v), (4, .int w13x4)]) (zml mf114 (by decide)) rfl ?_
          refine zs_iload (pc := 169) t114_169 rfl ?_
          refine zs_aload_n (pc := 171) t114_171 rfl ?_
          have w50 := zrg (zI w13M 242 17)
          refine zs_get (pc := 172) t114_172 (by decide) (zk1 (w39s.k fk_zMc_242)) (zfvi rfl ((zIo (by decide)).trans ((zIo (by decide)).trans ((w39F 242 17 rfl).trans rfl)))) ?_
          by_cases w51 : (zI w13M 242 17).toInt < ((zI w39M 253 w39sl).toInt + 1)
          · refine zs_icmp_gtT (pc := 175) t114_175 w48 rfl (by omega) ?_
            refine zs_aload_n (pc := 196) t114_196 rfl ?_
            refine zs_iload (pc := 197) t114_197 rfl ?_
            have w52 : zIv cLo cHi (zsI (zsI (zsI w39M 252 w39sl w45v) 253 w39sl w48v) 242 17 w48v) := zIv.put w49 (show (-2147483648) ≤ w48v.toInt ∧ w48v.toInt ≤ 2147483647 from zrg w48v)
            refine zs_putI (pc := 199) t114_199 (zk1 (w39s.k fk_zMc_242)) rfl ?_
            refine zs_aload_n (pc := 202) t114_202 rfl ?_
            refine zs_iload (pc := 203) t114_203 rfl ?_
            have w53 : zIv cLo cHi (zsI (zsI (zsI (zsI w39M 252 w39sl w45v) 253 w39sl w48v) 242 17 w48v) 242 18 w38v) := zIv.put w52 (show (-2147483648) ≤ w38v.toInt ∧ w38v.toInt ≤ 2147483647 from zrg w38v)
            refine zs_putI (pc := 205) t114_205 (zk1 (w39s.k fk_zMc_242)) rfl ?_
            obtain ⟨w54v, w54e, w54⟩ := ziadd (a := w13x4) (b := Int32.ofInt 1) rfl (show (Int32.ofInt 1).toInt = 1 by decide) (by omega) (by omega)
            refine zs_iinc (pc := 208) t114_208 (ls' := [(4, .int w54v), (9, .int w48v), (8, .int w39v), (7, .int w38v), (6, .int w34v), (5, .int (zI M 248 w14n)), (0, .ref 242), (1, .int a), (2, .int w3v), (3, .int w6v)]) (zml mf114 (by decide)) rfl (c := w54v) w54e rfl ?_
            refine zs_goto (pc := 211) t114_211 ?_
            refine zGo.locals (ls' := [(0, .ref 242), (1, .int a), (2, .int w3v), (3, .int w6v), (4, .int w54v)]) (by simp) ?_
            have w55 := w54
            have w56 : (zI (zsI (zsI (zsI (zsI w39M 252 w39sl w45v) 253 w39sl w48v) 242 17 w48v) 242 18 w38v) 242 10).toInt = (zI w13M 242 10).toInt := (congrArg Int32.toInt ((zIoj (by decide)).trans ((zIoj (by decide)).trans ((zIo (by decide)).trans ((zIo (by decide)).trans ((w39F 242 10 rfl).trans rfl)))))).trans rfl
            have w57 : (zI (zsI (zsI (zsI (zsI w39M 252 w39sl w45v) 253 w39sl w48v) 242 17 w48v) 242 18 w38v) 242 17).toInt = ((zI w39M 253 w39sl).toInt + 1) := (congrArg Int32.toInt ((zIoj (by decide)).trans zIs)).trans w48
            have w58 : (zI (zsI (zsI (zsI (zsI w39M 252 w39sl w45v) 253 w39sl w48v) 242 17 w48v) 242 18 w38v) 242 18).toInt = w38v.toInt := (congrArg Int32.toInt zIs).trans rfl
            exact w13ih (w13m - 1) (by omega) w54v (zsI (zsI (zsI (zsI w39M 252 w39sl w45v) 253 w39sl w48v) 242 17 w48v) 242 18 w38v) ⟨by omega, by omega⟩ w39s w53 (((((((zFr.refl).trans (w13F.mono rfl)).trans (w39F.mono rfl)).put rfl).put rfl).put rfl).put rfl) (by omega) (by omega) (fun i hi => by obtain rfl : i = w14n + 1 := (by omega); have hh := hk.1.has (l := (zI M 248 w14n)) (j := w21n) (by omega) (by omega) w41 w42; exact hT.vote hz (by omega) hv1 (by omega) (by omega) (hh.1 (by omega)) ((zIoj (by decide)).trans ((zIoj (by decide)).trans ((zIo (by decide)).trans ((zIo (by decide)).trans rfl)))) (fun j => ((zIo (by decide)).trans ((zIo (by decide)).trans ((zIo (by decide)).trans ((zIo (by decide)).trans rfl))))) (fun j => ((zIo (by decide)).trans ((zIo (by decide)).trans ((zIo (by decide)).trans ((zIo (by decide)).trans rfl))))) (fun j q => ((zIo (by decide)).trans ((zIo (by decide)).trans ((zIo (by decide)).trans ((zIoj q).trans rfl))))) (fun j q => ((zIo (by decide)).trans ((zIo (by decide)).trans ((zIoj q).trans ((zIo (by decide)).trans rfl))))) (fun S hS => by rw [show zI (zsI (zsI (zsI (zsI w39M 252 w39sl w45v) 253 w39sl w48v) 242 17 w48v) 242 18 w38v) 252 w39sl = w45v from (zIo (by decide)).trans ((zIo (by decide)).trans ((zIo (by decide)).trans (zIs)))]; exact hS.add (l := (zI M 248 w14n)) (j := w21n) (by omega) (by omega) w44 w45 (fun _ => rfl)) (congrArg Int32.toInt ((zIo (by decide)).trans ((zIo (by decide)).trans (zIs)))) (by omega) rfl rfl (by omega)) (by omega)
          · refine zs_icmp_gtF (pc := 175) t114_175 w48 rfl (by omega) ?_
            refine zs_iload (pc := 178) t114_178 rfl ?_
            refine zs_aload_n (pc := 180) t114_180 rfl ?_
            refine zs_get (pc := 181) t114_181 (by decide) (zk1 (w39s.k fk_zMc_242)) (zfvi rfl ((zIo (by decide)).trans ((zIo (by decide)).trans ((w39F 242 17 rfl).trans rfl)))) ?_
            by_cases w59 : ((zI w39M 253 w39sl).toInt + 1) ≠ (zI w13M 242 17).toInt
            · refine zs_icmp_neT (pc := 184) t114_184 w48 rfl (by omega) ?_
              obtain ⟨w60v, w60e, w60⟩ := ziadd (a := w13x4) (b := Int32.ofInt 1) rfl (show (Int32.ofInt 1).toInt = 1 by decide) (by omega) (by omega)
              refine zs_iinc (pc := 208) t114_208 (ls' := [(4, .int w60v), (9, .int w48v), (8, .int w39v), (7, .int w38v), (6, .int w34v), (5, .int (zI M 248 w14n)), (0, .ref 242), (1, .int a), (2, .int w3v), (3, .int w6v)]) (zml mf114 (by decide)) rfl (c := w60v) w60e rfl ?_
              refine zs_goto (pc := 211) t114_211 ?_
              refine zGo.locals (ls' := [(0, .ref 242), (1, .int a), (2, .int w3v), (3, .int w6v), (4, .int w60v)]) (by simp) ?_
              have w61 := w60
              have w62 : (zI (zsI (zsI w39M 252 w39sl w45v) 253 w39sl w48v) 242 10).toInt = (zI w13M 242 10).toInt := (congrArg Int32.toInt ((zIo (by decide)).trans ((zIo (by decide)).trans ((w39F 242 10 rfl).trans rfl)))).trans rfl
              have w63 : (zI (zsI (zsI w39M 252 w39sl w45v) 253 w39sl w48v) 242 17).toInt = (zI w13M 242 17).toInt := (congrArg Int32.toInt ((zIo (by decide)).trans ((zIo (by decide)).trans ((w39F 242 17 rfl).trans rfl)))).trans rfl
              have w64 := zrg (zI w13M 242 18)
              have w65 : (zI (zsI (zsI w39M 252 w39sl w45v) 253 w39sl w48v) 242 18).toInt = (zI w13M 242 18).toInt := (congrArg Int32.toInt ((zIo (by decide)).trans ((zIo (by decide)).trans ((w39F 242 18 rfl).trans rfl)))).trans rfl
              exact w13ih (w13m - 1) (by omega) w60v (zsI (zsI w39M 252 w39sl w45v) 253 w39sl w48v) ⟨by omega, by omega⟩ w39s w49 (((((zFr.refl).trans (w13F.mono rfl)).trans (w39F.mono rfl)).put rfl).put rfl) (by omega) (by omega) (fun i hi => by obtain rfl : i = w14n + 1 := (by omega); have hh := hk.1.has (l := (zI M 248 w14n)) (j := w21n) (by omega) (by omega) w41 w42; exact hT.vote hz (by omega) hv1 (by omega) (by omega) (hh.1 (by omega)) ((zIo (by decide)).trans ((zIo (by decide)).trans rfl)) (fun j => ((zIo (by decide)).trans ((zIo (by decide)).trans rfl))) (fun j => ((zIo (by decide)).trans ((zIo (by decide)).trans rfl))) (fun j q => ((zIo (by decide)).trans ((zIoj q).trans rfl))) (fun j q => ((zIoj q).trans ((zIo (by decide)).trans rfl))) (fun S hS => by rw [show zI (zsI (zsI w39M 252 w39sl w45v) 253 w39sl w48v) 252 w39sl = w45v from (zIo (by decide)).trans (zIs)]; exact hS.add (l := (zI M 248 w14n)) (j := w21n) (by omega) (by omega) w44 w45 (fun _ => rfl)) (congrArg Int32.toInt (zIs)) (by omega) rfl rfl (by omega)) (by omega)
            · refine zs_icmp_neF (pc := 184) t114_184 w48 rfl (by omega) ?_
              refine zs_iload (pc := 187) t114_187 rfl ?_
              refine zs_aload_n (pc := 189) t114_189 rfl ?_
              refine zs_get (pc := 190) t114_190 (by decide) (zk1 (w39s.k fk_zMc_242)) (zfvi rfl ((zIo (by decide)).trans ((zIo (by decide)).trans ((w39F 242 18 rfl).trans rfl)))) ?_
              by_cases w66 : (zI w13M 242 18).toInt ≤ w38v.toInt
              · refine zs_icmp_geT (pc := 193) t114_193 rfl rfl (by omega) ?_
                obtain ⟨w67v, w67e, w67⟩ := ziadd (a := w13x4) (b := Int32.ofInt 1) rfl (show (Int32.ofInt 1).toInt = 1 by decide) (by omega) (by omega)
                refine zs_iinc (pc := 208) t114_208 (ls' := [(4, .int w67v), (9, .int w48v), (8, .int w39v), (7, .int w38v), (6, .int w34v), (5, .int (zI M 248 w14n)), (0, .ref 242), (1, .int a), (2, .int w3v), (3, .int w6v)]) (zml mf114 (by decide)) rfl (c := w67v) w67e rfl ?_
                refine zs_goto (pc := 211) t114_211 ?_
                refine zGo.locals (ls' := [(0, .ref 242), (1, .int a), (2, .int w3v), (3, .int w6v), (4, .int w67v)]) (by simp) ?_
                have w68 := w67
                have w69 : (zI (zsI (zsI w39M 252 w39sl w45v) 253 w39sl w48v) 242 10).toInt = (zI w13M 242 10).toInt := (congrArg Int32.toInt ((zIo (by decide)).trans ((zIo (by decide)).trans ((w39F 242 10 rfl).trans rfl)))).trans rfl
                have w70 : (zI (zsI (zsI w39M 252 w39sl w45v) 253 w39sl w48v) 242 17).toInt = (zI w13M 242 17).toInt := (congrArg Int32.toInt ((zIo (by decide)).trans ((zIo (by decide)).trans ((w39F 242 17 rfl).trans rfl)))).trans rfl
                have w71 : (zI (zsI (zsI w39M 252 w39sl w45v) 253 w39sl w48v) 242 18).toInt = (zI w13M 242 18).toInt := (congrArg Int32.toInt ((zIo (by decide)).trans ((zIo (by decide)).trans ((w39F 242 18 rfl).trans rfl)))).trans rfl
                exact w13ih (w13m - 1) (by omega) w67v (zsI (zsI w39M 252 w39sl w45v) 253 w39sl w48v) ⟨by omega, by omega⟩ w39s w49 (((((zFr.refl).trans (w13F.mono rfl)).trans (w39F.mono rfl)).put rfl).put rfl) (by omega) (by omega) (fun i hi => by obtain rfl : i = w14n + 1 := (by omega); have hh := hk.1.has (l := (zI M 248 w14n)) (j := w21n) (by omega) (by omega) w41 w42; exact hT.vote hz (by omega) hv1 (by omega) (by omega) (hh.1 (by omega)) ((zIo (by decide)).trans ((zIo (by decide)).trans rfl)) (fun j => ((zIo (by decide)).trans ((zIo (by decide)).trans rfl))) (fun j => ((zIo (by decide)).trans ((zIo (by decide)).trans rfl))) (fun j q => ((zIo (by decide)).trans ((zIoj q).trans rfl))) (fun j q => ((zIoj q).trans ((zIo (by decide)).trans rfl))) (fun S hS => by rw [show zI (zsI (zsI w39M 252 w39sl w45v) 253 w39sl w48v) 252 w39sl = w45v from (zIo (by decide)).trans (zIs)]; exact hS.add (l := (zI M 248 w14n)) (j := w21n) (by omega) (by omega) w44 w45 (fun _ => rfl)) (congrArg Int32.toInt (zIs)) (by omega) rfl rfl (by omega)) (by omega)
              · refine zs_icmp_geF (pc := 193) t114_193 rfl rfl (by omega) ?_
                refine zs_aload_n (pc := 196) t114_196 rfl ?_
                refine zs_iload (pc := 197) t114_197 rfl ?_
                have w72 : zIv cLo cHi (zsI (zsI (zsI w39M 252 w39sl w45v) 253 w39sl w48v) 242 17 w48v) := zIv.put w49 (show (-2147483648) ≤ w48v.toInt ∧ w48v.toInt ≤ 2147483647 from zrg w48v)
                refine zs_putI (pc := 199) t114_199 (zk1 (w39s.k fk_zMc_242)) rfl ?_
                refine zs_aload_n (pc := 202) t114_202 rfl ?_
                refine zs_iload (pc := 203) t114_203 rfl ?_
                have w73 : zIv cLo cHi (zsI (zsI (zsI (zsI w39M 252 w39sl w45v) 253 w39sl w48v) 242 17 w48v) 242 18 w38v) := zIv.put w72 (show (-2147483648) ≤ w38v.toInt ∧ w38v.toInt ≤ 2147483647 from zrg w38v)
                refine zs_putI (pc := 205) t114_205 (zk1 (w39s.k fk_zMc_242)) rfl ?_
                obtain ⟨w74v, w74e, w74⟩ := ziadd (a := w13x4) (b := Int32.ofInt 1) rfl (show (Int32.ofInt 1).toInt = 1 by decide) (by omega) (by omega)
                refine zs_iinc (pc := 208) t114_208 (ls' := [(4, .int w74v), (9, .int w48v), (8, .int w39v), (7, .int w38v), (6, .int w34v), (5, .int (zI M 248 w14n)), (0, .ref 242), (1, .int a), (2, .int w3v), (3, .int w6v)]) (zml mf114 (by decide)) rfl (c := w74v) w74e rfl ?_
                refine zs_goto (pc := 211) t114_211 ?_
                refine zGo.locals (ls' := [(0, .ref 242), (1, .int a), (2, .int w3v), (3, .int w6v), (4, .int w74v)]) (by simp) ?_
                have w75 := w74
                have w76 : (zI (zsI (zsI (zsI (zsI w39M 252 w39sl w45v) 253 w39sl w48v) 242 17 w48v) 242 18 w38v) 242 10).toInt = (zI w13M 242 10).toInt := (congrArg Int32.toInt ((zIoj (by decide)).trans ((zIoj (by decide)).trans ((zIo (by decide)).trans ((zIo (by decide)).trans ((w39F 242 10 rfl).trans rfl)))))).trans rfl
                have w77 : (zI (zsI (zsI (zsI (zsI w39M 252 w39sl w45v) 253 w39sl w48v) 242 17 w48v) 242 18 w38v) 242 17).toInt = ((zI w39M 253 w39sl).toInt + 1) := (congrArg Int32.toInt ((zIoj (by decide)).trans zIs)).trans w48
                have w78 : (zI (zsI (zsI (zsI (zsI w39M 252 w39sl w45v) 253 w39sl w48v) 242 17 w48v) 242 18 w38v) 242 18).toInt = w38v.toInt := (congrArg Int32.toInt zIs).trans rfl
                exact w13ih (w13m - 1) (by omega) w74v (zsI (zsI (zsI (zsI w39M 252 w39sl w45v) 253 w39sl w48v) 242 17 w48v) 242 18 w38v) ⟨by omega, by omega⟩ w39s w73 (((((((zFr.refl).trans (w13F.mono rfl)).trans (w39F.mono rfl)).put rfl).put rfl).put rfl).put rfl) (by omega) (by omega) (fun i hi => by obtain rfl : i = w14n + 1 := (by omega); have hh := hk.1.has (l := (zI M 248 w14n)) (j := w21n) (by omega) (by omega) w41 w42; exact hT.vote hz (by omega) hv1 (by omega) (by omega) (hh.1 (by omega)) ((zIoj (by decide)).trans ((zIoj (by decide)).trans ((zIo (by decide)).trans ((zIo (by decide)).trans rfl)))) (fun j => ((zIo (by decide)).trans ((zIo (by decide)).trans ((zIo (by decide)).trans ((zIo (by decide)).trans rfl))))) (fun j => ((zIo (by decide)).trans ((zIo (by decide)).trans ((zIo (by decide)).trans ((zIo (by decide)).trans rfl))))) (fun j q => ((zIo (by decide)).trans ((zIo (by decide)).trans ((zIo (by decide)).trans ((zIoj q).trans rfl))))) (fun j q => ((zIo (by decide)).trans ((zIo (by decide)).trans ((zIoj q).trans ((zIo (by decide)).trans rfl))))) (fun S hS => by rw [show zI (zsI (zsI (zsI (zsI w39M 252 w39sl w45v) 253 w39sl w48v) 242 17 w48v) 242 18 w38v) 252 w39sl = w45v from (zIo (by decide)).trans ((zIo (by decide)).trans ((zIo (by decide)).trans (zIs)))]; exact hS.add (l := (zI M 248 w14n)) (j := w21n) (by omega) (by omega) w44 w45 (fun _ => rfl)) (congrArg Int32.toInt ((zIo (by decide)).trans ((zIo (by decide)).trans (zIs)))) (by omega) rfl rfl (by omega)) (by omega)
        · refine zs_if_eqF (pc := 129) t114_129 rfl (by omega) ?_
          refine zs_goto (pc := 132) t114_132 ?_
          obtain ⟨w79v, w79e, w79⟩ := ziadd (a := w13x4) (b := Int32.ofInt 1) rfl (show (Int32.ofInt 1).toInt = 1 by decide) (by omega) (by omega)
          refine zs_iinc (pc := 208) t114_208 (ls' := [(4, .int w79v), (8, .int w39v), (7, .int w38v), (6, .int w34v), (5, .int (zI M 248 w14n)), (0, .ref 242), (1, .int a), (2, .int w3v), (3, .int w6v)]) (zml mf114 (by decide)) rfl (c := w79v) w79e rfl ?_
          refine zs_goto (pc := 211) t114_211 ?_
          refine zGo.locals (ls' := [(0, .ref 242), (1, .int a), (2, .int w3v), (3, .int w6v), (4, .int w79v)]) (by simp) ?_
          have w80 := w79
          have w81 : (zI w39M 242 10).toInt = (zI w13M 242 10).toInt := (congrArg Int32.toInt ((w39F 242 10 rfl).trans rfl)).trans rfl
          exact w13ih (w13m - 1) (by omega) w79v w39M ⟨by omega, by omega⟩ w39s w39I (((zFr.refl).trans (w13F.mono rfl)).trans (w39F.mono rfl)) (by omega) (by omega) (fun i hi => by obtain rfl : i = w14n + 1 := (by omega); have hh := hk.1.has (l := (zI M 248 w14n)) (j := w21n) (by omega) (by omega) w41 w42; exact hT.skip hz (by omega) hv1 (by omega) (hh.2 (by omega)) (w39F 242 17 rfl) (w39F 242 18 rfl)) (by omega)
  refine zGo.locals (ls' := [(0, .ref 242), (1, .int a), (2, .int w3v), (3, .int w6v), (4, .int (0 : Int32))]) (by simp) ?_
  have w82 := li0
  have w83 : (zI (zsI (zsI (zsI (zsI M 242 10 w8v) 242 15 (0 : Int32)) 242 17 (0 : Int32)) 242 18 (0 : Int32)) 242 10).toInt = ((zI M 242 10).toInt + 1) := (congrArg Int32.toInt ((zIoj (by decide)).trans ((zIoj (by decide)).trans ((zIoj (by decide)).trans zIs)))).trans w8
  have w84 : (zI (zsI (zsI (zsI (zsI M 242 10 w8v) 242 15 (0 : Int32)) 242 17 (0 : Int32)) 242 18 (0 : Int32)) 242 17).toInt = 0 := (congrArg Int32.toInt ((zIoj (by decide)).trans zIs)).trans li0
  have w85 : (zI (zsI (zsI (zsI (zsI M 242 10 w8v) 242 15 (0 : Int32)) 242 17 (0 : Int32)) 242 18 (0 : Int32)) 242 10).toInt = ((zI M 242 10).toInt + 1) := (congrArg Int32.toInt ((zIoj (by decide)).trans ((zIoj (by decide)).trans ((zIoj (by decide)).trans zIs)))).trans w8
  exact w13L ((60 - 0 : Int).toNat) (0 : Int32) (zsI (zsI (zsI (zsI M 242 10 w8v) 242 15 (0 : Int32)) 242 17 (0 : Int32)) 242 18 (0 : Int32)) ⟨by decide, by decide⟩ hs w12 zFr.refl (by omega) (by omega) (fun i hi => by obtain rfl : i = 0 := (by omega); exact ⟨zTy.zero rfl (x3.no (fun j => ((zIo (by decide)).trans ((zIo (by decide)).trans ((zIo (by decide)).trans (zIo (by decide)))))) (by omega)), zBx.zero rfl (by omega), x3.up (fun j => ((zIo (by decide)).trans ((zIo (by decide)).trans ((zIo (by decide)).trans (zIo (by decide)))))) (by omega)⟩) (by omega)
theorem V112_166 {X : zX} {l : Launch} {M : zM} {Q : Option Value → zM → Prop} (hs : zSk zMc M) (hI : zIv cLo cHi M) {F : Nat → Int} {L : Nat → Bool} {φ : Nat → Nat} {n : Nat} (x0 : zWF F) (x1 : zVt M 166 171 172 173 F L n φ) (hQ : ∀ v : Int32, (v.toInt = rch F L) → Q (some (.int v)) M) : zCall X l 1 0 0 112 [.ref 166] M Q := by
  refine zs_in (by decide) mf112 (Nat.le_of_ble_eq_true rfl) ?_
  show zGo X l 1 0 0 112 0 [(0, .ref 166)] [] M _
  have f1 := x0.1
  have xm := x1.1
  have xl := x1.2.1
  refine zs_iconst (pc := 0) t112_0 (v := 0) (by decide) ?_
  refine zs_istore_n (pc := 1) t112_1 (ls' := [(1, .int (0 : Int32)), (0, .ref 166)]) (zml mf112 (by decide)) rfl ?_
  refine zs_iconst (pc := 2) t112_2 (v := 0) (by decide) ?_
  refine zs_istore_n (pc := 3) t112_3 (ls' := [(2, .int (0 : Int32)), (1, .int (0 : Int32)), (0, .ref 166)]) (zml mf112 (by decide)) rfl ?_
  have w1L : ∀ (m : Nat) (w1x1 : Int32) (w1x2 : Int32), (0 ≤ w1x2.toInt ∧ w1x2.toInt ≤ 60) → (w1x2.toInt ≤ n) → (∀ i : Nat, (i : Int) = w1x2.toInt → zMk w1x1 (zlr F (lpf φ i) (F 1).toNat)) → 60 - w1x2.toInt ≤ (m : Int) → zGo X l 1 0 0 112 4 [(0, .ref 166), (1, .int w1x1), (2, .int w1x2)] [] M Q := by
    intro m
    induction m using Nat.strongRecOn with
    | ind w1m w1ih =>
      intro w1x1 w1x2 w1b2 w1r0 w1t0 w1q
      have w1g1 := zrg w1x1
      refine zs_iload_n (pc := 4) t112_4 rfl ?_
      refine zs_aload_n (pc := 5) t112_5 rfl ?_
      have w2 := ib166_6 hI
      refine zs_get (pc := 6) t112_6 (by decide) (zk1 (hs.k fk_zMc_166)) (zfvi rfl rfl) ?_
      by_cases w3 : (zI M 166 6).toInt ≤ w1x2.toInt
      · refine zs_icmp_geT (pc := 9) t112_9 rfl rfl (by omega) ?_
        refine zs_iload_n (pc := 29) t112_29 rfl ?_
        refine zs_invS (pc := 30) (as := [.int w1x1]) (st := []) t112_30 (by decide) mf113 rfl rfl ⟨by decide, by decide, Nat.le_of_ble_eq_true rfl, Nat.le_of_ble_eq_true rfl⟩ (X113 hs hI ?_) (fun _ _ q => q)
        intro w4v w4x0
        have w4g := zrg w4v
        show zGo X l 1 0 0 112 33 [(0, .ref 166), (1, .int w1x1), (2, .int w1x2)] [.int w4v] M _
        obtain ⟨w5n, w5⟩ : ∃ n : Nat, w1x2.toInt = (n : Int) := ⟨(w1x2.toInt).toNat, by omega⟩
        exact zs_iret (pc := 33) t112_33 mr112 rfl (hQ _ (by obtain rfl : n = w5n := (by omega); exact lpf.rch (w1t0 n (by omega)) (fun z => by rw [w4x0]; exact z.c) x1.lp))
      · refine zs_icmp_geF (pc := 9) t112_9 rfl rfl (by omega) ?_
        refine zs_iload_n (pc := 12) t112_12 rfl ?_
        refine zs_iconst (pc := 13) t112_13 (v := 1) (by decide) ?_
        refine zs_aload_n (pc := 14) t112_14 rfl ?_
        refine zs_get (pc := 15) t112_15 (by decide) (zk1 (hs.k fk_zMc_166)) (hs.p rfl fv_zMc_166_8) ?_
        refine zs_iload_n (pc := 18) t112_18 rfl ?_
        obtain ⟨w6n, w6⟩ : ∃ n : Nat, w1x2.toInt = (n : Int) := ⟨(w1x2.toInt).toNat, by omega⟩
        have w7 := ib172 hI w6n
        have hv := x1.2.2.1 w6n (by omega)
        have hv1 := hv.1
        have hv4 := hv.2.2.2.1
        have hw := x0.2.2.1 (φ w6n) hv1
        obtain ⟨w8n, w8⟩ : ∃ n : Nat, (zI M 172 w6n).toInt = (n : Int) := ⟨((zI M 172 w6n).toInt).toNat, by omega⟩
        refine zs_iald (pc := 19) t112_19 (j := w6n) (by decide) (zk1 (hs.k fk_zMc_172)) (show w1x2.toInt = ((w6n : Nat) : Int) by omega) (zk2 (hs.k fk_zMc_172) (by omega)) rfl ?_
        obtain ⟨w9v, w9⟩ : ∃ v, (1 : Int32) <<< ((zI M 172 w6n) &&& 31) = v := ⟨_, rfl⟩
        have w9g := zrg w9v
        refine zs_ishl (pc := 20) t112_20 (c := w9v) w9 ?_
        obtain ⟨w10v, w10⟩ : ∃ v, w1x1 ||| w9v = v := ⟨_, rfl⟩
        have w10g := zrg w10v
        refine zs_ior (pc := 21) t112_21 (c := w10v) w10 ?_
        refine zs_istore_n (pc := 22) t112_22 (ls' := [(1, .int w10v), (0, .ref 166), (2, .int w1x2)]) (zml mf112 (by decide)) rfl ?_
        obtain ⟨w11v, w11e, w11⟩ := ziadd (a := w1x2) (b := Int32.ofInt 1) rfl (show (Int32.ofInt 1).toInt = 1 by decide) (by omega) (by omega)
        refine zs_iinc (pc := 23) t112_23 (ls' := [(2, .int w11v), (1, .int w10v), (0, .ref 166)]) (zml mf112 (by decide)) rfl (c := w11v) w11e rfl ?_
        refine zs_goto (pc := 26) t112_26 ?_
        refine zGo.locals (ls' := [(0, .ref 166), (1, .int w10v), (2, .int w11v)]) (by simp) ?_
        have w12 := w11
        exact w1ih (w1m - 1) (by omega) w10v w11v ⟨by omega, by omega⟩ (by omega) (fun i hi => by obtain rfl : i = w6n + 1 := (by omega); exact (w1t0 w6n (by omega)).lay (l := (zI M 172 w6n)) (j := w8n) hv1 (by omega) (by omega) (by omega) w9 w10) (by omega)
  refine zGo.locals (ls' := [(0, .ref 166), (1, .int (0 : Int32)), (2, .int (0 : Int32))]) (by simp) ?_
  have w13 := li0
  have w14 := li0
  exact w1L ((60 - 0 : Int).toNat) (0 : Int32) (0 : Int32) ⟨by decide, by decide⟩ (by omega) (fun i hi => zMk.nil (by omega) (by decide)) (by omega)
theorem V112_242 {X : zX} {l : Launch} {M : zM} {Q : Option Value → zM → Prop} (hs : zSk zMc M) (hI : zIv cLo cHi M) {F : Nat → Int} {L : Nat → Bool} {φ : Nat → Nat} {n : Nat} (x0 : zWF F) (x1 : zVt M 242 247 248 249 F L n φ) (hQ : ∀ v : Int32, (v.toInt = rch F L) → Q (some (.int v)) M) : zCall X l 1 0 0 112 [.ref 242] M Q := by
  refine zs_in (by decide) mf112 (Nat.le_of_ble_eq_true rfl) ?_
  show zGo X l 1 0 0 112 0 [(0, .ref 242)] [] M _
  have f1 := x0.1
  have xm := x1.1
  have xl := x1.2.1
  refine zs_iconst (pc := 0) t112_0 (v := 0) (by decide) ?_
  refine zs_istore_n (pc := 1) t112_1 (ls' := [(1, .int (0 : Int32)), (0, .ref 242)]) (zml mf112 (by decide)) rfl ?_
  refine zs_iconst (pc := 2) t112_2 (v := 0) (by decide) ?_
  refine zs_istore_n (pc := 3) t112_3 (ls' := [(2, .int (0 : Int32)), (1, .int (0 : Int32)), (0, .ref 242)]) (zml mf112 (by decide)) rfl ?_
  have w1L : ∀ (m : Nat) (w1x1 : Int32) (w1x2 : Int32), (0 ≤ w1x2.toInt ∧ w1x2.toInt ≤ 60) → (w1x2.toInt ≤ n) → (∀ i : Nat, (i : Int) = w1x2.toInt → zMk w1x1 (zlr F (lpf φ i) (F 1).toNat)) → 60 - w1x2.toInt ≤ (m : Int) → zGo X l 1 0 0 112 4 [(0, .ref 242), (1, .int w1x1), (2, .int w1x2)] [] M Q := by
    intro m
    induction m using Nat.strongRecOn with
    | ind w1m w1ih =>
      intro w1x1 w1x2 w1b2 w1r0 w1t0 w1q
      have w1g1 := zrg w1x1
      refine zs_iload_n (pc := 4) t112_4 rfl ?_
      refine zs_aload_n (pc := 5) t112_5 rfl ?_
      have w2 := ib242_6 hI
      refine zs_get (pc := 6) t112_6 (by decide) (zk1 (hs.k fk_zMc_242)) (zfvi rfl rfl) ?_
      by_cases w3 : (zI M 242 6).toInt ≤ w1x2.toInt
      · refine zs_icmp_geT (pc := 9) t112_9 rfl rfl (by omega) ?_
        refine zs_iload_n (pc := 29) t112_29 rfl ?_
        refine zs_invS (pc := 30) (as := [.int w1x1]) (st := []) t112_30 (by decide) mf113 rfl rfl ⟨by decide, by decide, Nat.le_of_ble_eq_true rfl, Nat.le_of_ble_eq_true rfl⟩ (X113 hs hI ?_) (fun _ _ q => q)
        intro w4v w4x0
        have w4g := zrg w4v
        show zGo X l 1 0 0 112 33 [(0, .ref 242), (1, .int w1x1), (2, .int w1x2)] [.int w4v] M _
        obtain ⟨w5n, w5⟩ : ∃ n : Nat, w1x2.toInt = (n : Int) := ⟨(w1x2.toInt).toNat, by omega⟩
        exact zs_iret (pc := 33) t112_33 mr112 rfl (hQ _ (by obtain rfl : n = w5n := (by omega); exact lpf.rch (w1t0 n (by omega)) (fun z => by rw [w4x0]; exact z.c) x1.lp))
      · refine zs_icmp_geF (pc := 9) t112_9 rfl rfl (by omega) ?_
        refine zs_iload_n (pc := 12) t112_12 rfl ?_
        refine zs_iconst (pc := 13) t112_13 (v := 1) (by decide) ?_
        refine zs_aload_n (pc := 14) t112_14 rfl ?_
        refine zs_get (pc := 15) t112_15 (by decide) (zk1 (hs.k fk_zMc_242)) (hs.p rfl fv_zMc_242_8) ?_
        refine zs_iload_n (pc := 18) t112_18 rfl ?_
        obtain ⟨w6n, w6⟩ : ∃ n : Nat, w1x2.toInt = (n : Int) := ⟨(w1x2.toInt).toNat, by omega⟩
        have w7 := ib248 hI w6n
        have hv := x1.2.2.1 w6n (by omega)
        have hv1 := hv.1
        have hv4 := hv.2.2.2.1
        have hw := x0.2.2.1 (φ w6n) hv1
        obtain ⟨w8n, w8⟩ : ∃ n : Nat, (zI M 248 w6n).toInt = (n : Int) := ⟨((zI M 248 w6n).toInt).toNat, by omega⟩
        refine zs_iald (pc := 19) t112_19 (j := w6n) (by decide) (zk1 (hs.k fk_zMc_248)) (show w1x2.toInt = ((w6n : Nat) : Int) by omega) (zk2 (hs.k fk_zMc_248) (by omega)) rfl ?_
        obtain ⟨w9v, w9⟩ : ∃ v, (1 : Int32) <<< ((zI M 248 w6n) &&& 31) = v := ⟨_, rfl⟩
        have w9g := zrg w9v
        refine zs_ishl (pc := 20) t112_20 (c := w9v) w9 ?_
        obtain ⟨w10v, w10⟩ : ∃ v, w1x1 ||| w9v = v := ⟨_, rfl⟩
        have w10g := zrg w10v
        refine zs_ior (pc := 21) t112_21 (c := w10v) w10 ?_
        refine zs_istore_n (pc := 22) t112_22 (ls' := [(1, .int w10v), (0, .ref 242), (2, .int w1x2)]) (zml mf112 (by decide)) rfl ?_
        obtain ⟨w11v, w11e, w11⟩ := ziadd (a := w1x2) (b := Int32.ofInt 1) rfl (show (Int32.ofInt 1).toInt = 1 by decide) (by omega) (by omega)
        refine zs_iinc (pc := 23) t112_23 (ls' := [(2, .int w11v), (1, .int w10v), (0, .ref 242)]) (zml mf112 (by decide)) rfl (c := w11v) w11e rfl ?_
        refine zs_goto (pc := 26) t112_26 ?_
        refine zGo.locals (ls' := [(0, .ref 242), (1, .int w10v), (2, .int w11v)]) (by simp) ?_
        have w12 := w11
        exact w1ih (w1m - 1) (by omega) w10v w11v ⟨by omega, by omega⟩ (by omega) (fun i hi => by obtain rfl : i = w6n + 1 := (by omega); exact (w1t0 w6n (by omega)).lay (l := (zI M 248 w6n)) (j := w8n) hv1 (by omega) (by omega) (by omega) w9 w10) (by omega)
  refine zGo.locals (ls' := [(0, .ref 242), (1, .int (0 : Int32)), (2, .int (0 : Int32))]) (by simp) ?_
  have w13 := li0
  have w14 := li0
  exact w1L ((60 - 0 : Int).toNat) (0 : Int32) (0 : Int32) ⟨by decide, by decide⟩ (by omega) (fun i hi => zMk.nil (by omega) (by decide)) (by omega)
theorem V111_165 {X : zX} {l : Launch} {M : zM} {Q : Option Value → zM → Prop} {a : Int32} (hs : zSk zMc M) (hI : zIv cLo cHi M) {F : Nat → Int} {L : Nat → Bool} {φ : Nat → Nat} {n ns : Nat} (ha : 2 ≤ a.toInt ∧ a.toInt ≤ 8) (u0 : (zI M 166 10).toInt ≤ 1900000000) (u1 : 0 ≤ (zI M 166 10).toInt) (x0 : zWF F) (x1 : zPn M 166 169 170 F) (x2 : zVt M 166 171 172 173 F L n φ) (x3 : zSl M 166 167 168 F ns) (x4 : zBd M 167 168 180 F L ns) (x5 : zSp M 166 174) (hQ : ∀ (M' : zM) (v : Int32), zSk zMc M' → zIv cLo cHi M' → zFr [(165, 165, some 4), (165, 165, some 5), (180, 180, none), (174, 177, none), (166, 166, some 10), (166, 166, some 15), (166, 166, some 17), (166, 166, some 18), (178, 178, none)] M M' → ((zI M' 166 10).toInt ≤ (zI M 166 10).toInt + 287) → ((zI M 166 10).toInt ≤ (zI M' 166 10).toInt) → ((v.toInt = -1 ∧ ∀ k t b, zIr F k t → vot F L k t b < a.toInt) ∨ ∃ s : Nat, v.toInt = (s : Int) ∧ s < ns ∧ a.toInt ≤ (zI M' 165 4).toInt ∧ zBe F L ((zI M' 167 s).toInt, (zI M' 168 s).toInt, (zI M' 165 5).toInt) (zI M' 165 4).toInt) → (zBd M' 167 168 180 F L ns) → (zSp M' 166 174) → (-1) ≤ v.toInt → v.toInt ≤ 286 → Q (some (.int v)) M') : zCall X l 2 0 0 111 [.ref 165, .int a] M Q := by
  have ga := zrg a
  refine zs_in (by decide) mf111 (Nat.le_of_ble_eq_true rfl) ?_
  show zGo X l 2 0 0 111 0 [(0, .ref 165), (1, .int a)] [] M _
  have f1 := x0.1
  have xm := x3.1
  have xl := x3.2.1
  have f3 := x0.2.2.2
  refine zs_iconst (pc := 0) t111_0 (v := -1) (by decide) ?_
  refine zs_istore_n (pc := 1) t111_1 (ls' := [(2, .int (-1 : Int32)), (0, .ref 165), (1, .int a)]) (zml mf111 (by decide)) rfl ?_
  refine zs_aload_n (pc := 2) t111_2 rfl ?_
  refine zs_get (pc := 3) t111_3 (by decide) (zk1 (hs.k fk_zMc_165)) (hs.p rfl fv_zMc_165_0) ?_
  refine zs_invV (pc := 6) (k := 166) (as' := []) (st := []) t111_6 mf112 rfl rfl (Or.inl ⟨by decide, (zk1 (hs.k fk_zMc_166))⟩) ⟨by decide, by decide, Nat.le_of_ble_eq_true rfl, Nat.le_of_ble_eq_true rfl⟩ (V112_166 hs hI x0 x2 ?_) (fun _ _ q => q)
  intro w1v w1x0
  have w1g := zrg w1v
  have w1z : 0 ≤ w1v.toInt ∧ w1v.toInt ≤ 8 := by rw [w1x0]; exact ⟨pct.nn 8, pct.lt 8⟩
  show zGo X l 2 0 0 111 9 [(2, .int (-1 : Int32)), (0, .ref 165), (1, .int a)] [.int w1v] M _
  refine zs_istore_n (pc := 9) t111_9 (ls' := [(3, .int w1v), (2, .int (-1 : Int32)), (0, .ref 165), (1, .int a)]) (zml mf111 (by decide)) rfl ?_
  refine zs_aload_n (pc := 10) t111_10 rfl ?_
  refine zs_iload_n (pc := 11) t111_11 rfl ?_
  refine zs_iconst (pc := 12) t111_12 (v := 1) (by decide) ?_
  obtain ⟨w2v, w2e, w2⟩ := zisub (a := a) (b := (1 : Int32)) rfl li1 (by omega) (by omega)
  refine zs_isub (pc := 13) t111_13 (c := w2v) w2e ?_
  have w3 : zIv cLo cHi (zsI M 165 4 w2v) := zIv.put hI (show (-2147483648) ≤ w2v.toInt ∧ w2v.toInt ≤ 2147483647 from zrg w2v)
  refine zs_putI (pc := 14) t111_14 (zk1 (hs.k fk_zMc_165)) rfl ?_
  refine zs_iconst (pc := 17) t111_17 (v := 0) (by decide) ?_
  refine zs_istore (pc := 18) t111_18 (ls' := [(4, .int (0 : Int32)), (3, .int w1v), (2, .int (-1 : Int32)), (0, .ref 165), (1, .int a)]) (zml mf111 (by decide)) rfl ?_
  have w4L : ∀ (m : Nat) (w4x2 : Int32) (w4x4 : Int32) (w4M : zM), ((-1) ≤ w4x2.toInt ∧ w4x2.toInt ≤ 286) → (0 ≤ w4x4.toInt ∧ w4x4.toInt ≤ 287) → zSk zMc w4M → zIv cLo cHi w4M → zFr [(165, 165, some 4), (165, 165, some 5), (180, 180, none), (174, 177, none), (166, 166, some 10), (166, 166, some 15), (166, 166, some 17), (166, 166, some 18), (178, 178, none)] (zsI M 165 4 w2v) w4M → (w4x4.toInt ≤ ns) → ((zI w4M 166 10).toInt ≤ (zI (zsI M 165 4 w2v) 166 10).toInt + w4x4.toInt) → ((zI (zsI M 165 4 w2v) 166 10).toInt ≤ (zI w4M 166 10).toInt) → (w4x2.toInt < w4x4.toInt) → (∀ i : Nat, (i : Int) = w4x4.toInt → zBq w4M 167 168 F L a.toInt i w4x2.toInt (zI w4M 165 4).toInt (zI w4M 165 5).toInt) → (zBd w4M 167 168 180 F L ns) → (zSp w4M 166 174) → 287 - w4x4.toInt ≤ (m : Int) → zGo X l 2 0 0 111 20 [(0, .ref 165), (1, .int a), (2, .int w4x2), (3, .int w1v), (4, .int w4x4)] [] w4M Q := by
    intro m
    induction m using Nat.strongRecOn with
    | ind w4m w4ih =>
      intro w4x2 w4x4 w4M w4b2 w4b4 w4s w4I w4F w4r0 w4r1 w4r2 w4r3 w4t0 w4t1 w4t2 w4q
      obtain ⟨w5n, w5⟩ : ∃ n : Nat, w4x4.toInt = (n : Int) := ⟨(w4x4.toInt).toNat, by omega⟩
      have w6 := zrg (zI w4M 166 10)
      have w7 := zrg (zI M 166 10)
      have w8 : (zI (zsI M 165 4 w2v) 166 10).toInt = (zI M 166 10).toInt := (congrArg Int32.toInt ((zIo (by decide)).trans rfl)).trans rfl
      have w9 : (zI (zsI M 165 4 w2v) 166 10).toInt = (zI M 166 10).toInt := (congrArg Int32.toInt ((zIo (by decide)).trans rfl)).trans rfl
      refine zs_iload (pc := 20) t111_20 rfl ?_
      refine zs_aload_n (pc := 22) t111_22 rfl ?_
      refine zs_get (pc := 23) t111_23 (by decide) (zk1 (w4s.k fk_zMc_165)) (w4s.p rfl fv_zMc_165_0) ?_
      refine zs_invV (pc := 26) (k := 166) (as' := []) (st := [.int w4x4]) t111_26 mf110 rfl rfl (Or.inl ⟨by decide, (zk1 (w4s.k fk_zMc_166))⟩) ⟨by decide, by decide, Nat.le_of_ble_eq_true rfl, Nat.le_of_ble_eq_true rfl⟩ (zs_in (by decide) mf110 (Nat.le_of_ble_eq_true rfl) ?_) (fun _ _ q => q)
      show zGo X l 0 0 0 110 0 [(0, .ref 166)] [] w4M _
      refine zs_aload_n (pc := 0) t110_0 rfl ?_
      have w10 := ib166_0 hI
      refine zs_get (pc := 1) t110_1 (by decide) (zk1 (w4s.k fk_zMc_166)) (zfvi rfl ((w4F 166 0 rfl).trans ((zIo (by decide)).trans rfl))) ?_
      refine zs_iret (pc := 4) t110_4 mr110 rfl ?_
      show zGo X l 2 0 0 111 29 [(0, .ref 165), (1, .int a), (2, .int w4x2), (3, .int w1v), (4, .int w4x4)] [.int (zI M 166 0), .int w4x4] w4M _
      by_cases w11 : (zI M 166 0).toInt ≤ w4x4.toInt
      · refine zs_icmp_geT (pc := 29) t111_29 rfl rfl (by omega) ?_
        refine zs_iload_n (pc := 125) t111_125 rfl ?_
        have w12 : (zI w4M 166 10).toInt = (zI w4M 166 10).toInt := (congrArg Int32.toInt rfl).trans rfl
        have w13 := zrg (zI w4M 165 4)
        have w14 : (zI w4M 165 4).toInt = (zI w4M 165 4).toInt := (congrArg Int32.toInt rfl).trans rfl
        have w15 := zrg (zI w4M 165 5)
        have w16 : (zI w4M 165 5).toInt = (zI w4M 165 5).toInt := (congrArg Int32.toInt rfl).trans rfl
        have w17 : (zI w4M 166 10).toInt = (zI w4M 166 10).toInt := (congrArg Int32.toInt rfl).trans rfl
        exact zs_iret (pc := 126) t111_126 mr111 rfl (hQ _ _ w4s w4I (((zFr.refl).put rfl).trans (w4F.mono rfl)) (by omega) (by omega) (zBq.end (w4t0 w5n (by omega)) (zSl.fr x3 ((w4F 166 0 rfl).trans (zIo (by decide))) (fun j => ((w4F 167 j rfl).trans (zIo (by decide)))) (fun j => ((w4F 168 j rfl).trans (zIo (by decide))))) w1x0 (by omega) (by omega) (by omega)) w4t1 w4t2 (by omega) (by omega))
      · refine zs_icmp_geF (pc := 29) t111_29 rfl rfl (by omega) ?_
        refine zs_aload_n (pc := 32) t111_32 rfl ?_
        have w18 := zrg (zI w4M 165 4)
        refine zs_get (pc := 33) t111_33 (by decide) (zk1 (w4s.k fk_zMc_165)) (zfvi rfl rfl) ?_
        refine zs_iload_n (pc := 36) t111_36 rfl ?_
        by_cases w19 : w1v.toInt ≤ (zI w4M 165 4).toInt
        · refine zs_icmp_geT (pc := 37) t111_37 rfl rfl (by omega) ?_
          refine zs_iload_n (pc := 125) t111_125 rfl ?_
          have w20 : (zI w4M 166 10).toInt = (zI w4M 166 10).toInt := (congrArg Int32.toInt rfl).trans rfl
          have w21 : (zI w4M 165 4).toInt = (zI w4M 165 4).toInt := (congrArg Int32.toInt rfl).trans rfl
          have w22 := zrg (zI w4M 165 5)
          have w23 : (zI w4M 165 5).toInt = (zI w4M 165 5).toInt := (congrArg Int32.toInt rfl).trans rfl
          have w24 : (zI w4M 166 10).toInt = (zI w4M 166 10).toInt := (congrArg Int32.toInt rfl).trans rfl
          exact zs_iret (pc := 126) t111_126 mr111 rfl (hQ _ _ w4s w4I (((zFr.refl).put rfl).trans (w4F.mono rfl)) (by omega) (by omega) (zBq.end (w4t0 w5n (by omega)) (zSl.fr x3 ((w4F 166 0 rfl).trans (zIo (by decide))) (fun j => ((w4F 167 j rfl).trans (zIo (by decide)))) (fun j => ((w4F 168 j rfl).trans (zIo (by decide))))) w1x0 (by omega) (by omega) (by omega)) w4t1 w4t2 (by omega) (by omega))
        · refine zs_icmp_geF (pc := 37) t111_37 rfl rfl (by omega) ?_
          refine zs_aload_n (pc := 40) t111_40 rfl ?_
          refine zs_get (pc := 41) t111_41 (by decide) (zk1 (w4s.k fk_zMc_165)) (w4s.p rfl fv_zMc_165_3) ?_
          refine zs_iload (pc := 44) t111_44 rfl ?_
          have w25 := zrg (zI w4M 180 w5n)
          refine zs_iald (pc := 46) t111_46 (j := w5n) (by decide) (zk1 (w4s.k fk_zMc_180)) (show w4x4.toInt = ((w5n : Nat) : Int) by omega) (zk2 (w4s.k fk_zMc_180) (by omega)) rfl ?_
          refine zs_aload_n (pc := 47) t111_47 rfl ?_
          refine zs_get (pc := 48) t111_48 (by decide) (zk1 (w4s.k fk_zMc_165)) (zfvi rfl rfl) ?_
          by_cases w26 : (zI w4M 165 4).toInt < (zI w4M 180 w5n).toInt
          · refine zs_icmp_gtT (pc := 51) t111_51 rfl rfl (by omega) ?_
            refine zs_aload_n (pc := 57) t111_57 rfl ?_
            refine zs_get (pc := 58) t111_58 (by decide) (zk1 (w4s.k fk_zMc_165)) (w4s.p rfl fv_zMc_165_0) ?_
            refine zs_iload (pc := 61) t111_61 rfl ?_
            have w27 : (zI w4M 166 10).toInt = (zI w4M 166 10).toInt := (congrArg Int32.toInt rfl).trans rfl
            have w28 : (zI w4M 166 10).toInt = (zI w4M 166 10).toInt := (congrArg Int32.toInt rfl).trans rfl
            have w29 : (zI w4M 166 0).toInt = (zI M 166 0).toInt := (congrArg Int32.toInt ((w4F 166 0 rfl).trans ((zIo (by decide)).trans rfl))).trans rfl
            refine zs_invV (pc := 63) (k := 166) (as' := [.int w4x4]) (st := []) t111_63 mf114 rfl rfl (Or.inl ⟨by decide, (zk1 (w4s.k fk_zMc_166))⟩) ⟨by decide, by decide, Nat.le_of_ble_eq_true rfl, Nat.le_of_ble_eq_true rfl⟩ (V114_166 w4s w4I (by omega) x0 (zPn.fr x1 ((w4F 166 5 rfl).trans (zIo (by decide))) (fun j => ((w4F 169 j rfl).trans (zIo (by decide)))) (fun j => ((w4F 170 j rfl).trans (zIo (by decide))))) (zVt.fr x2 ((w4F 166 6 rfl).trans (zIo (by decide))) (fun j => ((w4F 171 j rfl).trans (zIo (by decide)))) (fun j => ((w4F 172 j rfl).trans (zIo (by decide)))) (fun j => ((w4F 173 j rfl).trans (zIo (by decide))))) w4t2 ⟨(show _ = ((w5n : Nat) : Int) by omega), by omega, congrArg Int32.toInt ((w4F 167 w5n rfl).trans (zIo (by decide))), congrArg Int32.toInt ((w4F 168 w5n rfl).trans (zIo (by decide))), x3.2.2.1 w5n (by omega)⟩ ?_) (fun _ _ q => q)
            intro w30M w30s w30I w30F w30t0 w30x0 w30x1
            have w31 := zrg (zI w30M 166 10)
            have w30r := w30x0.rg
            show zGo X l 2 0 0 111 66 [(0, .ref 165), (1, .int a), (2, .int w4x2), (3, .int w1v), (4, .int w4x4)] [] w30M _
            refine zs_aload_n (pc := 66) t111_66 rfl ?_
            refine zs_get (pc := 67) t111_67 (by decide) (zk1 (w30s.k fk_zMc_165)) (w30s.p rfl fv_zMc_165_3) ?_
            refine zs_iload (pc := 70) t111_70 rfl ?_
            refine zs_aload_n (pc := 72) t111_72 rfl ?_
            refine zs_get (pc := 73) t111_73 (by decide) (zk1 (w30s.k fk_zMc_165)) (w30s.p rfl fv_zMc_165_0) ?_
            refine zs_invV (pc := 76) (k := 166) (as' := []) (st := [.int w4x4, .ref 180]) t111_76 mf118 rfl rfl (Or.inl ⟨by decide, (zk1 (w30s.k fk_zMc_166))⟩) ⟨by decide, by decide, Nat.le_of_ble_eq_true rfl, Nat.le_of_ble_eq_true rfl⟩ (zs_in (by decide) mf118 (Nat.le_of_ble_eq_true rfl) ?_) (fun _ _ q => q)
            show zGo X l 0 0 0 118 0 [(0, .ref 166)] [] w30M _
            refine zs_aload_n (pc := 0) t118_0 rfl ?_
            have w32 := zrg (zI w30M 166 17)
            refine zs_get (pc := 1) t118_1 (by decide) (zk1 (w30s.k fk_zMc_166)) (zfvi rfl rfl) ?_
            refine zs_iret (pc := 4) t118_4 mr118 rfl ?_
            show zGo X l 2 0 0 111 79 [(0, .ref 165), (1, .int a), (2, .int w4x2), (3, .int w1v), (4, .int w4x4)] [.int (zI w30M 166 17), .int w4x4, .ref 180] w30M _
            have w33 : zIv cLo cHi (zsI w30M 180 w5n (zI w30M 166 17)) := zIv.put w30I (show (-2147483648) ≤ (zI w30M 166 17).toInt ∧ (zI w30M 166 17).toInt ≤ 2147483647 from zrg (zI w30M 166 17))
            refine zs_iast (pc := 79) t111_79 (j := w5n) (by decide) (zk1 (w30s.k fk_zMc_180)) (show w4x4.toInt = ((w5n : Nat) : Int) by omega) (zk2 (w30s.k fk_zMc_180) (by omega)) ?_
            refine zs_aload_n (pc := 80) t111_80 rfl ?_
            refine zs_get (pc := 81) t111_81 (by decide) (zk1 (w30s.k fk_zMc_165)) (w30s.p rfl fv_zMc_165_0) ?_
            refine zs_invV (pc := 84) (k := 166) (as' := []) (st := []) t111_84 mf118 rfl rfl (Or.inl ⟨by decide, (zk1 (w30s.k fk_zMc_166))⟩) ⟨by decide, by decide, Nat.le_of_ble_eq_true rfl, Nat.le_of_ble_eq_true rfl⟩ (zs_in (by decide) mf118 (Nat.le_of_ble_eq_true rfl) ?_) (fun _ _ q => q)
            show zGo X l 0 0 0 118 0 [(0, .ref 166)] [] (zsI w30M 180 w5n (zI w30M 166 17)) _
            refine zs_aload_n (pc := 0) t118_0 rfl ?_
            refine zs_get (pc := 1) t118_1 (by decide) (zk1 (w30s.k fk_zMc_166)) (zfvi rfl ((zIo (by decide)).trans rfl)) ?_
            refine zs_iret (pc := 4) t118_4 mr118 rfl ?_
            show zGo X l 2 0 0 111 87 [(0, .ref 165), (1, .int a), (2, .int w4x2), (3, .int w1v), (4, .int w4x4)] [.int (zI w30M 166 17)] (zsI w30M 180 w5n (zI w30M 166 17)) _
            refine zs_aload_n (pc := 87) t111_87 rfl ?_
            refine zs_get (pc := 88) t111_88 (by decide) (zk1 (w30s.k fk_zMc_165)) (zfvi rfl ((zIo (by decide)).trans ((w30F 165 4 rfl).trans rfl))) ?_
            by_cases w34 : (zI w30M 166 17).toInt ≤ (zI w4M 165 4).toInt
            · refine zs_icmp_leT (pc := 91) t111_91 rfl rfl (by omega) ?_
              obtain ⟨w35v, w35e, w35⟩ := ziadd (a := w4x4) (b := Int32.ofInt 1) rfl (show (Int32.ofInt 1).toInt = 1 by decide) (by omega) (by omega)
              refine zs_iinc (pc := 119) t111_119 (ls' := [(4, .int w35v), (0, .ref 165), (1, .int a), (2, .int w4x2), (3, .int w1v)]) (zml mf111 (by decide)) rfl (c := w35v) w35e rfl ?_
              refine zs_goto (pc := 122) t111_122 ?_
              refine zGo.locals (ls' := [(0, .ref 165), (1, .int a), (2, .int w4x2), (3, .int w1v), (4, .int w35v)]) (by simp) ?_
              have w36 := w35
              have w37 : (zI (zsI w30M 180 w5n (zI w30M 166 17)) 166 10).toInt = (zI w30M 166 10).toInt := (congrArg Int32.toInt ((zIo (by decide)).trans rfl)).trans rfl
              have w38 : (zI (zsI w30M 180 w5n (zI w30M 166 17)) 166 10).toInt = (zI w30M 166 10).toInt := (congrArg Int32.toInt ((zIo (by decide)).trans rfl)).trans rfl
              have w39 : (zI (zsI w30M 180 w5n (zI w30M 166 17)) 165 4).toInt = (zI w4M 165 4).toInt := (congrArg Int32.toInt ((zIo (by decide)).trans ((w30F 165 4 rfl).trans rfl))).trans rfl
              have w40 := zrg (zI w4M 165 5)
              have w41 : (zI (zsI w30M 180 w5n (zI w30M 166 17)) 165 5).toInt = (zI w4M 165 5).toInt := (congrArg Int32.toInt ((zIo (by decide)).trans ((w30F 165 5 rfl).trans rfl))).trans rfl
              have w42 : (zI (zsI w30M 180 w5n (zI w30M 166 17)) 166 10).toInt = (zI w30M 166 10).toInt := (congrArg Int32.toInt ((zIo (by decide)).trans rfl)).trans rfl
              exact w4ih (w4m - 1) (by omega) w4x2 w35v (zsI w30M 180 w5n (zI w30M 166 17)) ⟨by omega, by omega⟩ ⟨by omega, by omega⟩ w30s w33 ((((zFr.refl).trans (w4F.mono rfl)).trans (w30F.mono rfl)).put rfl) (by omega) (by omega) (by omega) (by omega) (fun i hi => by obtain rfl : i = w5n + 1 := (by omega); have h0 := w4t0 w5n (by omega); exact (h0.fr (fun j => ((zIo (by decide)).trans (w30F 167 j rfl))) (fun j => ((zIo (by decide)).trans (w30F 168 j rfl))) (by omega) (by omega)).skip (fun b => by rw [show zI (zsI w30M 180 w5n (zI w30M 166 17)) 167 w5n = zI M 167 w5n from ((zIo (by decide)).trans ((w30F 167 w5n rfl).trans ((w4F 167 w5n rfl).trans (zIo (by decide))))), show zI (zsI w30M 180 w5n (zI w30M 166 17)) 168 w5n = zI M 168 w5n from ((zIo (by decide)).trans ((w30F 168 w5n rfl).trans ((w4F 168 w5n rfl).trans (zIo (by decide)))))]; exact Int.le_trans (w30x0.le b) (by omega))) (zBd.put (i := w5n) w4t1 (fun j => ((zIo (by decide)).trans (w30F 167 j rfl))) (fun j => ((zIo (by decide)).trans (w30F 168 j rfl))) (fun j q => ((zIoj q).trans (w30F 180 j rfl))) (congrArg Int32.toInt (zIs)) (fun b => by rw [show zI w4M 167 w5n = zI M 167 w5n from ((w4F 167 w5n rfl).trans (zIo (by decide))), show zI w4M 168 w5n = zI M 168 w5n from ((w4F 168 w5n rfl).trans (zIo (by decide)))]; exact w30x0.le b)) (zSp.fr w30x1 (fun j => ((zIo (by decide)).trans rfl)) ((zIo (by decide)).trans rfl)) (by omega)
            · refine zs_icmp_leF (pc := 91) t111_91 rfl rfl (by omega) ?_
              refine zs_iload (pc := 94) t111_94 rfl ?_
              refine zs_istore_n (pc := 96) t111_96 (ls' := [(2, .int w4x4), (0, .ref 165), (1, .int a), (3, .int w1v), (4, .int w4x4)]) (zml mf111 (by decide)) rfl ?_
              refine zs_aload_n (pc := 97) t111_97 rfl ?_
              refine zs_aload_n (pc := 98) t111_98 rfl ?_
              refine zs_get (pc := 99) t111_99 (by decide) (zk1 (w30s.k fk_zMc_165)) (w30s.p rfl fv_zMc_165_0) ?_
              refine zs_invV (pc := 102) (k := 166) (as' := []) (st := [.ref 165]) t111_102 mf118 rfl rfl (Or.inl ⟨by decide, (zk1 (w30s.k fk_zMc_166))⟩) ⟨by decide, by decide, Nat.le_of_ble_eq_true rfl, Nat.le_of_ble_eq_true rfl⟩ (zs_in (by decide) mf118 (Nat.le_of_ble_eq_true rfl) ?_) (fun _ _ q => q)
              show zGo X l 0 0 0 118 0 [(0, .ref 166)] [] (zsI w30M 180 w5n (zI w30M 166 17)) _
              refine zs_aload_n (pc := 0) t118_0 rfl ?_
              refine zs_get (pc := 1) t118_1 (by decide) (zk1 (w30s.k fk_zMc_166)) (zfvi rfl ((zIo (by decide)).trans rfl)) ?_
              refine zs_iret (pc := 4) t118_4 mr118 rfl ?_
              show zGo X l 2 0 0 111 105 [(2, .int w4x4), (0, .ref 165), (1, .int a), (3, .int w1v), (4, .int w4x4)] [.int (zI w30M 166 17), .ref 165] (zsI w30M 180 w5n (zI w30M 166 17)) _
              have w43 : zIv cLo cHi (zsI (zsI w30M 180 w5n (zI w30M 166 17)) 165 4 (zI w30M 166 17)) := zIv.put w33 (show (-2147483648) ≤ (zI w30M 166 17).toInt ∧ (zI w30M 166 17).toInt ≤ 2147483647 from zrg (zI w30M 166 17))
              refine zs_putI (pc := 105) t111_105 (zk1 (w30s.k fk_zMc_165)) rfl ?_
              refine zs_aload_n (pc := 108) t111_108 rfl ?_
              refine zs_aload_n (pc := 109) t111_109 rfl ?_
              refine zs_get (pc := 110) t111_110 (by decide) (zk1 (w30s.k fk_zMc_165)) (w30s.p rfl fv_zMc_165_0) ?_
              refine zs_invV (pc := 113) (k := 166) (as' := []) (st := [.ref 165]) t111_113 mf119 rfl rfl (Or.inl ⟨by decide, (zk1 (w30s.k fk_zMc_166))⟩) ⟨by decide, by decide, Nat.le_of_ble_eq_true rfl, Nat.le_of_ble_eq_true rfl⟩ (zs_in (by decide) mf119 (Nat.le_of_ble_eq_true rfl) ?_) (fun _ _ q => q)
              show zGo X l 0 0 0 119 0 [(0, .ref 166)] [] (zsI (zsI w30M 180 w5n (zI w30M 166 17)) 165 4 (zI w30M 166 17)) _
              refine zs_aload_n (pc := 0) t119_0 rfl ?_
              have w44 := zrg (zI w30M 166 18)
              refine zs_get (pc := 1) t119_1 (by decide) (zk1 (w30s.k fk_zMc_166)) (zfvi rfl ((zIo (by decide)).trans ((zIo (by decide)).trans rfl))) ?_
              refine zs_iret (pc := 4) t119_4 mr119 rfl ?_
              show zGo X l 2 0 0 111 116 [(2, .int w4x4), (0, .ref 165), (1, .int a), (3, .int w1v), (4, .int w4x4)] [.int (zI w30M 166 18), .ref 165] (zsI (zsI w30M 180 w5n (zI w30M 166 17)) 165 4 (zI w30M 166 17)) _
              have w45 : zIv cLo cHi (zsI (zsI (zsI w30M 180 w5n (zI w30M 166 17)) 165 4 (zI w30M 166 17)) 165 5 (zI w30M 166 18)) := zIv.put w43 (show (-2147483648) ≤ (zI w30M 166 18).toInt ∧ (zI w30M 166 18).toInt ≤ 2147483647 from zrg (zI w30M 166 18))
              refine zs_putI (pc := 116) t111_116 (zk1 (w30s.k fk_zMc_165)) rfl ?_
              obtain ⟨w46v, w46e, w46⟩ := ziadd (a := w4x4) (b := Int32.ofInt 1) rfl (show (Int32.ofInt 1).toInt = 1 by decide) (by omega) (by omega)
              refine zs_iinc (pc := 119) t111_119 (ls' := [(4, .int w46v), (2, .int w4x4), (0, .ref 165), (1, .int a), (3, .int w1v)]) (zml mf111 (by decide)) rfl (c := w46v) w46e rfl ?_
              refine zs_goto (pc := 122) t111_122 ?_
              refine zGo.locals (ls' := [(0, .ref 165), (1, .int a), (2, .int w4x4), (3, .int w1v), (4, .int w46v)]) (by simp) ?_
              have w47 := w46
              have w48 : (zI (zsI (zsI (zsI w30M 180 w5n (zI w30M 166 17)) 165 4 (zI w30M 166 17)) 165 5 (zI w30M 166 18)) 166 10).toInt = (zI w30M 166 10).toInt := (congrArg Int32.toInt ((zIo (by decide)).trans ((zIo (by decide)).trans ((zIo (by decide)).trans rfl)))).trans rfl
              have w49 : (zI (zsI (zsI (zsI w30M 180 w5n (zI w30M 166 17)) 165 4 (zI w30M 166 17)) 165 5 (zI w30M 166 18)) 166 10).toInt = (zI w30M 166 10).toInt := (congrArg Int32.toInt ((zIo (by decide)).trans ((zIo (by decide)).trans ((zIo (by decide)).trans rfl)))).trans rfl
              have w50 : (zI (zsI (zsI (zsI w30M 180 w5n (zI w30M 166 17)) 165 4 (zI w30M 166 17)) 165 5 (zI w30M 166 18)) 165 4).toInt = (zI w30M 166 17).toInt := (congrArg Int32.toInt ((zIoj (by decide)).trans zIs)).trans rfl
              have w51 : (zI (zsI (zsI (zsI w30M 180 w5n (zI w30M 166 17)) 165 4 (zI w30M 166 17)) 165 5 (zI w30M 166 18)) 165 5).toInt = (zI w30M 166 18).toInt := (congrArg Int32.toInt zIs).trans rfl
              have w52 : (zI (zsI (zsI (zsI w30M 180 w5n (zI w30M 166 17)) 165 4 (zI w30M 166 17)) 165 5 (zI w30M 166 18)) 166 10).toInt = (zI w30M 166 10).toInt := (congrArg Int32.toInt ((zIo (by decide)).trans ((zIo (by decide)).trans ((zIo (by decide)).trans rfl)))).trans rfl
              exact w4ih (w4m - 1) (by omega) w4x4 w46v (zsI (zsI (zsI w30M 180 w5n (zI w30M 166 17)) 165 4 (zI w30M 166 17)) 165 5 (zI w30M 166 18)) ⟨by omega, by omega⟩ ⟨by omega, by omega⟩ w30s w45 ((((((zFr.refl).trans (w4F.mono rfl)).trans (w30F.mono rfl)).put rfl).put rfl).put rfl) (by omega) (by omega) (by omega) (by omega) (fun i hi => by obtain rfl : i = w5n + 1 := (by omega); have h0 := w4t0 w5n (by omega); exact zBq.take (h0.fr (fun j => ((zIo (by decide)).trans ((zIo (by decide)).trans ((zIo (by decide)).trans (w30F 167 j rfl))))) (fun j => ((zIo (by decide)).trans ((zIo (by decide)).trans ((zIo (by decide)).trans (w30F 168 j rfl))))) rfl rfl) (zBx.cs (by rw [show zI (zsI (zsI (zsI w30M 180 w5n (zI w30M 166 17)) 165 4 (zI w30M 166 17)) 165 5 (zI w30M 166 18)) 167 w5n = zI M 167 w5n from ((zIo (by decide)).trans ((zIo (by decide)).trans ((zIo (by decide)).trans ((w30F 167 w5n rfl).trans ((w4F 167 w5n rfl).trans (zIo (by decide))))))), show zI (zsI (zsI (zsI w30M 180 w5n (zI w30M 166 17)) 165 4 (zI w30M 166 17)) 165 5 (zI w30M 166 18)) 168 w5n = zI M 168 w5n from ((zIo (by decide)).trans ((zIo (by decide)).trans ((zIo (by decide)).trans ((w30F 168 w5n rfl).trans ((w4F 168 w5n rfl).trans (zIo (by decide)))))))]; exact w30x0) (by omega) (by omega)) (by omega) (by omega) (by omega)) (zBd.put (i := w5n) w4t1 (fun j => ((zIo (by decide)).trans ((zIo (by decide)).trans ((zIo (by decide)).trans (w30F 167 j rfl))))) (fun j => ((zIo (by decide)).trans ((zIo (by decide)).trans ((zIo (by decide)).trans (w30F 168 j rfl))))) (fun j q => ((zIo (by decide)).trans ((zIo (by decide)).trans ((zIoj q).trans (w30F 180 j rfl))))) (congrArg Int32.toInt ((zIo (by decide)).trans ((zIo (by decide)).trans (zIs)))) (fun b => by rw [show zI w4M 167 w5n = zI M 167 w5n from ((w4F 167 w5n rfl).trans (zIo (by decide))), show zI w4M 168 w5n = zI M 168 w5n from ((w4F 168 w5n rfl).trans (zIo (by decide)))]; exact w30x0.le b)) (zSp.fr w30x1 (fun j => ((zIo (by decide)).trans ((zIo (by decide)).trans ((zIo (by decide)).trans rfl)))) ((zIo (by decide)).trans ((zIo (by decide)).trans ((zIo (by decide)).trans rfl)))) (by omega)
          · refine zs_icmp_gtF (pc := 51) t111_51 rfl rfl (by omega) ?_
            refine zs_goto (pc := 54) t111_54 ?_
            obtain ⟨w53v, w53e, w53⟩ := ziadd (a := w4x4) (b := Int32.ofInt 1) rfl (show (Int32.ofInt 1).toInt = 1 by decide) (by omega) (by omega)
            refine zs_iinc (pc := 119) t111_119 (ls' := [(4, .int w53v), (0, .ref 165), (1, .int a), (2, .int w4x2), (3, .int w1v)]) (zml mf111 (by decide)) rfl (c := w53v) w53e rfl ?_
            refine zs_goto (pc := 122) t111_122 ?_
            refine zGo.locals (ls' := [(0, .ref 165), (1, .int a), (2, .int w4x2), (3, .int w1v), (4, .int w53v)]) (by simp) ?_
            have w54 := w53
            have w55 : (zI w4M 166 10).toInt = (zI w4M 166 10).toInt := (congrArg Int32.toInt rfl).trans rfl
            have w56 : (zI w4M 166 10).toInt = (zI w4M 166 10).toInt := (congrArg Int32.toInt rfl).trans rfl
            have w57 : (zI w4M 165 4).toInt = (zI w4M 165 4).toInt := (congrArg Int32.toInt rfl).trans rfl
            have w58 := zrg (zI w4M 165 5)
            have w59 : (zI w4M 165 5).toInt = (zI w4M 165 5).toInt := (congrArg Int32.toInt rfl).trans rfl
            have w60 : (zI w4M 166 10).toInt = (zI w4M 166 10).toInt := (congrArg Int32.toInt rfl).trans rfl
            exact w4ih (w4m - 1) (by omega) w4x2 w53v w4M ⟨by omega, by omega⟩ ⟨by omega, by omega⟩ w4s w4I ((zFr.refl).trans (w4F.mono rfl)) (by omega) (by omega) (by omega) (by omega) (fun i hi => by obtain rfl : i = w5n + 1 := (by omega); have h0 := w4t0 w5n (by omega); exact h0.skip (fun b => Int.le_trans (w4t1 w5n (by omega) b) (by omega))) w4t1 w4t2 (by omega)
  refine zGo.locals (ls' := [(0, .ref 165), (1, .int a), (2, .int (-1 : Int32)), (3, .int w1v), (4, .int (0 : Int32))]) (by simp) ?_
  have w61 := lin1
  have w62 := li0
  have w63 : (zI (zsI M 165 4 w2v) 166 10).toInt = (zI M 166 10).toInt := (congrArg Int32.toInt ((zIo (by decide)).trans rfl)).trans rfl
  have w64 : (zI (zsI M 165 4 w2v) 166 10).toInt = (zI M 166 10).toInt := (congrArg Int32.toInt ((zIo (by decide)).trans rfl)).trans rfl
  have w65 : (zI (zsI M 165 4 w2v) 165 4).toInt = (a.toInt - 1) := (congrArg Int32.toInt zIs).trans w2
  have w66 := zrg (zI M 165 5)
  have w67 : (zI (zsI M 165 4 w2v) 165 5).toInt = (zI M 165 5).toInt := (congrArg Int32.toInt ((zIoj (by decide)).trans rfl)).trans rfl
  have w68 : (zI (zsI M 165 4 w2v) 166 10).toInt = (zI M 166 10).toInt := (congrArg Int32.toInt ((zIo (by decide)).trans rfl)).trans rfl
  exact w4L ((287 - 0 : Int).toNat) (-1 : Int32) (0 : Int32) (zsI M 165 4 w2v) ⟨by decide, by decide⟩ ⟨by decide, by decide⟩ hs w3 zFr.refl (by omega) (by omega) (by omega) (by omega) (fun i hi => zBq.zero (by omega) (by decide) (by omega)) (x4.fr (fun j => (zIo (by decide))) (fun j => (zIo (by decide))) (fun j => (zIo (by decide)))) (zSp.fr x5 (fun j => ((zIo (by decide)).trans rfl)) ((zIo (by decide)).trans rfl)) (by omega)
theorem V111_241 {X : zX} {l : Launch} {M : zM} {Q : Option Value → zM → Prop} {a : Int32} (hs : zSk zMc M) (hI : zIv cLo cHi M) {F : Nat → Int} {L : Nat → Bool} {φ : Nat → Nat} {n ns : Nat} (ha : 2 ≤ a.toInt ∧ a.toInt ≤ 8) (u0 : (zI M 242 10).toInt ≤ 1900000000) (u1 : 0 ≤ (zI M 242 10).toInt) (x0 : zWF F) (x1 : zPn M 242 245 246 F) (x2 : zVt M 242 247 248 249 F L n φ) (x3 : zSl M 242 243 244 F ns) (x4 : zBd M 243 244 256 F L ns) (x5 : zSp M 242 250) (hQ : ∀ (M' : zM) (v : Int32), zSk zMc M' → zIv cLo cHi M' → zFr [(241, 241, some 4), (241, 241, some 5), (256, 256, none), (250, 253, none), (242, 242, some 10), (242, 242, some 15), (242, 242, some 17), (242, 242, some 18), (254, 254, none)] M M' → ((zI M' 242 10).toInt ≤ (zI M 242 10).toInt + 287) → ((zI M 242 10).toInt ≤ (zI M' 242 10).toInt) → ((v.toInt = -1 ∧ ∀ k t b, zIr F k t → vot F L k t b < a.toInt) ∨ ∃ s : Nat, v.toInt = (s : Int) ∧ s < ns ∧ a.toInt ≤ (zI M' 241 4).toInt ∧ zBe F L ((zI M' 243 s).toInt, (zI M' 244 s).toInt, (zI M' 241 5).toInt) (zI M' 241 4).toInt) → (zBd M' 243 244 256 F L ns) → (zSp M' 242 250) → (-1) ≤ v.toInt → v.toInt ≤ 286 → Q (some (.int v)) M') : zCall X l 2 0 0 111 [.ref 241, .int a] M Q := by
  have ga := zrg a
  refine zs_in (by decide) mf111 (Nat.le_of_ble_eq_true rfl) ?_
  show zGo X l 2 0 0 111 0 [(0, .ref 241), (1, .int a)] [] M _
  have f1 := x0.1
  have xm := x3.1
  have xl := x3.2.1
  have f3 := x0.2.2.2
  refine zs_iconst (pc := 0) t111_0 (v := -1) (by decide) ?_
  refine zs_istore_n (pc := 1) t111_1 (ls' := [(2, .int (-1 : Int32)), (0, .ref 241), (1, .int a)]) (zml mf111 (by decide)) rfl ?_
  refine zs_aload_n (pc := 2) t111_2 rfl ?_
  refine zs_get (pc := 3) t111_3 (by decide) (zk1 (hs.k fk_zMc_241)) (hs.p rfl fv_zMc_241_0) ?_
  refine zs_invV (pc := 6) (k := 242) (as' := []) (st := []) t111_6 mf112 rfl rfl (Or.inl ⟨by decide, (zk1 (hs.k fk_zMc_242))⟩) ⟨by decide, by decide, Nat.le_of_ble_eq_true rfl, Nat.le_of_ble_eq_true rfl⟩ (V112_242 hs hI x0 x2 ?_) (fun _ _ q => q)
  intro w1v w1x0
  have w1g := zrg w1v
  have w1z : 0 ≤ w1v.toInt ∧ w1v.toInt ≤ 8 := by rw [w1x0]; exact ⟨pct.nn 8, pct.lt 8⟩
  show zGo X l 2 0 0 111 9 [(2, .int (-1 : Int32)), (0, .ref 241), (1, .int a)] [.int w1v] M _
  refine zs_istore_n (pc := 9) t111_9 (ls' := [(3, .int w1v), (2, .int (-1 : Int32)), (0, .ref 241), (1, .int a)]) (zml mf111 (by decide)) rfl ?_
  refine zs_aload_n (pc := 10) t111_10 rfl ?_
  refine zs_iload_n (pc := 11) t111_11 rfl ?_
  refine zs_iconst (pc := 12) t111_12 (v := 1) (by decide) ?_
  obtain ⟨w2v, w2e, w2⟩ := zisub (a := a) (b := (1 : Int32)) rfl li1 (by omega) (by omega)
  refine zs_isub (pc := 13) t111_13 (c := w2v) w2e ?_
  have w3 : zIv cLo cHi (zsI M 241 4 w2v) := zIv.put hI (show (-2147483648) ≤ w2v.toInt ∧ w2v.toInt ≤ 2147483647 from zrg w2v)
  refine zs_putI (pc := 14) t111_14 (zk1 (hs.k fk_zMc_241)) rfl ?_
  refine zs_iconst (pc := 17) t111_17 (v := 0) (by decide) ?_
  refine zs_istore (pc := 18) t111_18 (ls' := [(4, .int (0 : Int32)), (3, .int w1v), (2, .int (-1 : Int32)), (0, .ref 241), (1, .int a)]) (zml mf111 (by decide)) rfl ?_
  have w4L : ∀ (m : Nat) (w4x2 : Int32) (w4x4 : Int32) (w4M : zM), ((-1) ≤ w4x2.toInt ∧ w4x2.toInt ≤ 286) → (0 ≤ w4x4.toInt ∧ w4x4.toInt ≤ 287) → zSk zMc w4M → zIv cLo cHi w4M → zFr [(241, 241, some 4), (241, 241, some 5), (256, 256, none), (250, 253, none), (242, 242, some 10), (242, 242, some 15), (242, 242, some 17), (242, 242, some 18), (254, 254, none)] (zsI M 241 4 w2v) w4M → (w4x4.toInt ≤ ns) → ((zI w4M 242 10).toInt ≤ (zI (zsI M 241 4 w2v) 242 10).toInt + w4x4.toInt) → ((zI (zsI M 241 4 w2v) 242 10).toInt ≤ (zI w4M 242 10).toInt) → (w4x2.toInt < w4x4.toInt) → (∀ i : Nat, (i : Int) = w4x4.toInt → zBq w4M 243 244 F L a.toInt i w4x2.toInt (zI w4M 241 4).toInt (zI w4M 241 5).toInt) → (zBd w4M 243 244 256 F L ns) → (zSp w4M 242 250) → 287 - w4x4.toInt ≤ (m : Int) → zGo X l 2 0 0 111 20 [(0, .ref 241), (1, .int a), (2, .int w4x2), (3, .int w1v), (4, .int w4x4)] [] w4M Q := by
    intro m
    induction m using Nat.strongRecOn with
    | ind w4m w4ih =>
      intro w4x2 w4x4 w4M w4b2 w4b4 w4s w4I w4F w4r0 w4r1 w4r2 w4r3 w4t0 w4t1 w4t2 w4q
      obtain ⟨w5n, w5⟩ : ∃ n : Nat, w4x4.toInt = (n : Int) := ⟨(w4x4.toInt).toNat, by omega⟩
      have w6 := zrg (zI w4M 242 10)
      have w7 := zrg (zI M 242 10)
      have w8 : (zI (zsI M 241 4 w2v) 242 10).toInt = (zI M 242 10).toInt := (congrArg Int32.toInt ((zIo (by decide)).trans rfl)).trans rfl
      have w9 : (zI (zsI M 241 4 w2v) 242 10).toInt = (zI M 242 10).toInt := (congrArg Int32.toInt ((zIo (by decide)).trans rfl)).trans rfl
      refine zs_iload (pc := 20) t111_20 rfl ?_
      refine zs_aload_n (pc := 22) t111_22 rfl ?_
      refine zs_get (pc := 23) t111_23 (by decide) (zk1 (w4s.k fk_zMc_241)) (w4s.p rfl fv_zMc_241_0) ?_
      refine zs_invV (pc := 26) (k := 242) (as' := []) (st := [.int w4x4]) t111_26 mf110 rfl rfl (Or.inl ⟨by decide, (zk1 (w4s.k fk_zMc_242))⟩) ⟨by decide, by decide, Nat.le_of_ble_eq_true rfl, Nat.le_of_ble_eq_true rfl⟩ (zs_in (by decide) mf110 (Nat.le_of_ble_eq_true rfl) ?_) (fun _ _ q => q)
      show zGo X l 0 0 0 110 0 [(0, .ref 242)] [] w4M _
      refine zs_aload_n (pc := 0) t110_0 rfl ?_
      have w10 := ib242_0 hI
      refine zs_get (pc := 1) t110_1 (by decide) (zk1 (w4s.k fk_zMc_242)) (zfvi rfl ((w4F 242 0 rfl).trans ((zIo (by decide)).trans rfl))) ?_
      refine zs_iret (pc := 4) t110_4 mr110 rfl ?_
      show zGo X l 2 0 0 111 29 [(0, .ref 241), (1, .int a), (2, .int w4x2), (3, .int w1v), (4, .int w4x4)] [.int (zI M 242 0), .int w4x4] w4M _
      by_cases w11 : (zI M 242 0).toInt ≤ w4x4.toInt
      · refine zs_icmp_geT (pc := 29) t111_29 rfl rfl (by omega) ?_
        refine zs_iload_n (pc := 125) t111_125 rfl ?_
        have w12 : (zI w4M 242 10).toInt = (zI w4M 242 10).toInt := (congrArg Int32.toInt rfl).trans rfl
        have w13 := zrg (zI w4M 241 4)
        have w14 : (zI w4M 241 4).toInt = (zI w4M 241 4).toInt := (congrArg Int32.toInt rfl).trans rfl
        have w15 := zrg (zI w4M 241 5)
        have w16 : (zI w4M 241 5).toInt = (zI w4M 241 5).toInt := (congrArg Int32.toInt rfl).trans rfl
        have w17 : (zI w4M 242 10).toInt = (zI w4M 242 10).toInt := (congrArg Int32.toInt rfl).trans rfl
        exact zs_iret (pc := 126) t111_126 mr111 rfl (hQ _ _ w4s w4I (((zFr.refl).put rfl).trans (w4F.mono rfl)) (by omega) (by omega) (zBq.end (w4t0 w5n (by omega)) (zSl.fr x3 ((w4F 242 0 rfl).trans (zIo (by decide))) (fun j => ((w4F 243 j rfl).trans (zIo (by decide)))) (fun j => ((w4F 244 j rfl).trans (zIo (by decide))))) w1x0 (by omega) (by omega) (by omega)) w4t1 w4t2 (by omega) (by omega))
      · refine zs_icmp_geF (pc := 29) t111_29 rfl rfl (by omega) ?_
        refine zs_aload_n (pc := 32) t111_32 rfl ?_
        have w18 := zrg (zI w4M 241 4)
        refine zs_get (pc := 33) t111_33 (by decide) (zk1 (w4s.k fk_zMc_241)) (zfvi rfl rfl) ?_
        refine zs_iload_n (pc := 36) t111_36 rfl ?_
        by_cases w19 : w1v.toInt ≤ (zI w4M 241 4).toInt
        · refine zs_icmp_geT (pc := 37) t111_37 rfl rfl (by omega) ?_
          refine zs_iload_n (pc := 125) t111_125 rfl ?_
          have w20 : (zI w4M 242 10).toInt = (zI w4M 242 10).toInt := (congrArg Int32.toInt rfl).trans rfl
          have w21 : (zI w4M 241 4).toInt = (zI w4M 241 4).toInt := (congrArg Int32.toInt rfl).trans rfl
          have w22 := zrg (zI w4M 241 5)
          have w23 : (zI w4M 241 5).toInt = (zI w4M 241 5).toInt := (congrArg Int32.toInt rfl).trans rfl
          have w24 : (zI w4M 242 10).toInt = (zI w4M 242 10).toInt := (congrArg Int32.toInt rfl).trans rfl
          exact zs_iret (pc := 126) t111_126 mr111 rfl (hQ _ _ w4s w4I (((zFr.refl).put rfl).trans (w4F.mono rfl)) (by omega) (by omega) (zBq.end (w4t0 w5n (by omega)) (zSl.fr x3 ((w4F 242 0 rfl).trans (zIo (by decide))) (fun j => ((w4F 243 j rfl).trans (zIo (by decide)))) (fun j => ((w4F 244 j rfl).trans (zIo (by decide))))) w1x0 (by omega) (by omega) (by omega)) w4t1 w4t2 (by omega) (by omega))
        · refine zs_icmp_geF (pc := 37) t111_37 rfl rfl (by omega) ?_
          refine zs_aload_n (pc := 40) t111_40 rfl ?_
          refine zs_get (pc := 41) t111_41 (by decide) (zk1 (w4s.k fk_zMc_241)) (w4s.p rfl fv_zMc_241_3) ?_
          refine zs_iload (pc := 44) t111_44 rfl ?_
          have w25 := zrg (zI w4M 256 w5n)
          refine zs_iald (pc := 46) t111_46 (j := w5n) (by decide) (zk1 (w4s.k fk_zMc_256)) (show w4x4.toInt = ((w5n : Nat) : Int) by omega) (zk2 (w4s.k fk_zMc_256) (by omega)) rfl ?_
          refine zs_aload_n (pc := 47) t111_47 rfl ?_
          refine zs_get (pc := 48) t111_48 (by decide) (zk1 (w4s.k fk_zMc_241)) (zfvi rfl rfl) ?_
          by_cases w26 : (zI w4M 241 4).toInt < (zI w4M 256 w5n).toInt
          · refine zs_icmp_gtT (pc := 51) t111_51 rfl rfl (by omega) ?_
            refine zs_aload_n (pc := 57) t111_57 rfl ?_
            refine zs_get (pc := 58) t111_58 (by decide) (zk1 (w4s.k fk_zMc_241)) (w4s.p rfl fv_zMc_241_0) ?_
            refine zs_iload (pc := 61) t111_61 rfl ?_
            have w27 : (zI w4M 242 10).toInt = (zI w4M 242 10).toInt := (congrArg Int32.toInt rfl).trans rfl
            have w28 : (zI w4M 242 10).toInt = (zI w4M 242 10).toInt := (congrArg Int32.toInt rfl).trans rfl
            have w29 : (zI w4M 242 0).toInt = (zI M 242 0).toInt := (congrArg Int32.toInt ((w4F 242 0 rfl).trans ((zIo (by decide)).trans rfl))).trans rfl
            refine zs_invV (pc := 63) (k := 242) (as' := [.int w4x4]) (st := []) t111_63 mf114 rfl rfl (Or.inl ⟨by decide, (zk1 (w4s.k fk_zMc_242))⟩) ⟨by decide, by decide, Nat.le_of_ble_eq_true rfl, Nat.le_of_ble_eq_true rfl⟩ (V114_242 w4s w4I (by omega) x0 (zPn.fr x1 ((w4F 242 5 rfl).trans (zIo (by decide))) (fun j => ((w4F 245 j rfl).trans (zIo (by decide)))) (fun j => ((w4F 246 j rfl).trans (zIo (by decide))))) (zVt.fr x2 ((w4F 242 6 rfl).trans (zIo (by decide))) (fun j => ((w4F 247 j rfl).trans (zIo (by decide)))) (fun j => ((w4F 248 j rfl).trans (zIo (by decide)))) (fun j => ((w4F 249 j rfl).trans (zIo (by decide))))) w4t2 ⟨(show _ = ((w5n : Nat) : Int) by omega), by omega, congrArg Int32.toInt ((w4F 243 w5n rfl).trans (zIo (by decide))), congrArg Int32.toInt ((w4F 244 w5n rfl).trans (zIo (by decide))), x3.2.2.1 w5n (by omega)⟩ ?_) (fun _ _ q => q)
            intro w30M w30s w30I w30F w30t0 w30x0 w30x1
            have w31 := zrg (zI w30M 242 10)
            have w30r := w30x0.rg
            show zGo X l 2 0 0 111 66 [(0, .ref 241), (1, .int a), (2, .int w4x2), (3, .int w1v), (4, .int w4x4)] [] w30M _
            refine zs_aload_n (pc := 66) t111_66 rfl ?_
            refine zs_get (pc := 67) t111_67 (by decide) (zk1 (w30s.k fk_zMc_241)) (w30s.p rfl fv_zMc_241_3) ?_
            refine zs_iload (pc := 70) t111_70 rfl ?_
            refine zs_aload_n (pc := 72) t111_72 rfl ?_
            refine zs_get (pc := 73) t111_73 (by decide) (zk1 (w30s.k fk_zMc_241)) (w30s.p rfl fv_zMc_241_0) ?_
            refine zs_invV (pc := 76) (k := 242) (as' := []) (st := [.int w4x4, .ref 256]) t111_76 mf118 rfl rfl (Or.inl ⟨by decide, (zk1 (w30s.k fk_zMc_242))⟩) ⟨by decide, by decide, Nat.le_of_ble_eq_true rfl, Nat.le_of_ble_eq_true rfl⟩ (zs_in (by decide) mf118 (Nat.le_of_ble_eq_true rfl) ?_) (fun _ _ q => q)
            show zGo X l 0 0 0 118 0 [(0, .ref 242)] [] w30M _
            refine zs_aload_n (pc := 0) t118_0 rfl ?_
            have w32 := zrg (zI w30M 242 17)
            refine zs_get (pc := 1) t118_1 (by decide) (zk1 (w30s.k fk_zMc_242)) (zfvi rfl rfl) ?_
            refine zs_iret (pc := 4) t118_4 mr118 rfl ?_
            show zGo X l 2 0 0 111 79 [(0, .ref 241), (1, .int a), (2, .int w4x2), (3, .int w1v), (4, .int w4x4)] [.int (zI w30M 242 17), .int w4x4, .ref 256] w30M _
            have w33 : zIv cLo cHi (zsI w30M 256 w5n (zI w30M 242 17)) := zIv.put w30I (show (-2147483648) ≤ (zI w30M 242 17).toInt ∧ (zI w30M 242 17).toInt ≤ 2147483647 from zrg (zI w30M 242 17))
            refine zs_iast (pc := 79) t111_79 (j := w5n) (by decide) (zk1 (w30s.k fk_zMc_256)) (show w4x4.toInt = ((w5n : Nat) : Int) by omega) (zk2 (w30s.k fk_zMc_256) (by omega)) ?_
            refine zs_aload_n (pc := 80) t111_80 rfl ?_
            refine zs_get (pc := 81) t111_81 (by decide) (zk1 (w30s.k fk_zMc_241)) (w30s.p rfl fv_zMc_241_0) ?_
            refine zs_invV (pc := 84) (k := 242) (as' := []) (st := []) t111_84 mf118 rfl rfl (Or.inl ⟨by decide, (zk1 (w30s.k fk_zMc_242))⟩) ⟨by decide, by decide, Nat.le_of_ble_eq_true rfl, Nat.le_of_ble_eq_true rfl⟩ (zs_in (by decide) mf118 (Nat.le_of_ble_eq_true rfl) ?_) (fun _ _ q => q)
            show zGo X l 0 0 0 118 0 [(0, .ref 242)] [] (zsI w30M 256 w5n (zI w30M 242 17)) _
            refine zs_aload_n (pc := 0) t118_0 rfl ?_
            refine zs_get (pc := 1) t118_1 (by decide) (zk1 (w30s.k fk_zMc_242)) (zfvi rfl ((zIo (by decide)).trans rfl)) ?_
            refine zs_iret (pc := 4) t118_4 mr118 rfl ?_
            show zGo X l 2 0 0 111 87 [(0, .ref 241), (1, .int a), (2, .int w4x2), (3, .int w1v), (4, .int w4x4)] [.int (zI w30M 242 17)] (zsI w30M 256 w5n (zI w30M 242 17)) _
            refine zs_aload_n (pc := 87) t111_87 rfl ?_
            refine zs_get (pc := 88) t111_88 (by decide) (zk1 (w30s.k fk_zMc_241)) (zfvi rfl ((zIo (by decide)).trans ((w30F 241 4 rfl).trans rfl))) ?_
            by_cases w34 : (zI w30M 242 17).toInt ≤ (zI w4M 241 4).toInt
            · refine zs_icmp_leT (pc := 91) t111_91 rfl rfl (by omega) ?_
              obtain ⟨w35v, w35e, w35⟩ := ziadd (a := w4x4) (b := Int32.ofInt 1) rfl (show (Int32.ofInt 1).toInt = 1 by decide) (by omega) (by omega)
              refine zs_iinc (pc := 119) t111_119 (ls' := [(4, .int w35v), (0, .ref 241), (1, .int a), (2, .int w4x2), (3, .int w1v)]) (zml mf111 (by decide)) rfl (c := w35v) w35e rfl ?_
              refine zs_goto (pc := 122) t111_122 ?_
              refine zGo.locals (ls' := [(0, .ref 241), (1, .int a), (2, .int w4x2), (3, .int w1v), (4, .int w35v)]) (by simp) ?_
              have w36 := w35
              have w37 : (zI (zsI w30M 256 w5n (zI w30M 242 17)) 242 10).toInt = (zI w30M 242 10).toInt := (congrArg Int32.toInt ((zIo (by decide)).trans rfl)).trans rfl
              have w38 : (zI (zsI w30M 256 w5n (zI w30M 242 17)) 242 10).toInt = (zI w30M 242 10).toInt := (congrArg Int32.toInt ((zIo (by decide)).trans rfl)).trans rfl
              have w39 : (zI (zsI w30M 256 w5n (zI w30M 242 17)) 241 4).toInt = (zI w4M 241 4).toInt := (congrArg Int32.toInt ((zIo (by decide)).trans ((w30F 241 4 rfl).trans rfl))).trans rfl
              have w40 := zrg (zI w4M 241 5)
              have w41 : (zI (zsI w30M 256 w5n (zI w30M 242 17)) 241 5).toInt = (zI w4M 241 5).toInt := (congrArg Int32.toInt ((zIo (by decide)).trans ((w30F 241 5 rfl).trans rfl))).trans rfl
              have w42 : (zI (zsI w30M 256 w5n (zI w30M 242 17)) 242 10).toInt = (zI w30M 242 10).toInt := (congrArg Int32.toInt ((zIo (by decide)).trans rfl)).trans rfl
              exact w4ih (w4m - 1) (by omega) w4x2 w35v (zsI w30M 256 w5n (zI w30M 242 17)) ⟨by omega, by omega⟩ ⟨by omega, by omega⟩ w30s w33 ((((zFr.refl).trans (w4F.mono rfl)).trans (w30F.mono rfl)).put rfl) (by omega) (by omega) (by omega) (by omega) (fun i hi => by obtain rfl : i = w5n + 1 := (by omega); have h0 := w4t0 w5n (by omega); exact (h0.fr (fun j => ((zIo (by decide)).trans (w30F 243 j rfl))) (fun j => ((zIo (by decide)).trans (w30F 244 j rfl))) (by omega) (by omega)).skip (fun b => by rw [show zI (zsI w30M 256 w5n (zI w30M 242 17)) 243 w5n = zI M 243 w5n from ((zIo (by decide)).trans ((w30F 243 w5n rfl).trans ((w4F 243 w5n rfl).trans (zIo (by decide))))), show zI (zsI w30M 256 w5n (zI w30M 242 17)) 244 w5n = zI M 244 w5n from ((zIo (by decide)).trans ((w30F 244 w5n rfl).trans ((w4F 244 w5n rfl).trans (zIo (by decide)))))]; exact Int.le_trans (w30x0.le b) (by omega))) (zBd.put (i := w5n) w4t1 (fun j => ((zIo (by decide)).trans (w30F 243 j rfl))) (fun j => ((zIo (by decide)).trans (w30F 244 j rfl))) (fun j q => ((zIoj q).trans (w30F 256 j rfl))) (congrArg Int32.toInt (zIs)) (fun b => by rw [show zI w4M 243 w5n = zI M 243 w5n from ((w4F 243 w5n rfl).trans (zIo (by decide))), show zI w4M 244 w5n = zI M 244 w5n from ((w4F 244 w5n rfl).trans (zIo (by decide)))]; exact w30x0.le b)) (zSp.fr w30x1 (fun j => ((zIo (by decide)).trans rfl)) ((zIo (by decide)).trans rfl)) (by omega)
            · refine zs_icmp_leF (pc := 91) t111_91 rfl rfl (by omega) ?_
              refine zs_iload (pc := 94) t111_94 rfl ?_
              refine zs_istore_n (pc := 96) t111_96 (ls' := [(2, .int w4x4), (0, .ref 241), (1, .int a), (3, .int w1v), (4, .int w4x4)]) (zml mf111 (by decide)) rfl ?_
              refine zs_aload_n (pc := 97) t111_97 rfl ?_
              refine zs_aload_n (pc := 98) t111_98 rfl ?_
              refine zs_get (pc := 99) t111_99 (by decide) (zk1 (w30s.k fk_zMc_241)) (w30s.p rfl fv_zMc_241_0) ?_
              refine zs_invV (pc := 102) (k := 242) (as' := []) (st := [.ref 241]) t111_102 mf118 rfl rfl (Or.inl ⟨by decide, (zk1 (w30s.k fk_zMc_242))⟩) ⟨by decide, by decide, Nat.le_of_ble_eq_true rfl, Nat.le_of_ble_eq_true rfl⟩ (zs_in (by decide) mf118 (Nat.le_of_ble_eq_true rfl) ?_) (fun _ _ q => q)
              show zGo X l 0 0 0 118 0 [(0, .ref 242)] [] (zsI w30M 256 w5n (zI w30M 242 17)) _
              refine zs_aload_n (pc := 0) t118_0 rfl ?_
              refine zs_get (pc := 1) t118_1 (by decide) (zk1 (w30s.k fk_zMc_242)) (zfvi rfl ((zIo (by decide)).trans rfl)) ?_
              refine zs_iret (pc := 4) t118_4 mr118 rfl ?_
              show zGo X l 2 0 0 111 105 [(2, .int w4x4), (0, .ref 241), (1, .int a), (3, .int w1v), (4, .int w4x4)] [.int (zI w30M 242 17), .ref 241] (zsI w30M 256 w5n (zI w30M 242 17)) _
              have w43 : zIv cLo cHi (zsI (zsI w30M 256 w5n (zI w30M 242 17)) 241 4 (zI w30M 242 17)) := zIv.put w33 (show (-2147483648) ≤ (zI w30M 242 17).toInt ∧ (zI w30M 242 17).toInt ≤ 2147483647 from zrg (zI w30M 242 17))
              refine zs_putI (pc := 105) t111_105 (zk1 (w30s.k fk_zMc_241)) rfl ?_
              refine zs_aload_n (pc := 108) t111_108 rfl ?_
              refine zs_aload_n (pc := 109) t111_109 rfl ?_
              refine zs_get (pc := 110) t111_110 (by decide) (zk1 (w30s.k fk_zMc_241)) (w30s.p rfl fv_zMc_241_0) ?_
              refine zs_invV (pc := 113) (k := 242) (as' := []) (st := [.ref 241]) t111_113 mf119 rfl rfl (Or.inl ⟨by decide, (zk1 (w30s.k fk_zMc_242))⟩) ⟨by decide, by decide, Nat.le_of_ble_eq_true rfl, Nat.le_of_ble_eq_true rfl⟩ (zs_in (by decide) mf119 (Nat.le_of_ble_eq_true rfl) ?_) (fun _ _ q => q)
              show zGo X l 0 0 0 119 0 [(0, .ref 242)] [] (zsI (zsI w30M 256 w5n (zI w30M 242 17)) 241 4 (zI w30M 242 17)) _
              refine zs_aload_n (pc := 0) t119_0 rfl ?_
              have w44 := zrg (zI w30M 242 18)
              refine zs_get (pc := 1) t119_1 (by decide) (zk1 (w30s.k fk_zMc_242)) (zfvi rfl ((zIo (by decide)).trans ((zIo (by decide)).trans rfl))) ?_
              refine zs_iret (pc := 4) t119_4 mr119 rfl ?_
              show zGo X l 2 0 0 111 116 [(2, .int w4x4), (0, .ref 241), (1, .int a), (3, .int w1v), (4, .int w4x4)] [.int (zI w30M 242 18), .ref 241] (zsI (zsI w30M 256 w5n (zI w30M 242 17)) 241 4 (zI w30M 242 17)) _
              have w45 : zIv cLo cHi (zsI (zsI (zsI w30M 256 w5n (zI w30M 242 17)) 241 4 (zI w30M 242 17)) 241 5 (zI w30M 242 18)) := zIv.put w43 (show (-2147483648) ≤ (zI w30M 242 18).toInt ∧ (zI w30M 242 18).toInt ≤ 2147483647 from zrg (zI w30M 242 18))
              refine zs_putI (pc := 116) t111_116 (zk1 (w30s.k fk_zMc_241)) rfl ?_
              obtain ⟨w46v, w46e, w46⟩ := ziadd (a := w4x4) (b := Int32.ofInt 1) rfl (show (Int32.ofInt 1).toInt = 1 by decide) (by omega) (by omega)
              refine zs_iinc (pc := 119) t111_119 (ls' := [(4, .int w46v), (2, .int w4x4), (0, .ref 241), (1, .int a), (3, .int w1v)]) (zml mf111 (by decide)) rfl (c := w46v) w46e rfl ?_
              refine zs_goto (pc := 122) t111_122 ?_
              refine zGo.locals (ls' := [(0, .ref 241), (1, .int a), (2, .int w4x4), (3, .int w1v), (4, .int w46v)]) (by simp) ?_
              have w47 := w46
              have w48 : (zI (zsI (zsI (zsI w30M 256 w5n (zI w30M 242 17)) 241 4 (zI w30M 242 17)) 241 5 (zI w30M 242 18)) 242 10).toInt = (zI w30M 242 10).toInt := (congrArg Int32.toInt ((zIo (by decide)).trans ((zIo (by decide)).trans ((zIo (by decide)).trans rfl)))).trans rfl
              have w49 : (zI (zsI (zsI (zsI w30M 256 w5n (zI w30M 242 17)) 241 4 (zI w30M 242 17)) 241 5 (zI w30M 242 18)) 242 10).toInt = (zI w30M 242 10).toInt := (congrArg Int32.toInt ((zIo (by decide)).trans ((zIo (by decide)).trans ((zIo (by decide)).trans rfl)))).trans rfl
              have w50 : (zI (zsI (zsI (zsI w30M 256 w5n (zI w30M 242 17)) 241 4 (zI w30M 242 17)) 241 5 (zI w30M 242 18)) 241 4).toInt = (zI w30M 242 17).toInt := (congrArg Int32.toInt ((zIoj (by decide)).trans zIs)).trans rfl
              have w51 : (zI (zsI (zsI (zsI w30M 256 w5n (zI w30M 242 17)) 241 4 (zI w30M 242 17)) 241 5 (zI w30M 242 18)) 241 5).toInt = (zI w30M 242 18).toInt := (congrArg Int32.toInt zIs).trans rfl
              have w52 : (zI (zsI (zsI (zsI w30M 256 w5n (zI w30M 242 17)) 241 4 (zI w30M 242 17)) 241 5 (zI w30M 242 18)) 242 10).toInt = (zI w30M 242 10).toInt := (congrArg Int32.toInt ((zIo (by decide)).trans ((zIo (by decide)).trans ((zIo (by decide)).trans rfl)))).trans rfl
              exact w4ih (w4m - 1) (by omega) w4x4 w46v (zsI (zsI (zsI w30M 256 w5n (zI w30M 242 17)) 241 4 (zI w30M 242 17)) 241 5 (zI w30M 242 18)) ⟨by omega, by omega⟩ ⟨by omega, by omega⟩ w30s w45 ((((((zFr.refl).trans (w4F.mono rfl)).trans (w30F.mono rfl)).put rfl).put rfl).put rfl) (by omega) (by omega) (by omega) (by omega) (fun i hi => by obtain rfl : i = w5n + 1 := (by omega); have h0 := w4t0 w5n (by omega); exact zBq.take (h0.fr (fun j => ((zIo (by decide)).trans ((zIo (by decide)).trans ((zIo (by decide)).trans (w30F 243 j rfl))))) (fun j => ((zIo (by decide)).trans ((zIo (by decide)).trans ((zIo (by decide)).trans (w30F 244 j rfl))))) rfl rfl) (zBx.cs (by rw [show zI (zsI (zsI (zsI w30M 256 w5n (zI w30M 242 17)) 241 4 (zI w30M 242 17)) 241 5 (zI w30M 242 18)) 243 w5n = zI M 243 w5n from ((zIo (by decide)).trans ((zIo (by decide)).trans ((zIo (by decide)).trans ((w30F 243 w5n rfl).trans ((w4F 243 w5n rfl).trans (zIo (by decide))))))), show zI (zsI (zsI (zsI w30M 256 w5n (zI w30M 242 17)) 241 4 (zI w30M 242 17)) 241 5 (zI w30M 242 18)) 244 w5n = zI M 244 w5n from ((zIo (by decide)).trans ((zIo (by decide)).trans ((zIo (by decide)).trans ((w30F 244 w5n rfl).trans ((w4F 244 w5n rfl).trans (zIo (by decide)))))))]; exact w30x0) (by omega) (by omega)) (by omega) (by omega) (by omega)) (zBd.put (i := w5n) w4t1 (fun j => ((zIo (by decide)).trans ((zIo (by decide)).trans ((zIo (by decide)).trans (w30F 243 j rfl))))) (fun j => ((zIo (by decide)).trans ((zIo (by decide)).trans ((zIo (by decide)).trans (w30F 244 j rfl))))) (fun j q => ((zIo (by decide)).trans ((zIo (by decide)).trans ((zIoj q).trans (w30F 256 j rfl))))) (congrArg Int32.toInt ((zIo (by decide)).trans ((zIo (by decide)).trans (zIs)))) (fun b => by rw [show zI w4M 243 w5n = zI M 243 w5n from ((w4F 243 w5n rfl).trans (zIo (by decide))), show zI w4M 244 w5n = zI M 244 w5n from ((w4F 244 w5n rfl).trans (zIo (by decide)))]; exact w30x0.le b)) (zSp.fr w30x1 (fun j => ((zIo (by decide)).trans ((zIo (by decide)).trans ((zIo (by decide)).trans rfl)))) ((zIo (by decide)).trans ((zIo (by decide)).trans ((zIo (by decide)).trans rfl)))) (by omega)
          · refine zs_icmp_gtF (pc := 51) t111_51 rfl rfl (by omega) ?_
            refine zs_goto (pc := 54) t111_54 ?_
            obtain ⟨w53v, w53e, w53⟩ := ziadd (a := w4x4) (b := Int32.ofInt 1) rfl (show (Int32.ofInt 1).toInt = 1 by decide) (by omega) (by omega)
            refine zs_iinc (pc := 119) t111_119 (ls' := [(4, .int w53v), (0, .ref 241), (1, .int a), (2, .int w4x2), (3, .int w1v)]) (zml mf111 (by decide)) rfl (c := w53v) w53e rfl ?_
            refine zs_goto (pc := 122) t111_122 ?_
            refine zGo.locals (ls' := [(0, .ref 241), (1, .int a), (2, .int w4x2), (3, .int w1v), (4, .int w53v)]) (by simp) ?_
            have w54 := w53
            have w55 : (zI w4M 242 10).toInt = (zI w4M 242 10).toInt := (congrArg Int32.toInt rfl).trans rfl
            have w56 : (zI w4M 242 10).toInt = (zI w4M 242 10).toInt := (congrArg Int32.toInt rfl).trans rfl
            have w57 : (zI w4M 241 4).toInt = (zI w4M 241 4).toInt := (congrArg Int32.toInt rfl).trans rfl
            have w58 := zrg (zI w4M 241 5)
            have w59 : (zI w4M 241 5).toInt = (zI w4M 241 5).toInt := (congrArg Int32.toInt rfl).trans rfl
            have w60 : (zI w4M 242 10).toInt = (zI w4M 242 10).toInt := (congrArg Int32.toInt rfl).trans rfl
            exact w4ih (w4m - 1) (by omega) w4x2 w53v w4M ⟨by omega, by omega⟩ ⟨by omega, by omega⟩ w4s w4I ((zFr.refl).trans (w4F.mono rfl)) (by omega) (by omega) (by omega) (by omega) (fun i hi => by obtain rfl : i = w5n + 1 := (by omega); have h0 := w4t0 w5n (by omega); exact h0.skip (fun b => Int.le_trans (w4t1 w5n (by omega) b) (by omega))) w4t1 w4t2 (by omega)
  refine zGo.locals (ls' := [(0, .ref 241), (1, .int a), (2, .int (-1 : Int32)), (3, .int w1v), (4, .int (0 : Int32))]) (by simp) ?_
  have w61 := lin1
  have w62 := li0
  have w63 : (zI (zsI M 241 4 w2v) 242 10).toInt = (zI M 242 10).toInt := (congrArg Int32.toInt ((zIo (by decide)).trans rfl)).trans rfl
  have w64 : (zI (zsI M 241 4 w2v) 242 10).toInt = (zI M 242 10).toInt := (congrArg Int32.toInt ((zIo (by decide)).trans rfl)).trans rfl
  have w65 : (zI (zsI M 241 4 w2v) 241 4).toInt = (a.toInt - 1) := (congrArg Int32.toInt zIs).trans w2
  have w66 := zrg (zI M 241 5)
  have w67 : (zI (zsI M 241 4 w2v) 241 5).toInt = (zI M 241 5).toInt := (congrArg Int32.toInt ((zIoj (by decide)).trans rfl)).trans rfl
  have w68 : (zI (zsI M 241 4 w2v) 242 10).toInt = (zI M 242 10).toInt := (congrArg Int32.toInt ((zIo (by decide)).trans rfl)).trans rfl
  exact w4L ((287 - 0 : Int).toNat) (-1 : Int32) (0 : Int32) (zsI M 241 4 w2v) ⟨by decide, by decide⟩ ⟨by decide, by decide⟩ hs w3 zFr.refl (by omega) (by omega) (by omega) (by omega) (fun i hi => zBq.zero (by omega) (by decide) (by omega)) (x4.fr (fun j => (zIo (by decide))) (fun j => (zIo (by decide))) (fun j => (zIo (by decide)))) (zSp.fr x5 (fun j => ((zIo (by decide)).trans rfl)) ((zIo (by decide)).trans rfl)) (by omega)
