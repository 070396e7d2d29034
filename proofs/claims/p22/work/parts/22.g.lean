theorem C164_325 {X : zX} {l : Launch} {M : zM} {Q : Option Value → zM → Prop} {a b c d : Int32} (hs : zSk zMc M) (hI : zIv cLo cHi M) (hQ : ∀ M', zSk zMc M' → zIv cLo cHi M' → zFr [(326, 329, none)] M M' → Q none M') : zCall X l 1 0 0 164 [.ref 325, .int a, .int b, .int c, .int d] M Q := by
  have ga := zrg a
  have gb := zrg b
  have gc := zrg c
  have gd := zrg d
  refine zs_in (by decide) mf164 (Nat.le_of_ble_eq_true rfl) ?_
  show zGo X l 1 0 0 164 0 [(0, .ref 325), (1, .int a), (2, .int b), (3, .int c), (4, .int d)] [] M _
  refine zs_iload_n (pc := 0) t164_0 rfl ?_
  refine zs_iconst (pc := 1) t164_1 (v := 0) (by decide) ?_
  refine zs_bipush (pc := 2) t164_2 (v := 8) (by decide) ?_
  refine zs_invS (pc := 4) (as := [.int a, .int (0 : Int32), .int (8 : Int32)]) (st := []) t164_4 (by decide) mf39 rfl rfl ⟨by decide, by decide, Nat.le_of_ble_eq_true rfl, Nat.le_of_ble_eq_true rfl⟩ (zs_in (by decide) mf39 (Nat.le_of_ble_eq_true rfl) ?_) (fun _ _ q => q)
  show zGo X l 0 0 0 39 0 [(0, .int a), (1, .int (0 : Int32)), (2, .int (8 : Int32))] [] M _
  refine zs_iload_n (pc := 0) t39_0 rfl ?_
  refine zs_iload_n (pc := 1) t39_1 rfl ?_
  by_cases w1 : a.toInt < 0
  · refine zs_icmp_ltT (pc := 2) t39_2 rfl li0 (by omega) ?_
    refine zs_iconst (pc := 14) t39_14 (v := 0) (by decide) ?_
    refine zs_iret (pc := 15) t39_15 mr39 (by decide) ?_
    show zGo X l 1 0 0 164 7 [(0, .ref 325), (1, .int a), (2, .int b), (3, .int c), (4, .int d)] [.int (0 : Int32)] M _
    refine zs_if_eqT (pc := 7) t164_7 li0 (by decide) ?_
    exact zs_vret (pc := 21) t164_21 mr164 (hQ _ hs hI (zFr.refl))
  · refine zs_icmp_ltF (pc := 2) t39_2 rfl li0 (by omega) ?_
    refine zs_iload_n (pc := 5) t39_5 rfl ?_
    refine zs_iload_n (pc := 6) t39_6 rfl ?_
    by_cases w2 : 8 < a.toInt
    · refine zs_icmp_gtT (pc := 7) t39_7 rfl li8 (by omega) ?_
      refine zs_iconst (pc := 14) t39_14 (v := 0) (by decide) ?_
      refine zs_iret (pc := 15) t39_15 mr39 (by decide) ?_
      show zGo X l 1 0 0 164 7 [(0, .ref 325), (1, .int a), (2, .int b), (3, .int c), (4, .int d)] [.int (0 : Int32)] M _
      refine zs_if_eqT (pc := 7) t164_7 li0 (by decide) ?_
      exact zs_vret (pc := 21) t164_21 mr164 (hQ _ hs hI (zFr.refl))
    · refine zs_icmp_gtF (pc := 7) t39_7 rfl li8 (by omega) ?_
      refine zs_iconst (pc := 10) t39_10 (v := 1) (by decide) ?_
      refine zs_goto (pc := 11) t39_11 ?_
      refine zs_iret (pc := 15) t39_15 mr39 (by decide) ?_
      show zGo X l 1 0 0 164 7 [(0, .ref 325), (1, .int a), (2, .int b), (3, .int c), (4, .int d)] [.int (1 : Int32)] M _
      refine zs_if_eqF (pc := 7) t164_7 li1 (by decide) ?_
      refine zs_aload_n (pc := 10) t164_10 rfl ?_
      refine zs_get (pc := 11) t164_11 (by decide) (zk1 (hs.k fk_zMc_325)) (hs.p rfl fv_zMc_325_2) ?_
      refine zs_iload_n (pc := 14) t164_14 rfl ?_
      obtain ⟨w3n, w3⟩ : ∃ n : Nat, a.toInt = (n : Int) := ⟨a.toInt.toNat, by omega⟩
      have w4 := ib326 hI w3n
      refine zs_iald (pc := 15) t164_15 (j := w3n) (by decide) (zk1 (hs.k fk_zMc_326)) w3 (zk2 (hs.k fk_zMc_326) (by omega)) rfl ?_
      refine zs_bipush (pc := 16) t164_16 (v := 20) (by decide) ?_
      by_cases w5 : (zI M 326 w3n).toInt < 20
      · refine zs_icmp_ltT (pc := 18) t164_18 rfl li20 (by omega) ?_
        refine zs_iload_n (pc := 22) t164_22 rfl ?_
        refine zs_bipush (pc := 23) t164_23 (v := 20) (by decide) ?_
        obtain ⟨w6v, w6⟩ : ∃ v, a * (20 : Int32) = v := ⟨_, rfl⟩
        have w6g : w6v.toInt = a.toInt * 20 := by rw [← w6]; exact zmulc rfl li20 (by omega) (by omega)
        refine zs_imul (pc := 25) t164_25 (c := w6v) w6 ?_
        refine zs_aload_n (pc := 26) t164_26 rfl ?_
        refine zs_get (pc := 27) t164_27 (by decide) (zk1 (hs.k fk_zMc_325)) (hs.p rfl fv_zMc_325_2) ?_
        refine zs_iload_n (pc := 30) t164_30 rfl ?_
        refine zs_iald (pc := 31) t164_31 (j := w3n) (by decide) (zk1 (hs.k fk_zMc_326)) w3 (zk2 (hs.k fk_zMc_326) (by omega)) rfl ?_
        obtain ⟨w7v, w7e, w7⟩ := ziadd (a := w6v) (b := (zI M 326 w3n)) rfl rfl (by omega) (by omega)
        refine zs_iadd (pc := 32) t164_32 (c := w7v) w7e ?_
        refine zs_istore (pc := 33) t164_33 (ls' := [(5, .int w7v), (0, .ref 325), (1, .int a), (2, .int b), (3, .int c), (4, .int d)]) (zml mf164 (by decide)) rfl ?_
        refine zs_aload_n (pc := 35) t164_35 rfl ?_
        refine zs_get (pc := 36) t164_36 (by decide) (zk1 (hs.k fk_zMc_325)) (hs.p rfl fv_zMc_325_3) ?_
        refine zs_iload (pc := 39) t164_39 rfl ?_
        refine zs_iload_n (pc := 41) t164_41 rfl ?_
        obtain ⟨w8n, w8⟩ : ∃ n : Nat, w7v.toInt = (n : Int) := ⟨w7v.toInt.toNat, by omega⟩
        have w9 : zIv cLo cHi (zsI M 327 w8n b) := zIv.put hI (show (-2147483648) ≤ b.toInt ∧ b.toInt ≤ 2147483647 from (zrg b))
        refine zs_iast (pc := 42) t164_42 (j := w8n) (by decide) (zk1 (hs.k fk_zMc_327)) w8 (zk2 (hs.k fk_zMc_327) (by omega)) ?_
        refine zs_aload_n (pc := 43) t164_43 rfl ?_
        refine zs_get (pc := 44) t164_44 (by decide) (zk1 (hs.k fk_zMc_325)) (hs.p rfl fv_zMc_325_4) ?_
        refine zs_iload (pc := 47) t164_47 rfl ?_
        refine zs_iload_n (pc := 49) t164_49 rfl ?_
        have w10 : zIv cLo cHi (zsI (zsI M 327 w8n b) 328 w8n c) := zIv.put w9 (show (-2147483648) ≤ c.toInt ∧ c.toInt ≤ 2147483647 from (zrg c))
        refine zs_iast (pc := 50) t164_50 (j := w8n) (by decide) (zk1 (hs.k fk_zMc_328)) w8 (zk2 (hs.k fk_zMc_328) (by omega)) ?_
        refine zs_aload_n (pc := 51) t164_51 rfl ?_
        refine zs_get (pc := 52) t164_52 (by decide) (zk1 (hs.k fk_zMc_325)) (hs.p rfl fv_zMc_325_5) ?_
        refine zs_iload (pc := 55) t164_55 rfl ?_
        refine zs_iload (pc := 57) t164_57 rfl ?_
        have w11 : zIv cLo cHi (zsI (zsI (zsI M 327 w8n b) 328 w8n c) 329 w8n d) := zIv.put w10 (show (-2147483648) ≤ d.toInt ∧ d.toInt ≤ 2147483647 from (zrg d))
        refine zs_iast (pc := 59) t164_59 (j := w8n) (by decide) (zk1 (hs.k fk_zMc_329)) w8 (zk2 (hs.k fk_zMc_329) (by omega)) ?_
        refine zs_aload_n (pc := 60) t164_60 rfl ?_
        refine zs_get (pc := 61) t164_61 (by decide) (zk1 (hs.k fk_zMc_325)) (hs.p rfl fv_zMc_325_2) ?_
        refine zs_iload_n (pc := 64) t164_64 rfl ?_
        refine zs_dup2 (pc := 65) t164_65 ⟨rfl, rfl⟩ ?_
        refine zs_iald (pc := 66) t164_66 (j := w3n) (by decide) (zk1 (hs.k fk_zMc_326)) w3 (zk2 (hs.k fk_zMc_326) (by omega)) ((zIo (by decide)).trans ((zIo (by decide)).trans ((zIo (by decide)).trans rfl))) ?_
        refine zs_iconst (pc := 67) t164_67 (v := 1) (by decide) ?_
        obtain ⟨w12v, w12e, w12⟩ := ziadd (a := (zI M 326 w3n)) (b := (1 : Int32)) rfl li1 (by omega) (by omega)
        refine zs_iadd (pc := 68) t164_68 (c := w12v) w12e ?_
        have w13 : zIv cLo cHi (zsI (zsI (zsI (zsI M 327 w8n b) 328 w8n c) 329 w8n d) 326 w3n w12v) := zIv.put w11 (show 0 ≤ w12v.toInt ∧ w12v.toInt ≤ 20 from ⟨by omega, by omega⟩)
        refine zs_iast (pc := 69) t164_69 (j := w3n) (by decide) (zk1 (hs.k fk_zMc_326)) w3 (zk2 (hs.k fk_zMc_326) (by omega)) ?_
        exact zs_vret (pc := 70) t164_70 mr164 (hQ _ hs w13 (((((zFr.refl).put rfl).put rfl).put rfl).put rfl))
      · refine zs_icmp_ltF (pc := 18) t164_18 rfl li20 (by omega) ?_
        exact zs_vret (pc := 21) t164_21 mr164 (hQ _ hs hI (zFr.refl))
theorem C157_325_166_164 {X : zX} {l : Launch} {M : zM} {Q : Option Value → zM → Prop} {a b : Int32} (hs : zSk zMc M) (hI : zIv cLo cHi M) (hQ : ∀ M', zSk zMc M' → zIv cLo cHi M' → zFr [(325, 325, some 1), (326, 331, none)] M M' → Q none M') : zCall X l 3 0 0 157 [.ref 325, .ref 166, .int a, .int b, .ref 164] M Q := by
  have ga := zrg a
  have gb := zrg b
  refine zs_in (by decide) mf157 (Nat.le_of_ble_eq_true rfl) ?_
  show zGo X l 3 0 0 157 0 [(0, .ref 325), (1, .ref 166), (2, .int a), (3, .int b), (4, .ref 164)] [] M _
  refine zs_aload_n (pc := 0) t157_0 rfl ?_
  refine zs_iload_n (pc := 1) t157_1 rfl ?_
  refine zs_invV (pc := 2) (k := 166) (as' := [.int a]) (st := []) t157_2 mf115 rfl rfl (Or.inl ⟨by decide, (zk1 (hs.k fk_zMc_166))⟩) ⟨by decide, by decide, Nat.le_of_ble_eq_true rfl, Nat.le_of_ble_eq_true rfl⟩ (zs_in (by decide) mf115 (Nat.le_of_ble_eq_true rfl) ?_) (fun _ _ q => q)
  show zGo X l 0 0 0 115 0 [(0, .ref 166), (1, .int a)] [] M _
  refine zs_iload_n (pc := 0) t115_0 rfl ?_
  by_cases w1 : a.toInt < 0
  · refine zs_if_ltT (pc := 1) t115_1 rfl (by omega) ?_
    refine zs_iconst (pc := 21) t115_21 (v := 0) (by decide) ?_
    refine zs_iret (pc := 22) t115_22 mr115 (by decide) ?_
    show zGo X l 3 0 0 157 5 [(0, .ref 325), (1, .ref 166), (2, .int a), (3, .int b), (4, .ref 164)] [.int (0 : Int32)] M _
    refine zs_istore (pc := 5) t157_5 (ls' := [(5, .int (0 : Int32)), (0, .ref 325), (1, .ref 166), (2, .int a), (3, .int b), (4, .ref 164)]) (zml mf157 (by decide)) rfl ?_
    refine zs_aload_n (pc := 7) t157_7 rfl ?_
    refine zs_iload_n (pc := 8) t157_8 rfl ?_
    refine zs_invV (pc := 9) (k := 166) (as' := [.int a]) (st := []) t157_9 mf116 rfl rfl (Or.inl ⟨by decide, (zk1 (hs.k fk_zMc_166))⟩) ⟨by decide, by decide, Nat.le_of_ble_eq_true rfl, Nat.le_of_ble_eq_true rfl⟩ (zs_in (by decide) mf116 (Nat.le_of_ble_eq_true rfl) ?_) (fun _ _ q => q)
    show zGo X l 0 0 0 116 0 [(0, .ref 166), (1, .int a)] [] M _
    refine zs_iload_n (pc := 0) t116_0 rfl ?_
    refine zs_if_ltT (pc := 1) t116_1 rfl (by omega) ?_
    refine zs_iconst (pc := 21) t116_21 (v := 0) (by decide) ?_
    refine zs_iret (pc := 22) t116_22 mr116 (by decide) ?_
    show zGo X l 3 0 0 157 12 [(5, .int (0 : Int32)), (0, .ref 325), (1, .ref 166), (2, .int a), (3, .int b), (4, .ref 164)] [.int (0 : Int32)] M _
    refine zs_istore (pc := 12) t157_12 (ls' := [(6, .int (0 : Int32)), (5, .int (0 : Int32)), (0, .ref 325), (1, .ref 166), (2, .int a), (3, .int b), (4, .ref 164)]) (zml mf157 (by decide)) rfl ?_
    refine zs_aload_n (pc := 14) t157_14 rfl ?_
    refine zs_aload_n (pc := 15) t157_15 rfl ?_
    refine zs_iload_n (pc := 16) t157_16 rfl ?_
    refine zs_invV (pc := 17) (k := 325) (as' := [.ref 166, .int b]) (st := []) t157_17 mf158 rfl rfl (Or.inl ⟨by decide, (zk1 (hs.k fk_zMc_325))⟩) ⟨by decide, by decide, Nat.le_of_ble_eq_true rfl, Nat.le_of_ble_eq_true rfl⟩ (C158_325_166 hs hI ?_) (fun _ _ q => q)
    intro w2M w2v w2s w2I w2F w2a w2b
    show zGo X l 3 0 0 157 20 [(6, .int (0 : Int32)), (5, .int (0 : Int32)), (0, .ref 325), (1, .ref 166), (2, .int a), (3, .int b), (4, .ref 164)] [.int w2v] w2M _
    refine zs_istore (pc := 20) t157_20 (ls' := [(7, .int w2v), (6, .int (0 : Int32)), (5, .int (0 : Int32)), (0, .ref 325), (1, .ref 166), (2, .int a), (3, .int b), (4, .ref 164)]) (zml mf157 (by decide)) rfl ?_
    refine zs_iconst (pc := 22) t157_22 (v := 0) (by decide) ?_
    refine zs_istore (pc := 23) t157_23 (ls' := [(8, .int (0 : Int32)), (7, .int w2v), (6, .int (0 : Int32)), (5, .int (0 : Int32)), (0, .ref 325), (1, .ref 166), (2, .int a), (3, .int b), (4, .ref 164)]) (zml mf157 (by decide)) rfl ?_
    have w3L : ∀ (m : Nat) (w3x8 : Int32) (w3M : zM), (0 ≤ w3x8.toInt ∧ w3x8.toInt ≤ 60) → zSk zMc w3M → zIv cLo cHi w3M → zFr [(325, 325, some 1), (326, 331, none)] w2M w3M → 60 - w3x8.toInt ≤ (m : Int) → zGo X l 3 0 0 157 25 [(0, .ref 325), (1, .ref 166), (2, .int a), (3, .int b), (4, .ref 164), (5, .int (0 : Int32)), (6, .int (0 : Int32)), (7, .int w2v), (8, .int w3x8)] [] w3M Q := by
      intro m
      induction m using Nat.strongRecOn with
      | ind w3m w3ih =>
        intro w3x8 w3M w3b8 w3s w3I w3F w3q
        refine zs_iload (pc := 25) t157_25 rfl ?_
        refine zs_iload (pc := 27) t157_27 rfl ?_
        by_cases w4 : w2v.toInt ≤ w3x8.toInt
        · refine zs_icmp_geT (pc := 29) t157_29 rfl rfl (by omega) ?_
          exact zs_vret (pc := 89) t157_89 mr157 (hQ _ w3s w3I (((zFr.refl).trans (w2F.mono rfl)).trans (w3F.mono rfl)))
        · refine zs_icmp_geF (pc := 29) t157_29 rfl rfl (by omega) ?_
          refine zs_aload (pc := 32) t157_32 rfl ?_
          refine zs_iload (pc := 34) t157_34 rfl ?_
          refine zs_iload (pc := 36) t157_36 rfl ?_
          refine zs_aload_n (pc := 38) t157_38 rfl ?_
          refine zs_get (pc := 39) t157_39 (by decide) (zk1 (w3s.k fk_zMc_325)) (w3s.p rfl fv_zMc_325_6) ?_
          refine zs_iload (pc := 42) t157_42 rfl ?_
          obtain ⟨w5n, w5⟩ : ∃ n : Nat, w3x8.toInt = (n : Int) := ⟨w3x8.toInt.toNat, by omega⟩
          have w6 := ib330 w3I w5n
          refine zs_iald (pc := 44) t157_44 (j := w5n) (by decide) (zk1 (w3s.k fk_zMc_330)) w5 (zk2 (w3s.k fk_zMc_330) (by omega)) rfl ?_
          refine zs_invS (pc := 45) (as := [.ref 164, .int (0 : Int32), .int (0 : Int32), .int (zI w3M 330 w5n)]) (st := []) t157_45 (by decide) mf162 rfl rfl ⟨by decide, by decide, Nat.le_of_ble_eq_true rfl, Nat.le_of_ble_eq_true rfl⟩ (C162_164 w3s w3I ?_) (fun _ _ q => q)
          intro w7v w7a w7b
          show zGo X l 3 0 0 157 48 [(0, .ref 325), (1, .ref 166), (2, .int a), (3, .int b), (4, .ref 164), (5, .int (0 : Int32)), (6, .int (0 : Int32)), (7, .int w2v), (8, .int w3x8)] [.int w7v] w3M _
          by_cases w8 : w7v.toInt ≠ 0
          · refine zs_if_neT (pc := 48) t157_48 rfl (by omega) ?_
            obtain ⟨w9v, w9e, w9⟩ := ziadd (a := w3x8) (b := Int32.ofInt 1) rfl (show (Int32.ofInt 1).toInt = 1 by decide) (by omega) (by omega)
            refine zs_iinc (pc := 83) t157_83 (ls' := [(8, .int w9v), (0, .ref 325), (1, .ref 166), (2, .int a), (3, .int b), (4, .ref 164), (5, .int (0 : Int32)), (6, .int (0 : Int32)), (7, .int w2v)]) (zml mf157 (by decide)) rfl (c := w9v) w9e rfl ?_
            refine zs_goto (pc := 86) t157_86 ?_
            refine zGo.locals (ls' := [(0, .ref 325), (1, .ref 166), (2, .int a), (3, .int b), (4, .ref 164), (5, .int (0 : Int32)), (6, .int (0 : Int32)), (7, .int w2v), (8, .int w9v)]) (by simp) ?_
            exact w3ih (w3m - 1) (by omega) w9v w3M ⟨by omega, by omega⟩ w3s w3I ((zFr.refl).trans (w3F.mono rfl)) (by omega)
          · refine zs_if_neF (pc := 48) t157_48 rfl (by omega) ?_
            refine zs_aload_n (pc := 51) t157_51 rfl ?_
            refine zs_dup (pc := 52) t157_52 rfl ?_
            have w10 := ib325_1 w3I
            refine zs_get (pc := 53) t157_53 (by decide) (zk1 (w3s.k fk_zMc_325)) (zfvi rfl rfl) ?_
            refine zs_iconst (pc := 56) t157_56 (v := 1) (by decide) ?_
            obtain ⟨w11v, w11⟩ : ∃ v, v = (zI w3M 325 1) + (1 : Int32) := ⟨_, rfl⟩
            have w11g := zrg w11v
            refine zs_iadd (pc := 57) t157_57 (c := w11v) w11.symm ?_
            have w12 : zIv cLo cHi (zsI w3M 325 1 w11v) := zIv.put w3I (show (-2147483648) ≤ w11v.toInt ∧ w11v.toInt ≤ 2147483647 from (zrg w11v))
            refine zs_putI (pc := 58) t157_58 (zk1 (w3s.k fk_zMc_325)) rfl ?_
            refine zs_aload_n (pc := 61) t157_61 rfl ?_
            refine zs_aload_n (pc := 62) t157_62 rfl ?_
            refine zs_get (pc := 63) t157_63 (by decide) (zk1 (w3s.k fk_zMc_325)) (w3s.p rfl fv_zMc_325_7) ?_
            refine zs_iload (pc := 66) t157_66 rfl ?_
            have w13 := ib331 w3I w5n
            refine zs_iald (pc := 68) t157_68 (j := w5n) (by decide) (zk1 (w3s.k fk_zMc_331)) w5 (zk2 (w3s.k fk_zMc_331) (by omega)) ((zIo (by decide)).trans rfl) ?_
            refine zs_iload (pc := 69) t157_69 rfl ?_
            refine zs_iload (pc := 71) t157_71 rfl ?_
            refine zs_aload_n (pc := 73) t157_73 rfl ?_
            refine zs_get (pc := 74) t157_74 (by decide) (zk1 (w3s.k fk_zMc_325)) (w3s.p rfl fv_zMc_325_6) ?_
            refine zs_iload (pc := 77) t157_77 rfl ?_
            refine zs_iald (pc := 79) t157_79 (j := w5n) (by decide) (zk1 (w3s.k fk_zMc_330)) w5 (zk2 (w3s.k fk_zMc_330) (by omega)) ((zIo (by decide)).trans rfl) ?_
            refine zs_invV (pc := 80) (k := 325) (as' := [.int (zI w3M 331 w5n), .int (0 : Int32), .int (0 : Int32), .int (zI w3M 330 w5n)]) (st := []) t157_80 mf164 rfl rfl (Or.inl ⟨by decide, (zk1 (w3s.k fk_zMc_325))⟩) ⟨by decide, by decide, Nat.le_of_ble_eq_true rfl, Nat.le_of_ble_eq_true rfl⟩ (C164_325 w3s w12 ?_) (fun _ _ q => q)
            intro w14M w14s w14I w14F
            show zGo X l 3 0 0 157 83 [(0, .ref 325), (1, .ref 166), (2, .int a), (3, .int b), (4, .ref 164), (5, .int (0 : Int32)), (6, .int (0 : Int32)), (7, .int w2v), (8, .int w3x8)] [] w14M _
            obtain ⟨w15v, w15e, w15⟩ := ziadd (a := w3x8) (b := Int32.ofInt 1) rfl (show (Int32.ofInt 1).toInt = 1 by decide) (by omega) (by omega)
            refine zs_iinc (pc := 83) t157_83 (ls' := [(8, .int w15v), (0, .ref 325), (1, .ref 166), (2, .int a), (3, .int b), (4, .ref 164), (5, .int (0 : Int32)), (6, .int (0 : Int32)), (7, .int w2v)]) (zml mf157 (by decide)) rfl (c := w15v) w15e rfl ?_
            refine zs_goto (pc := 86) t157_86 ?_
            refine zGo.locals (ls' := [(0, .ref 325), (1, .ref 166), (2, .int a), (3, .int b), (4, .ref 164), (5, .int (0 : Int32)), (6, .int (0 : Int32)), (7, .int w2v), (8, .int w15v)]) (by simp) ?_
            exact w3ih (w3m - 1) (by omega) w15v w14M ⟨by omega, by omega⟩ w14s w14I ((((zFr.refl).trans (w3F.mono rfl)).put rfl).trans (w14F.mono rfl)) (by omega)
    refine zGo.locals (ls' := [(0, .ref 325), (1, .ref 166), (2, .int a), (3, .int b), (4, .ref 164), (5, .int (0 : Int32)), (6, .int (0 : Int32)), (7, .int w2v), (8, .int (0 : Int32))]) (by simp) ?_
    have w16 := li0
    exact w3L ((60 - 0 : Int).toNat) (0 : Int32) w2M ⟨by decide, by decide⟩ w2s w2I zFr.refl (by omega)
  · refine zs_if_ltF (pc := 1) t115_1 rfl (by omega) ?_
    refine zs_iload_n (pc := 4) t115_4 rfl ?_
    refine zs_aload_n (pc := 5) t115_5 rfl ?_
    have w17 := ib166_0 hI
    refine zs_get (pc := 6) t115_6 (by decide) (zk1 (hs.k fk_zMc_166)) (zfvi rfl rfl) ?_
    by_cases w18 : (zI M 166 0).toInt ≤ a.toInt
    · refine zs_icmp_geT (pc := 9) t115_9 rfl rfl (by omega) ?_
      refine zs_iconst (pc := 21) t115_21 (v := 0) (by decide) ?_
      refine zs_iret (pc := 22) t115_22 mr115 (by decide) ?_
      show zGo X l 3 0 0 157 5 [(0, .ref 325), (1, .ref 166), (2, .int a), (3, .int b), (4, .ref 164)] [.int (0 : Int32)] M _
      refine zs_istore (pc := 5) t157_5 (ls' := [(5, .int (0 : Int32)), (0, .ref 325), (1, .ref 166), (2, .int a), (3, .int b), (4, .ref 164)]) (zml mf157 (by decide)) rfl ?_
      refine zs_aload_n (pc := 7) t157_7 rfl ?_
      refine zs_iload_n (pc := 8) t157_8 rfl ?_
      refine zs_invV (pc := 9) (k := 166) (as' := [.int a]) (st := []) t157_9 mf116 rfl rfl (Or.inl ⟨by decide, (zk1 (hs.k fk_zMc_166))⟩) ⟨by decide, by decide, Nat.le_of_ble_eq_true rfl, Nat.le_of_ble_eq_true rfl⟩ (zs_in (by decide) mf116 (Nat.le_of_ble_eq_true rfl) ?_) (fun _ _ q => q)
      show zGo X l 0 0 0 116 0 [(0, .ref 166), (1, .int a)] [] M _
      refine zs_iload_n (pc := 0) t116_0 rfl ?_
      refine zs_if_ltF (pc := 1) t116_1 rfl (by omega) ?_
      refine zs_iload_n (pc := 4) t116_4 rfl ?_
      refine zs_aload_n (pc := 5) t116_5 rfl ?_
      refine zs_get (pc := 6) t116_6 (by decide) (zk1 (hs.k fk_zMc_166)) (zfvi rfl rfl) ?_
      by_cases w19 : (zI M 166 0).toInt ≤ a.toInt
      · refine zs_icmp_geT (pc := 9) t116_9 rfl rfl (by omega) ?_
        refine zs_iconst (pc := 21) t116_21 (v := 0) (by decide) ?_
        refine zs_iret (pc := 22) t116_22 mr116 (by decide) ?_
        show zGo X l 3 0 0 157 12 [(5, .int (0 : Int32)), (0, .ref 325), (1, .ref 166), (2, .int a), (3, .int b), (4, .ref 164)] [.int (0 : Int32)] M _
        refine zs_istore (pc := 12) t157_12 (ls' := [(6, .int (0 : Int32)), (5, .int (0 : Int32)), (0, .ref 325), (1, .ref 166), (2, .int a), (3, .int b), (4, .ref 164)]) (zml mf157 (by decide)) rfl ?_
        refine zs_aload_n (pc := 14) t157_14 rfl ?_
        refine zs_aload_n (pc := 15) t157_15 rfl ?_
        refine zs_iload_n (pc := 16) t157_16 rfl ?_
        refine zs_invV (pc := 17) (k := 325) (as' := [.ref 166, .int b]) (st := []) t157_17 mf158 rfl rfl (Or.inl ⟨by decide, (zk1 (hs.k fk_zMc_325))⟩) ⟨by decide, by decide, Nat.le_of_ble_eq_true rfl, Nat.le_of_ble_eq_true rfl⟩ (C158_325_166 hs hI ?_) (fun _ _ q => q)
        intro w20M w20v w20s w20I w20F w20a w20b
        show zGo X l 3 0 0 157 20 [(6, .int (0 : Int32)), (5, .int (0 : Int32)), (0, .ref 325), (1, .ref 166), (2, .int a), (3, .int b), (4, .ref 164)] [.int w20v] w20M _
        refine zs_istore (pc := 20) t157_20 (ls' := [(7, .int w20v), (6, .int (0 : Int32)), (5, .int (0 : Int32)), (0, .ref 325), (1, .ref 166), (2, .int a), (3, .int b), (4, .ref 164)]) (zml mf157 (by decide)) rfl ?_
        refine zs_iconst (pc := 22) t157_22 (v := 0) (by decide) ?_
        refine zs_istore (pc := 23) t157_23 (ls' := [(8, .int (0 : Int32)), (7, .int w20v), (6, .int (0 : Int32)), (5, .int (0 : Int32)), (0, .ref 325), (1, .ref 166), (2, .int a), (3, .int b), (4, .ref 164)]) (zml mf157 (by decide)) rfl ?_
        have w21L : ∀ (m : Nat) (w21x8 : Int32) (w21M : zM), (0 ≤ w21x8.toInt ∧ w21x8.toInt ≤ 60) → zSk zMc w21M → zIv cLo cHi w21M → zFr [(325, 325, some 1), (326, 331, none)] w20M w21M → 60 - w21x8.toInt ≤ (m : Int) → zGo X l 3 0 0 157 25 [(0, .ref 325), (1, .ref 166), (2, .int a), (3, .int b), (4, .ref 164), (5, .int (0 : Int32)), (6, .int (0 : Int32)), (7, .int w20v), (8, .int w21x8)] [] w21M Q := by
          intro m
          induction m using Nat.strongRecOn with
          | ind w21m w21ih =>
            intro w21x8 w21M w21b8 w21s w21I w21F w21q
            refine zs_iload (pc := 25) t157_25 rfl ?_
            refine zs_iload (pc := 27) t157_27 rfl ?_
            by_cases w22 : w20v.toInt ≤ w21x8.toInt
            · refine zs_icmp_geT (pc := 29) t157_29 rfl rfl (by omega) ?_
              exact zs_vret (pc := 89) t157_89 mr157 (hQ _ w21s w21I (((zFr.refl).trans (w20F.mono rfl)).trans (w21F.mono rfl)))
            · refine zs_icmp_geF (pc := 29) t157_29 rfl rfl (by omega) ?_
              refine zs_aload (pc := 32) t157_32 rfl ?_
              refine zs_iload (pc := 34) t157_34 rfl ?_
              refine zs_iload (pc := 36) t157_36 rfl ?_
              refine zs_aload_n (pc := 38) t157_38 rfl ?_
              refine zs_get (pc := 39) t157_39 (by decide) (zk1 (w21s.k fk_zMc_325)) (w21s.p rfl fv_zMc_325_6) ?_
              refine zs_iload (pc := 42) t157_42 rfl ?_
              obtain ⟨w23n, w23⟩ : ∃ n : Nat, w21x8.toInt = (n : Int) := ⟨w21x8.toInt.toNat, by omega⟩
              have w24 := ib330 w21I w23n
              refine zs_iald (pc := 44) t157_44 (j := w23n) (by decide) (zk1 (w21s.k fk_zMc_330)) w23 (zk2 (w21s.k fk_zMc_330) (by omega)) rfl ?_
              refine zs_invS (pc := 45) (as := [.ref 164, .int (0 : Int32), .int (0 : Int32), .int (zI w21M 330 w23n)]) (st := []) t157_45 (by decide) mf162 rfl rfl ⟨by decide, by decide, Nat.le_of_ble_eq_true rfl, Nat.le_of_ble_eq_true rfl⟩ (C162_164 w21s w21I ?_) (fun _ _ q => q)
              intro w25v w25a w25b
              show zGo X l 3 0 0 157 48 [(0, .ref 325), (1, .ref 166), (2, .int a), (3, .int b), (4, .ref 164), (5, .int (0 : Int32)), (6, .int (0 : Int32)), (7, .int w20v), (8, .int w21x8)] [.int w25v] w21M _
              by_cases w26 : w25v.toInt ≠ 0
              · refine zs_if_neT (pc := 48) t157_48 rfl (by omega) ?_
                obtain ⟨w27v, w27e, w27⟩ := ziadd (a := w21x8) (b := Int32.ofInt 1) rfl (show (Int32.ofInt 1).toInt = 1 by decide) (by omega) (by omega)
                refine zs_iinc (pc := 83) t157_83 (ls' := [(8, .int w27v), (0, .ref 325), (1, .ref 166), (2, .int a), (3, .int b), (4, .ref 164), (5, .int (0 : Int32)), (6, .int (0 : Int32)), (7, .int w20v)]) (zml mf157 (by decide)) rfl (c := w27v) w27e rfl ?_
                refine zs_goto (pc := 86) t157_86 ?_
                refine zGo.locals (ls' := [(0, .ref 325), (1, .ref 166), (2, .int a), (3, .int b), (4, .ref 164), (5, .int (0 : Int32)), (6, .int (0 : Int32)), (7, .int w20v), (8, .int w27v)]) (by simp) ?_
                exact w21ih (w21m - 1) (by omega) w27v w21M ⟨by omega, by omega⟩ w21s w21I ((zFr.refl).trans (w21F.mono rfl)) (by omega)
              · refine zs_if_neF (pc := 48) t157_48 rfl (by omega) ?_
                refine zs_aload_n (pc := 51) t157_51 rfl ?_
                refine zs_dup (pc := 52) t157_52 rfl ?_
                have w28 := ib325_1 w21I
                refine zs_get (pc := 53) t157_53 (by decide) (zk1 (w21s.k fk_zMc_325)) (zfvi rfl rfl) ?_
                refine zs_iconst (pc := 56) t157_56 (v := 1) (by decide) ?_
                obtain ⟨w29v, w29⟩ : ∃ v, v = (zI w21M 325 1) + (1 : Int32) := ⟨_, rfl⟩
                have w29g := zrg w29v
                refine zs_iadd (pc := 57) t157_57 (c := w29v) w29.symm ?_
                have w30 : zIv cLo cHi (zsI w21M 325 1 w29v) := zIv.put w21I (show (-2147483648) ≤ w29v.toInt ∧ w29v.toInt ≤ 2147483647 from (zrg w29v))
                refine zs_putI (pc := 58) t157_58 (zk1 (w21s.k fk_zMc_325)) rfl ?_
                refine zs_aload_n (pc := 61) t157_61 rfl ?_
                refine zs_aload_n (pc := 62) t157_62 rfl ?_
                refine zs_get (pc := 63) t157_63 (by decide) (zk1 (w21s.k fk_zMc_325)) (w21s.p rfl fv_zMc_325_7) ?_
                refine zs_iload (pc := 66) t157_66 rfl ?_
                have w31 := ib331 w21I w23n
                refine zs_iald (pc := 68) t157_68 (j := w23n) (by decide) (zk1 (w21s.k fk_zMc_331)) w23 (zk2 (w21s.k fk_zMc_331) (by omega)) ((zIo (by decide)).trans rfl) ?_
                refine zs_iload (pc := 69) t157_69 rfl ?_
                refine zs_iload (pc := 71) t157_71 rfl ?_
                refine zs_aload_n (pc := 73) t157_73 rfl ?_
                refine zs_get (pc := 74) t157_74 (by decide) (zk1 (w21s.k fk_zMc_325)) (w21s.p rfl fv_zMc_325_6) ?_
                refine zs_iload (pc := 77) t157_77 rfl ?_
                refine zs_iald (pc := 79) t157_79 (j := w23n) (by decide) (zk1 (w21s.k fk_zMc_330)) w23 (zk2 (w21s.k fk_zMc_330) (by omega)) ((zIo (by decide)).trans rfl) ?_
                refine zs_invV (pc := 80) (k := 325) (as' := [.int (zI w21M 331 w23n), .int (0 : Int32), .int (0 : Int32), .int (zI w21M 330 w23n)]) (st := []) t157_80 mf164 rfl rfl (Or.inl ⟨by decide, (zk1 (w21s.k fk_zMc_325))⟩) ⟨by decide, by decide, Nat.le_of_ble_eq_true rfl, Nat.le_of_ble_eq_true rfl⟩ (C164_325 w21s w30 ?_) (fun _ _ q => q)
                intro w32M w32s w32I w32F
                show zGo X l 3 0 0 157 83 [(0, .ref 325), (1, .ref 166), (2, .int a), (3, .int b), (4, .ref 164), (5, .int (0 : Int32)), (6, .int (0 : Int32)), (7, .int w20v), (8, .int w21x8)] [] w32M _
                obtain ⟨w33v, w33e, w33⟩ := ziadd (a := w21x8) (b := Int32.ofInt 1) rfl (show (Int32.ofInt 1).toInt = 1 by decide) (by omega) (by omega)
                refine zs_iinc (pc := 83) t157_83 (ls' := [(8, .int w33v), (0, .ref 325), (1, .ref 166), (2, .int a), (3, .int b), (4, .ref 164), (5, .int (0 : Int32)), (6, .int (0 : Int32)), (7, .int w20v)]) (zml mf157 (by decide)) rfl (c := w33v) w33e rfl ?_
                refine zs_goto (pc := 86) t157_86 ?_
                refine zGo.locals (ls' := [(0, .ref 325), (1, .ref 166), (2, .int a), (3, .int b), (4, .ref 164), (5, .int (0 : Int32)), (6, .int (0 : Int32)), (7, .int w20v), (8, .int w33v)]) (by simp) ?_
                exact w21ih (w21m - 1) (by omega) w33v w32M ⟨by omega, by omega⟩ w32s w32I ((((zFr.refl).trans (w21F.mono rfl)).put rfl).trans (w32F.mono rfl)) (by omega)
        refine zGo.locals (ls' := [(0, .ref 325), (1, .ref 166), (2, .int a), (3, .int b), (4, .ref 164), (5, .int (0 : Int32)), (6, .int (0 : Int32)), (7, .int w20v), (8, .int (0 : Int32))]) (by simp) ?_
        have w34 := li0
        exact w21L ((60 - 0 : Int).toNat) (0 : Int32) w20M ⟨by decide, by decide⟩ w20s w20I zFr.refl (by omega)
      · refine zs_icmp_geF (pc := 9) t116_9 rfl rfl (by omega) ?_
        refine zs_aload_n (pc := 12) t116_12 rfl ?_
        refine zs_get (pc := 13) t116_13 (by decide) (zk1 (hs.k fk_zMc_166)) (hs.p rfl fv_zMc_166_2) ?_
        refine zs_iload_n (pc := 16) t116_16 rfl ?_
        obtain ⟨w35n, w35⟩ : ∃ n : Nat, a.toInt = (n : Int) := ⟨a.toInt.toNat, by omega⟩
        have w36 := ib168 hI w35n
        refine zs_iald (pc := 17) t116_17 (j := w35n) (by decide) (zk1 (hs.k fk_zMc_168)) w35 (zk2 (hs.k fk_zMc_168) (by omega)) rfl ?_
        refine zs_goto (pc := 18) t116_18 ?_
        refine zs_iret (pc := 22) t116_22 mr116 rfl ?_
        show zGo X l 3 0 0 157 12 [(5, .int (0 : Int32)), (0, .ref 325), (1, .ref 166), (2, .int a), (3, .int b), (4, .ref 164)] [.int (zI M 168 w35n)] M _
        refine zs_istore (pc := 12) t157_12 (ls' := [(6, .int (zI M 168 w35n)), (5, .int (0 : Int32)), (0, .ref 325), (1, .ref 166), (2, .int a), (3, .int b), (4, .ref 164)]) (zml mf157 (by decide)) rfl ?_
        refine zs_aload_n (pc := 14) t157_14 rfl ?_
        refine zs_aload_n (pc := 15) t157_15 rfl ?_
        refine zs_iload_n (pc := 16) t157_16 rfl ?_
        refine zs_invV (pc := 17) (k := 325) (as' := [.ref 166, .int b]) (st := []) t157_17 mf158 rfl rfl (Or.inl ⟨by decide, (zk1 (hs.k fk_zMc_325))⟩) ⟨by decide, by decide, Nat.le_of_ble_eq_true rfl, Nat.le_of_ble_eq_true rfl⟩ (C158_325_166 hs hI ?_) (fun _ _ q => q)
        intro w37M w37v w37s w37I w37F w37a w37b
        show zGo X l 3 0 0 157 20 [(6, .int (zI M 168 w35n)), (5, .int (0 : Int32)), (0, .ref 325), (1, .ref 166), (2, .int a), (3, .int b), (4, .ref 164)] [.int w37v] w37M _
        refine zs_istore (pc := 20) t157_20 (ls' := [(7, .int w37v), (6, .int (zI M 168 w35n)), (5, .int (0 : Int32)), (0, .ref 325), (1, .ref 166), (2, .int a), (3, .int b), (4, .ref 164)]) (zml mf157 (by decide)) rfl ?_
        refine zs_iconst (pc := 22) t157_22 (v := 0) (by decide) ?_
        refine zs_istore (pc := 23) t157_23 (ls' := [(8, .int (0 : Int32)), (7, .int w37v), (6, .int (zI M 168 w35n)), (5, .int (0 : Int32)), (0, .ref 325), (1, .ref 166), (2, .int a), (3, .int b), (4, .ref 164)]) (zml mf157 (by decide)) rfl ?_
        have w38L : ∀ (m : Nat) (w38x8 : Int32) (w38M : zM), (0 ≤ w38x8.toInt ∧ w38x8.toInt ≤ 60) → zSk zMc w38M → zIv cLo cHi w38M → zFr [(325, 325, some 1), (326, 331, none)] w37M w38M → 60 - w38x8.toInt ≤ (m : Int) → zGo X l 3 0 0 157 25 [(0, .ref 325), (1, .ref 166), (2, .int a), (3, .int b), (4, .ref 164), (5, .int (0 : Int32)), (6, .int (zI M 168 w35n)), (7, .int w37v), (8, .int w38x8)] [] w38M Q := by
          intro m
          induction m using Nat.strongRecOn with
          | ind w38m w38ih =>
            intro w38x8 w38M w38b8 w38s w38I w38F w38q
            refine zs_iload (pc := 25) t157_25 rfl ?_
            refine zs_iload (pc := 27) t157_27 rfl ?_
            by_cases w39 : w37v.toInt ≤ w38x8.toInt
            · refine zs_icmp_geT (pc := 29) t157_29 rfl rfl (by omega) ?_
              exact zs_vret (pc := 89) t157_89 mr157 (hQ _ w38s w38I (((zFr.refl).trans (w37F.mono rfl)).trans (w38F.mono rfl)))
            · refine zs_icmp_geF (pc := 29) t157_29 rfl rfl (by omega) ?_
              refine zs_aload (pc := 32) t157_32 rfl ?_
              refine zs_iload (pc := 34) t157_34 rfl ?_
              refine zs_iload (pc := 36) t157_36 rfl ?_
              refine zs_aload_n (pc := 38) t157_38 rfl ?_
              refine zs_get (pc := 39) t157_39 (by decide) (zk1 (w38s.k fk_zMc_325)) (w38s.p rfl fv_zMc_325_6) ?_
              refine zs_iload (pc := 42) t157_42 rfl ?_
              obtain ⟨w40n, w40⟩ : ∃ n : Nat, w38x8.toInt = (n : Int) := ⟨w38x8.toInt.toNat, by omega⟩
              have w41 := ib330 w38I w40n
              refine zs_iald (pc := 44) t157_44 (j := w40n) (by decide) (zk1 (w38s.k fk_zMc_330)) w40 (zk2 (w38s.k fk_zMc_330) (by omega)) rfl ?_
              refine zs_invS (pc := 45) (as := [.ref 164, .int (0 : Int32), .int (zI M 168 w35n), .int (zI w38M 330 w40n)]) (st := []) t157_45 (by decide) mf162 rfl rfl ⟨by decide, by decide, Nat.le_of_ble_eq_true rfl, Nat.le_of_ble_eq_true rfl⟩ (C162_164 w38s w38I ?_) (fun _ _ q => q)
              intro w42v w42a w42b
              show zGo X l 3 0 0 157 48 [(0, .ref 325), (1, .ref 166), (2, .int a), (3, .int b), (4, .ref 164), (5, .int (0 : Int32)), (6, .int (zI M 168 w35n)), (7, .int w37v), (8, .int w38x8)] [.int w42v] w38M _
              by_cases w43 : w42v.toInt ≠ 0
              · refine zs_if_neT (pc := 48) t157_48 rfl (by omega) ?_
                obtain ⟨w44v, w44e, w44⟩ := ziadd (a := w38x8) (b := Int32.ofInt 1) rfl (show (Int32.ofInt 1).toInt = 1 by decide) (by omega) (by omega)
                refine zs_iinc (pc := 83) t157_83 (ls' := [(8, .int w44v), (0, .ref 325), (1, .ref 166), (2, .int a), (3, .int b), (4, .ref 164), (5, .int (0 : Int32)), (6, .int (zI M 168 w35n)), (7, .int w37v)]) (zml mf157 (by decide)) rfl (c := w44v) w44e rfl ?_
                refine zs_goto (pc := 86) t157_86 ?_
                refine zGo.locals (ls' := [(0, .ref 325), (1, .ref 166), (2, .int a), (3, .int b), (4, .ref 164), (5, .int (0 : Int32)), (6, .int (zI M 168 w35n)), (7, .int w37v), (8, .int w44v)]) (by simp) ?_
                exact w38ih (w38m - 1) (by omega) w44v w38M ⟨by omega, by omega⟩ w38s w38I ((zFr.refl).trans (w38F.mono rfl)) (by omega)
              · refine zs_if_neF (pc := 48) t157_48 rfl (by omega) ?_
                refine zs_aload_n (pc := 51) t157_51 rfl ?_
                refine zs_dup (pc := 52) t157_52 rfl ?_
                have w45 := ib325_1 w38I
                refine zs_get (pc := 53) t157_53 (by decide) (zk1 (w38s.k fk_zMc_325)) (zfvi rfl rfl) ?_
                refine zs_iconst (pc := 56) t157_56 (v := 1) (by decide) ?_
                obtain ⟨w46v, w46⟩ : ∃ v, v = (zI w38M 325 1) + (1 : Int32) := ⟨_, rfl⟩
                have w46g := zrg w46v
                refine zs_iadd (pc := 57) t157_57 (c := w46v) w46.symm ?_
                have w47 : zIv cLo cHi (zsI w38M 325 1 w46v) := zIv.put w38I (show (-2147483648) ≤ w46v.toInt ∧ w46v.toInt ≤ 2147483647 from (zrg w46v))
                refine zs_putI (pc := 58) t157_58 (zk1 (w38s.k fk_zMc_325)) rfl ?_
                refine zs_aload_n (pc := 61) t157_61 rfl ?_
                refine zs_aload_n (pc := 62) t157_62 rfl ?_
                refine zs_get (pc := 63) t157_63 (by decide) (zk1 (w38s.k fk_zMc_325)) (w38s.p rfl fv_zMc_325_7) ?_
                refine zs_iload (pc := 66) t157_66 rfl ?_
                have w48 := ib331 w38I w40n
                refine zs_iald (pc := 68) t157_68 (j := w40n) (by decide) (zk1 (w38s.k fk_zMc_331)) w40 (zk2 (w38s.k fk_zMc_331) (by omega)) ((zIo (by decide)).trans rfl) ?_
                refine zs_iload (pc := 69) t157_69 rfl ?_
                refine zs_iload (pc := 71) t157_71 rfl ?_
                refine zs_aload_n (pc := 73) t157_73 rfl ?_
                refine zs_get (pc := 74) t157_74 (by decide) (zk1 (w38s.k fk_zMc_325)) (w38s.p rfl fv_zMc_325_6) ?_
                refine zs_iload (pc := 77) t157_77 rfl ?_
                refine zs_iald (pc := 79) t157_79 (j := w40n) (by decide) (zk1 (w38s.k fk_zMc_330)) w40 (zk2 (w38s.k fk_zMc_330) (by omega)) ((zIo (by decide)).trans rfl) ?_
                refine zs_invV (pc := 80) (k := 325) (as' := [.int (zI w38M 331 w40n), .int (0 : Int32), .int (zI M 168 w35n), .int (zI w38M 330 w40n)]) (st := []) t157_80 mf164 rfl rfl (Or.inl ⟨by decide, (zk1 (w38s.k fk_zMc_325))⟩) ⟨by decide, by decide, Nat.le_of_ble_eq_true rfl, Nat.le_of_ble_eq_true rfl⟩ (C164_325 w38s w47 ?_) (fun _ _ q => q)
                intro w49M w49s w49I w49F
                show zGo X l 3 0 0 157 83 [(0, .ref 325), (1, .ref 166), (2, .int a), (3, .int b), (4, .ref 164), (5, .int (0 : Int32)), (6, .int (zI M 168 w35n)), (7, .int w37v), (8, .int w38x8)] [] w49M _
                obtain ⟨w50v, w50e, w50⟩ := ziadd (a := w38x8) (b := Int32.ofInt 1) rfl (show (Int32.ofInt 1).toInt = 1 by decide) (by omega) (by omega)
                refine zs_iinc (pc := 83) t157_83 (ls' := [(8, .int w50v), (0, .ref 325), (1, .ref 166), (2, .int a), (3, .int b), (4, .ref 164), (5, .int (0 : Int32)), (6, .int (zI M 168 w35n)), (7, .int w37v)]) (zml mf157 (by decide)) rfl (c := w50v) w50e rfl ?_
                refine zs_goto (pc := 86) t157_86 ?_
                refine zGo.locals (ls' := [(0, .ref 325), (1, .ref 166), (2, .int a), (3, .int b), (4, .ref 164), (5, .int (0 : Int32)), (6, .int (zI M 168 w35n)), (7, .int w37v), (8, .int w50v)]) (by simp) ?_
                exact w38ih (w38m - 1) (by omega) w50v w49M ⟨by omega, by omega⟩ w49s w49I ((((zFr.refl).trans (w38F.mono rfl)).put rfl).trans (w49F.mono rfl)) (by omega)
        refine zGo.locals (ls' := [(0, .ref 325), (1, .ref 166), (2, .int a), (3, .int b), (4, .ref 164), (5, .int (0 : Int32)), (6, .int (zI M 168 w35n)), (7, .int w37v), (8, .int (0 : Int32))]) (by simp) ?_
        have w51 := li0
        exact w38L ((60 - 0 : Int).toNat) (0 : Int32) w37M ⟨by decide, by decide⟩ w37s w37I zFr.refl (by omega)
    · refine zs_icmp_geF (pc := 9) t115_9 rfl rfl (by omega) ?_
      refine zs_aload_n (pc := 12) t115_12 rfl ?_
      refine zs_get (pc := 13) t115_13 (by decide) (zk1 (hs.k fk_zMc_166)) (hs.p rfl fv_zMc_166_1) ?_
      refine zs_iload_n (pc := 16) t115_16 rfl ?_
      obtain ⟨w52n, w52⟩ : ∃ n : Nat, a.toInt = (n : Int) := ⟨a.toInt.toNat, by omega⟩
      have w53 := ib167 hI w52n
      refine zs_iald (pc := 17) t115_17 (j := w52n) (by decide) (zk1 (hs.k fk_zMc_167)) w52 (zk2 (hs.k fk_zMc_167) (by omega)) rfl ?_
      refine zs_goto (pc := 18) t115_18 ?_
      refine zs_iret (pc := 22) t115_22 mr115 rfl ?_
      show zGo X l 3 0 0 157 5 [(0, .ref 325), (1, .ref 166), (2, .int a), (3, .int b), (4, .ref 164)] [.int (zI M 167 w52n)] M _
      refine zs_istore (pc := 5) t157_5 (ls' := [(5, .int (zI M 167 w52n)), (0, .ref 325), (1, .ref 166), (2, .int a), (3, .int b), (4, .ref 164)]) (zml mf157 (by decide)) rfl ?_
      refine zs_aload_n (pc := 7) t157_7 rfl ?_
      refine zs_iload_n (pc := 8) t157_8 rfl ?_
      refine zs_invV (pc := 9) (k := 166) (as' := [.int a]) (st := []) t157_9 mf116 rfl rfl (Or.inl ⟨by decide, (zk1 (hs.k fk_zMc_166))⟩) ⟨by decide, by decide, Nat.le_of_ble_eq_true rfl, Nat.le_of_ble_eq_true rfl⟩ (zs_in (by decide) mf116 (Nat.le_of_ble_eq_true rfl) ?_) (fun _ _ q => q)
      show zGo X l 0 0 0 116 0 [(0, .ref 166), (1, .int a)] [] M _
      refine zs_iload_n (pc := 0) t116_0 rfl ?_
      refine zs_if_ltF (pc := 1) t116_1 rfl (by omega) ?_
      refine zs_iload_n (pc := 4) t116_4 rfl ?_
      refine zs_aload_n (pc := 5) t116_5 rfl ?_
      refine zs_get (pc := 6) t116_6 (by decide) (zk1 (hs.k fk_zMc_166)) (zfvi rfl rfl) ?_
      by_cases w54 : (zI M 166 0).toInt ≤ a.toInt
      · refine zs_icmp_geT (pc := 9) t116_9 rfl rfl (by omega) ?_
        refine zs_iconst (pc := 21) t116_21 (v := 0) (by decide) ?_
        refine zs_iret (pc := 22) t116_22 mr116 (by decide) ?_
        show zGo X l 3 0 0 157 12 [(5, .int (zI M 167 w52n)), (0, .ref 325), (1, .ref 166), (2, .int a), (3, .int b), (4, .ref 164)] [.int (0 : Int32)] M _
        refine zs_istore (pc := 12) t157_12 (ls' := [(6, .int (0 : Int32)), (5, .int (zI M 167 w52n)), (0, .ref 325), (1, .ref 166), (2, .int a), (3, .int b), (4, .ref 164)]) (zml mf157 (by decide)) rfl ?_
        refine zs_aload_n (pc := 14) t157_14 rfl ?_
        refine zs_aload_n (pc := 15) t157_15 rfl ?_
        refine zs_iload_n (pc := 16) t157_16 rfl ?_
        refine zs_invV (pc := 17) (k := 325) (as' := [.ref 166, .int b]) (st := []) t157_17 mf158 rfl rfl (Or.inl ⟨by decide, (zk1 (hs.k fk_zMc_325))⟩) ⟨by decide, by decide, Nat.le_of_ble_eq_true rfl, Nat.le_of_ble_eq_true rfl⟩ (C158_325_166 hs hI ?_) (fun _ _ q => q)
        intro w55M w55v w55s w55I w55F w55a w55b
        show zGo X l 3 0 0 157 20 [(6, .int (0 : Int32)), (5, .int (zI M 167 w52n)), (0, .ref 325), (1, .ref 166), (2, .int a), (3, .int b), (4, .ref 164)] [.int w55v] w55M _
        refine zs_istore (pc := 20) t157_20 (ls' := [(7, .int w55v), (6, .int (0 : Int32)), (5, .int (zI M 167 w52n)), (0, .ref 325), (1, .ref 166), (2, .int a), (3, .int b), (4, .ref 164)]) (zml mf157 (by decide)) rfl ?_
        refine zs_iconst (pc := 22) t157_22 (v := 0) (by decide) ?_
        refine zs_istore (pc := 23) t157_23 (ls' := [(8, .int (0 : Int32)), (7, .int w55v), (6, .int (0 : Int32)), (5, .int (zI M 167 w52n)), (0, .ref 325), (1, .ref 166), (2, .int a), (3, .int b), (4, .ref 164)]) (zml mf157 (by decide)) rfl ?_
        have w56L : ∀ (m : Nat) (w56x8 : Int32) (w56M : zM), (0 ≤ w56x8.toInt ∧ w56x8.toInt ≤ 60) → zSk zMc w56M → zIv cLo cHi w56M → zFr [(325, 325, some 1), (326, 331, none)] w55M w56M → 60 - w56x8.toInt ≤ (m : Int) → zGo X l 3 0 0 157 25 [(0, .ref 325), (1, .ref 166), (2, .int a), (3, .int b), (4, .ref 164), (5, .int (zI M 167 w52n)), (6, .int (0 : Int32)), (7, .int w55v), (8, .int w56x8)] [] w56M Q := by
          intro m
          induction m using Nat.strongRecOn with
          | ind w56m w56ih =>
            intro w56x8 w56M w56b8 w56s w56I w56F w56q
            refine zs_iload (pc := 25) t157_25 rfl ?_
            refine zs_iload (pc := 27) t157_27 rfl ?_
            by_cases w57 : w55v.toInt ≤ w56x8.toInt
            · refine zs_icmp_geT (pc := 29) t157_29 rfl rfl (by omega) ?_
              exact zs_vret (pc := 89) t157_89 mr157 (hQ _ w56s w56I (((zFr.refl).trans (w55F.mono rfl)).trans (w56F.mono rfl)))
            · refine zs_icmp_geF (pc := 29) t157_29 rfl rfl (by omega) ?_
              refine zs_aload (pc := 32) t157_32 rfl ?_
              refine zs_iload (pc := 34) t157_34 rfl ?_
              refine zs_iload (pc := 36) t157_36 rfl ?_
              refine zs_aload_n (pc := 38) t157_38 rfl ?_
              refine zs_get (pc := 39) t157_39 (by decide) (zk1 (w56s.k fk_zMc_325)) (w56s.p rfl fv_zMc_325_6) ?_
              refine zs_iload (pc := 42) t157_42 rfl ?_
              obtain ⟨w58n, w58⟩ : ∃ n : Nat, w56x8.toInt = (n : Int) := ⟨w56x8.toInt.toNat, by omega⟩
              have w59 := ib330 w56I w58n
              refine zs_iald (pc := 44) t157_44 (j := w58n) (by decide) (zk1 (w56s.k fk_zMc_330)) w58 (zk2 (w56s.k fk_zMc_330) (by omega)) rfl ?_
              refine zs_invS (pc := 45) (as := [.ref 164, .int (zI M 167 w52n), .int (0 : Int32), .int (zI w56M 330 w58n)]) (st := []) t157_45 (by decide) mf162 rfl rfl ⟨by decide, by decide, Nat.le_of_ble_eq_true rfl, Nat.le_of_ble_eq_true rfl⟩ (C162_164 w56s w56I ?_) (fun _ _ q => q)
              intro w60v w60a w60b
              show zGo X l 3 0 0 157 48 [(0, .ref 325), (1, .ref 166), (2, .int a), (3, .int b), (4, .ref 164), (5, .int (zI M 167 w52n)), (6, .int (0 : Int32)), (7, .int w55v), (8, .int w56x8)] [.int w60v] w56M _
              by_cases w61 : w60v.toInt ≠ 0
              · refine zs_if_neT (pc := 48) t157_48 rfl (by omega) ?_
                obtain ⟨w62v, w62e, w62⟩ := ziadd (a := w56x8) (b := Int32.ofInt 1) rfl (show (Int32.ofInt 1).toInt = 1 by decide) (by omega) (by omega)
                refine zs_iinc (pc := 83) t157_83 (ls' := [(8, .int w62v), (0, .ref 325), (1, .ref 166), (2, .int a), (3, .int b), (4, .ref 164), (5, .int (zI M 167 w52n)), (6, .int (0 : Int32)), (7, .int w55v)]) (zml mf157 (by decide)) rfl (c := w62v) w62e rfl ?_
                refine zs_goto (pc := 86) t157_86 ?_
                refine zGo.locals (ls' := [(0, .ref 325), (1, .ref 166), (2, .int a), (3, .int b), (4, .ref 164), (5, .int (zI M 167 w52n)), (6, .int (0 : Int32)), (7, .int w55v), (8, .int w62v)]) (by simp) ?_
                exact w56ih (w56m - 1) (by omega) w62v w56M ⟨by omega, by omega⟩ w56s w56I ((zFr.refl).trans (w56F.mono rfl)) (by omega)
              · refine zs_if_neF (pc := 48) t157_48 rfl (by omega) ?_
                refine zs_aload_n (pc := 51) t157_51 rfl ?_
                refine zs_dup (pc := 52) t157_52 rfl ?_
                have w63 := ib325_1 w56I
                refine zs_get (pc := 53) t157_53 (by decide) (zk1 (w56s.k fk_zMc_325)) (zfvi rfl rfl) ?_
                refine zs_iconst (pc := 56) t157_56 (v := 1) (by decide) ?_
                obtain ⟨w64v, w64⟩ : ∃ v, v = (zI w56M 325 1) + (1 : Int32) := ⟨_, rfl⟩
                have w64g := zrg w64v
                refine zs_iadd (pc := 57) t157_57 (c := w64v) w64.symm ?_
                have w65 : zIv cLo cHi (zsI w56M 325 1 w64v) := zIv.put w56I (show (-2147483648) ≤ w64v.toInt ∧ w64v.toInt ≤ 2147483647 from (zrg w64v))
                refine zs_putI (pc := 58) t157_58 (zk1 (w56s.k fk_zMc_325)) rfl ?_
                refine zs_aload_n (pc := 61) t157_61 rfl ?_
                refine zs_aload_n (pc := 62) t157_62 rfl ?_
                refine zs_get (pc := 63) t157_63 (by decide) (zk1 (w56s.k fk_zMc_325)) (w56s.p rfl fv_zMc_325_7) ?_
                refine zs_iload (pc := 66) t157_66 rfl ?_
                have w66 := ib331 w56I w58n
                refine zs_iald (pc := 68) t157_68 (j := w58n) (by decide) (zk1 (w56s.k fk_zMc_331)) w58 (zk2 (w56s.k fk_zMc_331) (by omega)) ((zIo (by decide)).trans rfl) ?_
                refine zs_iload (pc := 69) t157_69 rfl ?_
                refine zs_iload (pc := 71) t157_71 rfl ?_
                refine zs_aload_n (pc := 73) t157_73 rfl ?_
                refine zs_get (pc := 74) t157_74 (by decide) (zk1 (w56s.k fk_zMc_325)) (w56s.p rfl fv_zMc_325_6) ?_
                refine zs_iload (pc := 77) t157_77 rfl ?_
                refine zs_iald (pc := 79) t157_79 (j := w58n) (by decide) (zk1 (w56s.k fk_zMc_330)) w58 (zk2 (w56s.k fk_zMc_330) (by omega)) ((zIo (by decide)).trans rfl) ?_
                refine zs_invV (pc := 80) (k := 325) (as' := [.int (zI w56M 331 w58n), .int (zI M 167 w52n), .int (0 : Int32), .int (zI w56M 330 w58n)]) (st := []) t157_80 mf164 rfl rfl (Or.inl ⟨by decide, (zk1 (w56s.k fk_zMc_325))⟩) ⟨by decide, by decide, Nat.le_of_ble_eq_true rfl, Nat.le_of_ble_eq_true rfl⟩ (C164_325 w56s w65 ?_) (fun _ _ q => q)
                intro w67M w67s w67I w67F
                show zGo X l 3 0 0 157 83 [(0, .ref 325), (1, .ref 166), (2, .int a), (3, .int b), (4, .ref 164), (5, .int (zI M 167 w52n)), (6, .int (0 : Int32)), (7, .int w55v), (8, .int w56x8)] [] w67M _
                obtain ⟨w68v, w68e, w68⟩ := ziadd (a := w56x8) (b := Int32.ofInt 1) rfl (show (Int32.ofInt 1).toInt = 1 by decide) (by omega) (by omega)
                refine zs_iinc (pc := 83) t157_83 (ls' := [(8, .int w68v), (0, .ref 325), (1, .ref 166), (2, .int a), (3, .int b), (4, .ref 164), (5, .int (zI M 167 w52n)), (6, .int (0 : Int32)), (7, .int w55v)]) (zml mf157 (by decide)) rfl (c := w68v) w68e rfl ?_
                refine zs_goto (pc := 86) t157_86 ?_
                refine zGo.locals (ls' := [(0, .ref 325), (1, .ref 166), (2, .int a), (3, .int b), (4, .ref 164), (5, .int (zI M 167 w52n)), (6, .int (0 : Int32)), (7, .int w55v), (8, .int w68v)]) (by simp) ?_
                exact w56ih (w56m - 1) (by omega) w68v w67M ⟨by omega, by omega⟩ w67s w67I ((((zFr.refl).trans (w56F.mono rfl)).put rfl).trans (w67F.mono rfl)) (by omega)
        refine zGo.locals (ls' := [(0, .ref 325), (1, .ref 166), (2, .int a), (3, .int b), (4, .ref 164), (5, .int (zI M 167 w52n)), (6, .int (0 : Int32)), (7, .int w55v), (8, .int (0 : Int32))]) (by simp) ?_
        have w69 := li0
        exact w56L ((60 - 0 : Int).toNat) (0 : Int32) w55M ⟨by decide, by decide⟩ w55s w55I zFr.refl (by omega)
      · refine zs_icmp_geF (pc := 9) t116_9 rfl rfl (by omega) ?_
        refine zs_aload_n (pc := 12) t116_12 rfl ?_
        refine zs_get (pc := 13) t116_13 (by decide) (zk1 (hs.k fk_zMc_166)) (hs.p rfl fv_zMc_166_2) ?_
        refine zs_iload_n (pc := 16) t116_16 rfl ?_
        have w70 := ib168 hI w52n
        refine zs_iald (pc := 17) t116_17 (j := w52n) (by decide) (zk1 (hs.k fk_zMc_168)) w52 (zk2 (hs.k fk_zMc_168) (by omega)) rfl ?_
        refine zs_goto (pc := 18) t116_18 ?_
        refine zs_iret (pc := 22) t116_22 mr116 rfl ?_
        show zGo X l 3 0 0 157 12 [(5, .int (zI M 167 w52n)), (0, .ref 325), (1, .ref 166), (2, .int a), (3, .int b), (4, .ref 164)] [.int (zI M 168 w52n)] M _
        refine zs_istore (pc := 12) t157_12 (ls' := [(6, .int (zI M 168 w52n)), (5, .int (zI M 167 w52n)), (0, .ref 325), (1, .ref 166), (2, .int a), (3, .int b), (4, .ref 164)]) (zml mf157 (by decide)) rfl ?_
        refine zs_aload_n (pc := 14) t157_14 rfl ?_
        refine zs_aload_n (pc := 15) t157_15 rfl ?_
        refine zs_iload_n (pc := 16) t157_16 rfl ?_
        refine zs_invV (pc := 17) (k := 325) (as' := [.ref 166, .int b]) (st := []) t157_17 mf158 rfl rfl (Or.inl ⟨by decide, (zk1 (hs.k fk_zMc_325))⟩) ⟨by decide, by decide, Nat.le_of_ble_eq_true rfl, Nat.le_of_ble_eq_true rfl⟩ (C158_325_166 hs hI ?_) (fun _ _ q => q)
        intro w71M w71v w71s w71I w71F w71a w71b
        show zGo X l 3 0 0 157 20 [(6, .int (zI M 168 w52n)), (5, .int (zI M 167 w52n)), (0, .ref 325), (1, .ref 166), (2, .int a), (3, .int b), (4, .ref 164)] [.int w71v] w71M _
        refine zs_istore (pc := 20) t157_20 (ls' := [(7, .int w71v), (6, .int (zI M 168 w52n)), (5, .int (zI M 167 w52n)), (0, .ref 325), (1, .ref 166), (2, .int a), (3, .int b), (4, .ref 164)]) (zml mf157 (by decide)) rfl ?_
        refine zs_iconst (pc := 22) t157_22 (v := 0) (by decide) ?_
        refine zs_istore (pc := 23) t157_23 (ls' := [(8, .int (0 : Int32)), (7, .int w71v), (6, .int (zI M 168 w52n)), (5, .int (zI M 167 w52n)), (0, .ref 325), (1, .ref 166), (2, .int a), (3, .int b), (4, .ref 164)]) (zml mf157 (by decide)) rfl ?_
        have w72L : ∀ (m : Nat) (w72x8 : Int32) (w72M : zM), (0 ≤ w72x8.toInt ∧ w72x8.toInt ≤ 60) → zSk zMc w72M → zIv cLo cHi w72M → zFr [(325, 325, some 1), (326, 331, none)] w71M w72M → 60 - w72x8.toInt ≤ (m : Int) → zGo X l 3 0 0 157 25 [(0, .ref 325), (1, .ref 166), (2, .int a), (3, .int b), (4, .ref 164), (5, .int (zI M 167 w52n)), (6, .int (zI M 168 w52n)), (7, .int w71v), (8, .int w72x8)] [] w72M Q := by
          intro m
          induction m using Nat.strongRecOn with
          | ind w72m w72ih =>
            intro w72x8 w72M w72b8 w72s w72I w72F w72q
            refine zs_iload (pc := 25) t157_25 rfl ?_
            refine zs_iload (pc := 27) t157_27 rfl ?_
            by_cases w73 : w71v.toInt ≤ w72x8.toInt
            · refine zs_icmp_geT (pc := 29) t157_29 rfl rfl (by omega) ?_
              exact zs_vret (pc := 89) t157_89 mr157 (hQ _ w72s w72I (((zFr.refl).trans (w71F.mono rfl)).trans (w72F.mono rfl)))
            · refine zs_icmp_geF (pc := 29) t157_29 rfl rfl (by omega) ?_
              refine zs_aload (pc := 32) t157_32 rfl ?_
              refine zs_iload (pc := 34) t157_34 rfl ?_
              refine zs_iload (pc := 36) t157_36 rfl ?_
              refine zs_aload_n (pc := 38) t157_38 rfl ?_
              refine zs_get (pc := 39) t157_39 (by decide) (zk1 (w72s.k fk_zMc_325)) (w72s.p rfl fv_zMc_325_6) ?_
              refine zs_iload (pc := 42) t157_42 rfl ?_
              obtain ⟨w74n, w74⟩ : ∃ n : Nat, w72x8.toInt = (n : Int) := ⟨w72x8.toInt.toNat, by omega⟩
              have w75 := ib330 w72I w74n
              refine zs_iald (pc := 44) t157_44 (j := w74n) (by decide) (zk1 (w72s.k fk_zMc_330)) w74 (zk2 (w72s.k fk_zMc_330) (by omega)) rfl ?_
              refine zs_invS (pc := 45) (as := [.ref 164, .int (zI M 167 w52n), .int (zI M 168 w52n), .int (zI w72M 330 w74n)]) (st := []) t157_45 (by decide) mf162 rfl rfl ⟨by decide, by decide, Nat.le_of_ble_eq_true rfl, Nat.le_of_ble_eq_true rfl⟩ (C162_164 w72s w72I ?_) (fun _ _ q => q)
              intro w76v w76a w76b
              show zGo X l 3 0 0 157 48 [(0, .ref 325), (1, .ref 166), (2, .int a), (3, .int b), (4, .ref 164), (5, .int (zI M 167 w52n)), (6, .int (zI M 168 w52n)), (7, .int w71v), (8, .int w72x8)] [.int w76v] w72M _
              by_cases w77 : w76v.toInt ≠ 0
              · refine zs_if_neT (pc := 48) t157_48 rfl (by omega) ?_
                obtain ⟨w78v, w78e, w78⟩ := ziadd (a := w72x8) (b := Int32.ofInt 1) rfl (show (Int32.ofInt 1).toInt = 1 by decide) (by omega) (by omega)
                refine zs_iinc (pc := 83) t157_83 (ls' := [(8, .int w78v), (0, .ref 325), (1, .ref 166), (2, .int a), (3, .int b), (4, .ref 164), (5, .int (zI M 167 w52n)), (6, .int (zI M 168 w52n)), (7, .int w71v)]) (zml mf157 (by decide)) rfl (c := w78v) w78e rfl ?_
                refine zs_goto (pc := 86) t157_86 ?_
                refine zGo.locals (ls' := [(0, .ref 325), (1, .ref 166), (2, .int a), (3, .int b), (4, .ref 164), (5, .int (zI M 167 w52n)), (6, .int (zI M 168 w52n)), (7, .int w71v), (8, .int w78v)]) (by simp) ?_
                exact w72ih (w72m - 1) (by omega) w78v w72M ⟨by omega, by omega⟩ w72s w72I ((zFr.refl).trans (w72F.mono rfl)) (by omega)
              · refine zs_if_neF (pc := 48) t157_48 rfl (by omega) ?_
                refine zs_aload_n (pc := 51) t157_51 rfl ?_
                refine zs_dup (pc := 52) t157_52 rfl ?_
                have w79 := ib325_1 w72I
                refine zs_get (pc := 53) t157_53 (by decide) (zk1 (w72s.k fk_zMc_325)) (zfvi rfl rfl) ?_
                refine zs_iconst (pc := 56) t157_56 (v := 1) (by decide) ?_
                obtain ⟨w80v, w80⟩ : ∃ v, v = (zI w72M 325 1) + (1 : Int32) := ⟨_, rfl⟩
                have w80g := zrg w80v
                refine zs_iadd (pc := 57) t157_57 (c := w80v) w80.symm ?_
                have w81 : zIv cLo cHi (zsI w72M 325 1 w80v) := zIv.put w72I (show (-2147483648) ≤ w80v.toInt ∧ w80v.toInt ≤ 2147483647 from (zrg w80v))
                refine zs_putI (pc := 58) t157_58 (zk1 (w72s.k fk_zMc_325)) rfl ?_
                refine zs_aload_n (pc := 61) t157_61 rfl ?_
                refine zs_aload_n (pc := 62) t157_62 rfl ?_
                refine zs_get (pc := 63) t157_63 (by decide) (zk1 (w72s.k fk_zMc_325)) (w72s.p rfl fv_zMc_325_7) ?_
                refine zs_iload (pc := 66) t157_66 rfl ?_
                have w82 := ib331 w72I w74n
                refine zs_iald (pc := 68) t157_68 (j := w74n) (by decide) (zk1 (w72s.k fk_zMc_331)) w74 (zk2 (w72s.k fk_zMc_331) (by omega)) ((zIo (by decide)).trans rfl) ?_
                refine zs_iload (pc := 69) t157_69 rfl ?_
                refine zs_iload (pc := 71) t157_71 rfl ?_
                refine zs_aload_n (pc := 73) t157_73 rfl ?_
                refine zs_get (pc := 74) t157_74 (by decide) (zk1 (w72s.k fk_zMc_325)) (w72s.p rfl fv_zMc_325_6) ?_
                refine zs_iload (pc := 77) t157_77 rfl ?_
                refine zs_iald (pc := 79) t157_79 (j := w74n) (by decide) (zk1 (w72s.k fk_zMc_330)) w74 (zk2 (w72s.k fk_zMc_330) (by omega)) ((zIo (by decide)).trans rfl) ?_
                refine zs_invV (pc := 80) (k := 325) (as' := [.int (zI w72M 331 w74n), .int (zI M 167 w52n), .int (zI M 168 w52n), .int (zI w72M 330 w74n)]) (st := []) t157_80 mf164 rfl rfl (Or.inl ⟨by decide, (zk1 (w72s.k fk_zMc_325))⟩) ⟨by decide, by decide, Nat.le_of_ble_eq_true rfl, Nat.le_of_ble_eq_true rfl⟩ (C164_325 w72s w81 ?_) (fun _ _ q => q)
                intro w83M w83s w83I w83F
                show zGo X l 3 0 0 157 83 [(0, .ref 325), (1, .ref 166), (2, .int a), (3, .int b), (4, .ref 164), (5, .int (zI M 167 w52n)), (6, .int (zI M 168 w52n)), (7, .int w71v), (8, .int w72x8)] [] w83M _
                obtain ⟨w84v, w84e, w84⟩ := ziadd (a := w72x8) (b := Int32.ofInt 1) rfl (show (Int32.ofInt 1).toInt = 1 by decide) (by omega) (by omega)
                refine zs_iinc (pc := 83) t157_83 (ls' := [(8, .int w84v), (0, .ref 325), (1, .ref 166), (2, .int a), (3, .int b), (4, .ref 164), (5, .int (zI M 167 w52n)), (6, .int (zI M 168 w52n)), (7, .int w71v)]) (zml mf157 (by decide)) rfl (c := w84v) w84e rfl ?_
                refine zs_goto (pc := 86) t157_86 ?_
                refine zGo.locals (ls' := [(0, .ref 325), (1, .ref 166), (2, .int a), (3, .int b), (4, .ref 164), (5, .int (zI M 167 w52n)), (6, .int (zI M 168 w52n)), (7, .int w71v), (8, .int w84v)]) (by simp) ?_
                exact w72ih (w72m - 1) (by omega) w84v w83M ⟨by omega, by omega⟩ w83s w83I ((((zFr.refl).trans (w72F.mono rfl)).put rfl).trans (w83F.mono rfl)) (by omega)
        refine zGo.locals (ls' := [(0, .ref 325), (1, .ref 166), (2, .int a), (3, .int b), (4, .ref 164), (5, .int (zI M 167 w52n)), (6, .int (zI M 168 w52n)), (7, .int w71v), (8, .int (0 : Int32))]) (by simp) ?_
        have w85 := li0
        exact w72L ((60 - 0 : Int).toNat) (0 : Int32) w71M ⟨by decide, by decide⟩ w71s w71I zFr.refl (by omega)
theorem C208_325 {X : zX} {l : Launch} {M : zM} {Q : Option Value → zM → Prop} {a b : Int32} (hs : zSk zMc M) (hI : zIv cLo cHi M) (ha : 0 ≤ a.toInt ∧ a.toInt ≤ 19) (hQ : ∀ v : Int32, (-2147483648) ≤ v.toInt → v.toInt ≤ 2147483647 → Q (some (.int v)) M) : zCall X l 1 0 0 208 [.ref 325, .int a, .int b] M Q := by
  have ga := zrg a
  have gb := zrg b
  refine zs_in (by decide) mf208 (Nat.le_of_ble_eq_true rfl) ?_
  show zGo X l 1 0 0 208 0 [(0, .ref 325), (1, .int a), (2, .int b)] [] M _
  refine zs_iload_n (pc := 0) t208_0 rfl ?_
  refine zs_istore_n (pc := 1) t208_1 (ls' := [(3, .int a), (0, .ref 325), (1, .int a), (2, .int b)]) (zml mf208 (by decide)) rfl ?_
  refine zs_bipush (pc := 2) t208_2 (v := 8) (by decide) ?_
  refine zs_istore (pc := 4) t208_4 (ls' := [(4, .int (8 : Int32)), (3, .int a), (0, .ref 325), (1, .int a), (2, .int b)]) (zml mf208 (by decide)) rfl ?_
  have w1L : ∀ (m : Nat) (w1x3 : Int32) (w1x4 : Int32), ((-20) ≤ w1x3.toInt ∧ w1x3.toInt ≤ 19) → ((-1) ≤ w1x4.toInt ∧ w1x4.toInt ≤ 8) → w1x4.toInt + 1 ≤ (m : Int) → zGo X l 1 0 0 208 6 [(0, .ref 325), (1, .int a), (2, .int b), (3, .int w1x3), (4, .int w1x4)] [] M Q := by
    intro m
    induction m using Nat.strongRecOn with
    | ind w1m w1ih =>
      intro w1x3 w1x4 w1b3 w1b4 w1q
      refine zs_iload (pc := 6) t208_6 rfl ?_
      by_cases w2 : w1x4.toInt < 0
      · refine zs_if_ltT (pc := 8) t208_8 rfl (by omega) ?_
        refine zs_ldc (pc := 57) t208_57 (v := -100000) rfl (by decide) ?_
        exact zs_iret (pc := 59) t208_59 mr208 (by decide) (hQ _ (zrg _).1 (zrg _).2)
      · refine zs_if_ltF (pc := 8) t208_8 rfl (by omega) ?_
        refine zs_iload_n (pc := 11) t208_11 rfl ?_
        by_cases w3 : w1x3.toInt < 0
        · refine zs_if_ltT (pc := 12) t208_12 rfl (by omega) ?_
          refine zs_ldc (pc := 57) t208_57 (v := -100000) rfl (by decide) ?_
          exact zs_iret (pc := 59) t208_59 mr208 (by decide) (hQ _ (zrg _).1 (zrg _).2)
        · refine zs_if_ltF (pc := 12) t208_12 rfl (by omega) ?_
          refine zs_iload_n (pc := 15) t208_15 rfl ?_
          refine zs_aload_n (pc := 16) t208_16 rfl ?_
          refine zs_get (pc := 17) t208_17 (by decide) (zk1 (hs.k fk_zMc_325)) (hs.p rfl fv_zMc_325_2) ?_
          refine zs_iload (pc := 20) t208_20 rfl ?_
          obtain ⟨w4n, w4⟩ : ∃ n : Nat, w1x4.toInt = (n : Int) := ⟨w1x4.toInt.toNat, by omega⟩
          have w5 := ib326 hI w4n
          refine zs_iald (pc := 22) t208_22 (j := w4n) (by decide) (zk1 (hs.k fk_zMc_326)) w4 (zk2 (hs.k fk_zMc_326) (by omega)) rfl ?_
          by_cases w6 : (zI M 326 w4n).toInt ≤ w1x3.toInt
          · refine zs_icmp_geT (pc := 23) t208_23 rfl rfl (by omega) ?_
            refine zs_iload_n (pc := 41) t208_41 rfl ?_
            refine zs_aload_n (pc := 42) t208_42 rfl ?_
            refine zs_get (pc := 43) t208_43 (by decide) (zk1 (hs.k fk_zMc_325)) (hs.p rfl fv_zMc_325_2) ?_
            refine zs_iload (pc := 46) t208_46 rfl ?_
            refine zs_iald (pc := 48) t208_48 (j := w4n) (by decide) (zk1 (hs.k fk_zMc_326)) w4 (zk2 (hs.k fk_zMc_326) (by omega)) rfl ?_
            obtain ⟨w7v, w7e, w7⟩ := zisub (a := w1x3) (b := (zI M 326 w4n)) rfl rfl (by omega) (by omega)
            refine zs_isub (pc := 49) t208_49 (c := w7v) w7e ?_
            refine zs_istore_n (pc := 50) t208_50 (ls' := [(3, .int w7v), (0, .ref 325), (1, .int a), (2, .int b), (4, .int w1x4)]) (zml mf208 (by decide)) rfl ?_
            obtain ⟨w8v, w8e, w8⟩ := ziadd (a := w1x4) (b := Int32.ofInt (-1)) rfl (show (Int32.ofInt (-1)).toInt = (-1) by decide) (by omega) (by omega)
            refine zs_iinc (pc := 51) t208_51 (ls' := [(4, .int w8v), (3, .int w7v), (0, .ref 325), (1, .int a), (2, .int b)]) (zml mf208 (by decide)) rfl (c := w8v) w8e rfl ?_
            refine zs_goto (pc := 54) t208_54 ?_
            refine zGo.locals (ls' := [(0, .ref 325), (1, .int a), (2, .int b), (3, .int w7v), (4, .int w8v)]) (by simp) ?_
            exact w1ih (w1m - 1) (by omega) w7v w8v ⟨by omega, by omega⟩ ⟨by omega, by omega⟩ (by omega)
          · refine zs_icmp_geF (pc := 23) t208_23 rfl rfl (by omega) ?_
            refine zs_aload_n (pc := 26) t208_26 rfl ?_
            refine zs_iload (pc := 27) t208_27 rfl ?_
            refine zs_iload (pc := 29) t208_29 rfl ?_
            refine zs_bipush (pc := 31) t208_31 (v := 20) (by decide) ?_
            obtain ⟨w9v, w9⟩ : ∃ v, w1x4 * (20 : Int32) = v := ⟨_, rfl⟩
            have w9g : w9v.toInt = w1x4.toInt * 20 := by rw [← w9]; exact zmulc rfl li20 (by omega) (by omega)
            refine zs_imul (pc := 33) t208_33 (c := w9v) w9 ?_
            refine zs_iload_n (pc := 34) t208_34 rfl ?_
            obtain ⟨w10v, w10e, w10⟩ := ziadd (a := w9v) (b := w1x3) rfl rfl (by omega) (by omega)
            refine zs_iadd (pc := 35) t208_35 (c := w10v) w10e ?_
            refine zs_iload_n (pc := 36) t208_36 rfl ?_
            refine zs_invV (pc := 37) (k := 325) (as' := [.int w1x4, .int w10v, .int b]) (st := []) t208_37 mf209 rfl rfl (Or.inl ⟨by decide, (zk1 (hs.k fk_zMc_325))⟩) ⟨by decide, by decide, Nat.le_of_ble_eq_true rfl, Nat.le_of_ble_eq_true rfl⟩ (zs_in (by decide) mf209 (Nat.le_of_ble_eq_true rfl) ?_) (fun _ _ q => q)
            show zGo X l 0 0 0 209 0 [(0, .ref 325), (1, .int w1x4), (2, .int w10v), (3, .int b)] [] M _
            refine zs_iload_n (pc := 0) t209_0 rfl ?_
            by_cases w11 : b.toInt = 0
            · refine zs_tswI (pc := 1) t209_1 ((rfl : b.toInt = b.toInt).trans w11) (by decide) rfl (pc2 := 32) rfl ?_
              refine zs_aload_n (pc := 32) t209_32 rfl ?_
              refine zs_get (pc := 33) t209_33 (by decide) (zk1 (hs.k fk_zMc_325)) (hs.p rfl fv_zMc_325_3) ?_
              refine zs_iload_n (pc := 36) t209_36 rfl ?_
              obtain ⟨w12n, w12⟩ : ∃ n : Nat, w10v.toInt = (n : Int) := ⟨w10v.toInt.toNat, by omega⟩
              have w13 := ib327 hI w12n
              refine zs_iald (pc := 37) t209_37 (j := w12n) (by decide) (zk1 (hs.k fk_zMc_327)) w12 (zk2 (hs.k fk_zMc_327) (by omega)) rfl ?_
              refine zs_iret (pc := 38) t209_38 mr209 rfl ?_
              show zGo X l 1 0 0 208 40 [(0, .ref 325), (1, .int a), (2, .int b), (3, .int w1x3), (4, .int w1x4)] [.int (zI M 327 w12n)] M _
              exact zs_iret (pc := 40) t208_40 mr208 rfl (hQ _ (zrg _).1 (zrg _).2)
            by_cases w14 : b.toInt = 1
            · refine zs_tswI (pc := 1) t209_1 ((rfl : b.toInt = b.toInt).trans w14) (by decide) rfl (pc2 := 39) rfl ?_
              refine zs_aload_n (pc := 39) t209_39 rfl ?_
              refine zs_get (pc := 40) t209_40 (by decide) (zk1 (hs.k fk_zMc_325)) (hs.p rfl fv_zMc_325_4) ?_
              refine zs_iload_n (pc := 43) t209_43 rfl ?_
              obtain ⟨w15n, w15⟩ : ∃ n : Nat, w10v.toInt = (n : Int) := ⟨w10v.toInt.toNat, by omega⟩
              have w16 := ib328 hI w15n
              refine zs_iald (pc := 44) t209_44 (j := w15n) (by decide) (zk1 (hs.k fk_zMc_328)) w15 (zk2 (hs.k fk_zMc_328) (by omega)) rfl ?_
              refine zs_iret (pc := 45) t209_45 mr209 rfl ?_
              show zGo X l 1 0 0 208 40 [(0, .ref 325), (1, .int a), (2, .int b), (3, .int w1x3), (4, .int w1x4)] [.int (zI M 328 w15n)] M _
              exact zs_iret (pc := 40) t208_40 mr208 rfl (hQ _ (zrg _).1 (zrg _).2)
            by_cases w17 : b.toInt = 2
            · refine zs_tswI (pc := 1) t209_1 ((rfl : b.toInt = b.toInt).trans w17) (by decide) rfl (pc2 := 46) rfl ?_
              refine zs_aload_n (pc := 46) t209_46 rfl ?_
              refine zs_get (pc := 47) t209_47 (by decide) (zk1 (hs.k fk_zMc_325)) (hs.p rfl fv_zMc_325_5) ?_
              refine zs_iload_n (pc := 50) t209_50 rfl ?_
              obtain ⟨w18n, w18⟩ : ∃ n : Nat, w10v.toInt = (n : Int) := ⟨w10v.toInt.toNat, by omega⟩
              have w19 := ib329 hI w18n
              refine zs_iald (pc := 51) t209_51 (j := w18n) (by decide) (zk1 (hs.k fk_zMc_329)) w18 (zk2 (hs.k fk_zMc_329) (by omega)) rfl ?_
              refine zs_iret (pc := 52) t209_52 mr209 rfl ?_
              show zGo X l 1 0 0 208 40 [(0, .ref 325), (1, .int a), (2, .int b), (3, .int w1x3), (4, .int w1x4)] [.int (zI M 329 w18n)] M _
              exact zs_iret (pc := 40) t208_40 mr208 rfl (hQ _ (zrg _).1 (zrg _).2)
            by_cases w20 : b.toInt = 3
            · refine zs_tswI (pc := 1) t209_1 ((rfl : b.toInt = b.toInt).trans w20) (by decide) rfl (pc2 := 53) rfl ?_
              refine zs_iload_n (pc := 53) t209_53 rfl ?_
              refine zs_iret (pc := 54) t209_54 mr209 rfl ?_
              show zGo X l 1 0 0 208 40 [(0, .ref 325), (1, .int a), (2, .int b), (3, .int w1x3), (4, .int w1x4)] [.int w1x4] M _
              exact zs_iret (pc := 40) t208_40 mr208 rfl (hQ _ (zrg _).1 (zrg _).2)
            refine zs_tswD (pc := 1) t209_1 rfl (by omega) (pc2 := 55) rfl ?_
            refine zs_ldc (pc := 55) t209_55 (v := -100000) rfl (by decide) ?_
            refine zs_iret (pc := 57) t209_57 mr209 (by decide) ?_
            show zGo X l 1 0 0 208 40 [(0, .ref 325), (1, .int a), (2, .int b), (3, .int w1x3), (4, .int w1x4)] [.int (-100000 : Int32)] M _
            exact zs_iret (pc := 40) t208_40 mr208 (by decide) (hQ _ (zrg _).1 (zrg _).2)
  refine zGo.locals (ls' := [(0, .ref 325), (1, .int a), (2, .int b), (3, .int a), (4, .int (8 : Int32))]) (by simp) ?_
  have w21 := li8
  exact w1L ((8 + 1 : Int).toNat) a (8 : Int32) ⟨by omega, by omega⟩ ⟨by decide, by decide⟩ (by omega)
theorem C192_332 {X : zX} {l : Launch} {M : zM} {Q : Option Value → zM → Prop} {a : Int32} (hs : zSk zMc M) (hI : zIv cLo cHi M) (hQ : ∀ v : Int32, 0 ≤ v.toInt → v.toInt ≤ 7 → Q (some (.int v)) M) : zCall X l 0 0 0 192 [.ref 332, .int a] M Q := by
  have ga := zrg a
  refine zs_in (by decide) mf192 (Nat.le_of_ble_eq_true rfl) ?_
  show zGo X l 0 0 0 192 0 [(0, .ref 332), (1, .int a)] [] M _
  refine zs_iconst (pc := 0) t192_0 (v := 0) (by decide) ?_
  refine zs_istore_n (pc := 1) t192_1 (ls' := [(2, .int (0 : Int32)), (0, .ref 332), (1, .int a)]) (zml mf192 (by decide)) rfl ?_
  refine zs_iconst (pc := 2) t192_2 (v := 1) (by decide) ?_
  refine zs_istore_n (pc := 3) t192_3 (ls' := [(3, .int (1 : Int32)), (2, .int (0 : Int32)), (0, .ref 332), (1, .int a)]) (zml mf192 (by decide)) rfl ?_
  have w1L : ∀ (m : Nat) (w1x2 : Int32) (w1x3 : Int32), (0 ≤ w1x2.toInt ∧ w1x2.toInt ≤ 7) → (1 ≤ w1x3.toInt ∧ w1x3.toInt ≤ 8) → 8 - w1x3.toInt ≤ (m : Int) → zGo X l 0 0 0 192 4 [(0, .ref 332), (1, .int a), (2, .int w1x2), (3, .int w1x3)] [] M Q := by
    intro m
    induction m using Nat.strongRecOn with
    | ind w1m w1ih =>
      intro w1x2 w1x3 w1b2 w1b3 w1q
      refine zs_iload_n (pc := 4) t192_4 rfl ?_
      refine zs_iload_n (pc := 5) t192_5 rfl ?_
      by_cases w2 : a.toInt ≤ w1x3.toInt
      · refine zs_icmp_geT (pc := 6) t192_6 rfl rfl (by omega) ?_
        refine zs_iload_n (pc := 38) t192_38 rfl ?_
        exact zs_iret (pc := 39) t192_39 mr192 rfl (hQ _ (by omega) (by omega))
      · refine zs_icmp_geF (pc := 6) t192_6 rfl rfl (by omega) ?_
        refine zs_iload_n (pc := 9) t192_9 rfl ?_
        refine zs_bipush (pc := 10) t192_10 (v := 8) (by decide) ?_
        by_cases w3 : 8 ≤ w1x3.toInt
        · refine zs_icmp_geT (pc := 12) t192_12 rfl li8 (by omega) ?_
          refine zs_iload_n (pc := 38) t192_38 rfl ?_
          exact zs_iret (pc := 39) t192_39 mr192 rfl (hQ _ (by omega) (by omega))
        · refine zs_icmp_geF (pc := 12) t192_12 rfl li8 (by omega) ?_
          refine zs_aload_n (pc := 15) t192_15 rfl ?_
          refine zs_get (pc := 16) t192_16 (by decide) (zk1 (hs.k fk_zMc_332)) (hs.p rfl fv_zMc_332_4) ?_
          refine zs_iload_n (pc := 19) t192_19 rfl ?_
          obtain ⟨w4n, w4⟩ : ∃ n : Nat, w1x3.toInt = (n : Int) := ⟨w1x3.toInt.toNat, by omega⟩
          have w5 := ib333 hI w4n
          refine zs_iald (pc := 20) t192_20 (j := w4n) (by decide) (zk1 (hs.k fk_zMc_333)) w4 (zk2 (hs.k fk_zMc_333) (by omega)) rfl ?_
          refine zs_aload_n (pc := 21) t192_21 rfl ?_
          refine zs_get (pc := 22) t192_22 (by decide) (zk1 (hs.k fk_zMc_332)) (hs.p rfl fv_zMc_332_4) ?_
          refine zs_iload_n (pc := 25) t192_25 rfl ?_
          obtain ⟨w6n, w6⟩ : ∃ n : Nat, w1x2.toInt = (n : Int) := ⟨w1x2.toInt.toNat, by omega⟩
          have w7 := ib333 hI w6n
          refine zs_iald (pc := 26) t192_26 (j := w6n) (by decide) (zk1 (hs.k fk_zMc_333)) w6 (zk2 (hs.k fk_zMc_333) (by omega)) rfl ?_
          by_cases w8 : (zI M 333 w6n).toInt ≤ (zI M 333 w4n).toInt
          · refine zs_icmp_geT (pc := 27) t192_27 rfl rfl (by omega) ?_
            obtain ⟨w9v, w9e, w9⟩ := ziadd (a := w1x3) (b := Int32.ofInt 1) rfl (show (Int32.ofInt 1).toInt = 1 by decide) (by omega) (by omega)
            refine zs_iinc (pc := 32) t192_32 (ls' := [(3, .int w9v), (0, .ref 332), (1, .int a), (2, .int w1x2)]) (zml mf192 (by decide)) rfl (c := w9v) w9e rfl ?_
            refine zs_goto (pc := 35) t192_35 ?_
            refine zGo.locals (ls' := [(0, .ref 332), (1, .int a), (2, .int w1x2), (3, .int w9v)]) (by simp) ?_
            exact w1ih (w1m - 1) (by omega) w1x2 w9v ⟨by omega, by omega⟩ ⟨by omega, by omega⟩ (by omega)
          · refine zs_icmp_geF (pc := 27) t192_27 rfl rfl (by omega) ?_
            refine zs_iload_n (pc := 30) t192_30 rfl ?_
            refine zs_istore_n (pc := 31) t192_31 (ls' := [(2, .int w1x3), (0, .ref 332), (1, .int a), (3, .int w1x3)]) (zml mf192 (by decide)) rfl ?_
            obtain ⟨w10v, w10e, w10⟩ := ziadd (a := w1x3) (b := Int32.ofInt 1) rfl (show (Int32.ofInt 1).toInt = 1 by decide) (by omega) (by omega)
            refine zs_iinc (pc := 32) t192_32 (ls' := [(3, .int w10v), (2, .int w1x3), (0, .ref 332), (1, .int a)]) (zml mf192 (by decide)) rfl (c := w10v) w10e rfl ?_
            refine zs_goto (pc := 35) t192_35 ?_
            refine zGo.locals (ls' := [(0, .ref 332), (1, .int a), (2, .int w1x3), (3, .int w10v)]) (by simp) ?_
            exact w1ih (w1m - 1) (by omega) w1x3 w10v ⟨by omega, by omega⟩ ⟨by omega, by omega⟩ (by omega)
  refine zGo.locals (ls' := [(0, .ref 332), (1, .int a), (2, .int (0 : Int32)), (3, .int (1 : Int32))]) (by simp) ?_
  have w11 := li0
  have w12 := li1
  exact w1L ((8 - 1 : Int).toNat) (0 : Int32) (1 : Int32) ⟨by decide, by decide⟩ ⟨by decide, by decide⟩ (by omega)
theorem C191_332 {X : zX} {l : Launch} {M : zM} {Q : Option Value → zM → Prop} {a b c d e f : Int32} (hs : zSk zMc M) (hI : zIv cLo cHi M) (ha : 1 ≤ a.toInt ∧ a.toInt ≤ 200) (hQ : ∀ M', zSk zMc M' → zIv cLo cHi M' → zFr [(332, 334, none)] M M' → Q none M') : zCall X l 1 0 0 191 [.ref 332, .int a, .int b, .int c, .int d, .int e, .int f] M Q := by
  have ga := zrg a
  have gb := zrg b
  have gc := zrg c
  have gd := zrg d
  have ge := zrg e
  have gf := zrg f
  refine zs_in (by decide) mf191 (Nat.le_of_ble_eq_true rfl) ?_
  show zGo X l 1 0 0 191 0 [(0, .ref 332), (1, .int a), (2, .int b), (3, .int c), (4, .int d), (5, .int e), (6, .int f)] [] M _
  refine zs_aload_n (pc := 0) t191_0 rfl ?_
  refine zs_iconst (pc := 1) t191_1 (v := 0) (by decide) ?_
  have w1 : zIv cLo cHi (zsI M 332 0 (0 : Int32)) := zIv.put hI (show (-2147483648) ≤ (0 : Int32).toInt ∧ (0 : Int32).toInt ≤ 2147483647 from (zrg (0 : Int32)))
  refine zs_putI (pc := 2) t191_2 (zk1 (hs.k fk_zMc_332)) rfl ?_
  refine zs_aload_n (pc := 5) t191_5 rfl ?_
  refine zs_iconst (pc := 6) t191_6 (v := 0) (by decide) ?_
  have w2 : zIv cLo cHi (zsI (zsI M 332 0 (0 : Int32)) 332 1 (0 : Int32)) := zIv.put w1 (show (-2147483648) ≤ (0 : Int32).toInt ∧ (0 : Int32).toInt ≤ 2147483647 from (zrg (0 : Int32)))
  refine zs_putI (pc := 7) t191_7 (zk1 (hs.k fk_zMc_332)) rfl ?_
  refine zs_aload_n (pc := 10) t191_10 rfl ?_
  refine zs_iconst (pc := 11) t191_11 (v := 0) (by decide) ?_
  have w3 : zIv cLo cHi (zsI (zsI (zsI M 332 0 (0 : Int32)) 332 1 (0 : Int32)) 332 2 (0 : Int32)) := zIv.put w2 (show (-2147483648) ≤ (0 : Int32).toInt ∧ (0 : Int32).toInt ≤ 2147483647 from (zrg (0 : Int32)))
  refine zs_putI (pc := 12) t191_12 (zk1 (hs.k fk_zMc_332)) rfl ?_
  refine zs_aload_n (pc := 15) t191_15 rfl ?_
  refine zs_iconst (pc := 16) t191_16 (v := 0) (by decide) ?_
  have w4 : zIv cLo cHi (zsI (zsI (zsI (zsI M 332 0 (0 : Int32)) 332 1 (0 : Int32)) 332 2 (0 : Int32)) 332 3 (0 : Int32)) := zIv.put w3 (show (-2147483648) ≤ (0 : Int32).toInt ∧ (0 : Int32).toInt ≤ 2147483647 from (zrg (0 : Int32)))
  refine zs_putI (pc := 17) t191_17 (zk1 (hs.k fk_zMc_332)) rfl ?_
  refine zs_iconst (pc := 20) t191_20 (v := 0) (by decide) ?_
  refine zs_istore (pc := 21) t191_21 (ls' := [(7, .int (0 : Int32)), (0, .ref 332), (1, .int a), (2, .int b), (3, .int c), (4, .int d), (5, .int e), (6, .int f)]) (zml mf191 (by decide)) rfl ?_
  have w5L : ∀ (m : Nat) (w5x7 : Int32) (w5M : zM), (0 ≤ w5x7.toInt ∧ w5x7.toInt ≤ 8) → zSk zMc w5M → zIv cLo cHi w5M → zFr [(332, 334, none)] (zsI (zsI (zsI (zsI M 332 0 (0 : Int32)) 332 1 (0 : Int32)) 332 2 (0 : Int32)) 332 3 (0 : Int32)) w5M → 8 - w5x7.toInt ≤ (m : Int) → zGo X l 1 0 0 191 23 [(0, .ref 332), (1, .int a), (2, .int b), (3, .int c), (4, .int d), (5, .int e), (6, .int f), (7, .int w5x7)] [] w5M Q := by
    intro m
    induction m using Nat.strongRecOn with
    | ind w5m w5ih =>
      intro w5x7 w5M w5b7 w5s w5I w5F w5q
      refine zs_iload (pc := 23) t191_23 rfl ?_
      refine zs_bipush (pc := 25) t191_25 (v := 8) (by decide) ?_
      by_cases w6 : 8 ≤ w5x7.toInt
      · refine zs_icmp_geT (pc := 27) t191_27 rfl li8 (by omega) ?_
        refine zs_iconst (pc := 44) t191_44 (v := 0) (by decide) ?_
        refine zs_istore (pc := 45) t191_45 (ls' := [(7, .int (0 : Int32)), (0, .ref 332), (1, .int a), (2, .int b), (3, .int c), (4, .int d), (5, .int e), (6, .int f)]) (zml mf191 (by decide)) rfl ?_
        refine zs_iconst (pc := 47) t191_47 (v := 0) (by decide) ?_
        refine zs_istore (pc := 48) t191_48 (ls' := [(8, .int (0 : Int32)), (7, .int (0 : Int32)), (0, .ref 332), (1, .int a), (2, .int b), (3, .int c), (4, .int d), (5, .int e), (6, .int f)]) (zml mf191 (by decide)) rfl ?_
        refine zs_iconst (pc := 50) t191_50 (v := 0) (by decide) ?_
        refine zs_istore (pc := 51) t191_51 (ls' := [(9, .int (0 : Int32)), (8, .int (0 : Int32)), (7, .int (0 : Int32)), (0, .ref 332), (1, .int a), (2, .int b), (3, .int c), (4, .int d), (5, .int e), (6, .int f)]) (zml mf191 (by decide)) rfl ?_
        have w7L : ∀ (m : Nat) (w7x7 : Int32) (w7x8 : Int32) (w7x9 : Int32) (w7M : zM), (0 ≤ w7x7.toInt ∧ w7x7.toInt ≤ 200) → (0 ≤ w7x8.toInt ∧ w7x8.toInt ≤ 200) → (0 ≤ w7x9.toInt ∧ w7x9.toInt ≤ 200) → zSk zMc w7M → zIv cLo cHi w7M → zFr [(332, 334, none)] w5M w7M → 200 - w7x9.toInt ≤ (m : Int) → zGo X l 1 0 0 191 53 [(0, .ref 332), (1, .int a), (2, .int b), (3, .int c), (4, .int d), (5, .int e), (6, .int f), (7, .int w7x7), (8, .int w7x8), (9, .int w7x9)] [] w7M Q := by
          intro m
          induction m using Nat.strongRecOn with
          | ind w7m w7ih =>
            intro w7x7 w7x8 w7x9 w7M w7b7 w7b8 w7b9 w7s w7I w7F w7q
            refine zs_iload (pc := 53) t191_53 rfl ?_
            refine zs_iload_n (pc := 55) t191_55 rfl ?_
            by_cases w8 : a.toInt ≤ w7x9.toInt
            · refine zs_icmp_geT (pc := 56) t191_56 rfl rfl (by omega) ?_
              exact zs_vret (pc := 241) t191_241 mr191 (hQ _ w7s w7I (((((((zFr.refl).put rfl).put rfl).put rfl).put rfl).trans (w5F.mono rfl)).trans (w7F.mono rfl)))
            · refine zs_icmp_geF (pc := 56) t191_56 rfl rfl (by omega) ?_
              refine zs_iload (pc := 59) t191_59 rfl ?_
              refine zs_sipush (pc := 61) t191_61 (v := 200) (by decide) ?_
              by_cases w9 : 200 ≤ w7x7.toInt
              · refine zs_icmp_geT (pc := 64) t191_64 rfl li200 (by omega) ?_
                exact zs_vret (pc := 241) t191_241 mr191 (hQ _ w7s w7I (((((((zFr.refl).put rfl).put rfl).put rfl).put rfl).trans (w5F.mono rfl)).trans (w7F.mono rfl)))
              · refine zs_icmp_geF (pc := 64) t191_64 rfl li200 (by omega) ?_
                refine zs_iload (pc := 67) t191_67 rfl ?_
                refine zs_iload_n (pc := 69) t191_69 rfl ?_
                obtain ⟨w10v, w10⟩ : ∃ v, w7x9 * b = v := ⟨_, rfl⟩
                have w10g := zrg w10v
                refine zs_imul (pc := 70) t191_70 (c := w10v) w10 ?_
                refine zs_istore (pc := 71) t191_71 (ls' := [(10, .int w10v), (0, .ref 332), (1, .int a), (2, .int b), (3, .int c), (4, .int d), (5, .int e), (6, .int f), (7, .int w7x7), (8, .int w7x8), (9, .int w7x9)]) (zml mf191 (by decide)) rfl ?_
                have w11L : ∀ (m : Nat) (w11x8 : Int32), (0 ≤ w11x8.toInt ∧ w11x8.toInt ≤ 200) → 200 - w11x8.toInt ≤ (m : Int) → zGo X l 1 0 0 191 73 [(0, .ref 332), (1, .int a), (2, .int b), (3, .int c), (4, .int d), (5, .int e), (6, .int f), (7, .int w7x7), (8, .int w11x8), (9, .int w7x9), (10, .int w10v)] [] w7M Q := by
                  intro m
                  induction m using Nat.strongRecOn with
                  | ind w11m w11ih =>
                    intro w11x8 w11b8 w11q
                    refine zs_iload (pc := 73) t191_73 rfl ?_
                    refine zs_iload (pc := 75) t191_75 rfl ?_
                    by_cases w12 : w7x7.toInt ≤ w11x8.toInt
                    · refine zs_icmp_geT (pc := 77) t191_77 rfl rfl (by omega) ?_
                      refine zs_aload_n (pc := 98) t191_98 rfl ?_
                      refine zs_iload_n (pc := 99) t191_99 rfl ?_
                      refine zs_invV (pc := 100) (k := 332) (as' := [.int c]) (st := []) t191_100 mf192 rfl rfl (Or.inl ⟨by decide, (zk1 (w7s.k fk_zMc_332))⟩) ⟨by decide, by decide, Nat.le_of_ble_eq_true rfl, Nat.le_of_ble_eq_true rfl⟩ (C192_332 w7s w7I ?_) (fun _ _ q => q)
                      intro w13v w13a w13b
                      show zGo X l 1 0 0 191 103 [(0, .ref 332), (1, .int a), (2, .int b), (3, .int c), (4, .int d), (5, .int e), (6, .int f), (7, .int w7x7), (8, .int w11x8), (9, .int w7x9), (10, .int w10v)] [.int w13v] w7M _
                      refine zs_istore (pc := 103) t191_103 (ls' := [(11, .int w13v), (0, .ref 332), (1, .int a), (2, .int b), (3, .int c), (4, .int d), (5, .int e), (6, .int f), (7, .int w7x7), (8, .int w11x8), (9, .int w7x9), (10, .int w10v)]) (zml mf191 (by decide)) rfl ?_
                      refine zs_iload (pc := 105) t191_105 rfl ?_
                      refine zs_aload_n (pc := 107) t191_107 rfl ?_
                      refine zs_get (pc := 108) t191_108 (by decide) (zk1 (w7s.k fk_zMc_332)) (w7s.p rfl fv_zMc_332_4) ?_
                      refine zs_iload (pc := 111) t191_111 rfl ?_
                      obtain ⟨w14n, w14⟩ : ∃ n : Nat, w13v.toInt = (n : Int) := ⟨w13v.toInt.toNat, by omega⟩
                      have w15 := ib333 w7I w14n
                      refine zs_iald (pc := 113) t191_113 (j := w14n) (by decide) (zk1 (w7s.k fk_zMc_333)) w14 (zk2 (w7s.k fk_zMc_333) (by omega)) rfl ?_
                      refine zs_invS (pc := 114) (as := [.int w10v, .int (zI w7M 333 w14n)]) (st := []) t191_114 (by decide) mf21 rfl rfl ⟨by decide, by decide, Nat.le_of_ble_eq_true rfl, Nat.le_of_ble_eq_true rfl⟩ (zs_in (by decide) mf21 (Nat.le_of_ble_eq_true rfl) ?_) (fun _ _ q => q)
                      show zGo X l 0 0 0 21 0 [(0, .int w10v), (1, .int (zI w7M 333 w14n))] [] w7M _
                      refine zs_iload_n (pc := 0) t21_0 rfl ?_
                      refine zs_iload_n (pc := 1) t21_1 rfl ?_
                      by_cases w16 : w10v.toInt < (zI w7M 333 w14n).toInt
                      · refine zs_icmp_ltT (pc := 2) t21_2 rfl rfl (by omega) ?_
                        refine zs_iload_n (pc := 9) t21_9 rfl ?_
                        refine zs_iret (pc := 10) t21_10 mr21 rfl ?_
                        show zGo X l 1 0 0 191 117 [(11, .int w13v), (0, .ref 332), (1, .int a), (2, .int b), (3, .int c), (4, .int d), (5, .int e), (6, .int f), (7, .int w7x7), (8, .int w11x8), (9, .int w7x9), (10, .int w10v)] [.int (zI w7M 333 w14n)] w7M _
                        refine zs_istore (pc := 117) t191_117 (ls' := [(12, .int (zI w7M 333 w14n)), (11, .int w13v), (0, .ref 332), (1, .int a), (2, .int b), (3, .int c), (4, .int d), (5, .int e), (6, .int f), (7, .int w7x7), (8, .int w11x8), (9, .int w7x9), (10, .int w10v)]) (zml mf191 (by decide)) rfl ?_
                        refine zs_iload (pc := 119) t191_119 rfl ?_
                        refine zs_iload (pc := 121) t191_121 rfl ?_
                        by_cases w17 : (zI w7M 333 w14n).toInt ≤ w10v.toInt
                        · refine zs_icmp_leT (pc := 123) t191_123 rfl rfl (by omega) ?_
                          refine zs_aload_n (pc := 149) t191_149 rfl ?_
                          refine zs_get (pc := 150) t191_150 (by decide) (zk1 (w7s.k fk_zMc_332)) (w7s.p rfl fv_zMc_332_5) ?_
                          refine zs_iload (pc := 153) t191_153 rfl ?_
                          refine zs_iload (pc := 155) t191_155 rfl ?_
                          obtain ⟨w18n, w18⟩ : ∃ n : Nat, w7x7.toInt = (n : Int) := ⟨w7x7.toInt.toNat, by omega⟩
                          have w19 : zIv cLo cHi (zsI w7M 334 w18n (zI w7M 333 w14n)) := zIv.put w7I (show (-2147483648) ≤ (zI w7M 333 w14n).toInt ∧ (zI w7M 333 w14n).toInt ≤ 2147483647 from (zrg (zI w7M 333 w14n)))
                          refine zs_iast (pc := 157) t191_157 (j := w18n) (by decide) (zk1 (w7s.k fk_zMc_334)) w18 (zk2 (w7s.k fk_zMc_334) (by omega)) ?_
                          obtain ⟨w20v, w20e, w20⟩ := ziadd (a := w7x7) (b := Int32.ofInt 1) rfl (show (Int32.ofInt 1).toInt = 1 by decide) (by omega) (by omega)
                          refine zs_iinc (pc := 158) t191_158 (ls' := [(7, .int w20v), (12, .int (zI w7M 333 w14n)), (11, .int w13v), (0, .ref 332), (1, .int a), (2, .int b), (3, .int c), (4, .int d), (5, .int e), (6, .int f), (8, .int w11x8), (9, .int w7x9), (10, .int w10v)]) (zml mf191 (by decide)) rfl (c := w20v) w20e rfl ?_
                          refine zs_aload_n (pc := 161) t191_161 rfl ?_
                          refine zs_get (pc := 162) t191_162 (by decide) (zk1 (w7s.k fk_zMc_332)) (w7s.p rfl fv_zMc_332_4) ?_
                          refine zs_iload (pc := 165) t191_165 rfl ?_
                          refine zs_iload (pc := 167) t191_167 rfl ?_
                          refine zs_iload (pc := 169) t191_169 rfl ?_
                          obtain ⟨w21v, w21⟩ : ∃ v, v = (zI w7M 333 w14n) + e := ⟨_, rfl⟩
                          have w21g := zrg w21v
                          refine zs_iadd (pc := 171) t191_171 (c := w21v) w21.symm ?_
                          have w22 : zIv cLo cHi (zsI (zsI w7M 334 w18n (zI w7M 333 w14n)) 333 w14n w21v) := zIv.put w19 (show (-2147483648) ≤ w21v.toInt ∧ w21v.toInt ≤ 2147483647 from (zrg w21v))
                          refine zs_iast (pc := 172) t191_172 (j := w14n) (by decide) (zk1 (w7s.k fk_zMc_333)) w14 (zk2 (w7s.k fk_zMc_333) (by omega)) ?_
                          refine zs_iload (pc := 173) t191_173 rfl ?_
                          refine zs_iload (pc := 175) t191_175 rfl ?_
                          by_cases w23 : (zI w7M 333 w14n).toInt ≤ w10v.toInt
                          · refine zs_icmp_leT (pc := 177) t191_177 rfl rfl (by omega) ?_
                            refine zs_iload (pc := 196) t191_196 rfl ?_
                            refine zs_iload (pc := 198) t191_198 rfl ?_
                            obtain ⟨w24v, w24⟩ : ∃ v, v = (zI w7M 333 w14n) + e := ⟨_, rfl⟩
                            have w24g := zrg w24v
                            refine zs_iadd (pc := 200) t191_200 (c := w24v) w24.symm ?_
                            refine zs_iload (pc := 201) t191_201 rfl ?_
                            obtain ⟨w25v, w25⟩ : ∃ v, v = w24v - w10v := ⟨_, rfl⟩
                            have w25g := zrg w25v
                            refine zs_isub (pc := 203) t191_203 (c := w25v) w25.symm ?_
                            refine zs_iload (pc := 204) t191_204 rfl ?_
                            by_cases w26 : w25v.toInt ≤ f.toInt
                            · refine zs_icmp_leT (pc := 206) t191_206 rfl rfl (by omega) ?_
                              refine zs_aload_n (pc := 219) t191_219 rfl ?_
                              refine zs_aload_n (pc := 220) t191_220 rfl ?_
                              have w27 := ib332_3 w7I
                              refine zs_get (pc := 221) t191_221 (by decide) (zk1 (w7s.k fk_zMc_332)) (zfvi rfl ((zIo (by decide)).trans ((zIo (by decide)).trans rfl))) ?_
                              refine zs_iload (pc := 224) t191_224 rfl ?_
                              refine zs_iload (pc := 226) t191_226 rfl ?_
                              obtain ⟨w28v, w28⟩ : ∃ v, v = (zI w7M 333 w14n) + e := ⟨_, rfl⟩
                              have w28g := zrg w28v
                              refine zs_iadd (pc := 228) t191_228 (c := w28v) w28.symm ?_
                              refine zs_invS (pc := 229) (as := [.int (zI w7M 332 3), .int w28v]) (st := [.ref 332]) t191_229 (by decide) mf21 rfl rfl ⟨by decide, by decide, Nat.le_of_ble_eq_true rfl, Nat.le_of_ble_eq_true rfl⟩ (zs_in (by decide) mf21 (Nat.le_of_ble_eq_true rfl) ?_) (fun _ _ q => q)
                              show zGo X l 0 0 0 21 0 [(0, .int (zI w7M 332 3)), (1, .int w28v)] [] (zsI (zsI w7M 334 w18n (zI w7M 333 w14n)) 333 w14n w21v) _
                              refine zs_iload_n (pc := 0) t21_0 rfl ?_
                              refine zs_iload_n (pc := 1) t21_1 rfl ?_
                              by_cases w29 : (zI w7M 332 3).toInt < w28v.toInt
                              · refine zs_icmp_ltT (pc := 2) t21_2 rfl rfl (by omega) ?_
                                refine zs_iload_n (pc := 9) t21_9 rfl ?_
                                refine zs_iret (pc := 10) t21_10 mr21 rfl ?_
                                show zGo X l 1 0 0 191 232 [(7, .int w20v), (12, .int (zI w7M 333 w14n)), (11, .int w13v), (0, .ref 332), (1, .int a), (2, .int b), (3, .int c), (4, .int d), (5, .int e), (6, .int f), (8, .int w11x8), (9, .int w7x9), (10, .int w10v)] [.int w28v, .ref 332] (zsI (zsI w7M 334 w18n (zI w7M 333 w14n)) 333 w14n w21v) _
                                have w30 : zIv cLo cHi (zsI (zsI (zsI w7M 334 w18n (zI w7M 333 w14n)) 333 w14n w21v) 332 3 w28v) := zIv.put w22 (show (-2147483648) ≤ w28v.toInt ∧ w28v.toInt ≤ 2147483647 from (zrg w28v))
                                refine zs_putI (pc := 232) t191_232 (zk1 (w7s.k fk_zMc_332)) rfl ?_
                                obtain ⟨w31v, w31e, w31⟩ := ziadd (a := w7x9) (b := Int32.ofInt 1) rfl (show (Int32.ofInt 1).toInt = 1 by decide) (by omega) (by omega)
                                refine zs_iinc (pc := 235) t191_235 (ls' := [(9, .int w31v), (7, .int w20v), (12, .int (zI w7M 333 w14n)), (11, .int w13v), (0, .ref 332), (1, .int a), (2, .int b), (3, .int c), (4, .int d), (5, .int e), (6, .int f), (8, .int w11x8), (10, .int w10v)]) (zml mf191 (by decide)) rfl (c := w31v) w31e rfl ?_
                                refine zs_goto (pc := 238) t191_238 ?_
                                refine zGo.locals (ls' := [(0, .ref 332), (1, .int a), (2, .int b), (3, .int c), (4, .int d), (5, .int e), (6, .int f), (7, .int w20v), (8, .int w11x8), (9, .int w31v)]) (by simp) ?_
                                exact w7ih (w7m - 1) (by omega) w20v w11x8 w31v (zsI (zsI (zsI w7M 334 w18n (zI w7M 333 w14n)) 333 w14n w21v) 332 3 w28v) ⟨by omega, by omega⟩ ⟨by omega, by omega⟩ ⟨by omega, by omega⟩ w7s w30 (((((zFr.refl).trans (w7F.mono rfl)).put rfl).put rfl).put rfl) (by omega)
                              · refine zs_icmp_ltF (pc := 2) t21_2 rfl rfl (by omega) ?_
                                refine zs_iload_n (pc := 5) t21_5 rfl ?_
                                refine zs_goto (pc := 6) t21_6 ?_
                                refine zs_iret (pc := 10) t21_10 mr21 rfl ?_
                                show zGo X l 1 0 0 191 232 [(7, .int w20v), (12, .int (zI w7M 333 w14n)), (11, .int w13v), (0, .ref 332), (1, .int a), (2, .int b), (3, .int c), (4, .int d), (5, .int e), (6, .int f), (8, .int w11x8), (9, .int w7x9), (10, .int w10v)] [.int (zI w7M 332 3), .ref 332] (zsI (zsI w7M 334 w18n (zI w7M 333 w14n)) 333 w14n w21v) _
                                have w32 : zIv cLo cHi (zsI (zsI (zsI w7M 334 w18n (zI w7M 333 w14n)) 333 w14n w21v) 332 3 (zI w7M 332 3)) := zIv.put w22 (show (-2147483648) ≤ (zI w7M 332 3).toInt ∧ (zI w7M 332 3).toInt ≤ 2147483647 from (zrg (zI w7M 332 3)))
                                refine zs_putI (pc := 232) t191_232 (zk1 (w7s.k fk_zMc_332)) rfl ?_
                                obtain ⟨w33v, w33e, w33⟩ := ziadd (a := w7x9) (b := Int32.ofInt 1) rfl (show (Int32.ofInt 1).toInt = 1 by decide) (by omega) (by omega)
                                refine zs_iinc (pc := 235) t191_235 (ls' := [(9, .int w33v), (7, .int w20v), (12, .int (zI w7M 333 w14n)), (11, .int w13v), (0, .ref 332), (1, .int a), (2, .int b), (3, .int c), (4, .int d), (5, .int e), (6, .int f), (8, .int w11x8), (10, .int w10v)]) (zml mf191 (by decide)) rfl (c := w33v) w33e rfl ?_
                                refine zs_goto (pc := 238) t191_238 ?_
                                refine zGo.locals (ls' := [(0, .ref 332), (1, .int a), (2, .int b), (3, .int c), (4, .int d), (5, .int e), (6, .int f), (7, .int w20v), (8, .int w11x8), (9, .int w33v)]) (by simp) ?_
                                exact w7ih (w7m - 1) (by omega) w20v w11x8 w33v (zsI (zsI (zsI w7M 334 w18n (zI w7M 333 w14n)) 333 w14n w21v) 332 3 (zI w7M 332 3)) ⟨by omega, by omega⟩ ⟨by omega, by omega⟩ ⟨by omega, by omega⟩ w7s w32 (((((zFr.refl).trans (w7F.mono rfl)).put rfl).put rfl).put rfl) (by omega)
                            · refine zs_icmp_leF (pc := 206) t191_206 rfl rfl (by omega) ?_
                              refine zs_aload_n (pc := 209) t191_209 rfl ?_
                              refine zs_dup (pc := 210) t191_210 rfl ?_
                              have w34 := ib332_1 w7I
                              refine zs_get (pc := 211) t191_211 (by decide) (zk1 (w7s.k fk_zMc_332)) (zfvi rfl ((zIo (by decide)).trans ((zIo (by decide)).trans rfl))) ?_
                              refine zs_iconst (pc := 214) t191_214 (v := 1) (by decide) ?_
                              obtain ⟨w35v, w35⟩ : ∃ v, v = (zI w7M 332 1) + (1 : Int32) := ⟨_, rfl⟩
                              have w35g := zrg w35v
                              refine zs_iadd (pc := 215) t191_215 (c := w35v) w35.symm ?_
                              have w36 : zIv cLo cHi (zsI (zsI (zsI w7M 334 w18n (zI w7M 333 w14n)) 333 w14n w21v) 332 1 w35v) := zIv.put w22 (show (-2147483648) ≤ w35v.toInt ∧ w35v.toInt ≤ 2147483647 from (zrg w35v))
                              refine zs_putI (pc := 216) t191_216 (zk1 (w7s.k fk_zMc_332)) rfl ?_
                              refine zs_aload_n (pc := 219) t191_219 rfl ?_
                              refine zs_aload_n (pc := 220) t191_220 rfl ?_
                              have w37 := ib332_3 w7I
                              refine zs_get (pc := 221) t191_221 (by decide) (zk1 (w7s.k fk_zMc_332)) (zfvi rfl ((zIoj (by decide)).trans ((zIo (by decide)).trans ((zIo (by decide)).trans rfl)))) ?_
                              refine zs_iload (pc := 224) t191_224 rfl ?_
                              refine zs_iload (pc := 226) t191_226 rfl ?_
                              obtain ⟨w38v, w38⟩ : ∃ v, v = (zI w7M 333 w14n) + e := ⟨_, rfl⟩
                              have w38g := zrg w38v
                              refine zs_iadd (pc := 228) t191_228 (c := w38v) w38.symm ?_
                              refine zs_invS (pc := 229) (as := [.int (zI w7M 332 3), .int w38v]) (st := [.ref 332]) t191_229 (by decide) mf21 rfl rfl ⟨by decide, by decide, Nat.le_of_ble_eq_true rfl, Nat.le_of_ble_eq_true rfl⟩ (zs_in (by decide) mf21 (Nat.le_of_ble_eq_true rfl) ?_) (fun _ _ q => q)
                              show zGo X l 0 0 0 21 0 [(0, .int (zI w7M 332 3)), (1, .int w38v)] [] (zsI (zsI (zsI w7M 334 w18n (zI w7M 333 w14n)) 333 w14n w21v) 332 1 w35v) _
                              refine zs_iload_n (pc := 0) t21_0 rfl ?_
                              refine zs_iload_n (pc := 1) t21_1 rfl ?_
                              by_cases w39 : (zI w7M 332 3).toInt < w38v.toInt
                              · refine zs_icmp_ltT (pc := 2) t21_2 rfl rfl (by omega) ?_
                                refine zs_iload_n (pc := 9) t21_9 rfl ?_
                                refine zs_iret (pc := 10) t21_10 mr21 rfl ?_
                                show zGo X l 1 0 0 191 232 [(7, .int w20v), (12, .int (zI w7M 333 w14n)), (11, .int w13v), (0, .ref 332), (1, .int a), (2, .int b), (3, .int c), (4, .int d), (5, .int e), (6, .int f), (8, .int w11x8), (9, .int w7x9), (10, .int w10v)] [.int w38v, .ref 332] (zsI (zsI (zsI w7M 334 w18n (zI w7M 333 w14n)) 333 w14n w21v) 332 1 w35v) _
                                have w40 : zIv cLo cHi (zsI (zsI (zsI (zsI w7M 334 w18n (zI w7M 333 w14n)) 333 w14n w21v) 332 1 w35v) 332 3 w38v) := zIv.put w36 (show (-2147483648) ≤ w38v.toInt ∧ w38v.toInt ≤ 2147483647 from (zrg w38v))
                                refine zs_putI (pc := 232) t191_232 (zk1 (w7s.k fk_zMc_332)) rfl ?_
                                obtain ⟨w41v, w41e, w41⟩ := ziadd (a := w7x9) (b := Int32.ofInt 1) rfl (show (Int32.ofInt 1).toInt = 1 by decide) (by omega) (by omega)
                                refine zs_iinc (pc := 235) t191_235 (ls' := [(9, .int w41v), (7, .int w20v), (12, .int (zI w7M 333 w14n)), (11, .int w13v), (0, .ref 332), (1, .int a), (2, .int b), (3, .int c), (4, .int d), (5, .int e), (6, .int f), (8, .int w11x8), (10, .int w10v)]) (zml mf191 (by decide)) rfl (c := w41v) w41e rfl ?_
                                refine zs_goto (pc := 238) t191_238 ?_
                                refine zGo.locals (ls' := [(0, .ref 332), (1, .int a), (2, .int b), (3, .int c), (4, .int d), (5, .int e), (6, .int f), (7, .int w20v), (8, .int w11x8), (9, .int w41v)]) (by simp) ?_
                                exact w7ih (w7m - 1) (by omega) w20v w11x8 w41v (zsI (zsI (zsI (zsI w7M 334 w18n (zI w7M 333 w14n)) 333 w14n w21v) 332 1 w35v) 332 3 w38v) ⟨by omega, by omega⟩ ⟨by omega, by omega⟩ ⟨by omega, by omega⟩ w7s w40 ((((((zFr.refl).trans (w7F.mono rfl)).put rfl).put rfl).put rfl).put rfl) (by omega)
                              · refine zs_icmp_ltF (pc := 2) t21_2 rfl rfl (by omega) ?_
                                refine zs_iload_n (pc := 5) t21_5 rfl ?_
                                refine zs_goto (pc := 6) t21_6 ?_
                                refine zs_iret (pc := 10) t21_10 mr21 rfl ?_
                                show zGo X l 1 0 0 191 232 [(7, .int w20v), (12, .int (zI w7M 333 w14n)), (11, .int w13v), (0, .ref 332), (1, .int a), (2, .int b), (3, .int c), (4, .int d), (5, .int e), (6, .int f), (8, .int w11x8), (9, .int w7x9), (10, .int w10v)] [.int (zI w7M 332 3), .ref 332] (zsI (zsI (zsI w7M 334 w18n (zI w7M 333 w14n)) 333 w14n w21v) 332 1 w35v) _
                                have w42 : zIv cLo cHi (zsI (zsI (zsI (zsI w7M 334 w18n (zI w7M 333 w14n)) 333 w14n w21v) 332 1 w35v) 332 3 (zI w7M 332 3)) := zIv.put w36 (show (-2147483648) ≤ (zI w7M 332 3).toInt ∧ (zI w7M 332 3).toInt ≤ 2147483647 from (zrg (zI w7M 332 3)))
                                refine zs_putI (pc := 232) t191_232 (zk1 (w7s.k fk_zMc_332)) rfl ?_
                                obtain ⟨w43v, w43e, w43⟩ := ziadd (a := w7x9) (b := Int32.ofInt 1) rfl (show (Int32.ofInt 1).toInt = 1 by decide) (by omega) (by omega)
                                refine zs_iinc (pc := 235) t191_235 (ls' := [(9, .int w43v), (7, .int w20v), (12, .int (zI w7M 333 w14n)), (11, .int w13v), (0, .ref 332), (1, .int a), (2, .int b), (3, .int c), (4, .int d), (5, .int e), (6, .int f), (8, .int w11x8), (10, .int w10v)]) (zml mf191 (by decide)) rfl (c := w43v) w43e rfl ?_
                                refine zs_goto (pc := 238) t191_238 ?_
                                refine zGo.locals (ls' := [(0, .ref 332), (1, .int a), (2, .int b), (3, .int c), (4, .int d), (5, .int e), (6, .int f), (7, .int w20v), (8, .int w11x8), (9, .int w43v)]) (by simp) ?_
                                exact w7ih (w7m - 1) (by omega) w20v w11x8 w43v (zsI (zsI (zsI (zsI w7M 334 w18n (zI w7M 333 w14n)) 333 w14n w21v) 332 1 w35v) 332 3 (zI w7M 332 3)) ⟨by omega, by omega⟩ ⟨by omega, by omega⟩ ⟨by omega, by omega⟩ w7s w42 ((((((zFr.refl).trans (w7F.mono rfl)).put rfl).put rfl).put rfl).put rfl) (by omega)
                          · refine zs_icmp_leF (pc := 177) t191_177 rfl rfl (by omega) ?_
                            refine zs_aload_n (pc := 180) t191_180 rfl ?_
                            refine zs_aload_n (pc := 181) t191_181 rfl ?_
                            have w44 := ib332_2 w7I
                            refine zs_get (pc := 182) t191_182 (by decide) (zk1 (w7s.k fk_zMc_332)) (zfvi rfl ((zIo (by decide)).trans ((zIo (by decide)).trans rfl))) ?_
                            refine zs_iload (pc := 185) t191_185 rfl ?_
                            refine zs_iload (pc := 187) t191_187 rfl ?_
                            obtain ⟨w45v, w45e, w45⟩ := zisub (a := w20v) (b := w11x8) w20 rfl (by omega) (by omega)
                            refine zs_isub (pc := 189) t191_189 (c := w45v) w45e ?_
                            refine zs_invS (pc := 190) (as := [.int (zI w7M 332 2), .int w45v]) (st := [.ref 332]) t191_190 (by decide) mf21 rfl rfl ⟨by decide, by decide, Nat.le_of_ble_eq_true rfl, Nat.le_of_ble_eq_true rfl⟩ (zs_in (by decide) mf21 (Nat.le_of_ble_eq_true rfl) ?_) (fun _ _ q => q)
                            show zGo X l 0 0 0 21 0 [(0, .int (zI w7M 332 2)), (1, .int w45v)] [] (zsI (zsI w7M 334 w18n (zI w7M 333 w14n)) 333 w14n w21v) _
                            refine zs_iload_n (pc := 0) t21_0 rfl ?_
                            refine zs_iload_n (pc := 1) t21_1 rfl ?_
                            by_cases w46 : (zI w7M 332 2).toInt < ((w7x7.toInt + 1) - w11x8.toInt)
                            · refine zs_icmp_ltT (pc := 2) t21_2 rfl w45 (by omega) ?_
                              refine zs_iload_n (pc := 9) t21_9 rfl ?_
                              refine zs_iret (pc := 10) t21_10 mr21 rfl ?_
                              show zGo X l 1 0 0 191 193 [(7, .int w20v), (12, .int (zI w7M 333 w14n)), (11, .int w13v), (0, .ref 332), (1, .int a), (2, .int b), (3, .int c), (4, .int d), (5, .int e), (6, .int f), (8, .int w11x8), (9, .int w7x9), (10, .int w10v)] [.int w45v, .ref 332] (zsI (zsI w7M 334 w18n (zI w7M 333 w14n)) 333 w14n w21v) _
                              have w47 : zIv cLo cHi (zsI (zsI (zsI w7M 334 w18n (zI w7M 333 w14n)) 333 w14n w21v) 332 2 w45v) := zIv.put w22 (show (-2147483648) ≤ w45v.toInt ∧ w45v.toInt ≤ 2147483647 from (zrg w45v))
                              refine zs_putI (pc := 193) t191_193 (zk1 (w7s.k fk_zMc_332)) rfl ?_
                              refine zs_iload (pc := 196) t191_196 rfl ?_
                              refine zs_iload (pc := 198) t191_198 rfl ?_
                              obtain ⟨w48v, w48⟩ : ∃ v, v = (zI w7M 333 w14n) + e := ⟨_, rfl⟩
                              have w48g := zrg w48v
                              refine zs_iadd (pc := 200) t191_200 (c := w48v) w48.symm ?_
                              refine zs_iload (pc := 201) t191_201 rfl ?_
                              obtain ⟨w49v, w49⟩ : ∃ v, v = w48v - w10v := ⟨_, rfl⟩
                              have w49g := zrg w49v
                              refine zs_isub (pc := 203) t191_203 (c := w49v) w49.symm ?_
                              refine zs_iload (pc := 204) t191_204 rfl ?_
                              by_cases w50 : w49v.toInt ≤ f.toInt
                              · refine zs_icmp_leT (pc := 206) t191_206 rfl rfl (by omega) ?_
                                refine zs_aload_n (pc := 219) t191_219 rfl ?_
                                refine zs_aload_n (pc := 220) t191_220 rfl ?_
                                have w51 := ib332_3 w7I
                                refine zs_get (pc := 221) t191_221 (by decide) (zk1 (w7s.k fk_zMc_332)) (zfvi rfl ((zIoj (by decide)).trans ((zIo (by decide)).trans ((zIo (by decide)).trans rfl)))) ?_
                                refine zs_iload (pc := 224) t191_224 rfl ?_
                                refine zs_iload (pc := 226) t191_226 rfl ?_
                                obtain ⟨w52v, w52⟩ : ∃ v, v = (zI w7M 333 w14n) + e := ⟨_, rfl⟩
                                have w52g := zrg w52v
                                refine zs_iadd (pc := 228) t191_228 (c := w52v) w52.symm ?_
                                refine zs_invS (pc := 229) (as := [.int (zI w7M 332 3), .int w52v]) (st := [.ref 332]) t191_229 (by decide) mf21 rfl rfl ⟨by decide, by decide, Nat.le_of_ble_eq_true rfl, Nat.le_of_ble_eq_true rfl⟩ (zs_in (by decide) mf21 (Nat.le_of_ble_eq_true rfl) ?_) (fun _ _ q => q)
                                show zGo X l 0 0 0 21 0 [(0, .int (zI w7M 332 3)), (1, .int w52v)] [] (zsI (zsI (zsI w7M 334 w18n (zI w7M 333 w14n)) 333 w14n w21v) 332 2 w45v) _
                                refine zs_iload_n (pc := 0) t21_0 rfl ?_
                                refine zs_iload_n (pc := 1) t21_1 rfl ?_
                                by_cases w53 : (zI w7M 332 3).toInt < w52v.toInt
                                · refine zs_icmp_ltT (pc := 2) t21_2 rfl rfl (by omega) ?_
                                  refine zs_iload_n (pc := 9) t21_9 rfl ?_
                                  refine zs_iret (pc := 10) t21_10 mr21 rfl ?_
                                  show zGo X l 1 0 0 191 232 [(7, .int w20v), (12, .int (zI w7M 333 w14n)), (11, .int w13v), (0, .ref 332), (1, .int a), (2, .int b), (3, .int c), (4, .int d), (5, .int e), (6, .int f), (8, .int w11x8), (9, .int w7x9), (10, .int w10v)] [.int w52v, .ref 332] (zsI (zsI (zsI w7M 334 w18n (zI w7M 333 w14n)) 333 w14n w21v) 332 2 w45v) _
                                  have w54 : zIv cLo cHi (zsI (zsI (zsI (zsI w7M 334 w18n (zI w7M 333 w14n)) 333 w14n w21v) 332 2 w45v) 332 3 w52v) := zIv.put w47 (show (-2147483648) ≤ w52v.toInt ∧ w52v.toInt ≤ 2147483647 from (zrg w52v))
                                  refine zs_putI (pc := 232) t191_232 (zk1 (w7s.k fk_zMc_332)) rfl ?_
                                  obtain ⟨w55v, w55e, w55⟩ := ziadd (a := w7x9) (b := Int32.ofInt 1) rfl (show (Int32.ofInt 1).toInt = 1 by decide) (by omega) (by omega)
                                  refine zs_iinc (pc := 235) t191_235 (ls' := [(9, .int w55v), (7, .int w20v), (12, .int (zI w7M 333 w14n)), (11, .int w13v), (0, .ref 332), (1, .int a), (2, .int b), (3, .int c), (4, .int d), (5, .int e), (6, .int f), (8, .int w11x8), (10, .int w10v)]) (zml mf191 (by decide)) rfl (c := w55v) w55e rfl ?_
                                  refine zs_goto (pc := 238) t191_238 ?_
                                  refine zGo.locals (ls' := [(0, .ref 332), (1, .int a), (2, .int b), (3, .int c), (4, .int d), (5, .int e), (6, .int f), (7, .int w20v), (8, .int w11x8), (9, .int w55v)]) (by simp) ?_
                                  exact w7ih (w7m - 1) (by omega) w20v w11x8 w55v (zsI (zsI (zsI (zsI w7M 334 w18n (zI w7M 333 w14n)) 333 w14n w21v) 332 2 w45v) 332 3 w52v) ⟨by omega, by omega⟩ ⟨by omega, by omega⟩ ⟨by omega, by omega⟩ w7s w54 ((((((zFr.refl).trans (w7F.mono rfl)).put rfl).put rfl).put rfl).put rfl) (by omega)
                                · refine zs_icmp_ltF (pc := 2) t21_2 rfl rfl (by omega) ?_
                                  refine zs_iload_n (pc := 5) t21_5 rfl ?_
                                  refine zs_goto (pc := 6) t21_6 ?_
                                  refine zs_iret (pc := 10) t21_10 mr21 rfl ?_
                                  show zGo X l 1 0 0 191 232 [(7, .int w20v), (12, .int (zI w7M 333 w14n)), (11, .int w13v), (0, .ref 332), (1, .int a), (2, .int b), (3, .int c), (4, .int d), (5, .int e), (6, .int f), (8, .int w11x8), (9, .int w7x9), (10, .int w10v)] [.int (zI w7M 332 3), .ref 332] (zsI (zsI (zsI w7M 334 w18n (zI w7M 333 w14n)) 333 w14n w21v) 332 2 w45v) _
                                  have w56 : zIv cLo cHi (zsI (zsI (zsI (zsI w7M 334 w18n (zI w7M 333 w14n)) 333 w14n w21v) 332 2 w45v) 332 3 (zI w7M 332 3)) := zIv.put w47 (show (-2147483648) ≤ (zI w7M 332 3).toInt ∧ (zI w7M 332 3).toInt ≤ 2147483647 from (zrg (zI w7M 332 3)))
                                  refine zs_putI (pc := 232) t191_232 (zk1 (w7s.k fk_zMc_332)) rfl ?_
                                  obtain ⟨w57v, w57e, w57⟩ := ziadd (a := w7x9) (b := Int32.ofInt 1) rfl (show (Int32.ofInt 1).toInt = 1 by decide) (by omega) (by omega)
                                  refine zs_iinc (pc := 235) t191_235 (ls' := [(9, .int w57v), (7, .int w20v), (12, .int (zI w7M 333 w14n)), (11, .int w13v), (0, .ref 332), (1, .int a), (2, .int b), (3, .int c), (4, .int d), (5, .int e), (6, .int f), (8, .int w11x8), (10, .int w10v)]) (zml mf191 (by decide)) rfl (c := w57v) w57e rfl ?_
                                  refine zs_goto (pc := 238) t191_238 ?_
                                  refine zGo.locals (ls' := [(0, .ref 332), (1, .int a), (2, .int b), (3, .int c), (4, .int d), (5, .int e), (6, .int f), (7, .int w20v), (8, .int w11x8), (9, .int w57v)]) (by simp) ?_
                                  exact w7ih (w7m - 1) (by omega) w20v w11x8 w57v (zsI (zsI (zsI (zsI w7M 334 w18n (zI w7M 333 w14n)) 333 w14n w21v) 332 2 w45v) 332 3 (zI w7M 332 3)) ⟨by omega, by omega⟩ ⟨by omega, by omega⟩ ⟨by omega, by omega⟩ w7s w56 ((((((zFr.refl).trans (w7F.mono rfl)).put rfl).put rfl).put rfl).put rfl) (by omega)
                              · refine zs_icmp_leF (pc := 206) t191_206 rfl rfl (by omega) ?_
                                refine zs_aload_n (pc := 209) t191_209 rfl ?_
                                refine zs_dup (pc := 210) t191_210 rfl ?_
                                have w58 := ib332_1 w7I
                                refine zs_get (pc := 211) t191_211 (by decide) (zk1 (w7s.k fk_zMc_332)) (zfvi rfl ((zIoj (by decide)).trans ((zIo (by decide)).trans ((zIo (by decide)).trans rfl)))) ?_
                                refine zs_iconst (pc := 214) t191_214 (v := 1) (by decide) ?_
                                obtain ⟨w59v, w59⟩ : ∃ v, v = (zI w7M 332 1) + (1 : Int32) := ⟨_, rfl⟩
                                have w59g := zrg w59v
                                refine zs_iadd (pc := 215) t191_215 (c := w59v) w59.symm ?_
                                have w60 : zIv cLo cHi (zsI (zsI (zsI (zsI w7M 334 w18n (zI w7M 333 w14n)) 333 w14n w21v) 332 2 w45v) 332 1 w59v) := zIv.put w47 (show (-2147483648) ≤ w59v.toInt ∧ w59v.toInt ≤ 2147483647 from (zrg w59v))
                                refine zs_putI (pc := 216) t191_216 (zk1 (w7s.k fk_zMc_332)) rfl ?_
                                refine zs_aload_n (pc := 219) t191_219 rfl ?_
                                refine zs_aload_n (pc := 220) t191_220 rfl ?_
                                have w61 := ib332_3 w7I
                                refine zs_get (pc := 221) t191_221 (by decide) (zk1 (w7s.k fk_zMc_332)) (zfvi rfl ((zIoj (by decide)).trans ((zIoj (by decide)).trans ((zIo (by decide)).trans ((zIo (by decide)).trans rfl))))) ?_
                                refine zs_iload (pc := 224) t191_224 rfl ?_
                                refine zs_iload (pc := 226) t191_226 rfl ?_
                                obtain ⟨w62v, w62⟩ : ∃ v, v = (zI w7M 333 w14n) + e := ⟨_, rfl⟩
                                have w62g := zrg w62v
                                refine zs_iadd (pc := 228) t191_228 (c := w62v) w62.symm ?_
                                refine zs_invS (pc := 229) (as := [.int (zI w7M 332 3), .int w62v]) (st := [.ref 332]) t191_229 (by decide) mf21 rfl rfl ⟨by decide, by decide, Nat.le_of_ble_eq_true rfl, Nat.le_of_ble_eq_true rfl⟩ (zs_in (by decide) mf21 (Nat.le_of_ble_eq_true rfl) ?_) (fun _ _ q => q)
                                show zGo X l 0 0 0 21 0 [(0, .int (zI w7M 332 3)), (1, .int w62v)] [] (zsI (zsI (zsI (zsI w7M 334 w18n (zI w7M 333 w14n)) 333 w14n w21v) 332 2 w45v) 332 1 w59v) _
                                refine zs_iload_n (pc := 0) t21_0 rfl ?_
                                refine zs_iload_n (pc := 1) t21_1 rfl ?_
                                by_cases w63 : (zI w7M 332 3).toInt < w62v.toInt
                                · refine zs_icmp_ltT (pc := 2) t21_2 rfl rfl (by omega) ?_
                                  refine zs_iload_n (pc := 9) t21_9 rfl ?_
                                  refine zs_iret (pc := 10) t21_10 mr21 rfl ?_
                                  show zGo X l 1 0 0 191 232 [(7, .int w20v), (12, .int (zI w7M 333 w14n)), (11, .int w13v), (0, .ref 332), (1, .int a), (2, .int b), (3, .int c), (4, .int d), (5, .int e), (6, .int f), (8, .int w11x8), (9, .int w7x9), (10, .int w10v)] [.int w62v, .ref 332] (zsI (zsI (zsI (zsI w7M 334 w18n (zI w7M 333 w14n)) 333 w14n w21v) 332 2 w45v) 332 1 w59v) _
                                  have w64 : zIv cLo cHi (zsI (zsI (zsI (zsI (zsI w7M 334 w18n (zI w7M 333 w14n)) 333 w14n w21v) 332 2 w45v) 332 1 w59v) 332 3 w62v) := zIv.put w60 (show (-2147483648) ≤ w62v.toInt ∧ w62v.toInt ≤ 2147483647 from (zrg w62v))
                                  refine zs_putI (pc := 232) t191_232 (zk1 (w7s.k fk_zMc_332)) rfl ?_
                                  obtain ⟨w65v, w65e, w65⟩ := ziadd (a := w7x9) (b := Int32.ofInt 1) rfl (show (Int32.ofInt 1).toInt = 1 by decide) (by omega) (by omega)
                                  refine zs_iinc (pc := 235) t191_235 (ls' := [(9, .int w65v), (7, .int w20v), (12, .int (zI w7M 333 w14n)), (11, .int w13v), (0, .ref 332), (1, .int a), (2, .int b), (3, .int c), (4, .int d), (5, .int e), (6, .int f), (8, .int w11x8), (10, .int w10v)]) (zml mf191 (by decide)) rfl (c := w65v) w65e rfl ?_
                                  refine zs_goto (pc := 238) t191_238 ?_
                                  refine zGo.locals (ls' := [(0, .ref 332), (1, .int a), (2, .int b), (3, .int c), (4, .int d), (5, .int e), (6, .int f), (7, .int w20v), (8, .int w11x8), (9, .int w65v)]) (by simp) ?_
                                  exact w7ih (w7m - 1) (by omega) w20v w11x8 w65v (zsI (zsI (zsI (zsI (zsI w7M 334 w18n (zI w7M 333 w14n)) 333 w14n w21v) 332 2 w45v) 332 1 w59v) 332 3 w62v) ⟨by omega, by omega⟩ ⟨by omega, by omega⟩ ⟨by omega, by omega⟩ w7s w64 (((((((zFr.refl).trans (w7F.mono rfl)).put rfl).put rfl).put rfl).put rfl).put rfl) (by omega)
                                · refine zs_icmp_ltF (pc := 2) t21_2 rfl rfl (by omega) ?_
                                  refine zs_iload_n (pc := 5) t21_5 rfl ?_
                                  refine zs_goto (pc := 6) t21_6 ?_
                                  refine zs_iret (pc := 10) t21_10 mr21 rfl ?_
                                  show zGo X l 1 0 0 191 232 [(7, .int w20v), (12, .int (zI w7M 333 w14n)), (11, .int w13v), (0, .ref 332), (1, .int a), (2, .int b), (3, .int c), (4, .int d), (5, .int e), (6, .int f), (8, .int w11x8), (9, .int w7x9), (10, .int w10v)] [.int (zI w7M 332 3), .ref 332] (zsI (zsI (zsI (zsI w7M 334 w18n (zI w7M 333 w14n)) 333 w14n w21v) 332 2 w45v) 332 1 w59v) _
                                  have w66 : zIv cLo cHi (zsI (zsI (zsI (zsI (zsI w7M 334 w18n (zI w7M 333 w14n)) 333 w14n w21v) 332 2 w45v) 332 1 w59v) 332 3 (zI w7M 332 3)) := zIv.put w60 (show (-2147483648) ≤ (zI w7M 332 3).toInt ∧ (zI w7M 332 3).toInt ≤ 2147483647 from (zrg (zI w7M 332 3)))
                                  refine zs_putI (pc := 232) t191_232 (zk1 (w7s.k fk_zMc_332)) rfl ?_
                                  obtain ⟨w67v, w67e, w67⟩ := ziadd (a := w7x9) (b := Int32.ofInt 1) rfl (show (Int32.ofInt 1).toInt = 1 by decide) (by omega) (by omega)
                                  refine zs_iinc (pc := 235) t191_235 (ls' := [(9, .int w67v), (7, .int w20v), (12, .int (zI w7M 333 w14n)), (11, .int w13v), (0, .ref 332), (1, .int a), (2, .int b), (3, .int c), (4, .int d), (5, .int e), (6, .int f), (8, .int w11x8), (10, .int w10v)]) (zml mf191 (by decide)) rfl (c := w67v) w67e rfl ?_
                                  refine zs_goto (pc := 238) t191_238 ?_
                                  refine zGo.locals (ls' := [(0, .ref 332), (1, .int a), (2, .int b), (3, .int c), (4, .int d), (5, .int e), (6, .int f), (7, .int w20v), (8, .int w11x8), (9, .int w67v)]) (by simp) ?_
                                  exact w7ih (w7m - 1) (by omega) w20v w11x8 w67v (zsI (zsI (zsI (zsI (zsI w7M 334 w18n (zI w7M 333 w14n)) 333 w14n w21v) 332 2 w45v) 332 1 w59v) 332 3 (zI w7M 332 3)) ⟨by omega, by omega⟩ ⟨by omega, by omega⟩ ⟨by omega, by omega⟩ w7s w66 (((((((zFr.refl).trans (w7F.mono rfl)).put rfl).put rfl).put rfl).put rfl).put rfl) (by omega)
                            · refine zs_icmp_ltF (pc := 2) t21_2 rfl w45 (by omega) ?_
                              refine zs_iload_n (pc := 5) t21_5 rfl ?_
                              refine zs_goto (pc := 6) t21_6 ?_
                              refine zs_iret (pc := 10) t21_10 mr21 rfl ?_
                              show zGo X l 1 0 0 191 193 [(7, .int w20v), (12, .int (zI w7M 333 w14n)), (11, .int w13v), (0, .ref 332), (1, .int a), (2, .int b), (3, .int c), (4, .int d), (5, .int e), (6, .int f), (8, .int w11x8), (9, .int w7x9), (10, .int w10v)] [.int (zI w7M 332 2), .ref 332] (zsI (zsI w7M 334 w18n (zI w7M 333 w14n)) 333 w14n w21v) _
                              have w68 : zIv cLo cHi (zsI (zsI (zsI w7M 334 w18n (zI w7M 333 w14n)) 333 w14n w21v) 332 2 (zI w7M 332 2)) := zIv.put w22 (show (-2147483648) ≤ (zI w7M 332 2).toInt ∧ (zI w7M 332 2).toInt ≤ 2147483647 from (zrg (zI w7M 332 2)))
                              refine zs_putI (pc := 193) t191_193 (zk1 (w7s.k fk_zMc_332)) rfl ?_
                              refine zs_iload (pc := 196) t191_196 rfl ?_
                              refine zs_iload (pc := 198) t191_198 rfl ?_
                              obtain ⟨w69v, w69⟩ : ∃ v, v = (zI w7M 333 w14n) + e := ⟨_, rfl⟩
                              have w69g := zrg w69v
                              refine zs_iadd (pc := 200) t191_200 (c := w69v) w69.symm ?_
                              refine zs_iload (pc := 201) t191_201 rfl ?_
                              obtain ⟨w70v, w70⟩ : ∃ v, v = w69v - w10v := ⟨_, rfl⟩
                              have w70g := zrg w70v
                              refine zs_isub (pc := 203) t191_203 (c := w70v) w70.symm ?_
                              refine zs_iload (pc := 204) t191_204 rfl ?_
                              by_cases w71 : w70v.toInt ≤ f.toInt
                              · refine zs_icmp_leT (pc := 206) t191_206 rfl rfl (by omega) ?_
                                refine zs_aload_n (pc := 219) t191_219 rfl ?_
                                refine zs_aload_n (pc := 220) t191_220 rfl ?_
                                have w72 := ib332_3 w7I
                                refine zs_get (pc := 221) t191_221 (by decide) (zk1 (w7s.k fk_zMc_332)) (zfvi rfl ((zIoj (by decide)).trans ((zIo (by decide)).trans ((zIo (by decide)).trans rfl)))) ?_
                                refine zs_iload (pc := 224) t191_224 rfl ?_
                                refine zs_iload (pc := 226) t191_226 rfl ?_
                                obtain ⟨w73v, w73⟩ : ∃ v, v = (zI w7M 333 w14n) + e := ⟨_, rfl⟩
                                have w73g := zrg w73v
                                refine zs_iadd (pc := 228) t191_228 (c := w73v) w73.symm ?_
                                refine zs_invS (pc := 229) (as := [.int (zI w7M 332 3), .int w73v]) (st := [.ref 332]) t191_229 (by decide) mf21 rfl rfl ⟨by decide, by decide, Nat.le_of_ble_eq_true rfl, Nat.le_of_ble_eq_true rfl⟩ (zs_in (by decide) mf21 (Nat.le_of_ble_eq_true rfl) ?_) (fun _ _ q => q)
                                show zGo X l 0 0 0 21 0 [(0, .int (zI w7M 332 3)), (1, .int w73v)] [] (zsI (zsI (zsI w7M 334 w18n (zI w7M 333 w14n)) 333 w14n w21v) 332 2 (zI w7M 332 2)) _
                                refine zs_iload_n (pc := 0) t21_0 rfl ?_
                                refine zs_iload_n (pc := 1) t21_1 rfl ?_
                                by_cases w74 : (zI w7M 332 3).toInt < w73v.toInt
                                · refine zs_icmp_ltT (pc := 2) t21_2 rfl rfl (by omega) ?_
                                  refine zs_iload_n (pc := 9) t21_9 rfl ?_
                                  refine zs_iret (pc := 10) t21_10 mr21 rfl ?_
                                  show zGo X l 1 0 0 191 232 [(7, .int w20v), (12, .int (zI w7M 333 w14n)), (11, .int w13v), (0, .ref 332), (1, .int a), (2, .int b), (3, .int c), (4, .int d), (5, .int e), (6, .int f), (8, .int w11x8), (9, .int w7x9), (10, .int w10v)] [.int w73v, .ref 332] (zsI (zsI (zsI w7M 334 w18n (zI w7M 333 w14n)) 333 w14n w21v) 332 2 (zI w7M 332 2)) _
                                  have w75 : zIv cLo cHi (zsI (zsI (zsI (zsI w7M 334 w18n (zI w7M 333 w14n)) 333 w14n w21v) 332 2 (zI w7M 332 2)) 332 3 w73v) := zIv.put w68 (show (-2147483648) ≤ w73v.toInt ∧ w73v.toInt ≤ 2147483647 from (zrg w73v))
                                  refine zs_putI (pc := 232) t191_232 (zk1 (w7s.k fk_zMc_332)) rfl ?_
                                  obtain ⟨w76v, w76e, w76⟩ := ziadd (a := w7x9) (b := Int32.ofInt 1) rfl (show (Int32.ofInt 1).toInt = 1 by decide) (by omega) (by omega)
                                  refine zs_iinc (pc := 235) t191_235 (ls' := [(9, .int w76v), (7, .int w20v), (12, .int (zI w7M 333 w14n)), (11, .int w13v), (0, .ref 332), (1, .int a), (2, .int b), (3, .int c), (4, .int d), (5, .int e), (6, .int f), (8, .int w11x8), (10, .int w10v)]) (zml mf191 (by decide)) rfl (c := w76v) w76e rfl ?_
                                  refine zs_goto (pc := 238) t191_238 ?_
                                  refine zGo.locals (ls' := [(0, .ref 332), (1, .int a), (2, .int b), (3, .int c), (4, .int d), (5, .int e), (6, .int f), (7, .int w20v), (8, .int w11x8), (9, .int w76v)]) (by simp) ?_
                                  exact w7ih (w7m - 1) (by omega) w20v w11x8 w76v (zsI (zsI (zsI (zsI w7M 334 w18n (zI w7M 333 w14n)) 333 w14n w21v) 332 2 (zI w7M 332 2)) 332 3 w73v) ⟨by omega, by omega⟩ ⟨by omega, by omega⟩ ⟨by omega, by omega⟩ w7s w75 ((((((zFr.refl).trans (w7F.mono rfl)).put rfl).put rfl).put rfl).put rfl) (by omega)
                                · refine zs_icmp_ltF (pc := 2) t21_2 rfl rfl (by omega) ?_
                                  refine zs_iload_n (pc := 5) t21_5 rfl ?_
                                  refine zs_goto (pc := 6) t21_6 ?_
                                  refine zs_iret (pc := 10) t21_10 mr21 rfl ?_
                                  show zGo X l 1 0 0 191 232 [(7, .int w20v), (12, .int (zI w7M 333 w14n)), (11, .int w13v), (0, .ref 332), (1, .int a), (2, .int b), (3, .int c), (4, .int d), (5, .int e), (6, .int f), (8, .int w11x8), (9, .int w7x9), (10, .int w10v)] [.int (zI w7M 332 3), .ref 332] (zsI (zsI (zsI w7M 334 w18n (zI w7M 333 w14n)) 333 w14n w21v) 332 2 (zI w7M 332 2)) _
                                  have w77 : zIv cLo cHi (zsI (zsI (zsI (zsI w7M 334 w18n (zI w7M 333 w14n)) 333 w14n w21v) 332 2 (zI w7M 332 2)) 332 3 (zI w7M 332 3)) := zIv.put w68 (show (-2147483648) ≤ (zI w7M 332 3).toInt ∧ (zI w7M 332 3).toInt ≤ 2147483647 from (zrg (zI w7M 332 3)))
                                  refine zs_putI (pc := 232) t191_232 (zk1 (w7s.k fk_zMc_332)) rfl ?_
                                  obtain ⟨w78v, w78e, w78⟩ := ziadd (a := w7x9) (b := Int32.ofInt 1) rfl (show (Int32.ofInt 1).toInt = 1 by decide) (by omega) (by omega)
                                  refine zs_iinc (pc := 235) t191_235 (ls' := [(9, .int w78v), (7, .int w20v), (12, .int (zI w7M 333 w14n)), (11, .int w13v), (0, .ref 332), (1, .int a), (2, .int b), (3, .int c), (4, .int d), (5, .int e), (6, .int f), (8, .int w11x8), (10, .int w10v)]) (zml mf191 (by decide)) rfl (c := w78v) w78e rfl ?_
                                  refine zs_goto (pc := 238) t191_238 ?_
                                  refine zGo.locals (ls' := [(0, .ref 332), (1, .int a), (2, .int b), (3, .int c), (4, .int d), (5, .int e), (6, .int f), (7, .int w20v), (8, .int w11x8), (9, .int w78v)]) (by simp) ?_
                                  exact w7ih (w7m - 1) (by omega) w20v w11x8 w78v (zsI (zsI (zsI (zsI w7M 334 w18n (zI w7M 333 w14n)) 333 w14n w21v) 332 2 (zI w7M 332 2)) 332 3 (zI w7M 332 3)) ⟨by omega, by omega⟩ ⟨by omega, by omega⟩ ⟨by omega, by omega⟩ w7s w77 ((((((zFr.refl).trans (w7F.mono rfl)).put rfl).put rfl).put rfl).put rfl) (by omega)
                              · refine zs_icmp_leF (pc := 206) t191_206 rfl rfl (by omega) ?_
                                refine zs_aload_n (pc := 209) t191_209 rfl ?_
                                refine zs_dup (pc := 210) t191_210 rfl ?_
                                have w79 := ib332_1 w7I
                                refine zs_get (pc := 211) t191_211 (by decide) (zk1 (w7s.k fk_zMc_332)) (zfvi rfl ((zIoj (by decide)).trans ((zIo (by decide)).trans ((zIo (by decide)).trans rfl)))) ?_
                                refine zs_iconst (pc := 214) t191_214 (v := 1) (by decide) ?_
                                obtain ⟨w80v, w80⟩ : ∃ v, v = (zI w7M 332 1) + (1 : Int32) := ⟨_, rfl⟩
                                have w80g := zrg w80v
                                refine zs_iadd (pc := 215) t191_215 (c := w80v) w80.symm ?_
                                have w81 : zIv cLo cHi (zsI (zsI (zsI (zsI w7M 334 w18n (zI w7M 333 w14n)) 333 w14n w21v) 332 2 (zI w7M 332 2)) 332 1 w80v) := zIv.put w68 (show (-2147483648) ≤ w80v.toInt ∧ w80v.toInt ≤ 2147483647 from (zrg w80v))
                                refine zs_putI (pc := 216) t191_216 (zk1 (w7s.k fk_zMc_332)) rfl ?_
                                refine zs_aload_n (pc := 219) t191_219 rfl ?_
                                refine zs_aload_n (pc := 220) t191_220 rfl ?_
                                have w82 := ib332_3 w7I
                                refine zs_get (pc := 221) t191_221 (by decide) (zk1 (w7s.k fk_zMc_332)) (zfvi rfl ((zIoj (by decide)).trans ((zIoj (by decide)).trans ((zIo (by decide)).trans ((zIo (by decide)).trans rfl))))) ?_
                                refine zs_iload (pc := 224) t191_224 rfl ?_
                                refine zs_iload (pc := 226) t191_226 rfl ?_
                                obtain ⟨w83v, w83⟩ : ∃ v, v = (zI w7M 333 w14n) + e := ⟨_, rfl⟩
                                have w83g := zrg w83v
                                refine zs_iadd (pc := 228) t191_228 (c := w83v) w83.symm ?_
                                refine zs_invS (pc := 229) (as := [.int (zI w7M 332 3), .int w83v]) (st := [.ref 332]) t191_229 (by decide) mf21 rfl rfl ⟨by decide, by decide, Nat.le_of_ble_eq_true rfl, Nat.le_of_ble_eq_true rfl⟩ (zs_in (by decide) mf21 (Nat.le_of_ble_eq_true rfl) ?_) (fun _ _ q => q)
                                show zGo X l 0 0 0 21 0 [(0, .int (zI w7M 332 3)), (1, .int w83v)] [] (zsI (zsI (zsI (zsI w7M 334 w18n (zI w7M 333 w14n)) 333 w14n w21v) 332 2 (zI w7M 332 2)) 332 1 w80v) _
                                refine zs_iload_n (pc := 0) t21_0 rfl ?_
                                refine zs_iload_n (pc := 1) t21_1 rfl ?_
                                by_cases w84 : (zI w7M 332 3).toInt < w83v.toInt
                                · refine zs_icmp_ltT (pc := 2) t21_2 rfl rfl (by omega) ?_
                                  refine zs_iload_n (pc := 9) t21_9 rfl ?_
                                  refine zs_iret (pc := 10) t21_10 mr21 rfl ?_
                                  show zGo X l 1 0 0 191 232 [(7, .int w20v), (12, .int (zI w7M 333 w14n)), (11, .int w13v), (0, .ref 332), (1, .int a), (2, .int b), (3, .int c), (4, .int d), (5, .int e), (6, .int f), (8, .int w11x8), (9, .int w7x9), (10, .int w10v)] [.int w83v, .ref 332] (zsI (zsI (zsI (zsI w7M 334 w18n (zI w7M 333 w14n)) 333 w14n w21v) 332 2 (zI w7M 332 2)) 332 1 w80v) _
                                  have w85 : zIv cLo cHi (zsI (zsI (zsI (zsI (zsI w7M 334 w18n (zI w7M 333 w14n)) 333 w14n w21v) 332 2 (zI w7M 332 2)) 332 1 w80v) 332 3 w83v) := zIv.put w81 (show (-2147483648) ≤ w83v.toInt ∧ w83v.toInt ≤ 2147483647 from (zrg w83v))
                                  refine zs_putI (pc := 232) t191_232 (zk1 (w7s.k fk_zMc_332)) rfl ?_
                                  obtain ⟨w86v, w86e, w86⟩ := ziadd (a := w7x9) (b := Int32.ofInt 1) rfl (show (Int32.ofInt 1).toInt = 1 by decide) (by omega) (by omega)
                                  refine zs_iinc (pc := 235) t191_235 (ls' := [(9, .int w86v), (7, .int w20v), (12, .int (zI w7M 333 w14n)), (11, .int w13v), (0, .ref 332), (1, .int a), (2, .int b), (3, .int c), (4, .int d), (5, .int e), (6, .int f), (8, .int w11x8), (10, .int w10v)]) (zml mf191 (by decide)) rfl (c := w86v) w86e rfl ?_
                                  refine zs_goto (pc := 238) t191_238 ?_
                                  refine zGo.locals (ls' := [(0, .ref 332), (1, .int a), (2, .int b), (3, .int c), (4, .int d), (5, .int e), (6, .int f), (7, .int w20v), (8, .int w11x8), (9, .int w86v)]) (by simp) ?_
                                  exact w7ih (w7m - 1) (by omega) w20v w11x8 w86v (zsI (zsI (zsI (zsI (zsI w7M 334 w18n (zI w7M 333 w14n)) 333 w14n w21v) 332 2 (zI w7M 332 2)) 332 1 w80v) 332 3 w83v) ⟨by omega, by omega⟩ ⟨by omega, by omega⟩ ⟨by omega, by omega⟩ w7s w85 (((((((zFr.refl).trans (w7F.mono rfl)).put rfl).put rfl).put rfl).put rfl).put rfl) (by omega)
                                · refine zs_icmp_ltF (pc := 2) t21_2 rfl rfl (by omega) ?_
                                  refine zs_iload_n (pc := 5) t21_5 rfl ?_
                                  refine zs_goto (pc := 6) t21_6 ?_
                                  refine zs_iret (pc := 10) t21_10 mr21 rfl ?_
                                  show zGo X l 1 0 0 191 232 [(7, .int w20v), (12, .int (zI w7M 333 w14n)), (11, .int w13v), (0, .ref 332), (1, .int a), (2, .int b), (3, .int c), (4, .int d), (5, .int e), (6, .int f), (8, .int w11x8), (9, .int w7x9), (10, .int w10v)] [.int (zI w7M 332 3), .ref 332] (zsI (zsI (zsI (zsI w7M 334 w18n (zI w7M 333 w14n)) 333 w14n w21v) 332 2 (zI w7M 332 2)) 332 1 w80v) _
                                  have w87 : zIv cLo cHi (zsI (zsI (zsI (zsI (zsI w7M 334 w18n (zI w7M 333 w14n)) 333 w14n w21v) 332 2 (zI w7M 332 2)) 332 1 w80v) 332 3 (zI w7M 332 3)) := zIv.put w81 (show (-2147483648) ≤ (zI w7M 332 3).toInt ∧ (zI w7M 332 3).toInt ≤ 2147483647 from (zrg (zI w7M 332 3)))
                                  refine zs_putI (pc := 232) t191_232 (zk1 (w7s.k fk_zMc_332)) rfl ?_
                                  obtain ⟨w88v, w88e, w88⟩ := ziadd (a := w7x9) (b := Int32.ofInt 1) rfl (show (Int32.ofInt 1).toInt = 1 by decide) (by omega) (by omega)
                                  refine zs_iinc (pc := 235) t191_235 (ls' := [(9, .int w88v), (7, .int w20v), (12, .int (zI w7M 333 w14n)), (11, .int w13v), (0, .ref 332), (1, .int a), (2, .int b), (3, .int c), (4, .int d), (5, .int e), (6, .int f), (8, .int w11x8), (10, .int w10v)]) (zml mf191 (by decide)) rfl (c := w88v) w88e rfl ?_
                                  refine zs_goto (pc := 238) t191_238 ?_
                                  refine zGo.locals (ls' := [(0, .ref 332), (1, .int a), (2, .int b), (3, .int c), (4, .int d), (5, .int e), (6, .int f), (7, .int w20v), (8, .int w11x8), (9, .int w88v)]) (by simp) ?_
                                  exact w7ih (w7m - 1) (by omega) w20v w11x8 w88v (zsI (zsI (zsI (zsI (zsI w7M 334 w18n (zI w7M 333 w14n)) 333 w14n w21v) 332 2 (zI w7M 332 2)) 332 1 w80v) 332 3 (zI w7M 332 3)) ⟨by omega, by omega⟩ ⟨by omega, by omega⟩ ⟨by omega, by omega⟩ w7s w87 (((((((zFr.refl).trans (w7F.mono rfl)).put rfl).put rfl).put rfl).put rfl).put rfl) (by omega)
                        · refine zs_icmp_leF (pc := 123) t191_123 rfl rfl (by omega) ?_
                          refine zs_iload (pc := 126) t191_126 rfl ?_
                          refine zs_iload (pc := 128) t191_128 rfl ?_
                          obtain ⟨w89v, w89e, w89⟩ := zisub (a := w7x7) (b := w11x8) rfl rfl (by omega) (by omega)
                          refine zs_isub (pc := 130) t191_130 (c := w89v) w89e ?_
                          refine zs_iload (pc := 131) t191_131 rfl ?_
                          by_cases w90 : (w7x7.toInt - w11x8.toInt) < d.toInt
                          · refine zs_icmp_ltT (pc := 133) t191_133 w89 rfl (by omega) ?_
                            refine zs_aload_n (pc := 149) t191_149 rfl ?_
                            refine zs_get (pc := 150) t191_150 (by decide) (zk1 (w7s.k fk_zMc_332)) (w7s.p rfl fv_zMc_332_5) ?_
                            refine zs_iload (pc := 153) t191_153 rfl ?_
                            refine zs_iload (pc := 155) t191_155 rfl ?_
                            obtain ⟨w91n, w91⟩ : ∃ n : Nat, w7x7.toInt = (n : Int) := ⟨w7x7.toInt.toNat, by omega⟩
                            have w92 : zIv cLo cHi (zsI w7M 334 w91n (zI w7M 333 w14n)) := zIv.put w7I (show (-2147483648) ≤ (zI w7M 333 w14n).toInt ∧ (zI w7M 333 w14n).toInt ≤ 2147483647 from (zrg (zI w7M 333 w14n)))
                            refine zs_iast (pc := 157) t191_157 (j := w91n) (by decide) (zk1 (w7s.k fk_zMc_334)) w91 (zk2 (w7s.k fk_zMc_334) (by omega)) ?_
                            obtain ⟨w93v, w93e, w93⟩ := ziadd (a := w7x7) (b := Int32.ofInt 1) rfl (show (Int32.ofInt 1).toInt = 1 by decide) (by omega) (by omega)
                            refine zs_iinc (pc := 158) t191_158 (ls' := [(7, .int w93v), (12, .int (zI w7M 333 w14n)), (11, .int w13v), (0, .ref 332), (1, .int a), (2, .int b), (3, .int c), (4, .int d), (5, .int e), (6, .int f), (8, .int w11x8), (9, .int w7x9), (10, .int w10v)]) (zml mf191 (by decide)) rfl (c := w93v) w93e rfl ?_
                            refine zs_aload_n (pc := 161) t191_161 rfl ?_
                            refine zs_get (pc := 162) t191_162 (by decide) (zk1 (w7s.k fk_zMc_332)) (w7s.p rfl fv_zMc_332_4) ?_
                            refine zs_iload (pc := 165) t191_165 rfl ?_
                            refine zs_iload (pc := 167) t191_167 rfl ?_
                            refine zs_iload (pc := 169) t191_169 rfl ?_
                            obtain ⟨w94v, w94⟩ : ∃ v, v = (zI w7M 333 w14n) + e := ⟨_, rfl⟩
                            have w94g := zrg w94v
                            refine zs_iadd (pc := 171) t191_171 (c := w94v) w94.symm ?_
                            have w95 : zIv cLo cHi (zsI (zsI w7M 334 w91n (zI w7M 333 w14n)) 333 w14n w94v) := zIv.put w92 (show (-2147483648) ≤ w94v.toInt ∧ w94v.toInt ≤ 2147483647 from (zrg w94v))
                            refine zs_iast (pc := 172) t191_172 (j := w14n) (by decide) (zk1 (w7s.k fk_zMc_333)) w14 (zk2 (w7s.k fk_zMc_333) (by omega)) ?_
                            refine zs_iload (pc := 173) t191_173 rfl ?_
                            refine zs_iload (pc := 175) t191_175 rfl ?_
                            by_cases w96 : (zI w7M 333 w14n).toInt ≤ w10v.toInt
                            · refine zs_icmp_leT (pc := 177) t191_177 rfl rfl (by omega) ?_
                              refine zs_iload (pc := 196) t191_196 rfl ?_
                              refine zs_iload (pc := 198) t191_198 rfl ?_
                              obtain ⟨w97v, w97⟩ : ∃ v, v = (zI w7M 333 w14n) + e := ⟨_, rfl⟩
                              have w97g := zrg w97v
                              refine zs_iadd (pc := 200) t191_200 (c := w97v) w97.symm ?_
                              refine zs_iload (pc := 201) t191_201 rfl ?_
                              obtain ⟨w98v, w98⟩ : ∃ v, v = w97v - w10v := ⟨_, rfl⟩
                              have w98g := zrg w98v
                              refine zs_isub (pc := 203) t191_203 (c := w98v) w98.symm ?_
                              refine zs_iload (pc := 204) t191_204 rfl ?_
                              by_cases w99 : w98v.toInt ≤ f.toInt
                              · refine zs_icmp_leT (pc := 206) t191_206 rfl rfl (by omega) ?_
                                refine zs_aload_n (pc := 219) t191_219 rfl ?_
                                refine zs_aload_n (pc := 220) t191_220 rfl ?_
                                have w100 := ib332_3 w7I
                                refine zs_get (pc := 221) t191_221 (by decide) (zk1 (w7s.k fk_zMc_332)) (zfvi rfl ((zIo (by decide)).trans ((zIo (by decide)).trans rfl))) ?_
                                refine zs_iload (pc := 224) t191_224 rfl ?_
                                refine zs_iload (pc := 226) t191_226 rfl ?_
                                obtain ⟨w101v, w101⟩ : ∃ v, v = (zI w7M 333 w14n) + e := ⟨_, rfl⟩
                                have w101g := zrg w101v
                                refine zs_iadd (pc := 228) t191_228 (c := w101v) w101.symm ?_
                                refine zs_invS (pc := 229) (as := [.int (zI w7M 332 3), .int w101v]) (st := [.ref 332]) t191_229 (by decide) mf21 rfl rfl ⟨by decide, by decide, Nat.le_of_ble_eq_true rfl, Nat.le_of_ble_eq_true rfl⟩ (zs_in (by decide) mf21 (Nat.le_of_ble_eq_true rfl) ?_) (fun _ _ q => q)
                                show zGo X l 0 0 0 21 0 [(0, .int (zI w7M 332 3)), (1, .int w101v)] [] (zsI (zsI w7M 334 w91n (zI w7M 333 w14n)) 333 w14n w94v) _
                                refine zs_iload_n (pc := 0) t21_0 rfl ?_
                                refine zs_iload_n (pc := 1) t21_1 rfl ?_
                                by_cases w102 : (zI w7M 332 3).toInt < w101v.toInt
                                · refine zs_icmp_ltT (pc := 2) t21_2 rfl rfl (by omega) ?_
                                  refine zs_iload_n (pc := 9) t21_9 rfl ?_
                                  refine zs_iret (pc := 10) t21_10 mr21 rfl ?_
                                  show zGo X l 1 0 0 191 232 [(7, .int w93v), (12, .int (zI w7M 333 w14n)), (11, .int w13v), (0, .ref 332), (1, .int a), (2, .int b), (3, .int c), (4, .int d), (5, .int e), (6, .int f), (8, .int w11x8), (9, .int w7x9), (10, .int w10v)] [.int w101v, .ref 332] (zsI (zsI w7M 334 w91n (zI w7M 333 w14n)) 333 w14n w94v) _
                                  have w103 : zIv cLo cHi (zsI (zsI (zsI w7M 334 w91n (zI w7M 333 w14n)) 333 w14n w94v) 332 3 w101v) := zIv.put w95 (show (-2147483648) ≤ w101v.toInt ∧ w101v.toInt ≤ 2147483647 from (zrg w101v))
                                  refine zs_putI (pc := 232) t191_232 (zk1 (w7s.k fk_zMc_332)) rfl ?_
                                  obtain ⟨w104v, w104e, w104⟩ := ziadd (a := w7x9) (b := Int32.ofInt 1) rfl (show (Int32.ofInt 1).toInt = 1 by decide) (by omega) (by omega)
                                  refine zs_iinc (pc := 235) t191_235 (ls' := [(9, .int w104v), (7, .int w93v), (12, .int (zI w7M 333 w14n)), (11, .int w13v), (0, .ref 332), (1, .int a), (2, .int b), (3, .int c), (4, .int d), (5, .int e), (6, .int f), (8, .int w11x8), (10, .int w10v)]) (zml mf191 (by decide)) rfl (c := w104v) w104e rfl ?_
                                  refine zs_goto (pc := 238) t191_238 ?_
                                  refine zGo.locals (ls' := [(0, .ref 332), (1, .int a), (2, .int b), (3, .int c), (4, .int d), (5, .int e), (6, .int f), (7, .int w93v), (8, .int w11x8), (9, .int w104v)]) (by simp) ?_
                                  exact w7ih (w7m - 1) (by omega) w93v w11x8 w104v (zsI (zsI (zsI w7M 334 w91n (zI w7M 333 w14n)) 333 w14n w94v) 332 3 w101v) ⟨by omega, by omega⟩ ⟨by omega, by omega⟩ ⟨by omega, by omega⟩ w7s w103 (((((zFr.refl).trans (w7F.mono rfl)).put rfl).put rfl).put rfl) (by omega)
                                · refine zs_icmp_ltF (pc := 2) t21_2 rfl rfl (by omega) ?_
                                  refine zs_iload_n (pc := 5) t21_5 rfl ?_
                                  refine zs_goto (pc := 6) t21_6 ?_
                                  refine zs_iret (pc := 10) t21_10 mr21 rfl ?_
                                  show zGo X l 1 0 0 191 232 [(7, .int w93v), (12, .int (zI w7M 333 w14n)), (11, .int w13v), (0, .ref 332), (1, .int a), (2, .int b), (3, .int c), (4, .int d), (5, .int e), (6, .int f), (8, .int w11x8), (9, .int w7x9), (10, .int w10v)] [.int (zI w7M 332 3), .ref 332] (zsI (zsI w7M 334 w91n (zI w7M 333 w14n)) 333 w14n w94v) _
                                  have w105 : zIv cLo cHi (zsI (zsI (zsI w7M 334 w91n (zI w7M 333 w14n)) 333 w14n w94v) 332 3 (zI w7M 332 3)) := zIv.put w95 (show (-2147483648) ≤ (zI w7M 332 3).toInt ∧ (zI w7M 332 3).toInt ≤ 2147483647 from (zrg (zI w7M 332 3)))
                                  refine zs_putI (pc := 232) t191_232 (zk1 (w7s.k fk_zMc_332)) rfl ?_
                                  obtain ⟨w106v, w106e, w106⟩ := ziadd (a := w7x9) (b := Int32.ofInt 1) rfl (show (Int32.ofInt 1).toInt = 1 by decide) (by omega) (by omega)
                                  refine zs_iinc (pc := 235) t191_235 (ls' := [(9, .int w106v), (7, .int w93v), (12, .int (zI w7M 333 w14n)), (11, .int w13v), (0, .ref 332), (1, .int a), (2, .int b), (3, .int c), (4, .int d), (5, .int e), (6, .int f), (8, .int w11x8), (10, .int w10v)]) (zml mf191 (by decide)) rfl (c := w106v) w106e rfl ?_
                                  refine zs_goto (pc := 238) t191_238 ?_
                                  refine zGo.locals (ls' := [(0, .ref 332), (1, .int a), (2, .int b), (3, .int c), (4, .int d), (5, .int e), (6, .int f), (7, .int w93v), (8, .int w11x8), (9, .int w106v)]) (by simp) ?_
                                  exact w7ih (w7m - 1) (by omega) w93v w11x8 w106v (zsI (zsI (zsI w7M 334 w91n (zI w7M 333 w14n)) 333 w14n w94v) 332 3 (zI w7M 332 3)) ⟨by omega, by omega⟩ ⟨by omega, by omega⟩ ⟨by omega, by omega⟩ w7s w105 (((((zFr.refl).trans (w7F.mono rfl)).put rfl).put rfl).put rfl) (by omega)
                              · refine zs_icmp_leF (pc := 206) t191_206 rfl rfl (by omega) ?_
                                refine zs_aload_n (pc := 209) t191_209 rfl ?_
                                refine zs_dup (pc := 210) t191_210 rfl ?_
                                have w107 := ib332_1 w7I
                                refine zs_get (pc := 211) t191_211 (by decide) (zk1 (w7s.k fk_zMc_332)) (zfvi rfl ((zIo (by decide)).trans ((zIo (by decide)).trans rfl))) ?_
                                refine zs_iconst (pc := 214) t191_214 (v := 1) (by decide) ?_
                                obtain ⟨w108v, w108⟩ : ∃ v, v = (zI w7M 332 1) + (1 : Int32) := ⟨_, rfl⟩
                                have w108g := zrg w108v
                                refine zs_iadd (pc := 215) t191_215 (c := w108v) w108.symm ?_
                                have w109 : zIv cLo cHi (zsI (zsI (zsI w7M 334 w91n (zI w7M 333 w14n)) 333 w14n w94v) 332 1 w108v) := zIv.put w95 (show (-2147483648) ≤ w108v.toInt ∧ w108v.toInt ≤ 2147483647 from (zrg w108v))
                                refine zs_putI (pc := 216) t191_216 (zk1 (w7s.k fk_zMc_332)) rfl ?_
                                refine zs_aload_n (pc := 219) t191_219 rfl ?_
                                refine zs_aload_n (pc := 220) t191_220 rfl ?_
                                have w110 := ib332_3 w7I
                                refine zs_get (pc := 221) t191_221 (by decide) (zk1 (w7s.k fk_zMc_332)) (zfvi rfl ((zIoj (by decide)).trans ((zIo (by decide)).trans ((zIo (by decide)).trans rfl)))) ?_
                                refine zs_iload (pc := 224) t191_224 rfl ?_
                                refine zs_iload (pc := 226) t191_226 rfl ?_
                                obtain ⟨w111v, w111⟩ : ∃ v, v = (zI w7M 333 w14n) + e := ⟨_, rfl⟩
                                have w111g := zrg w111v
                                refine zs_iadd (pc := 228) t191_228 (c := w111v) w111.symm ?_
                                refine zs_invS (pc := 229) (as := [.int (zI w7M 332 3), .int w111v]) (st := [.ref 332]) t191_229 (by decide) mf21 rfl rfl ⟨by decide, by decide, Nat.le_of_ble_eq_true rfl, Nat.le_of_ble_eq_true rfl⟩ (zs_in (by decide) mf21 (Nat.le_of_ble_eq_true rfl) ?_) (fun _ _ q => q)
                                show zGo X l 0 0 0 21 0 [(0, .int (zI w7M 332 3)), (1, .int w111v)] [] (zsI (zsI (zsI w7M 334 w91n (zI w7M 333 w14n)) 333 w14n w94v) 332 1 w108v) _
                                refine zs_iload_n (pc := 0) t21_0 rfl ?_
                                refine zs_iload_n (pc := 1) t21_1 rfl ?_
                                by_cases w112 : (zI w7M 332 3).toInt < w111v.toInt
                                · refine zs_icmp_ltT (pc := 2) t21_2 rfl rfl (by omega) ?_
                                  refine zs_iload_n (pc := 9) t21_9 rfl ?_
                                  refine zs_iret (pc := 10) t21_10 mr21 rfl ?_
                                  show zGo X l 1 0 0 191 232 [(7, .int w93v), (12, .int (zI w7M 333 w14n)), (11, .int w13v), (0, .ref 332), (1, .int a), (2, .int b), (3, .int c), (4, .int d), (5, .int e), (6, .int f), (8, .int w11x8), (9, .int w7x9), (10, .int w10v)] [.int w111v, .ref 332] (zsI (zsI (zsI w7M 334 w91n (zI w7M 333 w14n)) 333 w14n w94v) 332 1 w108v) _
                                  have w113 : zIv cLo cHi (zsI (zsI (zsI (zsI w7M 334 w91n (zI w7M 333 w14n)) 333 w14n w94v) 332 1 w108v) 332 3 w111v) := zIv.put w109 (show (-2147483648) ≤ w111v.toInt ∧ w111v.toInt ≤ 2147483647 from (zrg w111v))
                                  refine zs_putI (pc := 232) t191_232 (zk1 (w7s.k fk_zMc_332)) rfl ?_
                                  obtain ⟨w114v, w114e, w114⟩ := ziadd (a := w7x9) (b := Int32.ofInt 1) rfl (show (Int32.ofInt 1).toInt = 1 by decide) (by omega) (by omega)
                                  refine zs_iinc (pc := 235) t191_235 (ls' := [(9, .int w114v), (7, .int w93v), (12, .int (zI w7M 333 w14n)), (11, .int w13v), (0, .ref 332), (1, .int a), (2, .int b), (3, .int c), (4, .int d), (5, .int e), (6, .int f), (8, .int w11x8), (10, .int w10v)]) (zml mf191 (by decide)) rfl (c := w114v) w114e rfl ?_
                                  refine zs_goto (pc := 238) t191_238 ?_
                                  refine zGo.locals (ls' := [(0, .ref 332), (1, .int a), (2, .int b), (3, .int c), (4, .int d), (5, .int e), (6, .int f), (7, .int w93v), (8, .int w11x8), (9, .int w114v)]) (by simp) ?_
                                  exact w7ih (w7m - 1) (by omega) w93v w11x8 w114v (zsI (zsI (zsI (zsI w7M 334 w91n (zI w7M 333 w14n)) 333 w14n w94v) 332 1 w108v) 332 3 w111v) ⟨by omega, by omega⟩ ⟨by omega, by omega⟩ ⟨by omega, by omega⟩ w7s w113 ((((((zFr.refl).trans (w7F.mono rfl)).put rfl).put rfl).put rfl).put rfl) (by omega)
                                · refine zs_icmp_ltF (pc := 2) t21_2 rfl rfl (by omega) ?_
                                  refine zs_iload_n (pc := 5) t21_5 rfl ?_
                                  refine zs_goto (pc := 6) t21_6 ?_
                                  refine zs_iret (pc := 10) t21_10 mr21 rfl ?_
                                  show zGo X l 1 0 0 191 232 [(7, .int w93v), (12, .int (zI w7M 333 w14n)), (11, .int w13v), (0, .ref 332), (1, .int a), (2, .int b), (3, .int c), (4, .int d), (5, .int e), (6, .int f), (8, .int w11x8), (9, .int w7x9), (10, .int w10v)] [.int (zI w7M 332 3), .ref 332] (zsI (zsI (zsI w7M 334 w91n (zI w7M 333 w14n)) 333 w14n w94v) 332 1 w108v) _
                                  have w115 : zIv cLo cHi (zsI (zsI (zsI (zsI w7M 334 w91n (zI w7M 333 w14n)) 333 w14n w94v) 332 1 w108v) 332 3 (zI w7M 332 3)) := zIv.put w109 (show (-2147483648) ≤ (zI w7M 332 3).toInt ∧ (zI w7M 332 3).toInt ≤ 2147483647 from (zrg (zI w7M 332 3)))
                                  refine zs_putI (pc := 232) t191_232 (zk1 (w7s.k fk_zMc_332)) rfl ?_
                                  obtain ⟨w116v, w116e, w116⟩ := ziadd (a := w7x9) (b := Int32.ofInt 1) rfl (show (Int32.ofInt 1).toInt = 1 by decide) (by omega) (by omega)
                                  refine zs_iinc (pc := 235) t191_235 (ls' := [(9, .int w116v), (7, .int w93v), (12, .int (zI w7M 333 w14n)), (11, .int w13v), (0, .ref 332), (1, .int a), (2, .int b), (3, .int c), (4, .int d), (5, .int e), (6, .int f), (8, .int w11x8), (10, .int w10v)]) (zml mf191 (by decide)) rfl (c := w116v) w116e rfl ?_
                                  refine zs_goto (pc := 238) t191_238 ?_
                                  refine zGo.locals (ls' := [(0, .ref 332), (1, .int a), (2, .int b), (3, .int c), (4, .int d), (5, .int e), (6, .int f), (7, .int w93v), (8, .int w11x8), (9, .int w116v)]) (by simp) ?_
                                  exact w7ih (w7m - 1) (by omega) w93v w11x8 w116v (zsI (zsI (zsI (zsI w7M 334 w91n (zI w7M 333 w14n)) 333 w14n w94v) 332 1 w108v) 332 3 (zI w7M 332 3)) ⟨by omega, by omega⟩ ⟨by omega, by omega⟩ ⟨by omega, by omega⟩ w7s w115 ((((((zFr.refl).trans (w7F.mono rfl)).put rfl).put rfl).put rfl).put rfl) (by omega)
                            · refine zs_icmp_leF (pc := 177) t191_177 rfl rfl (by omega) ?_
                              refine zs_aload_n (pc := 180) t191_180 rfl ?_
                              refine zs_aload_n (pc := 181) t191_181 rfl ?_
                              have w117 := ib332_2 w7I
                              refine zs_get (pc := 182) t191_182 (by decide) (zk1 (w7s.k fk_zMc_332)) (zfvi rfl ((zIo (by decide)).trans ((zIo (by decide)).trans rfl))) ?_
                              refine zs_iload (pc := 185) t191_185 rfl ?_
                              refine zs_iload (pc := 187) t191_187 rfl ?_
                              obtain ⟨w118v, w118e, w118⟩ := zisub (a := w93v) (b := w11x8) w93 rfl (by omega) (by omega)
                              refine zs_isub (pc := 189) t191_189 (c := w118v) w118e ?_
                              refine zs_invS (pc := 190) (as := [.int (zI w7M 332 2), .int w118v]) (st := [.ref 332]) t191_190 (by decide) mf21 rfl rfl ⟨by decide, by decide, Nat.le_of_ble_eq_true rfl, Nat.le_of_ble_eq_true rfl⟩ (zs_in (by decide) mf21 (Nat.le_of_ble_eq_true rfl) ?_) (fun _ _ q => q)
                              show zGo X l 0 0 0 21 0 [(0, .int (zI w7M 332 2)), (1, .int w118v)] [] (zsI (zsI w7M 334 w91n (zI w7M 333 w14n)) 333 w14n w94v) _
                              refine zs_iload_n (pc := 0) t21_0 rfl ?_
                              refine zs_iload_n (pc := 1) t21_1 rfl ?_
                              by_cases w119 : (zI w7M 332 2).toInt < ((w7x7.toInt + 1) - w11x8.toInt)
                              · refine zs_icmp_ltT (pc := 2) t21_2 rfl w118 (by omega) ?_
                                refine zs_iload_n (pc := 9) t21_9 rfl ?_
                                refine zs_iret (pc := 10) t21_10 mr21 rfl ?_
                                show zGo X l 1 0 0 191 193 [(7, .int w93v), (12, .int (zI w7M 333 w14n)), (11, .int w13v), (0, .ref 332), (1, .int a), (2, .int b), (3, .int c), (4, .int d), (5, .int e), (6, .int f), (8, .int w11x8), (9, .int w7x9), (10, .int w10v)] [.int w118v, .ref 332] (zsI (zsI w7M 334 w91n (zI w7M 333 w14n)) 333 w14n w94v) _
                                have w120 : zIv cLo cHi (zsI (zsI (zsI w7M 334 w91n (zI w7M 333 w14n)) 333 w14n w94v) 332 2 w118v) := zIv.put w95 (show (-2147483648) ≤ w118v.toInt ∧ w118v.toInt ≤ 2147483647 from (zrg w118v))
                                refine zs_putI (pc := 193) t191_193 (zk1 (w7s.k fk_zMc_332)) rfl ?_
                                refine zs_iload (pc := 196) t191_196 rfl ?_
                                refine zs_iload (pc := 198) t191_198 rfl ?_
                                obtain ⟨w121v, w121⟩ : ∃ v, v = (zI w7M 333 w14n) + e := ⟨_, rfl⟩
                                have w121g := zrg w121v
                                refine zs_iadd (pc := 200) t191_200 (c := w121v) w121.symm ?_
                                refine zs_iload (pc := 201) t191_201 rfl ?_
                                obtain ⟨w122v, w122⟩ : ∃ v, v = w121v - w10v := ⟨_, rfl⟩
                                have w122g := zrg w122v
                                refine zs_isub (pc := 203) t191_203 (c := w122v) w122.symm ?_
                                refine zs_iload (pc := 204) t191_204 rfl ?_
                                by_cases w123 : w122v.toInt ≤ f.toInt
                                · refine zs_icmp_leT (pc := 206) t191_206 rfl rfl (by omega) ?_
                                  refine zs_aload_n (pc := 219) t191_219 rfl ?_
                                  refine zs_aload_n (pc := 220) t191_220 rfl ?_
                                  have w124 := ib332_3 w7I
                                  refine zs_get (pc := 221) t191_221 (by decide) (zk1 (w7s.k fk_zMc_332)) (zfvi rfl ((zIoj (by decide)).trans ((zIo (by decide)).trans ((zIo (by decide)).trans rfl)))) ?_
                                  refine zs_iload (pc := 224) t191_224 rfl ?_
                                  refine zs_iload (pc := 226) t191_226 rfl ?_
                                  obtain ⟨w125v, w125⟩ : ∃ v, v = (zI w7M 333 w14n) + e := ⟨_, rfl⟩
                                  have w125g := zrg w125v
                                  refine zs_iadd (pc := 228) t191_228 (c := w125v) w125.symm ?_
                                  refine zs_invS (pc := 229) (as := [.int (zI w7M 332 3), .int w125v]) (st := [.ref 332]) t191_229 (by decide) mf21 rfl rfl ⟨by decide, by decide, Nat.le_of_ble_eq_true rfl, Nat.le_of_ble_eq_true rfl⟩ (zs_in (by decide) mf21 (Nat.le_of_ble_eq_true rfl) ?_) (fun _ _ q => q)
                                  show zGo X l 0 0 0 21 0 [(0, .int (zI w7M 332 3)), (1, .int w125v)] [] (zsI (zsI (zsI w7M 334 w91n (zI w7M 333 w14n)) 333 w14n w94v) 332 2 w118v) _
                                  refine zs_iload_n (pc := 0) t21_0 rfl ?_
                                  refine zs_iload_n (pc := 1) t21_1 rfl ?_
                                  by_cases w126 : (zI w7M 332 3).toInt < w125v.toInt
                                  · refine zs_icmp_ltT (pc := 2) t21_2 rfl rfl (by omega) ?_
                                    refine zs_iload_n (pc := 9) t21_9 rfl ?_
                                    refine zs_iret (pc := 10) t21_10 mr21 rfl ?_
                                    show zGo X l 1 0 0 191 232 [(7, .int w93v), (12, .int (zI w7M 333 w14n)), (11, .int w13v), (0, .ref 332), (1, .int a), (2, .int b), (3, .int c), (4, .int d), (5, .int e), (6, .int f), (8, .int w11x8), (9, .int w7x9), (10, .int w10v)] [.int w125v, .ref 332] (zsI (zsI (zsI w7M 334 w91n (zI w7M 333 w14n)) 333 w14n w94v) 332 2 w118v) _
                                    have w127 : zIv cLo cHi (zsI (zsI (zsI (zsI w7M 334 w91n (zI w7M 333 w14n)) 333 w14n w94v) 332 2 w118v) 332 3 w125v) := zIv.put w120 (show (-2147483648) ≤ w125v.toInt ∧ w125v.toInt ≤ 2147483647 from (zrg w125v))
                                    refine zs_putI (pc := 232) t191_232 (zk1 (w7s.k fk_zMc_332)) rfl ?_
                                    obtain ⟨w128v, w128e, w128⟩ := ziadd (a := w7x9) (b := Int32.ofInt 1) rfl (show (Int32.ofInt 1).toInt = 1 by decide) (by omega) (by omega)
                                    refine zs_iinc (pc := 235) t191_235 (ls' := [(9, .int w128v), (7, .int w93v), (12, .int (zI w7M 333 w14n)), (11, .int w13v), (0, .ref 332), (1, .int a), (2, .int b), (3, .int c), (4, .int d), (5, .int e), (6, .int f), (8, .int w11x8), (10, .int w10v)]) (zml mf191 (by decide)) rfl (c := w128v) w128e rfl ?_
                                    refine zs_goto (pc := 238) t191_238 ?_
                                    refine zGo.locals (ls' := [(0, .ref 332), (1, .int a), (2, .int b), (3, .int c), (4, .int d), (5, .int e), (6, .int f), (7, .int w93v), (8, .int w11x8), (9, .int w128v)]) (by simp) ?_
                                    exact w7ih (w7m - 1) (by omega) w93v w11x8 w128v (zsI (zsI (zsI (zsI w7M 334 w91n (zI w7M 333 w14n)) 333 w14n w94v) 332 2 w118v) 332 3 w125v) ⟨by omega, by omega⟩ ⟨by omega, by omega⟩ ⟨by omega, by omega⟩ w7s w127 ((((((zFr.refl).trans (w7F.mono rfl)).put rfl).put rfl).put rfl).put rfl) (by omega)
                                  · refine zs_icmp_ltF (pc := 2) t21_2 rfl rfl (by omega) ?_
                                    refine zs_iload_n (pc := 5) t21_5 rfl ?_
                                    refine zs_goto (pc := 6) t21_6 ?_
                                    refine zs_iret (pc := 10) t21_10 mr21 rfl ?_
                                    show zGo X l 1 0 0 191 232 [(7, .int w93v), (12, .int (zI w7M 333 w14n)), (11, .int w13v), (0, .ref 332), (1, .int a), (2, .int b), (3, .int c), (4, .int d), (5, .int e), (6, .int f), (8, .int w11x8), (9, .int w7x9), (10, .int w10v)] [.int (zI w7M 332 3), .ref 332] (zsI (zsI (zsI w7M 334 w91n (zI w7M 333 w14n)) 333 w14n w94v) 332 2 w118v) _
                                    have w129 : zIv cLo cHi (zsI (zsI (zsI (zsI w7M 334 w91n (zI w7M 333 w14n)) 333 w14n w94v) 332 2 w118v) 332 3 (zI w7M 332 3)) := zIv.put w120 (show (-2147483648) ≤ (zI w7M 332 3).toInt ∧ (zI w7M 332 3).toInt ≤ 2147483647 from (zrg (zI w7M 332 3)))
                                    refine zs_putI (pc := 232) t191_232 (zk1 (w7s.k fk_zMc_332)) rfl ?_
                                    obtain ⟨w130v, w130e, w130⟩ := ziadd (a := w7x9) (b := Int32.ofInt 1) rfl (show (Int32.ofInt 1).toInt = 1 by decide) (by omega) (by omega)
                                    refine zs_iinc (pc := 235) t191_235 (ls' := [(9, .int w130v), (7, .int w93v), (12, .int (zI w7M 333 w14n)), (11, .int w13v), (0, .ref 332), (1, .int a), (2, .int b), (3, .int c), (4, .int d), (5, .int e), (6, .int f), (8, .int w11x8), (10, .int w10v)]) (zml mf191 (by decide)) rfl (c := w130v) w130e rfl ?_
                                    refine zs_goto (pc := 238) t191_238 ?_
                                    refine zGo.locals (ls' := [(0, .ref 332), (1, .int a), (2, .int b), (3, .int c), (4, .int d), (5, .int e), (6, .int f), (7, .int w93v), (8, .int w11x8), (9, .int w130v)]) (by simp) ?_
                                    exact w7ih (w7m - 1) (by omega) w93v w11x8 w130v (zsI (zsI (zsI (zsI w7M 334 w91n (zI w7M 333 w14n)) 333 w14n w94v) 332 2 w118v) 332 3 (zI w7M 332 3)) ⟨by omega, by omega⟩ ⟨by omega, by omega⟩ ⟨by omega, by omega⟩ w7s w129 ((((((zFr.refl).trans (w7F.mono rfl)).put rfl).put rfl).put rfl).put rfl) (by omega)
                                · refine zs_icmp_leF (pc := 206) t191_206 rfl rfl (by omega) ?_
                                  refine zs_aload_n (pc := 209) t191_209 rfl ?_
                                  refine zs_dup (pc := 210) t191_210 rfl ?_
                                  have w131 := ib332_1 w7I
                                  refine zs_get (pc := 211) t191_211 (by decide) (zk1 (w7s.k fk_zMc_332)) (zfvi rfl ((zIoj (by decide)).trans ((zIo (by decide)).trans ((zIo (by decide)).trans rfl)))) ?_
                                  refine zs_iconst (pc := 214) t191_214 (v := 1) (by decide) ?_
                                  obtain ⟨w132v, w132⟩ : ∃ v, v = (zI w7M 332 1) + (1 : Int32) := ⟨_, rfl⟩
                                  have w132g := zrg w132v
                                  refine zs_iadd (pc := 215) t191_215 (c := w132v) w132.symm ?_
                                  have w133 : zIv cLo cHi (zsI (zsI (zsI (zsI w7M 334 w91n (zI w7M 333 w14n)) 333 w14n w94v) 332 2 w118v) 332 1 w132v) := zIv.put w120 (show (-2147483648) ≤ w132v.toInt ∧ w132v.toInt ≤ 2147483647 from (zrg w132v))
                                  refine zs_putI (pc := 216) t191_216 (zk1 (w7s.k fk_zMc_332)) rfl ?_
                                  refine zs_aload_n (pc := 219) t191_219 rfl ?_
                                  refine zs_aload_n (pc := 220) t191_220 rfl ?_
                                  have w134 := ib332_3 w7I
                                  refine zs_get (pc := 221) t191_221 (by decide) (zk1 (w7s.k fk_zMc_332)) (zfvi rfl ((zIoj (by decide)).trans ((zIoj (by decide)).trans ((zIo (by decide)).trans ((zIo (by decide)).trans rfl))))) ?_
                                  refine zs_iload (pc := 224) t191_224 rfl ?_
                                  refine zs_iload (pc := 226) t191_226 rfl ?_
                                  obtain ⟨w135v, w135⟩ : ∃ v, v = (zI w7M 333 w14n) + e := ⟨_, rfl⟩
                                  have w135g := zrg w135v
                                  refine zs_iadd (pc := 228) t191_228 (c := w135v) w135.symm ?_
                                  refine zs_invS (pc := 229) (as := [.int (zI w7M 332 3), .int w135v]) (st := [.ref 332]) t191_229 (by decide) mf21 rfl rfl ⟨by decide, by decide, Nat.le_of_ble_eq_true rfl, Nat.le_of_ble_eq_true rfl⟩ (zs_in (by decide) mf21 (Nat.le_of_ble_eq_true rfl) ?_) (fun _ _ q => q)
                                  show zGo X l 0 0 0 21 0 [(0, .int (zI w7M 332 3)), (1, .int w135v)] [] (zsI (zsI (zsI (zsI w7M 334 w91n (zI w7M 333 w14n)) 333 w14n w94v) 332 2 w118v) 332 1 w132v) _
                                  refine zs_iload_n (pc := 0) t21_0 rfl ?_
                                  refine zs_iload_n (pc := 1) t21_1 rfl ?_
                                  by_cases w136 : (zI w7M 332 3).toInt < w135v.toInt
                                  · refine zs_icmp_ltT (pc := 2) t21_2 rfl rfl (by omega) ?_
                                    refine zs_iload_n (pc := 9) t21_9 rfl ?_
                                    refine zs_iret (pc := 10) t21_10 mr21 rfl ?_
                                    show zGo X l 1 0 0 191 232 [(7, .int w93v), (12, .int (zI w7M 333 w14n)), (11, .int w13v), (0, .ref 332), (1, .int a), (2, .int b), (3, .int c), (4, .int d), (5, .int e), (6, .int f), (8, .int w11x8), (9, .int w7x9), (10, .int w10v)] [.int w135v, .ref 332] (zsI (zsI (zsI (zsI w7M 334 w91n (zI w7M 333 w14n)) 333 w14n w94v) 332 2 w118v) 332 1 w132v) _
                                    have w137 : zIv cLo cHi (zsI (zsI (zsI (zsI (zsI w7M 334 w91n (zI w7M 333 w14n)) 333 w14n w94v) 332 2 w118v) 332 1 w132v) 332 3 w135v) := zIv.put w133 (show (-2147483648) ≤ w135v.toInt ∧ w135v.toInt ≤ 2147483647 from (zrg w135v))
                                    refine zs_putI (pc := 232) t191_232 (zk1 (w7s.k fk_zMc_332)) rfl ?_
                                    obtain ⟨w138v, w138e, w138⟩ := ziadd (a := w7x9) (b := Int32.ofInt 1) rfl (show (Int32.ofInt 1).toInt = 1 by decide) (by omega) (by omega)
                                    refine zs_iinc (pc := 235) t191_235 (ls' := [(9, .int w138v), (7, .int w93v), (12, .int (zI w7M 333 w14n)), (11, .int w13v), (0, .ref 332), (1, .int a), (2, .int b), (3, .int c), (4, .int d), (5, .int e), (6, .int f), (8, .int w11x8), (10, .int w10v)]) (zml mf191 (by decide)) rfl (c := w138v) w138e rfl ?_
                                    refine zs_goto (pc := 238) t191_238 ?_
                                    refine zGo.locals (ls' := [(0, .ref 332), (1, .int a), (2, .int b), (3, .int c), (4, .int d), (5, .int e), (6, .int f), (7, .int w93v), (8, .int w11x8), (9, .int w138v)]) (by simp) ?_
                                    exact w7ih (w7m - 1) (by omega) w93v w11x8 w138v (zsI (zsI (zsI (zsI (zsI w7M 334 w91n (zI w7M 333 w14n)) 333 w14n w94v) 332 2 w118v) 332 1 w132v) 332 3 w135v) ⟨by omega, by omega⟩ ⟨by omega, by omega⟩ ⟨by omega, by omega⟩ w7s w137 (((((((zFr.refl).trans (w7F.mono rfl)).put rfl).put rfl).put rfl).put rfl).put rfl) (by omega)
                                  · refine zs_icmp_ltF (pc := 2) t21_2 rfl rfl (by omega) ?_
                                    refine zs_iload_n (pc := 5) t21_5 rfl ?_
                                    refine zs_goto (pc := 6) t21_6 ?_
                                    refine zs_iret (pc := 10) t21_10 mr21 rfl ?_
                                    show zGo X l 1 0 0 191 232 [(7, .int w93v), (12, .int (zI w7M 333 w14n)), (11, .int w13v), (0, .ref 332), (1, .int a), (2, .int b), (3, .int c), (4, .int d), (5, .int e), (6, .int f), (8, .int w11x8), (9, .int w7x9), (10, .int w10v)] [.int (zI w7M 332 3), .ref 332] (zsI (zsI (zsI (zsI w7M 334 w91n (zI w7M 333 w14n)) 333 w14n w94v) 332 2 w118v) 332 1 w132v) _
                                    have w139 : zIv cLo cHi (zsI (zsI (zsI (zsI (zsI w7M 334 w91n (zI w7M 333 w14n)) 333 w14n w94v) 332 2 w118v) 332 1 w132v) 332 3 (zI w7M 332 3)) := zIv.put w133 (show (-2147483648) ≤ (zI w7M 332 3).toInt ∧ (zI w7M 332 3).toInt ≤ 2147483647 from (zrg (zI w7M 332 3)))
                                    refine zs_putI (pc := 232) t191_232 (zk1 (w7s.k fk_zMc_332)) rfl ?_
                                    obtain ⟨w140v, w140e, w140⟩ := ziadd (a := w7x9) (b := Int32.ofInt 1) rfl (show (Int32.ofInt 1).toInt = 1 by decide) (by omega) (by omega)
                                    refine zs_iinc (pc := 235) t191_235 (ls' := [(9, .int w140v), (7, .int w93v), (12, .int (zI w7M 333 w14n)), (11, .int w13v), (0, .ref 332), (1, .int a), (2, .int b), (3, .int c), (4, .int d), (5, .int e), (6, .int f), (8, .int w11x8), (10, .int w10v)]) (zml mf191 (by decide)) rfl (c := w140v) w140e rfl ?_
                                    refine zs_goto (pc := 238) t191_238 ?_
                                    refine zGo.locals (ls' := [(0, .ref 332), (1, .int a), (2, .int b), (3, .int c), (4, .int d), (5, .int e), (6, .int f), (7, .int w93v), (8, .int w11x8), (9, .int w140v)]) (by simp) ?_
                                    exact w7ih (w7m - 1) (by omega) w93v w11x8 w140v (zsI (zsI (zsI (zsI (zsI w7M 334 w91n (zI w7M 333 w14n)) 333 w14n w94v) 332 2 w118v) 332 1 w132v) 332 3 (zI w7M 332 3)) ⟨by omega, by omega⟩ ⟨by omega, by omega⟩ ⟨by omega, by omega⟩ w7s w139 (((((((zFr.refl).trans (w7F.mono rfl)).put rfl).put rfl).put rfl).put rfl).put rfl) (by omega)
                              · refine zs_icmp_ltF (pc := 2) t21_2 rfl w118 (by omega) ?_
                                refine zs_iload_n (pc := 5) t21_5 rfl ?_
                                refine zs_goto (pc := 6) t21_6 ?_
                                refine zs_iret (pc := 10) t21_10 mr21 rfl ?_
                                show zGo X l 1 0 0 191 193 [(7, .int w93v), (12, .int (zI w7M 333 w14n)), (11, .int w13v), (0, .ref 332), (1, .int a), (2, .int b), (3, .int c), (4, .int d), (5, .int e), (6, .int f), (8, .int w11x8), (9, .int w7x9), (10, .int w10v)] [.int (zI w7M 332 2), .ref 332] (zsI (zsI w7M 334 w91n (zI w7M 333 w14n)) 333 w14n w94v) _
                                have w141 : zIv cLo cHi (zsI (zsI (zsI w7M 334 w91n (zI w7M 333 w14n)) 333 w14n w94v) 332 2 (zI w7M 332 2)) := zIv.put w95 (show (-2147483648) ≤ (zI w7M 332 2).toInt ∧ (zI w7M 332 2).toInt ≤ 2147483647 from (zrg (zI w7M 332 2)))
                                refine zs_putI (pc := 193) t191_193 (zk1 (w7s.k fk_zMc_332)) rfl ?_
                                refine zs_iload (pc := 196) t191_196 rfl ?_
                                refine zs_iload (pc := 198) t191_198 rfl ?_
                                obtain ⟨w142v, w142⟩ : ∃ v, v = (zI w7M 333 w14n) + e := ⟨_, rfl⟩
                                have w142g := zrg w142v
                                refine zs_iadd (pc := 200) t191_200 (c := w142v) w142.symm ?_
                                refine zs_iload (pc := 201) t191_201 rfl ?_
                                obtain ⟨w143v, w143⟩ : ∃ v, v = w142v - w10v := ⟨_, rfl⟩
                                have w143g := zrg w143v
                                refine zs_isub (pc := 203) t191_203 (c := w143v) w143.symm ?_
                                refine zs_iload (pc := 204) t191_204 rfl ?_
                                by_cases w144 : w143v.toInt ≤ f.toInt
                                · refine zs_icmp_leT (pc := 206) t191_206 rfl rfl (by omega) ?_
                                  refine zs_aload_n (pc := 219) t191_219 rfl ?_
                                  refine zs_aload_n (pc := 220) t191_220 rfl ?_
                                  have w145 := ib332_3 w7I
                                  refine zs_get (pc := 221) t191_221 (by decide) (zk1 (w7s.k fk_zMc_332)) (zfvi rfl ((zIoj (by decide)).trans ((zIo (by decide)).trans ((zIo (by decide)).trans rfl)))) ?_
                                  refine zs_iload (pc := 224) t191_224 rfl ?_
                                  refine zs_iload (pc := 226) t191_226 rfl ?_
                                  obtain ⟨w146v, w146⟩ : ∃ v, v = (zI w7M 333 w14n) + e := ⟨_, rfl⟩
                                  have w146g := zrg w146v
                                  refine zs_iadd (pc := 228) t191_228 (c := w146v) w146.symm ?_
                                  refine zs_invS (pc := 229) (as := [.int (zI w7M 332 3), .int w146v]) (st := [.ref 332]) t191_229 (by decide) mf21 rfl rfl ⟨by decide, by decide, Nat.le_of_ble_eq_true rfl, Nat.le_of_ble_eq_true rfl⟩ (zs_in (by decide) mf21 (Nat.le_of_ble_eq_true rfl) ?_) (fun _ _ q => q)
                                  show zGo X l 0 0 0 21 0 [(0, .int (zI w7M 332 3)), (1, .int w146v)] [] (zsI (zsI (zsI w7M 334 w91n (zI w7M 333 w14n)) 333 w14n w94v) 332 2 (zI w7M 332 2)) _
                                  refine zs_iload_n (pc := 0) t21_0 rfl ?_
                                  refine zs_iload_n (pc := 1) t21_1 rfl ?_
                                  by_cases w147 : (zI w7M 332 3).toInt < w146v.toInt
                                  · refine zs_icmp_ltT (pc := 2) t21_2 rfl rfl (by omega) ?_
                                    refine zs_iload_n (pc := 9) t21_9 rfl ?_
                                    refine zs_iret (pc := 10) t21_10 mr21 rfl ?_
                                    show zGo X l 1 0 0 191 232 [(7, .int w93v), (12, .int (zI w7M 333 w14n)), (11, .int w13v), (0, .ref 332), (1, .int a), (2, .int b), (3, .int c), (4, .int d), (5, .int e), (6, .int f), (8, .int w11x8), (9, .int w7x9), (10, .int w10v)] [.int w146v, .ref 332] (zsI (zsI (zsI w7M 334 w91n (zI w7M 333 w14n)) 333 w14n w94v) 332 2 (zI w7M 332 2)) _
                                    have w148 : zIv cLo cHi (zsI (zsI (zsI (zsI w7M 334 w91n (zI w7M 333 w14n)) 333 w14n w94v) 332 2 (zI w7M 332 2)) 332 3 w146v) := zIv.put w141 (show (-2147483648) ≤ w146v.toInt ∧ w146v.toInt ≤ 2147483647 from (zrg w146v))
                                    refine zs_putI (pc := 232) t191_232 (zk1 (w7s.k fk_zMc_332)) rfl ?_
                                    obtain ⟨w149v, w149e, w149⟩ := ziadd (a := w7x9) (b := Int32.ofInt 1) rfl (show (Int32.ofInt 1).toInt = 1 by decide) (by omega) (by omega)
                                    refine zs_iinc (pc := 235) t191_235 (ls' := [(9, .int w149v), (7, .int w93v), (12, .int (zI w7M 333 w14n)), (11, .int w13v), (0, .ref 332), (1, .int a), (2, .int b), (3, .int c), (4, .int d), (5, .int e), (6, .int f), (8, .int w11x8), (10, .int w10v)]) (zml mf191 (by decide)) rfl (c := w149v) w149e rfl ?_
                                    refine zs_goto (pc := 238) t191_238 ?_
                                    refine zGo.locals (ls' := [(0, .ref 332), (1, .int a), (2, .int b), (3, .int c), (4, .int d), (5, .int e), (6, .int f), (7, .int w93v), (8, .int w11x8), (9, .int w149v)]) (by simp) ?_
                                    exact w7ih (w7m - 1) (by omega) w93v w11x8 w149v (zsI (zsI (zsI (zsI w7M 334 w91n (zI w7M 333 w14n)) 333 w14n w94v) 332 2 (zI w7M 332 2)) 332 3 w146v) ⟨by omega, by omega⟩ ⟨by omega, by omega⟩ ⟨by omega, by omega⟩ w7s w148 ((((((zFr.refl).trans (w7F.mono rfl)).put rfl).put rfl).put rfl).put rfl) (by omega)
                                  · refine zs_icmp_ltF (pc := 2) t21_2 rfl rfl (by omega) ?_
                                    refine zs_iload_n (pc := 5) t21_5 rfl ?_
                                    refine zs_goto (pc := 6) t21_6 ?_
                                    refine zs_iret (pc := 10) t21_10 mr21 rfl ?_
                                    show zGo X l 1 0 0 191 232 [(7, .int w93v), (12, .int (zI w7M 333 w14n)), (11, .int w13v), (0, .ref 332), (1, .int a), (2, .int b), (3, .int c), (4, .int d), (5, .int e), (6, .int f), (8, .int w11x8), (9, .int w7x9), (10, .int w10v)] [.int (zI w7M 332 3), .ref 332] (zsI (zsI (zsI w7M 334 w91n (zI w7M 333 w14n)) 333 w14n w94v) 332 2 (zI w7M 332 2)) _
                                    have w150 : zIv cLo cHi (zsI (zsI (zsI (zsI w7M 334 w91n (zI w7M 333 w14n)) 333 w14n w94v) 332 2 (zI w7M 332 2)) 332 3 (zI w7M 332 3)) := zIv.put w141 (show (-2147483648) ≤ (zI w7M 332 3).toInt ∧ (zI w7M 332 3).toInt ≤ 2147483647 from (zrg (zI w7M 332 3)))
                                    refine zs_putI (pc := 232) t191_232 (zk1 (w7s.k fk_zMc_332)) rfl ?_
                                    obtain ⟨w151v, w151e, w151⟩ := ziadd (a := w7x9) (b := Int32.ofInt 1) rfl (show (Int32.ofInt 1).toInt = 1 by decide) (by omega) (by omega)
                                    refine zs_iinc (pc := 235) t191_235 (ls' := [(9, .int w151v), (7, .int w93v), (12, .int (zI w7M 333 w14n)), (11, .int w13v), (0, .ref 332), (1, .int a), (2, .int b), (3, .int c), (4, .int d), (5, .int e), (6, .int f), (8, .int w11x8), (10, .int w10v)]) (zml mf191 (by decide)) rfl (c := w151v) w151e rfl ?_
                                    refine zs_goto (pc := 238) t191_238 ?_
                                    refine zGo.locals (ls' := [(0, .ref 332), (1, .int a), (2, .int b), (3, .int c), (4, .int d), (5, .int e), (6, .int f), (7, .int w93v), (8, .int w11x8), (9, .int w151v)]) (by simp) ?_
                                    exact w7ih (w7m - 1) (by omega) w93v w11x8 w151v (zsI (zsI (zsI (zsI w7M 334 w91n (zI w7M 333 w14n)) 333 w14n w94v) 332 2 (zI w7M 332 2)) 332 3 (zI w7M 332 3)) ⟨by omega, by omega⟩ ⟨by omega, by omega⟩ ⟨by omega, by omega⟩ w7s w150 ((((((zFr.refl).trans (w7F.mono rfl)).put rfl).put rfl).put rfl).put rfl) (by omega)
                                · refine zs_icmp_leF (pc := 206) t191_206 rfl rfl (by omega) ?_
                                  refine zs_aload_n (pc := 209) t191_209 rfl ?_
                                  refine zs_dup (pc := 210) t191_210 rfl ?_
                                  have w152 := ib332_1 w7I
                                  refine zs_get (pc := 211) t191_211 (by decide) (zk1 (w7s.k fk_zMc_332)) (zfvi rfl ((zIoj (by decide)).trans ((zIo (by decide)).trans ((zIo (by decide)).trans rfl)))) ?_
                                  refine zs_iconst (pc := 214) t191_214 (v := 1) (by decide) ?_
                                  obtain ⟨w153v, w153⟩ : ∃ v, v = (zI w7M 332 1) + (1 : Int32) := ⟨_, rfl⟩
                                  have w153g := zrg w153v
                                  refine zs_iadd (pc := 215) t191_215 (c := w153v) w153.symm ?_
                                  have w154 : zIv cLo cHi (zsI (zsI (zsI (zsI w7M 334 w91n (zI w7M 333 w14n)) 333 w14n w94v) 332 2 (zI w7M 332 2)) 332 1 w153v) := zIv.put w141 (show (-2147483648) ≤ w153v.toInt ∧ w153v.toInt ≤ 2147483647 from (zrg w153v))
                                  refine zs_putI (pc := 216) t191_216 (zk1 (w7s.k fk_zMc_332)) rfl ?_
                                  refine zs_aload_n (pc := 219) t191_219 rfl ?_
                                  refine zs_aload_n (pc := 220) t191_220 rfl ?_
                                  have w155 := ib332_3 w7I
                                  refine zs_get (pc := 221) t191_221 (by decide) (zk1 (w7s.k fk_zMc_332)) (zfvi rfl ((zIoj (by decide)).trans ((zIoj (by decide)).trans ((zIo (by decide)).trans ((zIo (by decide)).trans rfl))))) ?_
                                  refine zs_iload (pc := 224) t191_224 rfl ?_
                                  refine zs_iload (pc := 226) t191_226 rfl ?_
                                  obtain ⟨w156v, w156⟩ : ∃ v, v = (zI w7M 333 w14n) + e := ⟨_, rfl⟩
                                  have w156g := zrg w156v
                                  refine zs_iadd (pc := 228) t191_228 (c := w156v) w156.symm ?_
                                  refine zs_invS (pc := 229) (as := [.int (zI w7M 332 3), .int w156v]) (st := [.ref 332]) t191_229 (by decide) mf21 rfl rfl ⟨by decide, by decide, Nat.le_of_ble_eq_true rfl, Nat.le_of_ble_eq_true rfl⟩ (zs_in (by decide) mf21 (Nat.le_of_ble_eq_true rfl) ?_) (fun _ _ q => q)
                                  show zGo X l 0 0 0 21 0 [(0, .int (zI w7M 332 3)), (1, .int w156v)] [] (zsI (zsI (zsI (zsI w7M 334 w91n (zI w7M 333 w14n)) 333 w14n w94v) 332 2 (zI w7M 332 2)) 332 1 w153v) _
                                  refine zs_iload_n (pc := 0) t21_0 rfl ?_
                                  refine zs_iload_n (pc := 1) t21_1 rfl ?_
                                  by_cases w157 : (zI w7M 332 3).toInt < w156v.toInt
                                  · refine zs_icmp_ltT (pc := 2) t21_2 rfl rfl (by omega) ?_
                                    refine zs_iload_n (pc := 9) t21_9 rfl ?_
                                    refine zs_iret (pc := 10) t21_10 mr21 rfl ?_
                                    show zGo X l 1 0 0 191 232 [(7, .int w93v), (12, .int (zI w7M 333 w14n)), (11, .int w13v), (0, .ref 332), (1, .int a), (2, .int b), (3, .int c), (4, .int d), (5, .int e), (6, .int f), (8, .int w11x8), (9, .int w7x9), (10, .int w10v)] [.int w156v, .ref 332] (zsI (zsI (zsI (zsI w7M 334 w91n (zI w7M 333 w14n)) 333 w14n w94v) 332 2 (zI w7M 332 2)) 332 1 w153v) _
                                    have w158 : zIv cLo cHi (zsI (zsI (zsI (zsI (zsI w7M 334 w91n (zI w7M 333 w14n)) 333 w14n w94v) 332 2 (zI w7M 332 2)) 332 1 w153v) 332 3 w156v) := zIv.put w154 (show (-2147483648) ≤ w156v.toInt ∧ w156v.toInt ≤ 2147483647 from (zrg w156v))
                                    refine zs_putI (pc := 232) t191_232 (zk1 (w7s.k fk_zMc_332)) rfl ?_
                                    obtain ⟨w159v, w159e, w159⟩ := ziadd (a := w7x9) (b := Int32.ofInt 1) rfl (show (Int32.ofInt 1).toInt = 1 by decide) (by omega) (by omega)
                                    refine zs_iinc (pc := 235) t191_235 (ls' := [(9, .int w159v), (7, .int w93v), (12, .int (zI w7M 333 w14n)), (11, .int w13v), (0, .ref 332), (1, .int a), (2, .int b), (3, .int c), (4, .int d), (5, .int e), (6, .int f), (8, .int w11x8), (10, .int w10v)]) (zml mf191 (by decide)) rfl (c := w159v) w159e rfl ?_
                                    refine zs_goto (pc := 238) t191_238 ?_
                                    refine zGo.locals (ls' := [(0, .ref 332), (1, .int a), (2, .int b), (3, .int c), (4, .int d), (5, .int e), (6, .int f), (7, .int w93v), (8, .int w11x8), (9, .int w159v)]) (by simp) ?_
                                    exact w7ih (w7m - 1) (by omega) w93v w11x8 w159v (zsI (zsI (zsI (zsI (zsI w7M 334 w91n (zI w7M 333 w14n)) 333 w14n w94v) 332 2 (zI w7M 332 2)) 332 1 w153v) 332 3 w156v) ⟨by omega, by omega⟩ ⟨by omega, by omega⟩ ⟨by omega, by omega⟩ w7s w158 (((((((zFr.refl).trans (w7F.mono rfl)).put rfl).put rfl).put rfl).put rfl).put rfl) (by omega)
                                  · refine zs_icmp_ltF (pc := 2) t21_2 rfl rfl (by omega) ?_
                                    refine zs_iload_n (pc := 5) t21_5 rfl ?_
                                    refine zs_goto (pc := 6) t21_6 ?_
                                    refine zs_iret (pc := 10) t21_10 mr21 rfl ?_
                                    show zGo X l 1 0 0 191 232 [(7, .int w93v), (12, .int (zI w7M 333 w14n)), (11, .int w13v), (0, .ref 332), (1, .int a), (2, .int b), (3, .int c), (4, .int d), (5, .int e), (6, .int f), (8, .int w11x8), (9, .int w7x9), (10, .int w10v)] [.int (zI w7M 332 3), .ref 332] (zsI (zsI (zsI (zsI w7M 334 w91n (zI w7M 333 w14n)) 333 w14n w94v) 332 2 (zI w7M 332 2)) 332 1 w153v) _
                                    have w160 : zIv cLo cHi (zsI (zsI (zsI (zsI (zsI w7M 334 w91n (zI w7M 333 w14n)) 333 w14n w94v) 332 2 (zI w7M 332 2)) 332 1 w153v) 332 3 (zI w7M 332 3)) := zIv.put w154 (show (-2147483648) ≤ (zI w7M 332 3).toInt ∧ (zI w7M 332 3).toInt ≤ 2147483647 from (zrg (zI w7M 332 3)))
                                    refine zs_putI (pc := 232) t191_232 (zk1 (w7s.k fk_zMc_332)) rfl ?_
                                    obtain ⟨w161v, w161e, w161⟩ := ziadd (a := w7x9) (b := Int32.ofInt 1) rfl (show (Int32.ofInt 1).toInt = 1 by decide) (by omega) (by omega)
                                    refine zs_iinc (pc := 235) t191_235 (ls' := [(9, .int w161v), (7, .int w93v), (12, .int (zI w7M 333 w14n)), (11, .int w13v), (0, .ref 332), (1, .int a), (2, .int b), (3, .int c), (4, .int d), (5, .int e), (6, .int f), (8, .int w11x8), (10, .int w10v)]) (zml mf191 (by decide)) rfl (c := w161v) w161e rfl ?_
                                    refine zs_goto (pc := 238) t191_238 ?_
                                    refine zGo.locals (ls' := [(0, .ref 332), (1, .int a), (2, .int b), (3, .int c), (4, .int d), (5, .int e), (6, .int f), (7, .int w93v), (8, .int w11x8), (9, .int w161v)]) (by simp) ?_
                                    exact w7ih (w7m - 1) (by omega) w93v w11x8 w161v (zsI (zsI (zsI (zsI (zsI w7M 334 w91n (zI w7M 333 w14n)) 333 w14n w94v) 332 2 (zI w7M 332 2)) 332 1 w153v) 332 3 (zI w7M 332 3)) ⟨by omega, by omega⟩ ⟨by omega, by omega⟩ ⟨by omega, by omega⟩ w7s w160 (((((((zFr.refl).trans (w7F.mono rfl)).put rfl).put rfl).put rfl).put rfl).put rfl) (by omega)
                          · refine zs_icmp_ltF (pc := 133) t191_133 w89 rfl (by omega) ?_
                            refine zs_aload_n (pc := 136) t191_136 rfl ?_
                            refine zs_dup (pc := 137) t191_137 rfl ?_
                            have w162 := ib332_0 w7I
                            refine zs_get (pc := 138) t191_138 (by decide) (zk1 (w7s.k fk_zMc_332)) (zfvi rfl rfl) ?_
                            refine zs_iconst (pc := 141) t191_141 (v := 1) (by decide) ?_
                            obtain ⟨w163v, w163⟩ : ∃ v, v = (zI w7M 332 0) + (1 : Int32) := ⟨_, rfl⟩
                            have w163g := zrg w163v
                            refine zs_iadd (pc := 142) t191_142 (c := w163v) w163.symm ?_
                            have w164 : zIv cLo cHi (zsI w7M 332 0 w163v) := zIv.put w7I (show (-2147483648) ≤ w163v.toInt ∧ w163v.toInt ≤ 2147483647 from (zrg w163v))
                            refine zs_putI (pc := 143) t191_143 (zk1 (w7s.k fk_zMc_332)) rfl ?_
                            refine zs_goto (pc := 146) t191_146 ?_
                            obtain ⟨w165v, w165e, w165⟩ := ziadd (a := w7x9) (b := Int32.ofInt 1) rfl (show (Int32.ofInt 1).toInt = 1 by decide) (by omega) (by omega)
                            refine zs_iinc (pc := 235) t191_235 (ls' := [(9, .int w165v), (12, .int (zI w7M 333 w14n)), (11, .int w13v), (0, .ref 332), (1, .int a), (2, .int b), (3, .int c), (4, .int d), (5, .int e), (6, .int f), (7, .int w7x7), (8, .int w11x8), (10, .int w10v)]) (zml mf191 (by decide)) rfl (c := w165v) w165e rfl ?_
                            refine zs_goto (pc := 238) t191_238 ?_
                            refine zGo.locals (ls' := [(0, .ref 332), (1, .int a), (2, .int b), (3, .int c), (4, .int d), (5, .int e), (6, .int f), (7, .int w7x7), (8, .int w11x8), (9, .int w165v)]) (by simp) ?_
                            exact w7ih (w7m - 1) (by omega) w7x7 w11x8 w165v (zsI w7M 332 0 w163v) ⟨by omega, by omega⟩ ⟨by omega, by omega⟩ ⟨by omega, by omega⟩ w7s w164 (((zFr.refl).trans (w7F.mono rfl)).put rfl) (by omega)
                      · refine zs_icmp_ltF (pc := 2) t21_2 rfl rfl (by omega) ?_
                        refine zs_iload_n (pc := 5) t21_5 rfl ?_
                        refine zs_goto (pc := 6) t21_6 ?_
                        refine zs_iret (pc := 10) t21_10 mr21 rfl ?_
                        show zGo X l 1 0 0 191 117 [(11, .int w13v), (0, .ref 332), (1, .int a), (2, .int b), (3, .int c), (4, .int d), (5, .int e), (6, .int f), (7, .int w7x7), (8, .int w11x8), (9, .int w7x9), (10, .int w10v)] [.int w10v] w7M _
                        refine zs_istore (pc := 117) t191_117 (ls' := [(12, .int w10v), (11, .int w13v), (0, .ref 332), (1, .int a), (2, .int b), (3, .int c), (4, .int d), (5, .int e), (6, .int f), (7, .int w7x7), (8, .int w11x8), (9, .int w7x9), (10, .int w10v)]) (zml mf191 (by decide)) rfl ?_
                        refine zs_iload (pc := 119) t191_119 rfl ?_
                        refine zs_iload (pc := 121) t191_121 rfl ?_
                        by_cases w166 : w10v.toInt ≤ w10v.toInt
                        · refine zs_icmp_leT (pc := 123) t191_123 rfl rfl (by omega) ?_
                          refine zs_aload_n (pc := 149) t191_149 rfl ?_
                          refine zs_get (pc := 150) t191_150 (by decide) (zk1 (w7s.k fk_zMc_332)) (w7s.p rfl fv_zMc_332_5) ?_
                          refine zs_iload (pc := 153) t191_153 rfl ?_
                          refine zs_iload (pc := 155) t191_155 rfl ?_
                          obtain ⟨w167n, w167⟩ : ∃ n : Nat, w7x7.toInt = (n : Int) := ⟨w7x7.toInt.toNat, by omega⟩
                          have w168 : zIv cLo cHi (zsI w7M 334 w167n w10v) := zIv.put w7I (show (-2147483648) ≤ w10v.toInt ∧ w10v.toInt ≤ 2147483647 from (zrg w10v))
                          refine zs_iast (pc := 157) t191_157 (j := w167n) (by decide) (zk1 (w7s.k fk_zMc_334)) w167 (zk2 (w7s.k fk_zMc_334) (by omega)) ?_
                          obtain ⟨w169v, w169e, w169⟩ := ziadd (a := w7x7) (b := Int32.ofInt 1) rfl (show (Int32.ofInt 1).toInt = 1 by decide) (by omega) (by omega)
                          refine zs_iinc (pc := 158) t191_158 (ls' := [(7, .int w169v), (12, .int w10v), (11, .int w13v), (0, .ref 332), (1, .int a), (2, .int b), (3, .int c), (4, .int d), (5, .int e), (6, .int f), (8, .int w11x8), (9, .int w7x9), (10, .int w10v)]) (zml mf191 (by decide)) rfl (c := w169v) w169e rfl ?_
                          refine zs_aload_n (pc := 161) t191_161 rfl ?_
                          refine zs_get (pc := 162) t191_162 (by decide) (zk1 (w7s.k fk_zMc_332)) (w7s.p rfl fv_zMc_332_4) ?_
                          refine zs_iload (pc := 165) t191_165 rfl ?_
                          refine zs_iload (pc := 167) t191_167 rfl ?_
                          refine zs_iload (pc := 169) t191_169 rfl ?_
                          obtain ⟨w170v, w170⟩ : ∃ v, v = w10v + e := ⟨_, rfl⟩
                          have w170g := zrg w170v
                          refine zs_iadd (pc := 171) t191_171 (c := w170v) w170.symm ?_
                          have w171 : zIv cLo cHi (zsI (zsI w7M 334 w167n w10v) 333 w14n w170v) := zIv.put w168 (show (-2147483648) ≤ w170v.toInt ∧ w170v.toInt ≤ 2147483647 from (zrg w170v))
                          refine zs_iast (pc := 172) t191_172 (j := w14n) (by decide) (zk1 (w7s.k fk_zMc_333)) w14 (zk2 (w7s.k fk_zMc_333) (by omega)) ?_
                          refine zs_iload (pc := 173) t191_173 rfl ?_
                          refine zs_iload (pc := 175) t191_175 rfl ?_
                          by_cases w172 : w10v.toInt ≤ w10v.toInt
                          · refine zs_icmp_leT (pc := 177) t191_177 rfl rfl (by omega) ?_
                            refine zs_iload (pc := 196) t191_196 rfl ?_
                            refine zs_iload (pc := 198) t191_198 rfl ?_
                            obtain ⟨w173v, w173⟩ : ∃ v, v = w10v + e := ⟨_, rfl⟩
                            have w173g := zrg w173v
                            refine zs_iadd (pc := 200) t191_200 (c := w173v) w173.symm ?_
                            refine zs_iload (pc := 201) t191_201 rfl ?_
                            obtain ⟨w174v, w174⟩ : ∃ v, v = w173v - w10v := ⟨_, rfl⟩
                            have w174g := zrg w174v
                            refine zs_isub (pc := 203) t191_203 (c := w174v) w174.symm ?_
                            refine zs_iload (pc := 204) t191_204 rfl ?_
                            by_cases w175 : w174v.toInt ≤ f.toInt
                            · refine zs_icmp_leT (pc := 206) t191_206 rfl rfl (by omega) ?_
                              refine zs_aload_n (pc := 219) t191_219 rfl ?_
                              refine zs_aload_n (pc := 220) t191_220 rfl ?_
                              have w176 := ib332_3 w7I
                              refine zs_get (pc := 221) t191_221 (by decide) (zk1 (w7s.k fk_zMc_332)) (zfvi rfl ((zIo (by decide)).trans ((zIo (by decide)).trans rfl))) ?_
                              refine zs_iload (pc := 224) t191_224 rfl ?_
                              refine zs_iload (pc := 226) t191_226 rfl ?_
                              obtain ⟨w177v, w177⟩ : ∃ v, v = w10v + e := ⟨_, rfl⟩
                              have w177g := zrg w177v
                              refine zs_iadd (pc := 228) t191_228 (c := w177v) w177.symm ?_
                              refine zs_invS (pc := 229) (as := [.int (zI w7M 332 3), .int w177v]) (st := [.ref 332]) t191_229 (by decide) mf21 rfl rfl ⟨by decide, by decide, Nat.le_of_ble_eq_true rfl, Nat.le_of_ble_eq_true rfl⟩ (zs_in (by decide) mf21 (Nat.le_of_ble_eq_true rfl) ?_) (fun _ _ q => q)
                              show zGo X l 0 0 0 21 0 [(0, .int (zI w7M 332 3)), (1, .int w177v)] [] (zsI (zsI w7M 334 w167n w10v) 333 w14n w170v) _
                              refine zs_iload_n (pc := 0) t21_0 rfl ?_
                              refine zs_iload_n (pc := 1) t21_1 rfl ?_
                              by_cases w178 : (zI w7M 332 3).toInt < w177v.toInt
                              · refine zs_icmp_ltT (pc := 2) t21_2 rfl rfl (by omega) ?_
                                refine zs_iload_n (pc := 9) t21_9 rfl ?_
                                refine zs_iret (pc := 10) t21_10 mr21 rfl ?_
                                show zGo X l 1 0 0 191 232 [(7, .int w169v), (12, .int w10v), (11, .int w13v), (0, .ref 332), (1, .int a), (2, .int b), (3, .int c), (4, .int d), (5, .int e), (6, .int f), (8, .int w11x8), (9, .int w7x9), (10, .int w10v)] [.int w177v, .ref 332] (zsI (zsI w7M 334 w167n w10v) 333 w14n w170v) _
                                have w179 : zIv cLo cHi (zsI (zsI (zsI w7M 334 w167n w10v) 333 w14n w170v) 332 3 w177v) := zIv.put w171 (show (-2147483648) ≤ w177v.toInt ∧ w177v.toInt ≤ 2147483647 from (zrg w177v))
                                refine zs_putI (pc := 232) t191_232 (zk1 (w7s.k fk_zMc_332)) rfl ?_
                                obtain ⟨w180v, w180e, w180⟩ := ziadd (a := w7x9) (b := Int32.ofInt 1) rfl (show (Int32.ofInt 1).toInt = 1 by decide) (by omega) (by omega)
                                refine zs_iinc (pc := 235) t191_235 (ls' := [(9, .int w180v), (7, .int w169v), (12, .int w10v), (11, .int w13v), (0, .ref 332), (1, .int a), (2, .int b), (3, .int c), (4, .int d), (5, .int e), (6, .int f), (8, .int w11x8), (10, .int w10v)]) (zml mf191 (by decide)) rfl (c := w180v) w180e rfl ?_
                                refine zs_goto (pc := 238) t191_238 ?_
                                refine zGo.locals (ls' := [(0, .ref 332), (1, .int a), (2, .int b), (3, .int c), (4, .int d), (5, .int e), (6, .int f), (7, .int w169v), (8, .int w11x8), (9, .int w180v)]) (by simp) ?_
                                exact w7ih (w7m - 1) (by omega) w169v w11x8 w180v (zsI (zsI (zsI w7M 334 w167n w10v) 333 w14n w170v) 332 3 w177v) ⟨by omega, by omega⟩ ⟨by omega, by omega⟩ ⟨by omega, by omega⟩ w7s w179 (((((zFr.refl).trans (w7F.mono rfl)).put rfl).put rfl).put rfl) (by omega)
                              · refine zs_icmp_ltF (pc := 2) t21_2 rfl rfl (by omega) ?_
                                refine zs_iload_n (pc := 5) t21_5 rfl ?_
                                refine zs_goto (pc := 6) t21_6 ?_
                                refine zs_iret (pc := 10) t21_10 mr21 rfl ?_
                                show zGo X l 1 0 0 191 232 [(7, .int w169v), (12, .int w10v), (11, .int w13v), (0, .ref 332), (1, .int a), (2, .int b), (3, .int c), (4, .int d), (5, .int e), (6, .int f), (8, .int w11x8), (9, .int w7x9), (10, .int w10v)] [.int (zI w7M 332 3), .ref 332] (zsI (zsI w7M 334 w167n w10v) 333 w14n w170v) _
                                have w181 : zIv cLo cHi (zsI (zsI (zsI w7M 334 w167n w10v) 333 w14n w170v) 332 3 (zI w7M 332 3)) := zIv.put w171 (show (-2147483648) ≤ (zI w7M 332 3).toInt ∧ (zI w7M 332 3).toInt ≤ 2147483647 from (zrg (zI w7M 332 3)))
                                refine zs_putI (pc := 232) t191_232 (zk1 (w7s.k fk_zMc_332)) rfl ?_
                                obtain ⟨w182v, w182e, w182⟩ := ziadd (a := w7x9) (b := Int32.ofInt 1) rfl (show (Int32.ofInt 1).toInt = 1 by decide) (by omega) (by omega)
                                refine zs_iinc (pc := 235) t191_235 (ls' := [(9, .int w182v), (7, .int w169v), (12, .int w10v), (11, .int w13v), (0, .ref 332), (1, .int a), (2, .int b), (3, .int c), (4, .int d), (5, .int e), (6, .int f), (8, .int w11x8), (10, .int w10v)]) (zml mf191 (by decide)) rfl (c := w182v) w182e rfl ?_
                                refine zs_goto (pc := 238) t191_238 ?_
                                refine zGo.locals (ls' := [(0, .ref 332), (1, .int a), (2, .int b), (3, .int c), (4, .int d), (5, .int e), (6, .int f), (7, .int w169v), (8, .int w11x8), (9, .int w182v)]) (by simp) ?_
                                exact w7ih (w7m - 1) (by omega) w169v w11x8 w182v (zsI (zsI (zsI w7M 334 w167n w10v) 333 w14n w170v) 332 3 (zI w7M 332 3)) ⟨by omega, by omega⟩ ⟨by omega, by omega⟩ ⟨by omega, by omega⟩ w7s w181 (((((zFr.refl).trans (w7F.mono rfl)).put rfl).put rfl).put rfl) (by omega)
                            · refine zs_icmp_leF (pc := 206) t191_206 rfl rfl (by omega) ?_
                              refine zs_aload_n (pc := 209) t191_209 rfl ?_
                              refine zs_dup (pc := 210) t191_210 rfl ?_
                              have w183 := ib332_1 w7I
                              refine zs_get (pc := 211) t191_211 (by decide) (zk1 (w7s.k fk_zMc_332)) (zfvi rfl ((zIo (by decide)).trans ((zIo (by decide)).trans rfl))) ?_
                              refine zs_iconst (pc := 214) t191_214 (v := 1) (by decide) ?_
                              obtain ⟨w184v, w184⟩ : ∃ v, v = (zI w7M 332 1) + (1 : Int32) := ⟨_, rfl⟩
                              have w184g := zrg w184v
                              refine zs_iadd (pc := 215) t191_215 (c := w184v) w184.symm ?_
                              have w185 : zIv cLo cHi (zsI (zsI (zsI w7M 334 w167n w10v) 333 w14n w170v) 332 1 w184v) := zIv.put w171 (show (-2147483648) ≤ w184v.toInt ∧ w184v.toInt ≤ 2147483647 from (zrg w184v))
                              refine zs_putI (pc := 216) t191_216 (zk1 (w7s.k fk_zMc_332)) rfl ?_
                              refine zs_aload_n (pc := 219) t191_219 rfl ?_
                              refine zs_aload_n (pc := 220) t191_220 rfl ?_
                              have w186 := ib332_3 w7I
                              refine zs_get (pc := 221) t191_221 (by decide) (zk1 (w7s.k fk_zMc_332)) (zfvi rfl ((zIoj (by decide)).trans ((zIo (by decide)).trans ((zIo (by decide)).trans rfl)))) ?_
                              refine zs_iload (pc := 224) t191_224 rfl ?_
                              refine zs_iload (pc := 226) t191_226 rfl ?_
                              obtain ⟨w187v, w187⟩ : ∃ v, v = w10v + e := ⟨_, rfl⟩
                              have w187g := zrg w187v
                              refine zs_iadd (pc := 228) t191_228 (c := w187v) w187.symm ?_
                              refine zs_invS (pc := 229) (as := [.int (zI w7M 332 3), .int w187v]) (st := [.ref 332]) t191_229 (by decide) mf21 rfl rfl ⟨by decide, by decide, Nat.le_of_ble_eq_true rfl, Nat.le_of_ble_eq_true rfl⟩ (zs_in (by decide) mf21 (Nat.le_of_ble_eq_true rfl) ?_) (fun _ _ q => q)
                              show zGo X l 0 0 0 21 0 [(0, .int (zI w7M 332 3)), (1, .int w187v)] [] (zsI (zsI (zsI w7M 334 w167n w10v) 333 w14n w170v) 332 1 w184v) _
                              refine zs_iload_n (pc := 0) t21_0 rfl ?_
                              refine zs_iload_n (pc := 1) t21_1 rfl ?_
                              by_cases w188 : (zI w7M 332 3).toInt < w187v.toInt
                              · refine zs_icmp_ltT (pc := 2) t21_2 rfl rfl (by omega) ?_
                                refine zs_iload_n (pc := 9) t21_9 rfl ?_
                                refine zs_iret (pc := 10) t21_10 mr21 rfl ?_
                                show zGo X l 1 0 0 191 232 [(7, .int w169v), (12, .int w10v), (11, .int w13v), (0, .ref 332), (1, .int a), (2, .int b), (3, .int c), (4, .int d), (5, .int e), (6, .int f), (8, .int w11x8), (9, .int w7x9), (10, .int w10v)] [.int w187v, .ref 332] (zsI (zsI (zsI w7M 334 w167n w10v) 333 w14n w170v) 332 1 w184v) _
                                have w189 : zIv cLo cHi (zsI (zsI (zsI (zsI w7M 334 w167n w10v) 333 w14n w170v) 332 1 w184v) 332 3 w187v) := zIv.put w185 (show (-2147483648) ≤ w187v.toInt ∧ w187v.toInt ≤ 2147483647 from (zrg w187v))
                                refine zs_putI (pc := 232) t191_232 (zk1 (w7s.k fk_zMc_332)) rfl ?_
                                obtain ⟨w190v, w190e, w190⟩ := ziadd (a := w7x9) (b := Int32.ofInt 1) rfl (show (Int32.ofInt 1).toInt = 1 by decide) (by omega) (by omega)
                                refine zs_iinc (pc := 235) t191_235 (ls' := [(9, .int w190v), (7, .int w169v), (12, .int w10v), (11, .int w13v), (0, .ref 332), (1, .int a), (2, .int b), (3, .int c), (4, .int d), (5, .int e), (6, .int f), (8, .int w11x8), (10, .int w10v)]) (zml mf191 (by decide)) rfl (c := w190v) w190e rfl ?_
                                refine zs_goto (pc := 238) t191_238 ?_
                                refine zGo.locals (ls' := [(0, .ref 332), (1, .int a), (2, .int b), (3, .int c), (4, .int d), (5, .int e), (6, .int f), (7, .int w169v), (8, .int w11x8), (9, .int w190v)]) (by simp) ?_
                                exact w7ih (w7m - 1) (by omega) w169v w11x8 w190v (zsI (zsI (zsI (zsI w7M 334 w167n w10v) 333 w14n w170v) 332 1 w184v) 332 3 w187v) ⟨by omega, by omega⟩ ⟨by omega, by omega⟩ ⟨by omega, by omega⟩ w7s w189 ((((((zFr.refl).trans (w7F.mono rfl)).put rfl).put rfl).put rfl).put rfl) (by omega)
                              · refine zs_icmp_ltF (pc := 2) t21_2 rfl rfl (by omega) ?_
                                refine zs_iload_n (pc := 5) t21_5 rfl ?_
                                refine zs_goto (pc := 6) t21_6 ?_
                                refine zs_iret (pc := 10) t21_10 mr21 rfl ?_
                                show zGo X l 1 0 0 191 232 [(7, .int w169v), (12, .int w10v), (11, .int w13v), (0, .ref 332), (1, .int a), (2, .int b), (3, .int c), (4, .int d), (5, .int e), (6, .int f), (8, .int w11x8), (9, .int w7x9), (10, .int w10v)] [.int (zI w7M 332 3), .ref 332] (zsI (zsI (zsI w7M 334 w167n w10v) 333 w14n w170v) 332 1 w184v) _
                                have w191 : zIv cLo cHi (zsI (zsI (zsI (zsI w7M 334 w167n w10v) 333 w14n w170v) 332 1 w184v) 332 3 (zI w7M 332 3)) := zIv.put w185 (show (-2147483648) ≤ (zI w7M 332 3).toInt ∧ (zI w7M 332 3).toInt ≤ 2147483647 from (zrg (zI w7M 332 3)))
                                refine zs_putI (pc := 232) t191_232 (zk1 (w7s.k fk_zMc_332)) rfl ?_
                                obtain ⟨w192v, w192e, w192⟩ := ziadd (a := w7x9) (b := Int32.ofInt 1) rfl (show (Int32.ofInt 1).toInt = 1 by decide) (by omega) (by omega)
                                refine zs_iinc (pc := 235) t191_235 (ls' := [(9, .int w192v), (7, .int w169v), (12, .int w10v), (11, .int w13v), (0, .ref 332), (1, .int a), (2, .int b), (3, .int c), (4, .int d), (5, .int e), (6, .int f), (8, .int w11x8), (10, .int w10v)]) (zml mf191 (by decide)) rfl (c := w192v) w192e rfl ?_
                                refine zs_goto (pc := 238) t191_238 ?_
                                refine zGo.locals (ls' := [(0, .ref 332), (1, .int a), (2, .int b), (3, .int c), (4, .int d), (5, .int e), (6, .int f), (7, .int w169v), (8, .int w11x8), (9, .int w192v)]) (by simp) ?_
                                exact w7ih (w7m - 1) (by omega) w169v w11x8 w192v (zsI (zsI (zsI (zsI w7M 334 w167n w10v) 333 w14n w170v) 332 1 w184v) 332 3 (zI w7M 332 3)) ⟨by omega, by omega⟩ ⟨by omega, by omega⟩ ⟨by omega, by omega⟩ w7s w191 ((((((zFr.refl).trans (w7F.mono rfl)).put rfl).put rfl).put rfl).put rfl) (by omega)
                          · refine zs_icmp_leF (pc := 177) t191_177 rfl rfl (by omega) ?_
                            refine zs_aload_n (pc := 180) t191_180 rfl ?_
                            refine zs_aload_n (pc := 181) t191_181 rfl ?_
                            have w193 := ib332_2 w7I
                            refine zs_get (pc := 182) t191_182 (by decide) (zk1 (w7s.k fk_zMc_332)) (zfvi rfl ((zIo (by decide)).trans ((zIo (by decide)).trans rfl))) ?_
                            refine zs_iload (pc := 185) t191_185 rfl ?_
                            refine zs_iload (pc := 187) t191_187 rfl ?_
                            obtain ⟨w194v, w194e, w194⟩ := zisub (a := w169v) (b := w11x8) w169 rfl (by omega) (by omega)
                            refine zs_isub (pc := 189) t191_189 (c := w194v) w194e ?_
                            refine zs_invS (pc := 190) (as := [.int (zI w7M 332 2), .int w194v]) (st := [.ref 332]) t191_190 (by decide) mf21 rfl rfl ⟨by decide, by decide, Nat.le_of_ble_eq_true rfl, Nat.le_of_ble_eq_true rfl⟩ (zs_in (by decide) mf21 (Nat.le_of_ble_eq_true rfl) ?_) (fun _ _ q => q)
                            show zGo X l 0 0 0 21 0 [(0, .int (zI w7M 332 2)), (1, .int w194v)] [] (zsI (zsI w7M 334 w167n w10v) 333 w14n w170v) _
                            refine zs_iload_n (pc := 0) t21_0 rfl ?_
                            refine zs_iload_n (pc := 1) t21_1 rfl ?_
                            by_cases w195 : (zI w7M 332 2).toInt < ((w7x7.toInt + 1) - w11x8.toInt)
                            · refine zs_icmp_ltT (pc := 2) t21_2 rfl w194 (by omega) ?_
                              refine zs_iload_n (pc := 9) t21_9 rfl ?_
                              refine zs_iret (pc := 10) t21_10 mr21 rfl ?_
                              show zGo X l 1 0 0 191 193 [(7, .int w169v), (12, .int w10v), (11, .int w13v), (0, .ref 332), (1, .int a), (2, .int b), (3, .int c), (4, .int d), (5, .int e), (6, .int f), (8, .int w11x8), (9, .int w7x9), (10, .int w10v)] [.int w194v, .ref 332] (zsI (zsI w7M 334 w167n w10v) 333 w14n w170v) _
                              have w196 : zIv cLo cHi (zsI (zsI (zsI w7M 334 w167n w10v) 333 w14n w170v) 332 2 w194v) := zIv.put w171 (show (-2147483648) ≤ w194v.toInt ∧ w194v.toInt ≤ 2147483647 from (zrg w194v))
                              refine zs_putI (pc := 193) t191_193 (zk1 (w7s.k fk_zMc_332)) rfl ?_
                              refine zs_iload (pc := 196) t191_196 rfl ?_
                              refine zs_iload (pc := 198) t191_198 rfl ?_
                              obtain ⟨w197v, w197⟩ : ∃ v, v = w10v + e := ⟨_, rfl⟩
                              have w197g := zrg w197v
                              refine zs_iadd (pc := 200) t191_200 (c := w197v) w197.symm ?_
                              refine zs_iload (pc := 201) t191_201 rfl ?_
                              obtain ⟨w198v, w198⟩ : ∃ v, v = w197v - w10v := ⟨_, rfl⟩
                              have w198g := zrg w198v
                              refine zs_isub (pc := 203) t191_203 (c := w198v) w198.symm ?_
                              refine zs_iload (pc := 204) t191_204 rfl ?_
                              by_cases w199 : w198v.toInt ≤ f.toInt
                              · refine zs_icmp_leT (pc := 206) t191_206 rfl rfl (by omega) ?_
                                refine zs_aload_n (pc := 219) t191_219 rfl ?_
                                refine zs_aload_n (pc := 220) t191_220 rfl ?_
                                have w200 := ib332_3 w7I
                                refine zs_get (pc := 221) t191_221 (by decide) (zk1 (w7s.k fk_zMc_332)) (zfvi rfl ((zIoj (by decide)).trans ((zIo (by decide)).trans ((zIo (by decide)).trans rfl)))) ?_
                                refine zs_iload (pc := 224) t191_224 rfl ?_
                                refine zs_iload (pc := 226) t191_226 rfl ?_
                                obtain ⟨w201v, w201⟩ : ∃ v, v = w10v + e := ⟨_, rfl⟩
                                have w201g := zrg w201v
                                refine zs_iadd (pc := 228) t191_228 (c := w201v) w201.symm ?_
                                refine zs_invS (pc := 229) (as := [.int (zI w7M 332 3), .int w201v]) (st := [.ref 332]) t191_229 (by decide) mf21 rfl rfl ⟨by decide, by decide, Nat.le_of_ble_eq_true rfl, Nat.le_of_ble_eq_true rfl⟩ (zs_in (by decide) mf21 (Nat.le_of_ble_eq_true rfl) ?_) (fun _ _ q => q)
                                show zGo X l 0 0 0 21 0 [(0, .int (zI w7M 332 3)), (1, .int w201v)] [] (zsI (zsI (zsI w7M 334 w167n w10v) 333 w14n w170v) 332 2 w194v) _
                                refine zs_iload_n (pc := 0) t21_0 rfl ?_
                                refine zs_iload_n (pc := 1) t21_1 rfl ?_
                                by_cases w202 : (zI w7M 332 3).toInt < w201v.toInt
                                · refine zs_icmp_ltT (pc := 2) t21_2 rfl rfl (by omega) ?_
                                  refine zs_iload_n (pc := 9) t21_9 rfl ?_
                                  refine zs_iret (pc := 10) t21_10 mr21 rfl ?_
                                  show zGo X l 1 0 0 191 232 [(7, .int w169v), (12, .int w10v), (11, .int w13v), (0, .ref 332), (1, .int a), (2, .int b), (3, .int c), (4, .int d), (5, .int e), (6, .int f), (8, .int w11x8), (9, .int w7x9), (10, .int w10v)] [.int w201v, .ref 332] (zsI (zsI (zsI w7M 334 w167n w10v) 333 w14n w170v) 332 2 w194v) _
                                  have w203 : zIv cLo cHi (zsI (zsI (zsI (zsI w7M 334 w167n w10v) 333 w14n w170v) 332 2 w194v) 332 3 w201v) := zIv.put w196 (show (-2147483648) ≤ w201v.toInt ∧ w201v.toInt ≤ 2147483647 from (zrg w201v))
                                  refine zs_putI (pc := 232) t191_232 (zk1 (w7s.k fk_zMc_332)) rfl ?_
                                  obtain ⟨w204v, w204e, w204⟩ := ziadd (a := w7x9) (b := Int32.ofInt 1) rfl (show (Int32.ofInt 1).toInt = 1 by decide) (by omega) (by omega)
                                  refine zs_iinc (pc := 235) t191_235 (ls' := [(9, .int w204v), (7, .int w169v), (12, .int w10v), (11, .int w13v), (0, .ref 332), (1, .int a), (2, .int b), (3, .int c), (4, .int d), (5, .int e), (6, .int f), (8, .int w11x8), (10, .int w10v)]) (zml mf191 (by decide)) rfl (c := w204v) w204e rfl ?_
                                  refine zs_goto (pc := 238) t191_238 ?_
                                  refine zGo.locals (ls' := [(0, .ref 332), (1, .int a), (2, .int b), (3, .int c), (4, .int d), (5, .int e), (6, .int f), (7, .int w169v), (8, .int w11x8), (9, .int w204v)]) (by simp) ?_
                                  exact w7ih (w7m - 1) (by omega) w169v w11x8 w204v (zsI (zsI (zsI (zsI w7M 334 w167n w10v) 333 w14n w170v) 332 2 w194v) 332 3 w201v) ⟨by omega, by omega⟩ ⟨by omega, by omega⟩ ⟨by omega, by omega⟩ w7s w203 ((((((zFr.refl).trans (w7F.mono rfl)).put rfl).put rfl).put rfl).put rfl) (by omega)
                                · refine zs_icmp_ltF (pc := 2) t21_2 rfl rfl (by omega) ?_
                                  refine zs_iload_n (pc := 5) t21_5 rfl ?_
                                  refine zs_goto (pc := 6) t21_6 ?_
                                  refine zs_iret (pc := 10) t21_10 mr21 rfl ?_
                                  show zGo X l 1 0 0 191 232 [(7, .int w169v), (12, .int w10v), (11, .int w13v), (0, .ref 332), (1, .int a), (2, .int b), (3, .int c), (4, .int d), (5, .int e), (6, .int f), (8, .int w11x8), (9, .int w7x9), (10, .int w10v)] [.int (zI w7M 332 3), .ref 332] (zsI (zsI (zsI w7M 334 w167n w10v) 333 w14n w170v) 332 2 w194v) _
                                  have w205 : zIv cLo cHi (zsI (zsI (zsI (zsI w7M 334 w167n w10v) 333 w14n w170v) 332 2 w194v) 332 3 (zI w7M 332 3)) := zIv.put w196 (show (-2147483648) ≤ (zI w7M 332 3).toInt ∧ (zI w7M 332 3).toInt ≤ 2147483647 from (zrg (zI w7M 332 3)))
                                  refine zs_putI (pc := 232) t191_232 (zk1 (w7s.k fk_zMc_332)) rfl ?_
                                  obtain ⟨w206v, w206e, w206⟩ := ziadd (a := w7x9) (b := Int32.ofInt 1) rfl (show (Int32.ofInt 1).toInt = 1 by decide) (by omega) (by omega)
                                  refine zs_iinc (pc := 235) t191_235 (ls' := [(9, .int w206v), (7, .int w169v), (12, .int w10v), (11, .int w13v), (0, .ref 332), (1, .int a), (2, .int b), (3, .int c), (4, .int d), (5, .int e), (6, .int f), (8, .int w11x8), (10, .int w10v)]) (zml mf191 (by decide)) rfl (c := w206v) w206e rfl ?_
                                  refine zs_goto (pc := 238) t191_238 ?_
                                  refine zGo.locals (ls' := [(0, .ref 332), (1, .int a), (2, .int b), (3, .int c), (4, .int d), (5, .int e), (6, .int f), (7, .int w169v), (8, .int w11x8), (9, .int w206v)]) (by simp) ?_
                                  exact w7ih (w7m - 1) (by omega) w169v w11x8 w206v (zsI (zsI (zsI (zsI w7M 334 w167n w10v) 333 w14n w170v) 332 2 w194v) 332 3 (zI w7M 332 3)) ⟨by omega, by omega⟩ ⟨by omega, by omega⟩ ⟨by omega, by omega⟩ w7s w205 ((((((zFr.refl).trans (w7F.mono rfl)).put rfl).put rfl).put rfl).put rfl) (by omega)
                              · refine zs_icmp_leF (pc := 206) t191_206 rfl rfl (by omega) ?_
                                refine zs_aload_n (pc := 209) t191_209 rfl ?_
                                refine zs_dup (pc := 210) t191_210 rfl ?_
                                have w207 := ib332_1 w7I
                                refine zs_get (pc := 211) t191_211 (by decide) (zk1 (w7s.k fk_zMc_332)) (zfvi rfl ((zIoj (by decide)).trans ((zIo (by decide)).trans ((zIo (by decide)).trans rfl)))) ?_
                                refine zs_iconst (pc := 214) t191_214 (v := 1) (by decide) ?_
                                obtain ⟨w208v, w208⟩ : ∃ v, v = (zI w7M 332 1) + (1 : Int32) := ⟨_, rfl⟩
                                have w208g := zrg w208v
                                refine zs_iadd (pc := 215) t191_215 (c := w208v) w208.symm ?_
                                have w209 : zIv cLo cHi (zsI (zsI (zsI (zsI w7M 334 w167n w10v) 333 w14n w170v) 332 2 w194v) 332 1 w208v) := zIv.put w196 (show (-2147483648) ≤ w208v.toInt ∧ w208v.toInt ≤ 2147483647 from (zrg w208v))
                                refine zs_putI (pc := 216) t191_216 (zk1 (w7s.k fk_zMc_332)) rfl ?_
                                refine zs_aload_n (pc := 219) t191_219 rfl ?_
                                refine zs_aload_n (pc := 220) t191_220 rfl ?_
                                have w210 := ib332_3 w7I
                                refine zs_get (pc := 221) t191_221 (by decide) (zk1 (w7s.k fk_zMc_332)) (zfvi rfl ((zIoj (by decide)).trans ((zIoj (by decide)).trans ((zIo (by decide)).trans ((zIo (by decide)).trans rfl))))) ?_
                                refine zs_iload (pc := 224) t191_224 rfl ?_
                                refine zs_iload (pc := 226) t191_226 rfl ?_
                                obtain ⟨w211v, w211⟩ : ∃ v, v = w10v + e := ⟨_, rfl⟩
                                have w211g := zrg w211v
                                refine zs_iadd (pc := 228) t191_228 (c := w211v) w211.symm ?_
                                refine zs_invS (pc := 229) (as := [.int (zI w7M 332 3), .int w211v]) (st := [.ref 332]) t191_229 (by decide) mf21 rfl rfl ⟨by decide, by decide, Nat.le_of_ble_eq_true rfl, Nat.le_of_ble_eq_true rfl⟩ (zs_in (by decide) mf21 (Nat.le_of_ble_eq_true rfl) ?_) (fun _ _ q => q)
                                show zGo X l 0 0 0 21 0 [(0, .int (zI w7M 332 3)), (1, .int w211v)] [] (zsI (zsI (zsI (zsI w7M 334 w167n w10v) 333 w14n w170v) 332 2 w194v) 332 1 w208v) _
                                refine zs_iload_n (pc := 0) t21_0 rfl ?_
                                refine zs_iload_n (pc := 1) t21_1 rfl ?_
                                by_cases w212 : (zI w7M 332 3).toInt < w211v.toInt
                                · refine zs_icmp_ltT (pc := 2) t21_2 rfl rfl (by omega) ?_
                                  refine zs_iload_n (pc := 9) t21_9 rfl ?_
                                  refine zs_iret (pc := 10) t21_10 mr21 rfl ?_
                                  show zGo X l 1 0 0 191 232 [(7, .int w169v), (12, .int w10v), (11, .int w13v), (0, .ref 332), (1, .int a), (2, .int b), (3, .int c), (4, .int d), (5, .int e), (6, .int f), (8, .int w11x8), (9, .int w7x9), (10, .int w10v)] [.int w211v, .ref 332] (zsI (zsI (zsI (zsI w7M 334 w167n w10v) 333 w14n w170v) 332 2 w194v) 332 1 w208v) _
                                  have w213 : zIv cLo cHi (zsI (zsI (zsI (zsI (zsI w7M 334 w167n w10v) 333 w14n w170v) 332 2 w194v) 332 1 w208v) 332 3 w211v) := zIv.put w209 (show (-2147483648) ≤ w211v.toInt ∧ w211v.toInt ≤ 2147483647 from (zrg w211v))
                                  refine zs_putI (pc := 232) t191_232 (zk1 (w7s.k fk_zMc_332)) rfl ?_
                                  obtain ⟨w214v, w214e, w214⟩ := ziadd (a := w7x9) (b := Int32.ofInt 1) rfl (show (Int32.ofInt 1).toInt = 1 by decide) (by omega) (by omega)
                                  refine zs_iinc (pc := 235) t191_235 (ls' := [(9, .int w214v), (7, .int w169v), (12, .int w10v), (11, .int w13v), (0, .ref 332), (1, .int a), (2, .int b), (3, .int c), (4, .int d), (5, .int e), (6, .int f), (8, .int w11x8), (10, .int w10v)]) (zml mf191 (by decide)) rfl (c := w214v) w214e rfl ?_
                                  refine zs_goto (pc := 238) t191_238 ?_
                                  refine zGo.locals (ls' := [(0, .ref 332), (1, .int a), (2, .int b), (3, .int c), (4, .int d), (5, .int e), (6, .int f), (7, .int w169v), (8, .int w11x8), (9, .int w214v)]) (by simp) ?_
                                  exact w7ih (w7m - 1) (by omega) w169v w11x8 w214v (zsI (zsI (zsI (zsI (zsI w7M 334 w167n w10v) 333 w14n w170v) 332 2 w194v) 332 1 w208v) 332 3 w211v) ⟨by omega, by omega⟩ ⟨by omega, by omega⟩ ⟨by omega, by omega⟩ w7s w213 (((((((zFr.refl).trans (w7F.mono rfl)).put rfl).put rfl).put rfl).put rfl).put rfl) (by omega)
                                · refine zs_icmp_ltF (pc := 2) t21_2 rfl rfl (by omega) ?_
                                  refine zs_iload_n (pc := 5) t21_5 rfl ?_
                                  refine zs_goto (pc := 6) t21_6 ?_
                                  refine zs_iret (pc := 10) t21_10 mr21 rfl ?_
                                  show zGo X l 1 0 0 191 232 [(7, .int w169v), (12, .int w10v), (11, .int w13v), (0, .ref 332), (1, .int a), (2, .int b), (3, .int c), (4, .int d), (5, .int e), (6, .int f), (8, .int w11x8), (9, .int w7x9), (10, .int w10v)] [.int (zI w7M 332 3), .ref 332] (zsI (zsI (zsI (zsI w7M 334 w167n w10v) 333 w14n w170v) 332 2 w194v) 332 1 w208v) _
                                  have w215 : zIv cLo cHi (zsI (zsI (zsI (zsI (zsI w7M 334 w167n w10v) 333 w14n w170v) 332 2 w194v) 332 1 w208v) 332 3 (zI w7M 332 3)) := zIv.put w209 (show (-2147483648) ≤ (zI w7M 332 3).toInt ∧ (zI w7M 332 3).toInt ≤ 2147483647 from (zrg (zI w7M 332 3)))
                                  refine zs_putI (pc := 232) t191_232 (zk1 (w7s.k fk_zMc_332)) rfl ?_
                                  obtain ⟨w216v, w216e, w216⟩ := ziadd (a := w7x9) (b := Int32.ofInt 1) rfl (show (Int32.ofInt 1).toInt = 1 by decide) (by omega) (by omega)
                                  refine zs_iinc (pc := 235) t191_235 (ls' := [(9, .int w216v), (7, .int w169v), (12, .int w10v), (11, .int w13v), (0, .ref 332), (1, .int a), (2, .int b), (3, .int c), (4, .int d), (5, .int e), (6, .int f), (8, .int w11x8), (10, .int w10v)]) (zml mf191 (by decide)) rfl (c := w216v) w216e rfl ?_
                                  refine zs_goto (pc := 238) t191_238 ?_
                                  refine zGo.locals (ls' := [(0, .ref 332), (1, .int a), (2, .int b), (3, .int c), (4, .int d), (5, .int e), (6, .int f), (7, .int w169v), (8, .int w11x8), (9, .int w216v)]) (by simp) ?_
                                  exact w7ih (w7m - 1) (by omega) w169v w11x8 w216v (zsI (zsI (zsI (zsI (zsI w7M 334 w167n w10v) 333 w14n w170v) 332 2 w194v) 332 1 w208v) 332 3 (zI w7M 332 3)) ⟨by omega, by omega⟩ ⟨by omega, by omega⟩ ⟨by omega, by omega⟩ w7s w215 (((((((zFr.refl).trans (w7F.mono rfl)).put rfl).put rfl).put rfl).put rfl).put rfl) (by omega)
                            · refine zs_icmp_ltF (pc := 2) t21_2 rfl w194 (by omega) ?_
                              refine zs_iload_n (pc := 5) t21_5 rfl ?_
                              refine zs_goto (pc := 6) t21_6 ?_
                              refine zs_iret (pc := 10) t21_10 mr21 rfl ?_
                              show zGo X l 1 0 0 191 193 [(7, .int w169v), (12, .int w10v), (11, .int w13v), (0, .ref 332), (1, .int a), (2, .int b), (3, .int c), (4, .int d), (5, .int e), (6, .int f), (8, .int w11x8), (9, .int w7x9), (10, .int w10v)] [.int (zI w7M 332 2), .ref 332] (zsI (zsI w7M 334 w167n w10v) 333 w14n w170v) _
                              have w217 : zIv cLo cHi (zsI (zsI (zsI w7M 334 w167n w10v) 333 w14n w170v) 332 2 (zI w7M 332 2)) := zIv.put w171 (show (-2147483648) ≤ (zI w7M 332 2).toInt ∧ (zI w7M 332 2).toInt ≤ 2147483647 from (zrg (zI w7M 332 2)))
                              refine zs_putI (pc := 193) t191_193 (zk1 (w7s.k fk_zMc_332)) rfl ?_
                              refine zs_iload (pc := 196) t191_196 rfl ?_
                              refine zs_iload (pc := 198) t191_198 rfl ?_
                              obtain ⟨w218v, w218⟩ : ∃ v, v = w10v + e := ⟨_, rfl⟩
                              have w218g := zrg w218v
                              refine zs_iadd (pc := 200) t191_200 (c := w218v) w218.symm ?_
                              refine zs_iload (pc := 201) t191_201 rfl ?_
                              obtain ⟨w219v, w219⟩ : ∃ v, v = w218v - w10v := ⟨_, rfl⟩
                              have w219g := zrg w219v
                              refine zs_isub (pc := 203) t191_203 (c := w219v) w219.symm ?_
                              refine zs_iload (pc := 204) t191_204 rfl ?_
                              by_cases w220 : w219v.toInt ≤ f.toInt
                              · refine zs_icmp_leT (pc := 206) t191_206 rfl rfl (by omega) ?_
                                refine zs_aload_n (pc := 219) t191_219 rfl ?_
                                refine zs_aload_n (pc := 220) t191_220 rfl ?_
                                have w221 := ib332_3 w7I
                                refine zs_get (pc := 221) t191_221 (by decide) (zk1 (w7s.k fk_zMc_332)) (zfvi rfl ((zIoj (by decide)).trans ((zIo (by decide)).trans ((zIo (by decide)).trans rfl)))) ?_
                                refine zs_iload (pc := 224) t191_224 rfl ?_
                                refine zs_iload (pc := 226) t191_226 rfl ?_
                                obtain ⟨w222v, w222⟩ : ∃ v, v = w10v + e := ⟨_, rfl⟩
                                have w222g := zrg w222v
                                refine zs_iadd (pc := 228) t191_228 (c := w222v) w222.symm ?_
                                refine zs_invS (pc := 229) (as := [.int (zI w7M 332 3), .int w222v]) (st := [.ref 332]) t191_229 (by decide) mf21 rfl rfl ⟨by decide, by decide, Nat.le_of_ble_eq_true rfl, Nat.le_of_ble_eq_true rfl⟩ (zs_in (by decide) mf21 (Nat.le_of_ble_eq_true rfl) ?_) (fun _ _ q => q)
                                show zGo X l 0 0 0 21 0 [(0, .int (zI w7M 332 3)), (1, .int w222v)] [] (zsI (zsI (zsI w7M 334 w167n w10v) 333 w14n w170v) 332 2 (zI w7M 332 2)) _
                                refine zs_iload_n (pc := 0) t21_0 rfl ?_
                                refine zs_iload_n (pc := 1) t21_1 rfl ?_
                                by_cases w223 : (zI w7M 332 3).toInt < w222v.toInt
                                · refine zs_icmp_ltT (pc := 2) t21_2 rfl rfl (by omega) ?_
                                  refine zs_iload_n (pc := 9) t21_9 rfl ?_
                                  refine zs_iret (pc := 10) t21_10 mr21 rfl ?_
                                  show zGo X l 1 0 0 191 232 [(7, .int w169v), (12, .int w10v), (11, .int w13v), (0, .ref 332), (1, .int a), (2, .int b), (3, .int c), (4, .int d), (5, .int e), (6, .int f), (8, .int w11x8), (9, .int w7x9), (10, .int w10v)] [.int w222v, .ref 332] (zsI (zsI (zsI w7M 334 w167n w10v) 333 w14n w170v) 332 2 (zI w7M 332 2)) _
                                  have w224 : zIv cLo cHi (zsI (zsI (zsI (zsI w7M 334 w167n w10v) 333 w14n w170v) 332 2 (zI w7M 332 2)) 332 3 w222v) := zIv.put w217 (show (-2147483648) ≤ w222v.toInt ∧ w222v.toInt ≤ 2147483647 from (zrg w222v))
                                  refine zs_putI (pc := 232) t191_232 (zk1 (w7s.k fk_zMc_332)) rfl ?_
                                  obtain ⟨w225v, w225e, w225⟩ := ziadd (a := w7x9) (b := Int32.ofInt 1) rfl (show (Int32.ofInt 1).toInt = 1 by decide) (by omega) (by omega)
                                  refine zs_iinc (pc := 235) t191_235 (ls' := [(9, .int w225v), (7, .int w169v), (12, .int w10v), (11, .int w13v), (0, .ref 332), (1, .int a), (2, .int b), (3, .int c), (4, .int d), (5, .int e), (6, .int f), (8, .int w11x8), (10, .int w10v)]) (zml mf191 (by decide)) rfl (c := w225v) w225e rfl ?_
                                  refine zs_goto (pc := 238) t191_238 ?_
                                  refine zGo.locals (ls' := [(0, .ref 332), (1, .int a), (2, .int b), (3, .int c), (4, .int d), (5, .int e), (6, .int f), (7, .int w169v), (8, .int w11x8), (9, .int w225v)]) (by simp) ?_
                                  exact w7ih (w7m - 1) (by omega) w169v w11x8 w225v (zsI (zsI (zsI (zsI w7M 334 w167n w10v) 333 w14n w170v) 332 2 (zI w7M 332 2)) 332 3 w222v) ⟨by omega, by omega⟩ ⟨by omega, by omega⟩ ⟨by omega, by omega⟩ w7s w224 ((((((zFr.refl).trans (w7F.mono rfl)).put rfl).put rfl).put rfl).put rfl) (by omega)
                                · refine zs_icmp_ltF (pc := 2) t21_2 rfl rfl (by omega) ?_
                                  refine zs_iload_n (pc := 5) t21_5 rfl ?_
                                  refine zs_goto (pc := 6) t21_6 ?_
                                  refine zs_iret (pc := 10) t21_10 mr21 rfl ?_
                                  show zGo X l 1 0 0 191 232 [(7, .int w169v), (12, .int w10v), (11, .int w13v), (0, .ref 332), (1, .int a), (2, .int b), (3, .int c), (4, .int d), (5, .int e), (6, .int f), (8, .int w11x8), (9, .int w7x9), (10, .int w10v)] [.int (zI w7M 332 3), .ref 332] (zsI (zsI (zsI w7M 334 w167n w10v) 333 w14n w170v) 332 2 (zI w7M 332 2)) _
                                  have w226 : zIv cLo cHi (zsI (zsI (zsI (zsI w7M 334 w167n w10v) 333 w14n w170v) 332 2 (zI w7M 332 2)) 332 3 (zI w7M 332 3)) := zIv.put w217 (show (-2147483648) ≤ (zI w7M 332 3).toInt ∧ (zI w7M 332 3).toInt ≤ 2147483647 from (zrg (zI w7M 332 3)))
                                  refine zs_putI (pc := 232) t191_232 (zk1 (w7s.k fk_zMc_332)) rfl ?_
                                  obtain ⟨w227v, w227e, w227⟩ := ziadd (a := w7x9) (b := Int32.ofInt 1) rfl (show (Int32.ofInt 1).toInt = 1 by decide) (by omega) (by omega)
                                  refine zs_iinc (pc := 235) t191_235 (ls' := [(9, .int w227v), (7, .int w169v), (12, .int w10v), (11, .int w13v), (0, .ref 332), (1, .int a), (2, .int b), (3, .int c), (4, .int d), (5, .int e), (6, .int f), (8, .int w11x8), (10, .int w10v)]) (zml mf191 (by decide)) rfl (c := w227v) w227e rfl ?_
                                  refine zs_goto (pc := 238) t191_238 ?_
                                  refine zGo.locals (ls' := [(0, .ref 332), (1, .int a), (2, .int b), (3, .int c), (4, .int d), (5, .int e), (6, .int f), (7, .int w169v), (8, .int w11x8), (9, .int w227v)]) (by simp) ?_
                                  exact w7ih (w7m - 1) (by omega) w169v w11x8 w227v (zsI (zsI (zsI (zsI w7M 334 w167n w10v) 333 w14n w170v) 332 2 (zI w7M 332 2)) 332 3 (zI w7M 332 3)) ⟨by omega, by omega⟩ ⟨by omega, by omega⟩ ⟨by omega, by omega⟩ w7s w226 ((((((zFr.refl).trans (w7F.mono rfl)).put rfl).put rfl).put rfl).put rfl) (by omega)
                              · refine zs_icmp_leF (pc := 206) t191_206 rfl rfl (by omega) ?_
                                refine zs_aload_n (pc := 209) t191_209 rfl ?_
                                refine zs_dup (pc := 210) t191_210 rfl ?_
                                have w228 := ib332_1 w7I
                                refine zs_get (pc := 211) t191_211 (by decide) (zk1 (w7s.k fk_zMc_332)) (zfvi rfl ((zIoj (by decide)).trans ((zIo (by decide)).trans ((zIo (by decide)).trans rfl)))) ?_
                                refine zs_iconst (pc := 214) t191_214 (v := 1) (by decide) ?_
                                obtain ⟨w229v, w229⟩ : ∃ v, v = (zI w7M 332 1) + (1 : Int32) := ⟨_, rfl⟩
                                have w229g := zrg w229v
                                refine zs_iadd (pc := 215) t191_215 (c := w229v) w229.symm ?_
                                have w230 : zIv cLo cHi (zsI (zsI (zsI (zsI w7M 334 w167n w10v) 333 w14n w170v) 332 2 (zI w7M 332 2)) 332 1 w229v) := zIv.put w217 (show (-2147483648) ≤ w229v.toInt ∧ w229v.toInt ≤ 2147483647 from (zrg w229v))
                                refine zs_putI (pc := 216) t191_216 (zk1 (w7s.k fk_zMc_332)) rfl ?_
                                refine zs_aload_n (pc := 219) t191_219 rfl ?_
                                refine zs_aload_n (pc := 220) t191_220 rfl ?_
                                have w231 := ib332_3 w7I
                                refine zs_get (pc := 221) t191_221 (by decide) (zk1 (w7s.k fk_zMc_332)) (zfvi rfl ((zIoj (by decide)).trans ((zIoj (by decide)).trans ((zIo (by decide)).trans ((zIo (by decide)).trans rfl))))) ?_
                                refine zs_iload (pc := 224) t191_224 rfl ?_
                                refine zs_iload (pc := 226) t191_226 rfl ?_
                                obtain ⟨w232v, w232⟩ : ∃ v, v = w10v + e := ⟨_, rfl⟩
                                have w232g := zrg w232v
                                refine zs_iadd (pc := 228) t191_228 (c := w232v) w232.symm ?_
                                refine zs_invS (pc := 229) (as := [.int (zI w7M 332 3), .int w232v]) (st := [.ref 332]) t191_229 (by decide) mf21 rfl rfl ⟨by decide, by decide, Nat.le_of_ble_eq_true rfl, Nat.le_of_ble_eq_true rfl⟩ (zs_in (by decide) mf21 (Nat.le_of_ble_eq_true rfl) ?_) (fun _ _ q => q)
                                show zGo X l 0 0 0 21 0 [(0, .int (zI w7M 332 3)), (1, .int w232v)] [] (zsI (zsI (zsI (zsI w7M 334 w167n w10v) 333 w14n w170v) 332 2 (zI w7M 332 2)) 332 1 w229v) _
                                refine zs_iload_n (pc := 0) t21_0 rfl ?_
                                refine zs_iload_n (pc := 1) t21_1 rfl ?_
                                by_cases w233 : (zI w7M 332 3).toInt < w232v.toInt
                                · refine zs_icmp_ltT (pc := 2) t21_2 rfl rfl (by omega) ?_
                                  refine zs_iload_n (pc := 9) t21_9 rfl ?_
                                  refine zs_iret (pc := 10) t21_10 mr21 rfl ?_
                                  show zGo X l 1 0 0 191 232 [(7, .int w169v), (12, .int w10v), (11, .int w13v), (0, .ref 332), (1, .int a), (2, .int b), (3, .int c), (4, .int d), (5, .int e), (6, .int f), (8, .int w11x8), (9, .int w7x9), (10, .int w10v)] [.int w232v, .ref 332] (zsI (zsI (zsI (zsI w7M 334 w167n w10v) 333 w14n w170v) 332 2 (zI w7M 332 2)) 332 1 w229v) _
                                  have w234 : zIv cLo cHi (zsI (zsI (zsI (zsI (zsI w7M 334 w167n w10v) 333 w14n w170v) 332 2 (zI w7M 332 2)) 332 1 w229v) 332 3 w232v) := zIv.put w230 (show (-2147483648) ≤ w232v.toInt ∧ w232v.toInt ≤ 2147483647 from (zrg w232v))
                                  refine zs_putI (pc := 232) t191_232 (zk1 (w7s.k fk_zMc_332)) rfl ?_
                                  obtain ⟨w235v, w235e, w235⟩ := ziadd (a := w7x9) (b := Int32.ofInt 1) rfl (show (Int32.ofInt 1).toInt = 1 by decide) (by omega) (by omega)
                                  refine zs_iinc (pc := 235) t191_235 (ls' := [(9, .int w235v), (7, .int w169v), (12, .int w10v), (11, .int w13v), (0, .ref 332), (1, .int a), (2, .int b), (3, .int c), (4, .int d), (5, .int e), (6, .int f), (8, .int w11x8), (10, .int w10v)]) (zml mf191 (by decide)) rfl (c := w235v) w235e rfl ?_
                                  refine zs_goto (pc := 238) t191_238 ?_
                                  refine zGo.locals (ls' := [(0, .ref 332), (1, .int a), (2, .int b), (3, .int c), (4, .int d), (5, .int e), (6, .int f), (7, .int w169v), (8, .int w11x8), (9, .int w235v)]) (by simp) ?_
                                  exact w7ih (w7m - 1) (by omega) w169v w11x8 w235v (zsI (zsI (zsI (zsI (zsI w7M 334 w167n w10v) 333 w14n w170v) 332 2 (zI w7M 332 2)) 332 1 w229v) 332 3 w232v) ⟨by omega, by omega⟩ ⟨by omega, by omega⟩ ⟨by omega, by omega⟩ w7s w234 (((((((zFr.refl).trans (w7F.mono rfl)).put rfl).put rfl).put rfl).put rfl).put rfl) (by omega)
                                · refine zs_icmp_ltF (pc := 2) t21_2 rfl rfl (by omega) ?_
                                  refine zs_iload_n (pc := 5) t21_5 rfl ?_
                                  refine zs_goto (pc := 6) t21_6 ?_
                                  refine zs_iret (pc := 10) t21_10 mr21 rfl ?_
                                  show zGo X l 1 0 0 191 232 [(7, .int w169v), (12, .int w10v), (11, .int w13v), (0, .ref 332), (1, .int a), (2, .int b), (3, .int c), (4, .int d), (5, .int e), (6, .int f), (8, .int w11x8), (9, .int w7x9), (10, .int w10v)] [.int (zI w7M 332 3), .ref 332] (zsI (zsI (zsI (zsI w7M 334 w167n w10v) 333 w14n w170v) 332 2 (zI w7M 332 2)) 332 1 w229v) _
                                  have w236 : zIv cLo cHi (zsI (zsI (zsI (zsI (zsI w7M 334 w167n w10v) 333 w14n w170v) 332 2 (zI w7M 332 2)) 332 1 w229v) 332 3 (zI w7M 332 3)) := zIv.put w230 (show (-2147483648) ≤ (zI w7M 332 3).toInt ∧ (zI w7M 332 3).toInt ≤ 2147483647 from (zrg (zI w7M 332 3)))
                                  refine zs_putI (pc := 232) t191_232 (zk1 (w7s.k fk_zMc_332)) rfl ?_
                                  obtain ⟨w237v, w237e, w237⟩ := ziadd (a := w7x9) (b := Int32.ofInt 1) rfl (show (Int32.ofInt 1).toInt = 1 by decide) (by omega) (by omega)
                                  refine zs_iinc (pc := 235) t191_235 (ls' := [(9, .int w237v), (7, .int w169v), (12, .int w10v), (11, .int w13v), (0, .ref 332), (1, .int a), (2, .int b), (3, .int c), (4, .int d), (5, .int e), (6, .int f), (8, .int w11x8), (10, .int w10v)]) (zml mf191 (by decide)) rfl (c := w237v) w237e rfl ?_
                                  refine zs_goto (pc := 238) t191_238 ?_
                                  refine zGo.locals (ls' := [(0, .ref 332), (1, .int a), (2, .int b), (3, .int c), (4, .int d), (5, .int e), (6, .int f), (7, .int w169v), (8, .int w11x8), (9, .int w237v)]) (by simp) ?_
                                  exact w7ih (w7m - 1) (by omega) w169v w11x8 w237v (zsI (zsI (zsI (zsI (zsI w7M 334 w167n w10v) 333 w14n w170v) 332 2 (zI w7M 332 2)) 332 1 w229v) 332 3 (zI w7M 332 3)) ⟨by omega, by omega⟩ ⟨by omega, by omega⟩ ⟨by omega, by omega⟩ w7s w236 (((((((zFr.refl).trans (w7F.mono rfl)).put rfl).put rfl).put rfl).put rfl).put rfl) (by omega)
                        · refine zs_icmp_leF (pc := 123) t191_123 rfl rfl (by omega) ?_
                          refine zs_iload (pc := 126) t191_126 rfl ?_
                          refine zs_iload (pc := 128) t191_128 rfl ?_
                          obtain ⟨w238v, w238e, w238⟩ := zisub (a := w7x7) (b := w11x8) rfl rfl (by omega) (by omega)
                          refine zs_isub (pc := 130) t191_130 (c := w238v) w238e ?_
                          refine zs_iload (pc := 131) t191_131 rfl ?_
                          by_cases w239 : (w7x7.toInt - w11x8.toInt) < d.toInt
                          · refine zs_icmp_ltT (pc := 133) t191_133 w238 rfl (by omega) ?_
                            refine zs_aload_n (pc := 149) t191_149 rfl ?_
                            refine zs_get (pc := 150) t191_150 (by decide) (zk1 (w7s.k fk_zMc_332)) (w7s.p rfl fv_zMc_332_5) ?_
                            refine zs_iload (pc := 153) t191_153 rfl ?_
                            refine zs_iload (pc := 155) t191_155 rfl ?_
                            obtain ⟨w240n, w240⟩ : ∃ n : Nat, w7x7.toInt = (n : Int) := ⟨w7x7.toInt.toNat, by omega⟩
                            have w241 : zIv cLo cHi (zsI w7M 334 w240n w10v) := zIv.put w7I (show (-2147483648) ≤ w10v.toInt ∧ w10v.toInt ≤ 2147483647 from (zrg w10v))
                            refine zs_iast (pc := 157) t191_157 (j := w240n) (by decide) (zk1 (w7s.k fk_zMc_334)) w240 (zk2 (w7s.k fk_zMc_334) (by omega)) ?_
                            obtain ⟨w242v, w242e, w242⟩ := ziadd (a := w7x7) (b := Int32.ofInt 1) rfl (show (Int32.ofInt 1).toInt = 1 by decide) (by omega) (by omega)
                            refine zs_iinc (pc := 158) t191_158 (ls' := [(7, .int w242v), (12, .int w10v), (11, .int w13v), (0, .ref 332), (1, .int a), (2, .int b), (3, .int c), (4, .int d), (5, .int e), (6, .int f), (8, .int w11x8), (9, .int w7x9), (10, .int w10v)]) (zml mf191 (by decide)) rfl (c := w242v) w242e rfl ?_
                            refine zs_aload_n (pc := 161) t191_161 rfl ?_
                            refine zs_get (pc := 162) t191_162 (by decide) (zk1 (w7s.k fk_zMc_332)) (w7s.p rfl fv_zMc_332_4) ?_
                            refine zs_iload (pc := 165) t191_165 rfl ?_
                            refine zs_iload (pc := 167) t191_167 rfl ?_
                            refine zs_iload (pc := 169) t191_169 rfl ?_
                            obtain ⟨w243v, w243⟩ : ∃ v, v = w10v + e := ⟨_, rfl⟩
                            have w243g := zrg w243v
                            refine zs_iadd (pc := 171) t191_171 (c := w243v) w243.symm ?_
                            have w244 : zIv cLo cHi (zsI (zsI w7M 334 w240n w10v) 333 w14n w243v) := zIv.put w241 (show (-2147483648) ≤ w243v.toInt ∧ w243v.toInt ≤ 2147483647 from (zrg w243v))
                            refine zs_iast (pc := 172) t191_172 (j := w14n) (by decide) (zk1 (w7s.k fk_zMc_333)) w14 (zk2 (w7s.k fk_zMc_333) (by omega)) ?_
                            refine zs_iload (pc := 173) t191_173 rfl ?_
                            refine zs_iload (pc := 175) t191_175 rfl ?_
                            by_cases w245 : w10v.toInt ≤ w10v.toInt
                            · refine zs_icmp_leT (pc := 177) t191_177 rfl rfl (by omega) ?_
                              refine zs_iload (pc := 196) t191_196 rfl ?_
                              refine zs_iload (pc := 198) t191_198 rfl ?_
                              obtain ⟨w246v, w246⟩ : ∃ v, v = w10v + e := ⟨_, rfl⟩
                              have w246g := zrg w246v
                              refine zs_iadd (pc := 200) t191_200 (c := w246v) w246.symm ?_
                              refine zs_iload (pc := 201) t191_201 rfl ?_
                              obtain ⟨w247v, w247⟩ : ∃ v, v = w246v - w10v := ⟨_, rfl⟩
                              have w247g := zrg w247v
                              refine zs_isub (pc := 203) t191_203 (c := w247v) w247.symm ?_
                              refine zs_iload (pc := 204) t191_204 rfl ?_
                              by_cases w248 : w247v.toInt ≤ f.toInt
                              · refine zs_icmp_leT (pc := 206) t191_206 rfl rfl (by omega) ?_
                                refine zs_aload_n (pc := 219) t191_219 rfl ?_
                                refine zs_aload_n (pc := 220) t191_220 rfl ?_
                                have w249 := ib332_3 w7I
                                refine zs_get (pc := 221) t191_221 (by decide) (zk1 (w7s.k fk_zMc_332)) (zfvi rfl ((zIo (by decide)).trans ((zIo (by decide)).trans rfl))) ?_
                                refine zs_iload (pc := 224) t191_224 rfl ?_
                                refine zs_iload (pc := 226) t191_226 rfl ?_
                                obtain ⟨w250v, w250⟩ : ∃ v, v = w10v + e := ⟨_, rfl⟩
                                have w250g := zrg w250v
                                refine zs_iadd (pc := 228) t191_228 (c := w250v) w250.symm ?_
                                refine zs_invS (pc := 229) (as := [.int (zI w7M 332 3), .int w250v]) (st := [.ref 332]) t191_229 (by decide) mf21 rfl rfl ⟨by decide, by decide, Nat.le_of_ble_eq_true rfl, Nat.le_of_ble_eq_true rfl⟩ (zs_in (by decide) mf21 (Nat.le_of_ble_eq_true rfl) ?_) (fun _ _ q => q)
                                show zGo X l 0 0 0 21 0 [(0, .int (zI w7M 332 3)), (1, .int w250v)] [] (zsI (zsI w7M 334 w240n w10v) 333 w14n w243v) _
                                refine zs_iload_n (pc := 0) t21_0 rfl ?_
                                refine zs_iload_n (pc := 1) t21_1 rfl ?_
                                by_cases w251 : (zI w7M 332 3).toInt < w250v.toInt
                                · refine zs_icmp_ltT (pc := 2) t21_2 rfl rfl (by omega) ?_
                                  refine zs_iload_n (pc := 9) t21_9 rfl ?_
                                  refine zs_iret (pc := 10) t21_10 mr21 rfl ?_
                                  show zGo X l 1 0 0 191 232 [(7, .int w242v), (12, .int w10v), (11, .int w13v), (0, .ref 332), (1, .int a), (2, .int b), (3, .int c), (4, .int d), (5, .int e), (6, .int f), (8, .int w11x8), (9, .int w7x9), (10, .int w10v)] [.int w250v, .ref 332] (zsI (zsI w7M 334 w240n w10v) 333 w14n w243v) _
                                  have w252 : zIv cLo cHi (zsI (zsI (zsI w7M 334 w240n w10v) 333 w14n w243v) 332 3 w250v) := zIv.put w244 (show (-2147483648) ≤ w250v.toInt ∧ w250v.toInt ≤ 2147483647 from (zrg w250v))
                                  refine zs_putI (pc := 232) t191_232 (zk1 (w7s.k fk_zMc_332)) rfl ?_
                                  obtain ⟨w253v, w253e, w253⟩ := ziadd (a := w7x9) (b := Int32.ofInt 1) rfl (show (Int32.ofInt 1).toInt = 1 by decide) (by omega) (by omega)
                                  refine zs_iinc (pc := 235) t191_235 (ls' := [(9, .int w253v), (7, .int w242v), (12, .int w10v), (11, .int w13v), (0, .ref 332), (1, .int a), (2, .int b), (3, .int c), (4, .int d), (5, .int e), (6, .int f), (8, .int w11x8), (10, .int w10v)]) (zml mf191 (by decide)) rfl (c := w253v) w253e rfl ?_
                                  refine zs_goto (pc := 238) t191_238 ?_
                                  refine zGo.locals (ls' := [(0, .ref 332), (1, .int a), (2, .int b), (3, .int c), (4, .int d), (5, .int e), (6, .int f), (7, .int w242v), (8, .int w11x8), (9, .int w253v)]) (by simp) ?_
                                  exact w7ih (w7m - 1) (by omega) w242v w11x8 w253v (zsI (zsI (zsI w7M 334 w240n w10v) 333 w14n w243v) 332 3 w250v) ⟨by omega, by omega⟩ ⟨by omega, by omega⟩ ⟨by omega, by omega⟩ w7s w252 (((((zFr.refl).trans (w7F.mono rfl)).put rfl).put rfl).put rfl) (by omega)
                                · refine zs_icmp_ltF (pc := 2) t21_2 rfl rfl (by omega) ?_
                                  refine zs_iload_n (pc := 5) t21_5 rfl ?_
                                  refine zs_goto (pc := 6) t21_6 ?_
                                  refine zs_iret (pc := 10) t21_10 mr21 rfl ?_
                                  show zGo X l 1 0 0 191 232 [(7, .int w242v), (12, .int w10v), (11, .int w13v), (0, .ref 332), (1, .int a), (2, .int b), (3, .int c), (4, .int d), (5, .int e), (6, .int f), (8, .int w11x8), (9, .int w7x9), (10, .int w10v)] [.int (zI w7M 332 3), .ref 332] (zsI (zsI w7M 334 w240n w10v) 333 w14n w243v) _
                                  have w254 : zIv cLo cHi (zsI (zsI (zsI w7M 334 w240n w10v) 333 w14n w243v) 332 3 (zI w7M 332 3)) := zIv.put w244 (show (-2147483648) ≤ (zI w7M 332 3).toInt ∧ (zI w7M 332 3).toInt ≤ 2147483647 from (zrg (zI w7M 332 3)))
                                  refine zs_putI (pc := 232) t191_232 (zk1 (w7s.k fk_zMc_332)) rfl ?_
                                  obtain ⟨w255v, w255e, w255⟩ := ziadd (a := w7x9) (b := Int32.ofInt 1) rfl (show (Int32.ofInt 1).toInt = 1 by decide) (by omega) (by omega)
                                  refine zs_iinc (pc := 235) t191_235 (ls' := [(9, .int w255v), (7, .int w242v), (12, .int w10v), (11, .int w13v), (0, .ref 332), (1, .int a), (2, .int b), (3, .int c), (4, .int d), (5, .int e), (6, .int f), (8, .int w11x8), (10, .int w10v)]) (zml mf191 (by decide)) rfl (c := w255v) w255e rfl ?_
                                  refine zs_goto (pc := 238) t191_238 ?_
                                  refine zGo.locals (ls' := [(0, .ref 332), (1, .int a), (2, .int b), (3, .int c), (4, .int d), (5, .int e), (6, .int f), (7, .int w242v), (8, .int w11x8), (9, .int w255v)]) (by simp) ?_
                                  exact w7ih (w7m - 1) (by omega) w242v w11x8 w255v (zsI (zsI (zsI w7M 334 w240n w10v) 333 w14n w243v) 332 3 (zI w7M 332 3)) ⟨by omega, by omega⟩ ⟨by omega, by omega⟩ ⟨by omega, by omega⟩ w7s w254 (((((zFr.refl).trans (w7F.mono rfl)).put rfl).put rfl).put rfl) (by omega)
                              · refine zs_icmp_leF (pc := 206) t191_206 rfl rfl (by omega) ?_
                                refine zs_aload_n (pc := 209) t191_209 rfl ?_
                                refine zs_dup (pc := 210) t191_210 rfl ?_
                                have w256 := ib332_1 w7I
                                refine zs_get (pc := 211) t191_211 (by decide) (zk1 (w7s.k fk_zMc_332)) (zfvi rfl ((zIo (by decide)).trans ((zIo (by decide)).trans rfl))) ?_
                                refine zs_iconst (pc := 214) t191_214 (v := 1) (by decide) ?_
                                obtain ⟨w257v, w257⟩ : ∃ v, v = (zI w7M 332 1) + (1 : Int32) := ⟨_, rfl⟩
                                have w257g := zrg w257v
                                refine zs_iadd (pc := 215) t191_215 (c := w257v) w257.symm ?_
                                have w258 : zIv cLo cHi (zsI (zsI (zsI w7M 334 w240n w10v) 333 w14n w243v) 332 1 w257v) := zIv.put w244 (show (-2147483648) ≤ w257v.toInt ∧ w257v.toInt ≤ 2147483647 from (zrg w257v))
                                refine zs_putI (pc := 216) t191_216 (zk1 (w7s.k fk_zMc_332)) rfl ?_
                                refine zs_aload_n (pc := 219) t191_219 rfl ?_
                                refine zs_aload_n (pc := 220) t191_220 rfl ?_
                                have w259 := ib332_3 w7I
                                refine zs_get (pc := 221) t191_221 (by decide) (zk1 (w7s.k fk_zMc_332)) (zfvi rfl ((zIoj (by decide)).trans ((zIo (by decide)).trans ((zIo (by decide)).trans rfl)))) ?_
                                refine zs_iload (pc := 224) t191_224 rfl ?_
                                refine zs_iload (pc := 226) t191_226 rfl ?_
                                obtain ⟨w260v, w260⟩ : ∃ v, v = w10v + e := ⟨_, rfl⟩
                                have w260g := zrg w260v
                                refine zs_iadd (pc := 228) t191_228 (c := w260v) w260.symm ?_
                                refine zs_invS (pc := 229) (as := [.int (zI w7M 332 3), .int w260v]) (st := [.ref 332]) t191_229 (by decide) mf21 rfl rfl ⟨by decide, by decide, Nat.le_of_ble_eq_true rfl, Nat.le_of_ble_eq_true rfl⟩ (zs_in (by decide) mf21 (Nat.le_of_ble_eq_true rfl) ?_) (fun _ _ q => q)
                                show zGo X l 0 0 0 21 0 [(0, .int (zI w7M 332 3)), (1, .int w260v)] [] (zsI (zsI (zsI w7M 334 w240n w10v) 333 w14n w243v) 332 1 w257v) _
                                refine zs_iload_n (pc := 0) t21_0 rfl ?_
                                refine zs_iload_n (pc := 1) t21_1 rfl ?_
                                by_cases w261 : (zI w7M 332 3).toInt < w260v.toInt
                                · refine zs_icmp_ltT (pc := 2) t21_2 rfl rfl (by omega) ?_
                                  refine zs_iload_n (pc := 9) t21_9 rfl ?_
                                  refine zs_iret (pc := 10) t21_10 mr21 rfl ?_
                                  show zGo X l 1 0 0 191 232 [(7, .int w242v), (12, .int w10v), (11, .int w13v), (0, .ref 332), (1, .int a), (2, .int b), (3, .int c), (4, .int d), (5, .int e), (6, .int f), (8, .int w11x8), (9, .int w7x9), (10, .int w10v)] [.int w260v, .ref 332] (zsI (zsI (zsI w7M 334 w240n w10v) 333 w14n w243v) 332 1 w257v) _
                                  have w262 : zIv cLo cHi (zsI (zsI (zsI (zsI w7M 334 w240n w10v) 333 w14n w243v) 332 1 w257v) 332 3 w260v) := zIv.put w258 (show (-2147483648) ≤ w260v.toInt ∧ w260v.toInt ≤ 2147483647 from (zrg w260v))
                                  refine zs_putI (pc := 232) t191_232 (zk1 (w7s.k fk_zMc_332)) rfl ?_
                                  obtain ⟨w263v, w263e, w263⟩ := ziadd (a := w7x9) (b := Int32.ofInt 1) rfl (show (Int32.ofInt 1).toInt = 1 by decide) (by omega) (by omega)
                                  refine zs_iinc (pc := 235) t191_235 (ls' := [(9, .int w263v), (7, .int w242v), (12, .int w10v), (11, .int w13v), (0, .ref 332), (1, .int a), (2, .int b), (3, .int c), (4, .int d), (5, .int e), (6, .int f), (8, .int w11x8), (10, .int w10v)]) (zml mf191 (by decide)) rfl (c := w263v) w263e rfl ?_
                                  refine zs_goto (pc := 238) t191_238 ?_
                                  refine zGo.locals (ls' := [(0, .ref 332), (1, .int a), (2, .int b), (3, .int c), (4, .int d), (5, .int e), (6, .int f), (7, .int w242v), (8, .int w11x8), (9, .int w263v)]) (by simp) ?_
                                  exact w7ih (w7m - 1) (by omega) w242v w11x8 w263v (zsI (zsI (zsI (zsI w7M 334 w240n w10v) 333 w14n w243v) 332 1 w257v) 332 3 w260v) ⟨by omega, by omega⟩ ⟨by omega, by omega⟩ ⟨by omega, by omega⟩ w7s w262 ((((((zFr.refl).trans (w7F.mono rfl)).put rfl).put rfl).put rfl).put rfl) (by omega)
                                · refine zs_icmp_ltF (pc := 2) t21_2 rfl rfl (by omega) ?_
                                  refine zs_iload_n (pc := 5) t21_5 rfl ?_
                                  refine zs_goto (pc := 6) t21_6 ?_
                                  refine zs_iret (pc := 10) t21_10 mr21 rfl ?_
                                  show zGo X l 1 0 0 191 232 [(7, .int w242v), (12, .int w10v), (11, .int w13v), (0, .ref 332), (1, .int a), (2, .int b), (3, .int c), (4, .int d), (5, .int e), (6, .int f), (8, .int w11x8), (9, .int w7x9), (10, .int w10v)] [.int (zI w7M 332 3), .ref 332] (zsI (zsI (zsI w7M 334 w240n w10v) 333 w14n w243v) 332 1 w257v) _
                                  have w264 : zIv cLo cHi (zsI (zsI (zsI (zsI w7M 334 w240n w10v) 333 w14n w243v) 332 1 w257v) 332 3 (zI w7M 332 3)) := zIv.put w258 (show (-2147483648) ≤ (zI w7M 332 3).toInt ∧ (zI w7M 332 3).toInt ≤ 2147483647 from (zrg (zI w7M 332 3)))
                                  refine zs_putI (pc := 232) t191_232 (zk1 (w7s.k fk_zMc_332)) rfl ?_
                                  obtain ⟨w265v, w265e, w265⟩ := ziadd (a := w7x9) (b := Int32.ofInt 1) rfl (show (Int32.ofInt 1).toInt = 1 by decide) (by omega) (by omega)
                                  refine zs_iinc (pc := 235) t191_235 (ls' := [(9, .int w265v), (7, .int w242v), (12, .int w10v), (11, .int w13v), (0, .ref 332), (1, .int a), (2, .int b), (3, .int c), (4, .int d), (5, .int e), (6, .int f), (8, .int w11x8), (10, .int w10v)]) (zml mf191 (by decide)) rfl (c := w265v) w265e rfl ?_
                                  refine zs_goto (pc := 238) t191_238 ?_
                                  refine zGo.locals (ls' := [(0, .ref 332), (1, .int a), (2, .int b), (3, .int c), (4, .int d), (5, .int e), (6, .int f), (7, .int w242v), (8, .int w11x8), (9, .int w265v)]) (by simp) ?_
                                  exact w7ih (w7m - 1) (by omega) w242v w11x8 w265v (zsI (zsI (zsI (zsI w7M 334 w240n w10v) 333 w14n w243v) 332 1 w257v) 332 3 (zI w7M 332 3)) ⟨by omega, by omega⟩ ⟨by omega, by omega⟩ ⟨by omega, by omega⟩ w7s w264 ((((((zFr.refl).trans (w7F.mono rfl)).put rfl).put rfl).put rfl).put rfl) (by omega)
                            · refine zs_icmp_leF (pc := 177) t191_177 rfl rfl (by omega) ?_
                              refine zs_aload_n (pc := 180) t191_180 rfl ?_
                              refine zs_aload_n (pc := 181) t191_181 rfl ?_
                              have w266 := ib332_2 w7I
                              refine zs_get (pc := 182) t191_182 (by decide) (zk1 (w7s.k fk_zMc_332)) (zfvi rfl ((zIo (by decide)).trans ((zIo (by decide)).trans rfl))) ?_
                              refine zs_iload (pc := 185) t191_185 rfl ?_
                              refine zs_iload (pc := 187) t191_187 rfl ?_
                              obtain ⟨w267v, w267e, w267⟩ := zisub (a := w242v) (b := w11x8) w242 rfl (by omega) (by omega)
                              refine zs_isub (pc := 189) t191_189 (c := w267v) w267e ?_
                              refine zs_invS (pc := 190) (as := [.int (zI w7M 332 2), .int w267v]) (st := [.ref 332]) t191_190 (by decide) mf21 rfl rfl ⟨by decide, by decide, Nat.le_of_ble_eq_true rfl, Nat.le_of_ble_eq_true rfl⟩ (zs_in (by decide) mf21 (Nat.le_of_ble_eq_true rfl) ?_) (fun _ _ q => q)
                              show zGo X l 0 0 0 21 0 [(0, .int (zI w7M 332 2)), (1, .int w267v)] [] (zsI (zsI w7M 334 w240n w10v) 333 w14n w243v) _
                              refine zs_iload_n (pc := 0) t21_0 rfl ?_
                              refine zs_iload_n (pc := 1) t21_1 rfl ?_
                              by_cases w268 : (zI w7M 332 2).toInt < ((w7x7.toInt + 1) - w11x8.toInt)
                              · refine zs_icmp_ltT (pc := 2) t21_2 rfl w267 (by omega) ?_
                                refine zs_iload_n (pc := 9) t21_9 rfl ?_
                                refine zs_iret (pc := 10) t21_10 mr21 rfl ?_
                                show zGo X l 1 0 0 191 193 [(7, .int w242v), (12, .int w10v), (11, .int w13v), (0, .ref 332), (1, .int a), (2, .int b), (3, .int c), (4, .int d), (5, .int e), (6, .int f), (8, .int w11x8), (9, .int w7x9), (10, .int w10v)] [.int w267v, .ref 332] (zsI (zsI w7M 334 w240n w10v) 333 w14n w243v) _
                                have w269 : zIv cLo cHi (zsI (zsI (zsI w7M 334 w240n w10v) 333 w14n w243v) 332 2 w267v) := zIv.put w244 (show (-2147483648) ≤ w267v.toInt ∧ w267v.toInt ≤ 2147483647 from (zrg w267v))
                                refine zs_putI (pc := 193) t191_193 (zk1 (w7s.k fk_zMc_332)) rfl ?_
                                refine zs_iload (pc := 196) t191_196 rfl ?_
                                refine zs_iload (pc := 198) t191_198 rfl ?_
                                obtain ⟨w270v, w270⟩ : ∃ v, v = w10v + e := ⟨_, rfl⟩
                                have w270g := zrg w270v
                                refine zs_iadd (pc := 200) t191_200 (c := w270v) w270.symm ?_
                                refine zs_iload (pc := 201) t191_201 rfl ?_
                                obtain ⟨w271v, w271⟩ : ∃ v, v = w270v - w10v := ⟨_, rfl⟩
                                have w271g := zrg w271v
                                refine zs_isub (pc := 203) t191_203 (c := w271v) w271.symm ?_
                                refine zs_iload (pc := 204) t191_204 rfl ?_
                                by_cases w272 : w271v.toInt ≤ f.toInt
                                · refine zs_icmp_leT (pc := 206) t191_206 rfl rfl (by omega) ?_
                                  refine zs_aload_n (pc := 219) t191_219 rfl ?_
                                  refine zs_aload_n (pc := 220) t191_220 rfl ?_
                                  have w273 := ib332_3 w7I
                                  refine zs_get (pc := 221) t191_221 (by decide) (zk1 (w7s.k fk_zMc_332)) (zfvi rfl ((zIoj (by decide)).trans ((zIo (by decide)).trans ((zIo (by decide)).trans rfl)))) ?_
                                  refine zs_iload (pc := 224) t191_224 rfl ?_
                                  refine zs_iload (pc := 226) t191_226 rfl ?_
                                  obtain ⟨w274v, w274⟩ : ∃ v, v = w10v + e := ⟨_, rfl⟩
                                  have w274g := zrg w274v
                                  refine zs_iadd (pc := 228) t191_228 (c := w274v) w274.symm ?_
                                  refine zs_invS (pc := 229) (as := [.int (zI w7M 332 3), .int w274v]) (st := [.ref 332]) t191_229 (by decide) mf21 rfl rfl ⟨by decide, by decide, Nat.le_of_ble_eq_true rfl, Nat.le_of_ble_eq_true rfl⟩ (zs_in (by decide) mf21 (Nat.le_of_ble_eq_true rfl) ?_) (fun _ _ q => q)
                                  show zGo X l 0 0 0 21 0 [(0, .int (zI w7M 332 3)), (1, .int w274v)] [] (zsI (zsI (zsI w7M 334 w240n w10v) 333 w14n w243v) 332 2 w267v) _
                                  refine zs_iload_n (pc := 0) t21_0 rfl ?_
                                  refine zs_iload_n (pc := 1) t21_1 rfl ?_
                                  by_cases w275 : (zI w7M 332 3).toInt < w274v.toInt
                                  · refine zs_icmp_ltT (pc := 2) t21_2 rfl rfl (by omega) ?_
                                    refine zs_iload_n (pc := 9) t21_9 rfl ?_
                                    refine zs_iret (pc := 10) t21_10 mr21 rfl ?_
                                    show zGo X l 1 0 0 191 232 [(7, .int w242v), (12, .int w10v), (11, .int w13v), (0, .ref 332), (1, .int a), (2, .int b), (3, .int c), (4, .int d), (5, .int e), (6, .int f), (8, .int w11x8), (9, .int w7x9), (10, .int w10v)] [.int w274v, .ref 332] (zsI (zsI (zsI w7M 334 w240n w10v) 333 w14n w243v) 332 2 w267v) _
                                    have w276 : zIv cLo cHi (zsI (zsI (zsI (zsI w7M 334 w240n w10v) 333 w14n w243v) 332 2 w267v) 332 3 w274v) := zIv.put w269 (show (-2147483648) ≤ w274v.toInt ∧ w274v.toInt ≤ 2147483647 from (zrg w274v))
                                    refine zs_putI (pc := 232) t191_232 (zk1 (w7s.k fk_zMc_332)) rfl ?_
                                    obtain ⟨w277v, w277e, w277⟩ := ziadd (a := w7x9) (b := Int32.ofInt 1) rfl (show (Int32.ofInt 1).toInt = 1 by decide) (by omega) (by omega)
                                    refine zs_iinc (pc := 235) t191_235 (ls' := [(9, .int w277v), (7, .int w242v), (12, .int w10v), (11, .int w13v), (0, .ref 332), (1, .int a), (2, .int b), (3, .int c), (4, .int d), (5, .int e), (6, .int f), (8, .int w11x8), (10, .int w10v)]) (zml mf191 (by decide)) rfl (c := w277v) w277e rfl ?_
                                    refine zs_goto (pc := 238) t191_238 ?_
                                    refine zGo.locals (ls' := [(0, .ref 332), (1, .int a), (2, .int b), (3, .int c), (4, .int d), (5, .int e), (6, .int f), (7, .int w242v), (8, .int w11x8), (9, .int w277v)]) (by simp) ?_
                                    exact w7ih (w7m - 1) (by omega) w242v w11x8 w277v (zsI (zsI (zsI (zsI w7M 334 w240n w10v) 333 w14n w243v) 332 2 w267v) 332 3 w274v) ⟨by omega, by omega⟩ ⟨by omega, by omega⟩ ⟨by omega, by omega⟩ w7s w276 ((((((zFr.refl).trans (w7F.mono rfl)).put rfl).put rfl).put rfl).put rfl) (by omega)
                                  · refine zs_icmp_ltF (pc := 2) t21_2 rfl rfl (by omega) ?_
                                    refine zs_iload_n (pc := 5) t21_5 rfl ?_
                                    refine zs_goto (pc := 6) t21_6 ?_
                                    refine zs_iret (pc := 10) t21_10 mr21 rfl ?_
                                    show zGo X l 1 0 0 191 232 [(7, .int w242v), (12, .int w10v), (11, .int w13v), (0, .ref 332), (1, .int a), (2, .int b), (3, .int c), (4, .int d), (5, .int e), (6, .int f), (8, .int w11x8), (9, .int w7x9), (10, .int w10v)] [.int (zI w7M 332 3), .ref 332] (zsI (zsI (zsI w7M 334 w240n w10v) 333 w14n w243v) 332 2 w267v) _
                                    have w278 : zIv cLo cHi (zsI (zsI (zsI (zsI w7M 334 w240n w10v) 333 w14n w243v) 332 2 w267v) 332 3 (zI w7M 332 3)) := zIv.put w269 (show (-2147483648) ≤ (zI w7M 332 3).toInt ∧ (zI w7M 332 3).toInt ≤ 2147483647 from (zrg (zI w7M 332 3)))
                                    refine zs_putI (pc := 232) t191_232 (zk1 (w7s.k fk_zMc_332)) rfl ?_
                                    obtain ⟨w279v, w279e, w279⟩ := ziadd (a := w7x9) (b := Int32.ofInt 1) rfl (show (Int32.ofInt 1).toInt = 1 by decide) (by omega) (by omega)
                                    refine zs_iinc (pc := 235) t191_235 (ls' := [(9, .int w279v), (7, .int w242v), (12, .int w10v), (11, .int w13v), (0, .ref 332), (1, .int a), (2, .int b), (3, .int c), (4, .int d), (5, .int e), (6, .int f), (8, .int w11x8), (10, .int w10v)]) (zml mf191 (by decide)) rfl (c := w279v) w279e rfl ?_
                                    refine zs_goto (pc := 238) t191_238 ?_
                                    refine zGo.locals (ls' := [(0, .ref 332), (1, .int a), (2, .int b), (3, .int c), (4, .int d), (5, .int e), (6, .int f), (7, .int w242v), (8, .int w11x8), (9, .int w279v)]) (by simp) ?_
                                    exact w7ih (w7m - 1) (by omega) w242v w11x8 w279v (zsI (zsI (zsI (zsI w7M 334 w240n w10v) 333 w14n w243v) 332 2 w267v) 332 3 (zI w7M 332 3)) ⟨by omega, by omega⟩ ⟨by omega, by omega⟩ ⟨by omega, by omega⟩ w7s w278 ((((((zFr.refl).trans (w7F.mono rfl)).put rfl).put rfl).put rfl).put rfl) (by omega)
                                · refine zs_icmp_leF (pc := 206) t191_206 rfl rfl (by omega) ?_
                                  refine zs_aload_n (pc := 209) t191_209 rfl ?_
                                  refine zs_dup (pc := 210) t191_210 rfl ?_
                                  have w280 := ib332_1 w7I
                                  refine zs_get (pc := 211) t191_211 (by decide) (zk1 (w7s.k fk_zMc_332)) (zfvi rfl ((zIoj (by decide)).trans ((zIo (by decide)).trans ((zIo (by decide)).trans rfl)))) ?_
                                  refine zs_iconst (pc := 214) t191_214 (v := 1) (by decide) ?_
                                  obtain ⟨w281v, w281⟩ : ∃ v, v = (zI w7M 332 1) + (1 : Int32) := ⟨_, rfl⟩
                                  have w281g := zrg w281v
                                  refine zs_iadd (pc := 215) t191_215 (c := w281v) w281.symm ?_
                                  have w282 : zIv cLo cHi (zsI (zsI (zsI (zsI w7M 334 w240n w10v) 333 w14n w243v) 332 2 w267v) 332 1 w281v) := zIv.put w269 (show (-2147483648) ≤ w281v.toInt ∧ w281v.toInt ≤ 2147483647 from (zrg w281v))
                                  refine zs_putI (pc := 216) t191_216 (zk1 (w7s.k fk_zMc_332)) rfl ?_
                                  refine zs_aload_n (pc := 219) t191_219 rfl ?_
                                  refine zs_aload_n (pc := 220) t191_220 rfl ?_
                                  have w283 := ib332_3 w7I
                                  refine zs_get (pc := 221) t191_221 (by decide) (zk1 (w7s.k fk_zMc_332)) (zfvi rfl ((zIoj (by decide)).trans ((zIoj (by decide)).trans ((zIo (by decide)).trans ((zIo (by decide)).trans rfl))))) ?_
                                  refine zs_iload (pc := 224) t191_224 rfl ?_
                                  refine zs_iload (pc := 226) t191_226 rfl ?_
                                  obtain ⟨w284v, w284⟩ : ∃ v, v = w10v + e := ⟨_, rfl⟩
                                  have w284g := zrg w284v
                                  refine zs_iadd (pc := 228) t191_228 (c := w284v) w284.symm ?_
                                  refine zs_invS (pc := 229) (as := [.int (zI w7M 332 3), .int w284v]) (st := [.ref 332]) t191_229 (by decide) mf21 rfl rfl ⟨by decide, by decide, Nat.le_of_ble_eq_true rfl, Nat.le_of_ble_eq_true rfl⟩ (zs_in (by decide) mf21 (Nat.le_of_ble_eq_true rfl) ?_) (fun _ _ q => q)
                                  show zGo X l 0 0 0 21 0 [(0, .int (zI w7M 332 3)), (1, .int w284v)] [] (zsI (zsI (zsI (zsI w7M 334 w240n w10v) 333 w14n w243v) 332 2 w267v) 332 1 w281v) _
                                  refine zs_iload_n (pc := 0) t21_0 rfl ?_
                                  refine zs_iload_n (pc := 1) t21_1 rfl ?_
                                  by_cases w285 : (zI w7M 332 3).toInt < w284v.toInt
                                  · refine zs_icmp_ltT (pc := 2) t21_2 rfl rfl (by omega) ?_
                                    refine zs_iload_n (pc := 9) t21_9 rfl ?_
                                    refine zs_iret (pc := 10) t21_10 mr21 rfl ?_
                                    show zGo X l 1 0 0 191 232 [(7, .int w242v), (12, .int w10v), (11, .int w13v), (0, .ref 332), (1, .int a), (2, .int b), (3, .int c), (4, .int d), (5, .int e), (6, .int f), (8, .int w11x8), (9, .int w7x9), (10, .int w10v)] [.int w284v, .ref 332] (zsI (zsI (zsI (zsI w7M 334 w240n w10v) 333 w14n w243v) 332 2 w267v) 332 1 w281v) _
                                    have w286 : zIv cLo cHi (zsI (zsI (zsI (zsI (zsI w7M 334 w240n w10v) 333 w14n w243v) 332 2 w267v) 332 1 w281v) 332 3 w284v) := zIv.put w282 (show (-2147483648) ≤ w284v.toInt ∧ w284v.toInt ≤ 2147483647 from (zrg w284v))
                                    refine zs_putI (pc := 232) t191_232 (zk1 (w7s.k fk_zMc_332)) rfl ?_
                                    obtain ⟨w287v, w287e, w287⟩ := ziadd (a := w7x9) (b := Int32.ofInt 1) rfl (show (Int32.ofInt 1).toInt = 1 by decide) (by omega) (by omega)
                                    refine zs_iinc (pc := 235) t191_235 (ls' := [(9, .int w287v), (7, .int w242v), (12, .int w10v), (11, .int w13v), (0, .ref 332), (1, .int a), (2, .int b), (3, .int c), (4, .int d), (5, .int e), (6, .int f), (8, .int w11x8), (10, .int w10v)]) (zml mf191 (by decide)) rfl (c := w287v) w287e rfl ?_
                                    refine zs_goto (pc := 238) t191_238 ?_
                                    refine zGo.locals (ls' := [(0, .ref 332), (1, .int a), (2, .int b), (3, .int c), (4, .int d), (5, .int e), (6, .int f), (7, .int w242v), (8, .int w11x8), (9, .int w287v)]) (by simp) ?_
                                    exact w7ih (w7m - 1) (by omega) w242v w11x8 w287v (zsI (zsI (zsI (zsI (zsI w7M 334 w240n w10v) 333 w14n w243v) 332 2 w267v) 332 1 w281v) 332 3 w284v) ⟨by omega, by omega⟩ ⟨by omega, by omega⟩ ⟨by omega, by omega⟩ w7s w286 (((((((zFr.refl).trans (w7F.mono rfl)).put rfl).put rfl).put rfl).put rfl).put rfl) (by omega)
                                  · refine zs_icmp_ltF (pc := 2) t21_2 rfl rfl (by omega) ?_
                                    refine zs_iload_n (pc := 5) t21_5 rfl ?_
                                    refine zs_goto (pc := 6) t21_6 ?_
                                    refine zs_iret (pc := 10) t21_10 mr21 rfl ?_
                                    show zGo X l 1 0 0 191 232 [(7, .int w242v), (12, .int w10v), (11, .int w13v), (0, .ref 332), (1, .int a), (2, .int b), (3, .int c), (4, .int d), (5, .int e), (6, .int f), (8, .int w11x8), (9, .int w7x9), (10, .int w10v)] [.int (zI w7M 332 3), .ref 332] (zsI (zsI (zsI (zsI w7M 334 w240n w10v) 333 w14n w243v) 332 2 w267v) 332 1 w281v) _
                                    have w288 : zIv cLo cHi (zsI (zsI (zsI (zsI (zsI w7M 334 w240n w10v) 333 w14n w243v) 332 2 w267v) 332 1 w281v) 332 3 (zI w7M 332 3)) := zIv.put w282 (show (-2147483648) ≤ (zI w7M 332 3).toInt ∧ (zI w7M 332 3).toInt ≤ 2147483647 from (zrg (zI w7M 332 3)))
                                    refine zs_putI (pc := 232) t191_232 (zk1 (w7s.k fk_zMc_332)) rfl ?_
                                    obtain ⟨w289v, w289e, w289⟩ := ziadd (a := w7x9) (b := Int32.ofInt 1) rfl (show (Int32.ofInt 1).toInt = 1 by decide) (by omega) (by omega)
                                    refine zs_iinc (pc := 235) t191_235 (ls' := [(9, .int w289v), (7, .int w242v), (12, .int w10v), (11, .int w13v), (0, .ref 332), (1, .int a), (2, .int b), (3, .int c), (4, .int d), (5, .int e), (6, .int f), (8, .int w11x8), (10, .int w10v)]) (zml mf191 (by decide)) rfl (c := w289v) w289e rfl ?_
                                    refine zs_goto (pc := 238) t191_238 ?_
                                    refine zGo.locals (ls' := [(0, .ref 332), (1, .int a), (2, .int b), (3, .int c), (4, .int d), (5, .int e), (6, .int f), (7, .int w242v), (8, .int w11x8), (9, .int w289v)]) (by simp) ?_
                                    exact w7ih (w7m - 1) (by omega) w242v w11x8 w289v (zsI (zsI (zsI (zsI (zsI w7M 334 w240n w10v) 333 w14n w243v) 332 2 w267v) 332 1 w281v) 332 3 (zI w7M 332 3)) ⟨by omega, by omega⟩ ⟨by omega, by omega⟩ ⟨by omega, by omega⟩ w7s w288 (((((((zFr.refl).trans (w7F.mono rfl)).put rfl).put rfl).put rfl).put rfl).put rfl) (by omega)
                              · refine zs_icmp_ltF (pc := 2) t21_2 rfl w267 (by omega) ?_
                                refine zs_iload_n (pc := 5) t21_5 rfl ?_
                                refine zs_goto (pc := 6) t21_6 ?_
                                refine zs_iret (pc := 10) t21_10 mr21 rfl ?_
                                show zGo X l 1 0 0 191 193 [(7, .int w242v), (12, .int w10v), (11, .int w13v), (0, .ref 332), (1, .int a), (2, .int b), (3, .int c), (4, .int d), (5, .int e), (6, .int f), (8, .int w11x8), (9, .int w7x9), (10, .int w10v)] [.int (zI w7M 332 2), .ref 332] (zsI (zsI w7M 334 w240n w10v) 333 w14n w243v) _
                                have w290 : zIv cLo cHi (zsI (zsI (zsI w7M 334 w240n w10v) 333 w14n w243v) 332 2 (zI w7M 332 2)) := zIv.put w244 (show (-2147483648) ≤ (zI w7M 332 2).toInt ∧ (zI w7M 332 2).toInt ≤ 2147483647 from (zrg (zI w7M 332 2)))
                                refine zs_putI (pc := 193) t191_193 (zk1 (w7s.k fk_zMc_332)) rfl ?_
                                refine zs_iload (pc := 196) t191_196 rfl ?_
                                refine zs_iload (pc := 198) t191_198 rfl ?_
                                obtain ⟨w291v, w291⟩ : ∃ v, v = w10v + e := ⟨_, rfl⟩
                                have w291g := zrg w291v
                                refine zs_iadd (pc := 200) t191_200 (c := w291v) w291.symm ?_
                                refine zs_iload (pc := 201) t191_201 rfl ?_
                                obtain ⟨w292v, w292⟩ : ∃ v, v = w291v - w10v := ⟨_, rfl⟩
                                have w292g := zrg w292v
                                refine zs_isub (pc := 203) t191_203 (c := w292v) w292.symm ?_
                                refine zs_iload (pc := 204) t191_204 rfl ?_
                                by_cases w293 : w292v.toInt ≤ f.toInt
                                · refine zs_icmp_leT (pc := 206) t191_206 rfl rfl (by omega) ?_
                                  refine zs_aload_n (pc := 219) t191_219 rfl ?_
                                  refine zs_aload_n (pc := 220) t191_220 rfl ?_
                                  have w294 := ib332_3 w7I
                                  refine zs_get (pc := 221) t191_221 (by decide) (zk1 (w7s.k fk_zMc_332)) (zfvi rfl ((zIoj (by decide)).trans ((zIo (by decide)).trans ((zIo (by decide)).trans rfl)))) ?_
                                  refine zs_iload (pc := 224) t191_224 rfl ?_
                                  refine zs_iload (pc := 226) t191_226 rfl ?_
                                  obtain ⟨w295v, w295⟩ : ∃ v, v = w10v + e := ⟨_, rfl⟩
                                  have w295g := zrg w295v
                                  refine zs_iadd (pc := 228) t191_228 (c := w295v) w295.symm ?_
                                  refine zs_invS (pc := 229) (as := [.int (zI w7M 332 3), .int w295v]) (st := [.ref 332]) t191_229 (by decide) mf21 rfl rfl ⟨by decide, by decide, Nat.le_of_ble_eq_true rfl, Nat.le_of_ble_eq_true rfl⟩ (zs_in (by decide) mf21 (Nat.le_of_ble_eq_true rfl) ?_) (fun _ _ q => q)
                                  show zGo X l 0 0 0 21 0 [(0, .int (zI w7M 332 3)), (1, .int w295v)] [] (zsI (zsI (zsI w7M 334 w240n w10v) 333 w14n w243v) 332 2 (zI w7M 332 2)) _
                                  refine zs_iload_n (pc := 0) t21_0 rfl ?_
                                  refine zs_iload_n (pc := 1) t21_1 rfl ?_
                                  by_cases w296 : (zI w7M 332 3).toInt < w295v.toInt
                                  · refine zs_icmp_ltT (pc := 2) t21_2 rfl rfl (by omega) ?_
                                    refine zs_iload_n (pc := 9) t21_9 rfl ?_
                                    refine zs_iret (pc := 10) t21_10 mr21 rfl ?_
                                    show zGo X l 1 0 0 191 232 [(7, .int w242v), (12, .int w10v), (11, .int w13v), (0, .ref 332), (1, .int a), (2, .int b), (3, .int c), (4, .int d), (5, .int e), (6, .int f), (8, .int w11x8), (9, .int w7x9), (10, .int w10v)] [.int w295v, .ref 332] (zsI (zsI (zsI w7M 334 w240n w10v) 333 w14n w243v) 332 2 (zI w7M 332 2)) _
                                    have w297 : zIv cLo cHi (zsI (zsI (zsI (zsI w7M 334 w240n w10v) 333 w14n w243v) 332 2 (zI w7M 332 2)) 332 3 w295v) := zIv.put w290 (show (-2147483648) ≤ w295v.toInt ∧ w295v.toInt ≤ 2147483647 from (zrg w295v))
                                    refine zs_putI (pc := 232) t191_232 (zk1 (w7s.k fk_zMc_332)) rfl ?_
                                    obtain ⟨w298v, w298e, w298⟩ := ziadd (a := w7x9) (b := Int32.ofInt 1) rfl (show (Int32.ofInt 1).toInt = 1 by decide) (by omega) (by omega)
                                    refine zs_iinc (pc := 235) t191_235 (ls' := [(9, .int w298v), (7, .int w242v), (12, .int w10v), (11, .int w13v), (0, .ref 332), (1, .int a), (2, .int b), (3, .int c), (4, .int d), (5, .int e), (6, .int f), (8, .int w11x8), (10, .int w10v)]) (zml mf191 (by decide)) rfl (c := w298v) w298e rfl ?_
                                    refine zs_goto (pc := 238) t191_238 ?_
                                    refine zGo.locals (ls' := [(0, .ref 332), (1, .int a), (2, .int b), (3, .int c), (4, .int d), (5, .int e), (6, .int f), (7, .int w242v), (8, .int w11x8), (9, .int w298v)]) (by simp) ?_
                                    exact w7ih (w7m - 1) (by omega) w242v w11x8 w298v (zsI (zsI (zsI (zsI w7M 334 w240n w10v) 333 w14n w243v) 332 2 (zI w7M 332 2)) 332 3 w295v) ⟨by omega, by omega⟩ ⟨by omega, by omega⟩ ⟨by omega, by omega⟩ w7s w297 ((((((zFr.refl).trans (w7F.mono rfl)).put rfl).put rfl).put rfl).put rfl) (by omega)
                                  · refine zs_icmp_ltF (pc := 2) t21_2 rfl rfl (by omega) ?_
                                    refine zs_iload_n (pc := 5) t21_5 rfl ?_
                                    refine zs_goto (pc := 6) t21_6 ?_
                                    refine zs_iret (pc := 10) t21_10 mr21 rfl ?_
                                    show zGo X l 1 0 0 191 232 [(7, .int w242v), (12, .int w10v), (11, .int w13v), (0, .ref 332), (1, .int a), (2, .int b), (3, .int c), (4, .int d), (5, .int e), (6, .int f), (8, .int w11x8), (9, .int w7x9), (10, .int w10v)] [.int (zI w7M 332 3), .ref 332] (zsI (zsI (zsI w7M 334 w240n w10v) 333 w14n w243v) 332 2 (zI w7M 332 2)) _
                                    have w299 : zIv cLo cHi (zsI (zsI (zsI (zsI w7M 334 w240n w10v) 333 w14n w243v) 332 2 (zI w7M 332 2)) 332 3 (zI w7M 332 3)) := zIv.put w290 (show (-2147483648) ≤ (zI w7M 332 3).toInt ∧ (zI w7M 332 3).toInt ≤ 2147483647 from (zrg (zI w7M 332 3)))
                                    refine zs_putI (pc := 232) t191_232 (zk1 (w7s.k fk_zMc_332)) rfl ?_
                                    obtain ⟨w300v, w300e, w300⟩ := ziadd (a := w7x9) (b := Int32.ofInt 1) rfl (show (Int32.ofInt 1).toInt = 1 by decide) (by omega) (by omega)
                                    refine zs_iinc (pc := 235) t191_235 (ls' := [(9, .int w300v), (7, .int w242v), (12, .int w10v), (11, .int w13v), (0, .ref 332), (1, .int a), (2, .int b), (3, .int c), (4, .int d), (5, .int e), (6, .int f), (8, .int w11x8), (10, .int w10v)]) (zml mf191 (by decide)) rfl (c := w300v) w300e rfl ?_
                                    refine zs_goto (pc := 238) t191_238 ?_
                                    refine zGo.locals (ls' := [(0, .ref 332), (1, .int a), (2, .int b), (3, .int c), (4, .int d), (5, .int e), (6, .int f), (7, .int w242v), (8, .int w11x8), (9, .int w300v)]) (by simp) ?_
                                    exact w7ih (w7m - 1) (by omega) w242v w11x8 w300v (zsI (zsI (zsI (zsI w7M 334 w240n w10v) 333 w14n w243v) 332 2 (zI w7M 332 2)) 332 3 (zI w7M 332 3)) ⟨by omega, by omega⟩ ⟨by omega, by omega⟩ ⟨by omega, by omega⟩ w7s w299 ((((((zFr.refl).trans (w7F.mono rfl)).put rfl).put rfl).put rfl).put rfl) (by omega)
                                · refine zs_icmp_leF (pc := 206) t191_206 rfl rfl (by omega) ?_
                                  refine zs_aload_n (pc := 209) t191_209 rfl ?_
                                  refine zs_dup (pc := 210) t191_210 rfl ?_
                                  have w301 := ib332_1 w7I
                                  refine zs_get (pc := 211) t191_211 (by decide) (zk1 (w7s.k fk_zMc_332)) (zfvi rfl ((zIoj (by decide)).trans ((zIo (by decide)).trans ((zIo (by decide)).trans rfl)))) ?_
                                  refine zs_iconst (pc := 214) t191_214 (v := 1) (by decide) ?_
                                  obtain ⟨w302v, w302⟩ : ∃ v, v = (zI w7M 332 1) + (1 : Int32) := ⟨_, rfl⟩
                                  have w302g := zrg w302v
                                  refine zs_iadd (pc := 215) t191_215 (c := w302v) w302.symm ?_
                                  have w303 : zIv cLo cHi (zsI (zsI (zsI (zsI w7M 334 w240n w10v) 333 w14n w243v) 332 2 (zI w7M 332 2)) 332 1 w302v) := zIv.put w290 (show (-2147483648) ≤ w302v.toInt ∧ w302v.toInt ≤ 2147483647 from (zrg w302v))
                                  refine zs_putI (pc := 216) t191_216 (zk1 (w7s.k fk_zMc_332)) rfl ?_
                                  refine zs_aload_n (pc := 219) t191_219 rfl ?_
                                  refine zs_aload_n (pc := 220) t191_220 rfl ?_
                                  have w304 := ib332_3 w7I
                                  refine zs_get (pc := 221) t191_221 (by decide) (zk1 (w7s.k fk_zMc_332)) (zfvi rfl ((zIoj (by decide)).trans ((zIoj (by decide)).trans ((zIo (by decide)).trans ((zIo (by decide)).trans rfl))))) ?_
                                  refine zs_iload (pc := 224) t191_224 rfl ?_
                                  refine zs_iload (pc := 226) t191_226 rfl ?_
                                  obtain ⟨w305v, w305⟩ : ∃ v, v = w10v + e := ⟨_, rfl⟩
                                  have w305g := zrg w305v
                                  refine zs_iadd (pc := 228) t191_228 (c := w305v) w305.symm ?_
                                  refine zs_invS (pc := 229) (as := [.int (zI w7M 332 3), .int w305v]) (st := [.ref 332]) t191_229 (by decide) mf21 rfl rfl ⟨by decide, by decide, Nat.le_of_ble_eq_true rfl, Nat.le_of_ble_eq_true rfl⟩ (zs_in (by decide) mf21 (Nat.le_of_ble_eq_true rfl) ?_) (fun _ _ q => q)
                                  show zGo X l 0 0 0 21 0 [(0, .int (zI w7M 332 3)), (1, .int w305v)] [] (zsI (zsI (zsI (zsI w7M 334 w240n w10v) 333 w14n w243v) 332 2 (zI w7M 332 2)) 332 1 w302v) _
                                  refine zs_iload_n (pc := 0) t21_0 rfl ?_
                                  refine zs_iload_n (pc := 1) t21_1 rfl ?_
                                  by_cases w306 : (zI w7M 332 3).toInt < w305v.toInt
                                  · refine zs_icmp_ltT (pc := 2) t21_2 rfl rfl (by omega) ?_
                                    refine zs_iload_n (pc := 9) t21_9 rfl ?_
                                    refine zs_iret (pc := 10) t21_10 mr21 rfl ?_
                                    show zGo X l 1 0 0 191 232 [(7, .int w242v), (12, .int w10v), (11, .int w13v), (0, .ref 332), (1, .int a), (2, .int b), (3, .int c), (4, .int d), (5, .int e), (6, .int f), (8, .int w11x8), (9, .int w7x9), (10, .int w10v)] [.int w305v, .ref 332] (zsI (zsI (zsI (zsI w7M 334 w240n w10v) 333 w14n w243v) 332 2 (zI w7M 332 2)) 332 1 w302v) _
                                    have w307 : zIv cLo cHi (zsI (zsI (zsI (zsI (zsI w7M 334 w240n w10v) 333 w14n w243v) 332 2 (zI w7M 332 2)) 332 1 w302v) 332 3 w305v) := zIv.put w303 (show (-2147483648) ≤ w305v.toInt ∧ w305v.toInt ≤ 2147483647 from (zrg w305v))
                                    refine zs_putI (pc := 232) t191_232 (zk1 (w7s.k fk_zMc_332)) rfl ?_
                                    obtain ⟨w308v, w308e, w308⟩ := ziadd (a := w7x9) (b := Int32.ofInt 1) rfl (show (Int32.ofInt 1).toInt = 1 by decide) (by omega) (by omega)
                                    refine zs_iinc (pc := 235) t191_235 (ls' := [(9, .int w308v), (7, .int w242v), (12, .int w10v), (11, .int w13v), (0, .ref 332), (1, .int a), (2, .int b), (3, .int c), (4, .int d), (5, .int e), (6, .int f), (8, .int w11x8), (10, .int w10v)]) (zml mf191 (by decide)) rfl (c := w308v) w308e rfl ?_
                                    refine zs_goto (pc := 238) t191_238 ?_
                                    refine zGo.locals (ls' := [(0, .ref 332), (1, .int a), (2, .int b), (3, .int c), (4, .int d), (5, .int e), (6, .int f), (7, .int w242v), (8, .int w11x8), (9, .int w308v)]) (by simp) ?_
                                    exact w7ih (w7m - 1) (by omega) w242v w11x8 w308v (zsI (zsI (zsI (zsI (zsI w7M 334 w240n w10v) 333 w14n w243v) 332 2 (zI w7M 332 2)) 332 1 w302v) 332 3 w305v) ⟨by omega, by omega⟩ ⟨by omega, by omega⟩ ⟨by omega, by omega⟩ w7s w307 (((((((zFr.refl).trans (w7F.mono rfl)).put rfl).put rfl).put rfl).put rfl).put rfl) (by omega)
                                  · refine zs_icmp_ltF (pc := 2) t21_2 rfl rfl (by omega) ?_
                                    refine zs_iload_n (pc := 5) t21_5 rfl ?_
                                    refine zs_goto (pc := 6) t21_6 ?_
                                    refine zs_iret (pc := 10) t21_10 mr21 rfl ?_
                                    show zGo X l 1 0 0 191 232 [(7, .int w242v), (12, .int w10v), (11, .int w13v), (0, .ref 332), (1, .int a), (2, .int b), (3, .int c), (4, .int d), (5, .int e), (6, .int f), (8, .int w11x8), (9, .int w7x9), (10, .int w10v)] [.int (zI w7M 332 3), .ref 332] (zsI (zsI (zsI (zsI w7M 334 w240n w10v) 333 w14n w243v) 332 2 (zI w7M 332 2)) 332 1 w302v) _
                                    have w309 : zIv cLo cHi (zsI (zsI (zsI (zsI (zsI w7M 334 w240n w10v) 333 w14n w243v) 332 2 (zI w7M 332 2)) 332 1 w302v) 332 3 (zI w7M 332 3)) := zIv.put w303 (show (-2147483648) ≤ (zI w7M 332 3).toInt ∧ (zI w7M 332 3).toInt ≤ 2147483647 from (zrg (zI w7M 332 3)))
                                    refine zs_putI (pc := 232) t191_232 (zk1 (w7s.k fk_zMc_332)) rfl ?_
                                    obtain ⟨w310v, w310e, w310⟩ := ziadd (a := w7x9) (b := Int32.ofInt 1) rfl (show (Int32.ofInt 1).toInt = 1 by decide) (by omega) (by omega)
                                    refine zs_iinc (pc := 235) t191_235 (ls' := [(9, .int w310v), (7, .int w242v), (12, .int w10v), (11, .int w13v), (0, .ref 332), (1, .int a), (2, .int b), (3, .int c), (4, .int d), (5, .int e), (6, .int f), (8, .int w11x8), (10, .int w10v)]) (zml mf191 (by decide)) rfl (c := w310v) w310e rfl ?_
                                    refine zs_goto (pc := 238) t191_238 ?_
                                    refine zGo.locals (ls' := [(0, .ref 332), (1, .int a), (2, .int b), (3, .int c), (4, .int d), (5, .int e), (6, .int f), (7, .int w242v), (8, .int w11x8), (9, .int w310v)]) (by simp) ?_
                                    exact w7ih (w7m - 1) (by omega) w242v w11x8 w310v (zsI (zsI (zsI (zsI (zsI w7M 334 w240n w10v) 333 w14n w243v) 332 2 (zI w7M 332 2)) 332 1 w302v) 332 3 (zI w7M 332 3)) ⟨by omega, by omega⟩ ⟨by omega, by omega⟩ ⟨by omega, by omega⟩ w7s w309 (((((((zFr.refl).trans (w7F.mono rfl)).put rfl).put rfl).put rfl).put rfl).put rfl) (by omega)
                          · refine zs_icmp_ltF (pc := 133) t191_133 w238 rfl (by omega) ?_
                            refine zs_aload_n (pc := 136) t191_136 rfl ?_
                            refine zs_dup (pc := 137) t191_137 rfl ?_
                            have w311 := ib332_0 w7I
                            refine zs_get (pc := 138) t191_138 (by decide) (zk1 (w7s.k fk_zMc_332)) (zfvi rfl rfl) ?_
                            refine zs_iconst (pc := 141) t191_141 (v := 1) (by decide) ?_
                            obtain ⟨w312v, w312⟩ : ∃ v, v = (zI w7M 332 0) + (1 : Int32) := ⟨_, rfl⟩
                            have w312g := zrg w312v
                            refine zs_iadd (pc := 142) t191_142 (c := w312v) w312.symm ?_
                            have w313 : zIv cLo cHi (zsI w7M 332 0 w312v) := zIv.put w7I (show (-2147483648) ≤ w312v.toInt ∧ w312v.toInt ≤ 2147483647 from (zrg w312v))
                            refine zs_putI (pc := 143) t191_143 (zk1 (w7s.k fk_zMc_332)) rfl ?_
                            refine zs_goto (pc := 146) t191_146 ?_
                            obtain ⟨w314v, w314e, w314⟩ := ziadd (a := w7x9) (b := Int32.ofInt 1) rfl (show (Int32.ofInt 1).toInt = 1 by decide) (by omega) (by omega)
                            refine zs_iinc (pc := 235) t191_235 (ls' := [(9, .int w314v), (12, .int w10v), (11, .int w13v), (0, .ref 332), (1, .int a), (2, .int b), (3, .int c), (4, .int d), (5, .int e), (6, .int f), (7, .int w7x7), (8, .int w11x8), (10, .int w10v)]) (zml mf191 (by decide)) rfl (c := w314v) w314e rfl ?_
                            refine zs_goto (pc := 238) t191_238 ?_
                            refine zGo.locals (ls' := [(0, .ref 332), (1, .int a), (2, .int b), (3, .int c), (4, .int d), (5, .int e), (6, .int f), (7, .int w7x7), (8, .int w11x8), (9, .int w314v)]) (by simp) ?_
                            exact w7ih (w7m - 1) (by omega) w7x7 w11x8 w314v (zsI w7M 332 0 w312v) ⟨by omega, by omega⟩ ⟨by omega, by omega⟩ ⟨by omega, by omega⟩ w7s w313 (((zFr.refl).trans (w7F.mono rfl)).put rfl) (by omega)
                    · refine zs_icmp_geF (pc := 77) t191_77 rfl rfl (by omega) ?_
                      refine zs_aload_n (pc := 80) t191_80 rfl ?_
                      refine zs_get (pc := 81) t191_81 (by decide) (zk1 (w7s.k fk_zMc_332)) (w7s.p rfl fv_zMc_332_5) ?_
                      refine zs_iload (pc := 84) t191_84 rfl ?_
                      obtain ⟨w315n, w315⟩ : ∃ n : Nat, w11x8.toInt = (n : Int) := ⟨w11x8.toInt.toNat, by omega⟩
                      have w316 := ib334 w7I w315n
                      refine zs_iald (pc := 86) t191_86 (j := w315n) (by decide) (zk1 (w7s.k fk_zMc_334)) w315 (zk2 (w7s.k fk_zMc_334) (by omega)) rfl ?_
                      refine zs_iload (pc := 87) t191_87 rfl ?_
                      by_cases w317 : w10v.toInt < (zI w7M 334 w315n).toInt
                      · refine zs_icmp_gtT (pc := 89) t191_89 rfl rfl (by omega) ?_
                        refine zs_aload_n (pc := 98) t191_98 rfl ?_
                        refine zs_iload_n (pc := 99) t191_99 rfl ?_
                        refine zs_invV (pc := 100) (k := 332) (as' := [.int c]) (st := []) t191_100 mf192 rfl rfl (Or.inl ⟨by decide, (zk1 (w7s.k fk_zMc_332))⟩) ⟨by decide, by decide, Nat.le_of_ble_eq_true rfl, Nat.le_of_ble_eq_true rfl⟩ (C192_332 w7s w7I ?_) (fun _ _ q => q)
                        intro w318v w318a w318b
                        show zGo X l 1 0 0 191 103 [(0, .ref 332), (1, .int a), (2, .int b), (3, .int c), (4, .int d), (5, .int e), (6, .int f), (7, .int w7x7), (8, .int w11x8), (9, .int w7x9), (10, .int w10v)] [.int w318v] w7M _
                        refine zs_istore (pc := 103) t191_103 (ls' := [(11, .int w318v), (0, .ref 332), (1, .int a), (2, .int b), (3, .int c), (4, .int d), (5, .int e), (6, .int f), (7, .int w7x7), (8, .int w11x8), (9, .int w7x9), (10, .int w10v)]) (zml mf191 (by decide)) rfl ?_
                        refine zs_iload (pc := 105) t191_105 rfl ?_
                        refine zs_aload_n (pc := 107) t191_107 rfl ?_
                        refine zs_get (pc := 108) t191_108 (by decide) (zk1 (w7s.k fk_zMc_332)) (w7s.p rfl fv_zMc_332_4) ?_
                        refine zs_iload (pc := 111) t191_111 rfl ?_
                        obtain ⟨w319n, w319⟩ : ∃ n : Nat, w318v.toInt = (n : Int) := ⟨w318v.toInt.toNat, by omega⟩
                        have w320 := ib333 w7I w319n
                        refine zs_iald (pc := 113) t191_113 (j := w319n) (by decide) (zk1 (w7s.k fk_zMc_333)) w319 (zk2 (w7s.k fk_zMc_333) (by omega)) rfl ?_
                        refine zs_invS (pc := 114) (as := [.int w10v, .int (zI w7M 333 w319n)]) (st := []) t191_114 (by decide) mf21 rfl rfl ⟨by decide, by decide, Nat.le_of_ble_eq_true rfl, Nat.le_of_ble_eq_true rfl⟩ (zs_in (by decide) mf21 (Nat.le_of_ble_eq_true rfl) ?_) (fun _ _ q => q)
                        show zGo X l 0 0 0 21 0 [(0, .int w10v), (1, .int (zI w7M 333 w319n))] [] w7M _
                        refine zs_iload_n (pc := 0) t21_0 rfl ?_
                        refine zs_iload_n (pc := 1) t21_1 rfl ?_
                        by_cases w321 : w10v.toInt < (zI w7M 333 w319n).toInt
                        · refine zs_icmp_ltT (pc := 2) t21_2 rfl rfl (by omega) ?_
                          refine zs_iload_n (pc := 9) t21_9 rfl ?_
                          refine zs_iret (pc := 10) t21_10 mr21 rfl ?_
                          show zGo X l 1 0 0 191 117 [(11, .int w318v), (0, .ref 332), (1, .int a), (2, .int b), (3, .int c), (4, .int d), (5, .int e), (6, .int f), (7, .int w7x7), (8, .int w11x8), (9, .int w7x9), (10, .int w10v)] [.int (zI w7M 333 w319n)] w7M _
                          refine zs_istore (pc := 117) t191_117 (ls' := [(12, .int (zI w7M 333 w319n)), (11, .int w318v), (0, .ref 332), (1, .int a), (2, .int b), (3, .int c), (4, .int d), (5, .int e), (6, .int f), (7, .int w7x7), (8, .int w11x8), (9, .int w7x9), (10, .int w10v)]) (zml mf191 (by decide)) rfl ?_
                          refine zs_iload (pc := 119) t191_119 rfl ?_
                          refine zs_iload (pc := 121) t191_121 rfl ?_
                          by_cases w322 : (zI w7M 333 w319n).toInt ≤ w10v.toInt
                          · refine zs_icmp_leT (pc := 123) t191_123 rfl rfl (by omega) ?_
                            refine zs_aload_n (pc := 149) t191_149 rfl ?_
                            refine zs_get (pc := 150) t191_150 (by decide) (zk1 (w7s.k fk_zMc_332)) (w7s.p rfl fv_zMc_332_5) ?_
                            refine zs_iload (pc := 153) t191_153 rfl ?_
                            refine zs_iload (pc := 155) t191_155 rfl ?_
                            obtain ⟨w323n, w323⟩ : ∃ n : Nat, w7x7.toInt = (n : Int) := ⟨w7x7.toInt.toNat, by omega⟩
                            have w324 : zIv cLo cHi (zsI w7M 334 w323n (zI w7M 333 w319n)) := zIv.put w7I (show (-2147483648) ≤ (zI w7M 333 w319n).toInt ∧ (zI w7M 333 w319n).toInt ≤ 2147483647 from (zrg (zI w7M 333 w319n)))
                            refine zs_iast (pc := 157) t191_157 (j := w323n) (by decide) (zk1 (w7s.k fk_zMc_334)) w323 (zk2 (w7s.k fk_zMc_334) (by omega)) ?_
                            obtain ⟨w325v, w325e, w325⟩ := ziadd (a := w7x7) (b := Int32.ofInt 1) rfl (show (Int32.ofInt 1).toInt = 1 by decide) (by omega) (by omega)
                            refine zs_iinc (pc := 158) t191_158 (ls' := [(7, .int w325v), (12, .int (zI w7M 333 w319n)), (11, .int w318v), (0, .ref 332), (1, .int a), (2, .int b), (3, .int c), (4, .int d), (5, .int e), (6, .int f), (8, .int w11x8), (9, .int w7x9), (10, .int w10v)]) (zml mf191 (by decide)) rfl (c := w325v) w325e rfl ?_
                            refine zs_aload_n (pc := 161) t191_161 rfl ?_
                            refine zs_get (pc := 162) t191_162 (by decide) (zk1 (w7s.k fk_zMc_332)) (w7s.p rfl fv_zMc_332_4) ?_
                            refine zs_iload (pc := 165) t191_165 rfl ?_
                            refine zs_iload (pc := 167) t191_167 rfl ?_
                            refine zs_iload (pc := 169) t191_169 rfl ?_
                            obtain ⟨w326v, w326⟩ : ∃ v, v = (zI w7M 333 w319n) + e := ⟨_, rfl⟩
                            have w326g := zrg w326v
                            refine zs_iadd (pc := 171) t191_171 (c := w326v) w326.symm ?_
                            have w327 : zIv cLo cHi (zsI (zsI w7M 334 w323n (zI w7M 333 w319n)) 333 w319n w326v) := zIv.put w324 (show (-2147483648) ≤ w326v.toInt ∧ w326v.toInt ≤ 2147483647 from (zrg w326v))
                            refine zs_iast (pc := 172) t191_172 (j := w319n) (by decide) (zk1 (w7s.k fk_zMc_333)) w319 (zk2 (w7s.k fk_zMc_333) (by omega)) ?_
                            refine zs_iload (pc := 173) t191_173 rfl ?_
                            refine zs_iload (pc := 175) t191_175 rfl ?_
                            by_cases w328 : (zI w7M 333 w319n).toInt ≤ w10v.toInt
                            · refine zs_icmp_leT (pc := 177) t191_177 rfl rfl (by omega) ?_
                              refine zs_iload (pc := 196) t191_196 rfl ?_
                              refine zs_iload (pc := 198) t191_198 rfl ?_
                              obtain ⟨w329v, w329⟩ : ∃ v, v = (zI w7M 333 w319n) + e := ⟨_, rfl⟩
                              have w329g := zrg w329v
                              refine zs_iadd (pc := 200) t191_200 (c := w329v) w329.symm ?_
                              refine zs_iload (pc := 201) t191_201 rfl ?_
                              obtain ⟨w330v, w330⟩ : ∃ v, v = w329v - w10v := ⟨_, rfl⟩
                              have w330g := zrg w330v
                              refine zs_isub (pc := 203) t191_203 (c := w330v) w330.symm ?_
                              refine zs_iload (pc := 204) t191_204 rfl ?_
                              by_cases w331 : w330v.toInt ≤ f.toInt
                              · refine zs_icmp_leT (pc := 206) t191_206 rfl rfl (by omega) ?_
                                refine zs_aload_n (pc := 219) t191_219 rfl ?_
                                refine zs_aload_n (pc := 220) t191_220 rfl ?_
                                have w332 := ib332_3 w7I
                                refine zs_get (pc := 221) t191_221 (by decide) (zk1 (w7s.k fk_zMc_332)) (zfvi rfl ((zIo (by decide)).trans ((zIo (by decide)).trans rfl))) ?_
                                refine zs_iload (pc := 224) t191_224 rfl ?_
                                refine zs_iload (pc := 226) t191_226 rfl ?_
                                obtain ⟨w333v, w333⟩ : ∃ v, v = (zI w7M 333 w319n) + e := ⟨_, rfl⟩
                                have w333g := zrg w333v
                                refine zs_iadd (pc := 228) t191_228 (c := w333v) w333.symm ?_
                                refine zs_invS (pc := 229) (as := [.int (zI w7M 332 3), .int w333v]) (st := [.ref 332]) t191_229 (by decide) mf21 rfl rfl ⟨by decide, by decide, Nat.le_of_ble_eq_true rfl, Nat.le_of_ble_eq_true rfl⟩ (zs_in (by decide) mf21 (Nat.le_of_ble_eq_true rfl) ?_) (fun _ _ q => q)
                                show zGo X l 0 0 0 21 0 [(0, .int (zI w7M 332 3)), (1, .int w333v)] [] (zsI (zsI w7M 334 w323n (zI w7M 333 w319n)) 333 w319n w326v) _
                                refine zs_iload_n (pc := 0) t21_0 rfl ?_
                                refine zs_iload_n (pc := 1) t21_1 rfl ?_
                                by_cases w334 : (zI w7M 332 3).toInt < w333v.toInt
                                · refine zs_icmp_ltT (pc := 2) t21_2 rfl rfl (by omega) ?_
                                  refine zs_iload_n (pc := 9) t21_9 rfl ?_
                                  refine zs_iret (pc := 10) t21_10 mr21 rfl ?_
                                  show zGo X l 1 0 0 191 232 [(7, .int w325v), (12, .int (zI w7M 333 w319n)), (11, .int w318v), (0, .ref 332), (1, .int a), (2, .int b), (3, .int c), (4, .int d), (5, .int e), (6, .int f), (8, .int w11x8), (9, .int w7x9), (10, .int w10v)] [.int w333v, .ref 332] (zsI (zsI w7M 334 w323n (zI w7M 333 w319n)) 333 w319n w326v) _
                                  have w335 : zIv cLo cHi (zsI (zsI (zsI w7M 334 w323n (zI w7M 333 w319n)) 333 w319n w326v) 332 3 w333v) := zIv.put w327 (show (-2147483648) ≤ w333v.toInt ∧ w333v.toInt ≤ 2147483647 from (zrg w333v))
                                  refine zs_putI (pc := 232) t191_232 (zk1 (w7s.k fk_zMc_332)) rfl ?_
                                  obtain ⟨w336v, w336e, w336⟩ := ziadd (a := w7x9) (b := Int32.ofInt 1) rfl (show (Int32.ofInt 1).toInt = 1 by decide) (by omega) (by omega)
                                  refine zs_iinc (pc := 235) t191_235 (ls' := [(9, .int w336v), (7, .int w325v), (12, .int (zI w7M 333 w319n)), (11, .int w318v), (0, .ref 332), (1, .int a), (2, .int b), (3, .int c), (4, .int d), (5, .int e), (6, .int f), (8, .int w11x8), (10, .int w10v)]) (zml mf191 (by decide)) rfl (c := w336v) w336e rfl ?_
                                  refine zs_goto (pc := 238) t191_238 ?_
                                  refine zGo.locals (ls' := [(0, .ref 332), (1, .int a), (2, .int b), (3, .int c), (4, .int d), (5, .int e), (6, .int f), (7, .int w325v), (8, .int w11x8), (9, .int w336v)]) (by simp) ?_
                                  exact w7ih (w7m - 1) (by omega) w325v w11x8 w336v (zsI (zsI (zsI w7M 334 w323n (zI w7M 333 w319n)) 333 w319n w326v) 332 3 w333v) ⟨by omega, by omega⟩ ⟨by omega, by omega⟩ ⟨by omega, by omega⟩ w7s w335 (((((zFr.refl).trans (w7F.mono rfl)).put rfl).put rfl).put rfl) (by omega)
                                · refine zs_icmp_ltF (pc := 2) t21_2 rfl rfl (by omega) ?_
                                  refine zs_iload_n (pc := 5) t21_5 rfl ?_
                                  refine zs_goto (pc := 6) t21_6 ?_
                                  refine zs_iret (pc := 10) t21_10 mr21 rfl ?_
                                  show zGo X l 1 0 0 191 232 [(7, .int w325v), (12, .int (zI w7M 333 w319n)), (11, .int w318v), (0, .ref 332), (1, .int a), (2, .int b), (3, .int c), (4, .int d), (5, .int e), (6, .int f), (8, .int w11x8), (9, .int w7x9), (10, .int w10v)] [.int (zI w7M 332 3), .ref 332] (zsI (zsI w7M 334 w323n (zI w7M 333 w319n)) 333 w319n w326v) _
                                  have w337 : zIv cLo cHi (zsI (zsI (zsI w7M 334 w323n (zI w7M 333 w319n)) 333 w319n w326v) 332 3 (zI w7M 332 3)) := zIv.put w327 (show (-2147483648) ≤ (zI w7M 332 3).toInt ∧ (zI w7M 332 3).toInt ≤ 2147483647 from (zrg (zI w7M 332 3)))
                                  refine zs_putI (pc := 232) t191_232 (zk1 (w7s.k fk_zMc_332)) rfl ?_
                                  obtain ⟨w338v, w338e, w338⟩ := ziadd (a := w7x9) (b := Int32.ofInt 1) rfl (show (Int32.ofInt 1).toInt = 1 by decide) (by omega) (by omega)
                                  refine zs_iinc (pc := 235) t191_235 (ls' := [(9, .int w338v), (7, .int w325v), (12, .int (zI w7M 333 w319n)), (11, .int w318v), (0, .ref 332), (1, .int a), (2, .int b), (3, .int c), (4, .int d), (5, .int e), (6, .int f), (8, .int w11x8), (10, .int w10v)]) (zml mf191 (by decide)) rfl (c := w338v) w338e rfl ?_
                                  refine zs_goto (pc := 238) t191_238 ?_
                                  refine zGo.locals (ls' := [(0, .ref 332), (1, .int a), (2, .int b), (3, .int c), (4, .int d), (5, .int e), (6, .int f), (7, .int w325v), (8, .int w11x8), (9, .int w338v)]) (by simp) ?_
                                  exact w7ih (w7m - 1) (by omega) w325v w11x8 w338v (zsI (zsI (zsI w7M 334 w323n (zI w7M 333 w319n)) 333 w319n w326v) 332 3 (zI w7M 332 3)) ⟨by omega, by omega⟩ ⟨by omega, by omega⟩ ⟨by omega, by omega⟩ w7s w337 (((((zFr.refl).trans (w7F.mono rfl)).put rfl).put rfl).put rfl) (by omega)
                              · refine zs_icmp_leF (pc := 206) t191_206 rfl rfl (by omega) ?_
                                refine zs_aload_n (pc := 209) t191_209 rfl ?_
                                refine zs_dup (pc := 210) t191_210 rfl ?_
                                have w339 := ib332_1 w7I
                                refine zs_get (pc := 211) t191_211 (by decide) (zk1 (w7s.k fk_zMc_332)) (zfvi rfl ((zIo (by decide)).trans ((zIo (by decide)).trans rfl))) ?_
                                refine zs_iconst (pc := 214) t191_214 (v := 1) (by decide) ?_
                                obtain ⟨w340v, w340⟩ : ∃ v, v = (zI w7M 332 1) + (1 : Int32) := ⟨_, rfl⟩
                                have w340g := zrg w340v
                                refine zs_iadd (pc := 215) t191_215 (c := w340v) w340.symm ?_
                                have w341 : zIv cLo cHi (zsI (zsI (zsI w7M 334 w323n (zI w7M 333 w319n)) 333 w319n w326v) 332 1 w340v) := zIv.put w327 (show (-2147483648) ≤ w340v.toInt ∧ w340v.toInt ≤ 2147483647 from (zrg w340v))
                                refine zs_putI (pc := 216) t191_216 (zk1 (w7s.k fk_zMc_332)) rfl ?_
                                refine zs_aload_n (pc := 219) t191_219 rfl ?_
                                refine zs_aload_n (pc := 220) t191_220 rfl ?_
                                have w342 := ib332_3 w7I
                                refine zs_get (pc := 221) t191_221 (by decide) (zk1 (w7s.k fk_zMc_332)) (zfvi rfl ((zIoj (by decide)).trans ((zIo (by decide)).trans ((zIo (by decide)).trans rfl)))) ?_
                                refine zs_iload (pc := 224) t191_224 rfl ?_
                                refine zs_iload (pc := 226) t191_226 rfl ?_
                                obtain ⟨w343v, w343⟩ : ∃ v, v = (zI w7M 333 w319n) + e := ⟨_, rfl⟩
                                have w343g := zrg w343v
                                refine zs_iadd (pc := 228) t191_228 (c := w343v) w343.symm ?_
                                refine zs_invS (pc := 229) (as := [.int (zI w7M 332 3), .int w343v]) (st := [.ref 332]) t191_229 (by decide) mf21 rfl rfl ⟨by decide, by decide, Nat.le_of_ble_eq_true rfl, Nat.le_of_ble_eq_true rfl⟩ (zs_in (by decide) mf21 (Nat.le_of_ble_eq_true rfl) ?_) (fun _ _ q => q)
                                show zGo X l 0 0 0 21 0 [(0, .int (zI w7M 332 3)), (1, .int w343v)] [] (zsI (zsI (zsI w7M 334 w323n (zI w7M 333 w319n)) 333 w319n w326v) 332 1 w340v) _
                                refine zs_iload_n (pc := 0) t21_0 rfl ?_
                                refine zs_iload_n (pc := 1) t21_1 rfl ?_
                                by_cases w344 : (zI w7M 332 3).toInt < w343v.toInt
                                · refine zs_icmp_ltT (pc := 2) t21_2 rfl rfl (by omega) ?_
                                  refine zs_iload_n (pc := 9) t21_9 rfl ?_
                                  refine zs_iret (pc := 10) t21_10 mr21 rfl ?_
                                  show zGo X l 1 0 0 191 232 [(7, .int w325v), (12, .int (zI w7M 333 w319n)), (11, .int w318v), (0, .ref 332), (1, .int a), (2, .int b), (3, .int c), (4, .int d), (5, .int e), (6, .int f), (8, .int w11x8), (9, .int w7x9), (10, .int w10v)] [.int w343v, .ref 332] (zsI (zsI (zsI w7M 334 w323n (zI w7M 333 w319n)) 333 w319n w326v) 332 1 w340v) _
                                  have w345 : zIv cLo cHi (zsI (zsI (zsI (zsI w7M 334 w323n (zI w7M 333 w319n)) 333 w319n w326v) 332 1 w340v) 332 3 w343v) := zIv.put w341 (show (-2147483648) ≤ w343v.toInt ∧ w343v.toInt ≤ 2147483647 from (zrg w343v))
                                  refine zs_putI (pc := 232) t191_232 (zk1 (w7s.k fk_zMc_332)) rfl ?_
                                  obtain ⟨w346v, w346e, w346⟩ := ziadd (a := w7x9) (b := Int32.ofInt 1) rfl (show (Int32.ofInt 1).toInt = 1 by decide) (by omega) (by omega)
                                  refine zs_iinc (pc := 235) t191_235 (ls' := [(9, .int w346v), (7, .int w325v), (12, .int (zI w7M 333 w319n)), (11, .int w318v), (0, .ref 332), (1, .int a), (2, .int b), (3, .int c), (4, .int d), (5, .int e), (6, .int f), (8, .int w11x8), (10, .int w10v)]) (zml mf191 (by decide)) rfl (c := w346v) w346e rfl ?_
                                  refine zs_goto (pc := 238) t191_238 ?_
                                  refine zGo.locals (ls' := [(0, .ref 332), (1, .int a), (2, .int b), (3, .int c), (4, .int d), (5, .int e), (6, .int f), (7, .int w325v), (8, .int w11x8), (9, .int w346v)]) (by simp) ?_
                                  exact w7ih (w7m - 1) (by omega) w325v w11x8 w346v (zsI (zsI (zsI (zsI w7M 334 w323n (zI w7M 333 w319n)) 333 w319n w326v) 332 1 w340v) 332 3 w343v) ⟨by omega, by omega⟩ ⟨by omega, by omega⟩ ⟨by omega, by omega⟩ w7s w345 ((((((zFr.refl).trans (w7F.mono rfl)).put rfl).put rfl).put rfl).put rfl) (by omega)
                                · refine zs_icmp_ltF (pc := 2) t21_2 rfl rfl (by omega) ?_
                                  refine zs_iload_n (pc := 5) t21_5 rfl ?_
                                  refine zs_goto (pc := 6) t21_6 ?_
                                  refine zs_iret (pc := 10) t21_10 mr21 rfl ?_
                                  show zGo X l 1 0 0 191 232 [(7, .int w325v), (12, .int (zI w7M 333 w319n)), (11, .int w318v), (0, .ref 332), (1, .int a), (2, .int b), (3, .int c), (4, .int d), (5, .int e), (6, .int f), (8, .int w11x8), (9, .int w7x9), (10, .int w10v)] [.int (zI w7M 332 3), .ref 332] (zsI (zsI (zsI w7M 334 w323n (zI w7M 333 w319n)) 333 w319n w326v) 332 1 w340v) _
                                  have w347 : zIv cLo cHi (zsI (zsI (zsI (zsI w7M 334 w323n (zI w7M 333 w319n)) 333 w319n w326v) 332 1 w340v) 332 3 (zI w7M 332 3)) := zIv.put w341 (show (-2147483648) ≤ (zI w7M 332 3).toInt ∧ (zI w7M 332 3).toInt ≤ 2147483647 from (zrg (zI w7M 332 3)))
                                  refine zs_putI (pc := 232) t191_232 (zk1 (w7s.k fk_zMc_332)) rfl ?_
                                  obtain ⟨w348v, w348e, w348⟩ := ziadd (a := w7x9) (b := Int32.ofInt 1) rfl (show (Int32.ofInt 1).toInt = 1 by decide) (by omega) (by omega)
                                  refine zs_iinc (pc := 235) t191_235 (ls' := [(9, .int w348v), (7, .int w325v), (12, .int (zI w7M 333 w319n)), (11, .int w318v), (0, .ref 332), (1, .int a), (2, .int b), (3, .int c), (4, .int d), (5, .int e), (6, .int f), (8, .int w11x8), (10, .int w10v)]) (zml mf191 (by decide)) rfl (c := w348v) w348e rfl ?_
                                  refine zs_goto (pc := 238) t191_238 ?_
                                  refine zGo.locals (ls' := [(0, .ref 332), (1, .int a), (2, .int b), (3, .int c), (4, .int d), (5, .int e), (6, .int f), (7, .int w325v), (8, .int w11x8), (9, .int w348v)]) (by simp) ?_
                                  exact w7ih (w7m - 1) (by omega) w325v w11x8 w348v (zsI (zsI (zsI (zsI w7M 334 w323n (zI w7M 333 w319n)) 333 w319n w326v) 332 1 w340v) 332 3 (zI w7M 332 3)) ⟨by omega, by omega⟩ ⟨by omega, by omega⟩ ⟨by omega, by omega⟩ w7s w347 ((((((zFr.refl).trans (w7F.mono rfl)).put rfl).put rfl).put rfl).put rfl) (by omega)
                            · refine zs_icmp_leF (pc := 177) t191_177 rfl rfl (by omega) ?_
                              refine zs_aload_n (pc := 180) t191_180 rfl ?_
                              refine zs_aload_n (pc := 181) t191_181 rfl ?_
                              have w349 := ib332_2 w7I
                              refine zs_get (pc := 182) t191_182 (by decide) (zk1 (w7s.k fk_zMc_332)) (zfvi rfl ((zIo (by decide)).trans ((zIo (by decide)).trans rfl))) ?_
                              refine zs_iload (pc := 185) t191_185 rfl ?_
                              refine zs_iload (pc := 187) t191_187 rfl ?_
                              obtain ⟨w350v, w350e, w350⟩ := zisub (a := w325v) (b := w11x8) w325 rfl (by omega) (by omega)
                              refine zs_isub (pc := 189) t191_189 (c := w350v) w350e ?_
                              refine zs_invS (pc := 190) (as := [.int (zI w7M 332 2), .int w350v]) (st := [.ref 332]) t191_190 (by decide) mf21 rfl rfl ⟨by decide, by decide, Nat.le_of_ble_eq_true rfl, Nat.le_of_ble_eq_true rfl⟩ (zs_in (by decide) mf21 (Nat.le_of_ble_eq_true rfl) ?_) (fun _ _ q => q)
                              show zGo X l 0 0 0 21 0 [(0, .int (zI w7M 332 2)), (1, .int w350v)] [] (zsI (zsI w7M 334 w323n (zI w7M 333 w319n)) 333 w319n w326v) _
                              refine zs_iload_n (pc := 0) t21_0 rfl ?_
                              refine zs_iload_n (pc := 1) t21_1 rfl ?_
                              by_cases w351 : (zI w7M 332 2).toInt < ((w7x7.toInt + 1) - w11x8.toInt)
                              · refine zs_icmp_ltT (pc := 2) t21_2 rfl w350 (by omega) ?_
                                refine zs_iload_n (pc := 9) t21_9 rfl ?_
                                refine zs_iret (pc := 10) t21_10 mr21 rfl ?_
                                show zGo X l 1 0 0 191 193 [(7, .int w325v), (12, .int (zI w7M 333 w319n)), (11, .int w318v), (0, .ref 332), (1, .int a), (2, .int b), (3, .int c), (4, .int d), (5, .int e), (6, .int f), (8, .int w11x8), (9, .int w7x9), (10, .int w10v)] [.int w350v, .ref 332] (zsI (zsI w7M 334 w323n (zI w7M 333 w319n)) 333 w319n w326v) _
                                have w352 : zIv cLo cHi (zsI (zsI (zsI w7M 334 w323n (zI w7M 333 w319n)) 333 w319n w326v) 332 2 w350v) := zIv.put w327 (show (-2147483648) ≤ w350v.toInt ∧ w350v.toInt ≤ 2147483647 from (zrg w350v))
                                refine zs_putI (pc := 193) t191_193 (zk1 (w7s.k fk_zMc_332)) rfl ?_
                                refine zs_iload (pc := 196) t191_196 rfl ?_
                                refine zs_iload (pc := 198) t191_198 rfl ?_
                                obtain ⟨w353v, w353⟩ : ∃ v, v = (zI w7M 333 w319n) + e := ⟨_, rfl⟩
                                have w353g := zrg w353v
                                refine zs_iadd (pc := 200) t191_200 (c := w353v) w353.symm ?_
                                refine zs_iload (pc := 201) t191_201 rfl ?_
                                obtain ⟨w354v, w354⟩ : ∃ v, v = w353v - w10v := ⟨_, rfl⟩
                                have w354g := zrg w354v
                                refine zs_isub (pc := 203) t191_203 (c := w354v) w354.symm ?_
                                refine zs_iload (pc := 204) t191_204 rfl ?_
                                by_cases w355 : w354v.toInt ≤ f.toInt
                                · refine zs_icmp_leT (pc := 206) t191_206 rfl rfl (by omega) ?_
                                  refine zs_aload_n (pc := 219) t191_219 rfl ?_
                                  refine zs_aload_n (pc := 220) t191_220 rfl ?_
                                  have w356 := ib332_3 w7I
                                  refine zs_get (pc := 221) t191_221 (by decide) (zk1 (w7s.k fk_zMc_332)) (zfvi rfl ((zIoj (by decide)).trans ((zIo (by decide)).trans ((zIo (by decide)).trans rfl)))) ?_
                                  refine zs_iload (pc := 224) t191_224 rfl ?_
                                  refine zs_iload (pc := 226) t191_226 rfl ?_
                                  obtain ⟨w357v, w357⟩ : ∃ v, v = (zI w7M 333 w319n) + e := ⟨_, rfl⟩
                                  have w357g := zrg w357v
                                  refine zs_iadd (pc := 228) t191_228 (c := w357v) w357.symm ?_
                                  refine zs_invS (pc := 229) (as := [.int (zI w7M 332 3), .int w357v]) (st := [.ref 332]) t191_229 (by decide) mf21 rfl rfl ⟨by decide, by decide, Nat.le_of_ble_eq_true rfl, Nat.le_of_ble_eq_true rfl⟩ (zs_in (by decide) mf21 (Nat.le_of_ble_eq_true rfl) ?_) (fun _ _ q => q)
                                  show zGo X l 0 0 0 21 0 [(0, .int (zI w7M 332 3)), (1, .int w357v)] [] (zsI (zsI (zsI w7M 334 w323n (zI w7M 333 w319n)) 333 w319n w326v) 332 2 w350v) _
                                  refine zs_iload_n (pc := 0) t21_0 rfl ?_
                                  refine zs_iload_n (pc := 1) t21_1 rfl ?_
                                  by_cases w358 : (zI w7M 332 3).toInt < w357v.toInt
                                  · refine zs_icmp_ltT (pc := 2) t21_2 rfl rfl (by omega) ?_
                                    refine zs_iload_n (pc := 9) t21_9 rfl ?_
                                    refine zs_iret (pc := 10) t21_10 mr21 rfl ?_
                                    show zGo X l 1 0 0 191 232 [(7, .int w325v), (12, .int (zI w7M 333 w319n)), (11, .int w318v), (0, .ref 332), (1, .int a), (2, .int b), (3, .int c), (4, .int d), (5, .int e), (6, .int f), (8, .int w11x8), (9, .int w7x9), (10, .int w10v)] [.int w357v, .ref 332] (zsI (zsI (zsI w7M 334 w323n (zI w7M 333 w319n)) 333 w319n w326v) 332 2 w350v) _
                                    have w359 : zIv cLo cHi (zsI (zsI (zsI (zsI w7M 334 w323n (zI w7M 333 w319n)) 333 w319n w326v) 332 2 w350v) 332 3 w357v) := zIv.put w352 (show (-2147483648) ≤ w357v.toInt ∧ w357v.toInt ≤ 2147483647 from (zrg w357v))
                                    refine zs_putI (pc := 232) t191_232 (zk1 (w7s.k fk_zMc_332)) rfl ?_
                                    obtain ⟨w360v, w360e, w360⟩ := ziadd (a := w7x9) (b := Int32.ofInt 1) rfl (show (Int32.ofInt 1).toInt = 1 by decide) (by omega) (by omega)
                                    refine zs_iinc (pc := 235) t191_235 (ls' := [(9, .int w360v), (7, .int w325v), (12, .int (zI w7M 333 w319n)), (11, .int w318v), (0, .ref 332), (1, .int a), (2, .int b), (3, .int c), (4, .int d), (5, .int e), (6, .int f), (8, .int w11x8), (10, .int w10v)]) (zml mf191 (by decide)) rfl (c := w360v) w360e rfl ?_
                                    refine zs_goto (pc := 238) t191_238 ?_
                                    refine zGo.locals (ls' := [(0, .ref 332), (1, .int a), (2, .int b), (3, .int c), (4, .int d), (5, .int e), (6, .int f), (7, .int w325v), (8, .int w11x8), (9, .int w360v)]) (by simp) ?_
                                    exact w7ih (w7m - 1) (by omega) w325v w11x8 w360v (zsI (zsI (zsI (zsI w7M 334 w323n (zI w7M 333 w319n)) 333 w319n w326v) 332 2 w350v) 332 3 w357v) ⟨by omega, by omega⟩ ⟨by omega, by omega⟩ ⟨by omega, by omega⟩ w7s w359 ((((((zFr.refl).trans (w7F.mono rfl)).put rfl).put rfl).put rfl).put rfl) (by omega)
                                  · refine zs_icmp_ltF (pc := 2) t21_2 rfl rfl (by omega) ?_
                                    refine zs_iload_n (pc := 5) t21_5 rfl ?_
                                    refine zs_goto (pc := 6) t21_6 ?_
                                    refine zs_iret (pc := 10) t21_10 mr21 rfl ?_
                                    show zGo X l 1 0 0 191 232 [(7, .int w325v), (12, .int (zI w7M 333 w319n)), (11, .int w318v), (0, .ref 332), (1, .int a), (2, .int b), (3, .int c), (4, .int d), (5, .int e), (6, .int f), (8, .int w11x8), (9, .int w7x9), (10, .int w10v)] [.int (zI w7M 332 3), .ref 332] (zsI (zsI (zsI w7M 334 w323n (zI w7M 333 w319n)) 333 w319n w326v) 332 2 w350v) _
                                    have w361 : zIv cLo cHi (zsI (zsI (zsI (zsI w7M 334 w323n (zI w7M 333 w319n)) 333 w319n w326v) 332 2 w350v) 332 3 (zI w7M 332 3)) := zIv.put w352 (show (-2147483648) ≤ (zI w7M 332 3).toInt ∧ (zI w7M 332 3).toInt ≤ 2147483647 from (zrg (zI w7M 332 3)))
                                    refine zs_putI (pc := 232) t191_232 (zk1 (w7s.k fk_zMc_332)) rfl ?_
                                    obtain ⟨w362v, w362e, w362⟩ := ziadd (a := w7x9) (b := Int32.ofInt 1) rfl (show (Int32.ofInt 1).toInt = 1 by decide) (by omega) (by omega)
                                    refine zs_iinc (pc := 235) t191_235 (ls' := [(9, .int w362v), (7, .int w325v), (12, .int (zI w7M 333 w319n)), (11, .int w318v), (0, .ref 332), (1, .int a), (2, .int b), (3, .int c), (4, .int d), (5, .int e), (6, .int f), (8, .int w11x8), (10, .int w10v)]) (zml mf191 (by decide)) rfl (c := w362v) w362e rfl ?_
                                    refine zs_goto (pc := 238) t191_238 ?_
                                    refine zGo.locals (ls' := [(0, .ref 332), (1, .int a), (2, .int b), (3, .int c), (4, .int d), (5, .int e), (6, .int f), (7, .int w325v), (8, .int w11x8), (9, .int w362v)]) (by simp) ?_
                                    exact w7ih (w7m - 1) (by omega) w325v w11x8 w362v (zsI (zsI (zsI (zsI w7M 334 w323n (zI w7M 333 w319n)) 333 w319n w326v) 332 2 w350v) 332 3 (zI w7M 332 3)) ⟨by omega, by omega⟩ ⟨by omega, by omega⟩ ⟨by omega, by omega⟩ w7s w361 ((((((zFr.refl).trans (w7F.mono rfl)).put rfl).put rfl).put rfl).put rfl) (by omega)
                                · refine zs_icmp_leF (pc := 206) t191_206 rfl rfl (by omega) ?_
                                  refine zs_aload_n (pc := 209) t191_209 rfl ?_
                                  refine zs_dup (pc := 210) t191_210 rfl ?_
                                  have w363 := ib332_1 w7I
                                  refine zs_get (pc := 211) t191_211 (by decide) (zk1 (w7s.k fk_zMc_332)) (zfvi rfl ((zIoj (by decide)).trans ((zIo (by decide)).trans ((zIo (by decide)).trans rfl)))) ?_
                                  refine zs_iconst (pc := 214) t191_214 (v := 1) (by decide) ?_
                                  obtain ⟨w364v, w364⟩ : ∃ v, v = (zI w7M 332 1) + (1 : Int32) := ⟨_, rfl⟩
                                  have w364g := zrg w364v
                                  refine zs_iadd (pc := 215) t191_215 (c := w364v) w364.symm ?_
                                  have w365 : zIv cLo cHi (zsI (zsI (zsI (zsI w7M 334 w323n (zI w7M 333 w319n)) 333 w319n w326v) 332 2 w350v) 332 1 w364v) := zIv.put w352 (show (-2147483648) ≤ w364v.toInt ∧ w364v.toInt ≤ 2147483647 from (zrg w364v))
                                  refine zs_putI (pc := 216) t191_216 (zk1 (w7s.k fk_zMc_332)) rfl ?_
                                  refine zs_aload_n (pc := 219) t191_219 rfl ?_
                                  refine zs_aload_n (pc := 220) t191_220 rfl ?_
                                  have w366 := ib332_3 w7I
                                  refine zs_get (pc := 221) t191_221 (by decide) (zk1 (w7s.k fk_zMc_332)) (zfvi rfl ((zIoj (by decide)).trans ((zIoj (by decide)).trans ((zIo (by decide)).trans ((zIo (by decide)).trans rfl))))) ?_
                                  refine zs_iload (pc := 224) t191_224 rfl ?_
                                  refine zs_iload (pc := 226) t191_226 rfl ?_
                                  obtain ⟨w367v, w367⟩ : ∃ v, v = (zI w7M 333 w319n) + e := ⟨_, rfl⟩
                                  have w367g := zrg w367v
                                  refine zs_iadd (pc := 228) t191_228 (c := w367v) w367.symm ?_
                                  refine zs_invS (pc := 229) (as := [.int (zI w7M 332 3), .int w367v]) (st := [.ref 332]) t191_229 (by decide) mf21 rfl rfl ⟨by decide, by decide, Nat.le_of_ble_eq_true rfl, Nat.le_of_ble_eq_true rfl⟩ (zs_in (by decide) mf21 (Nat.le_of_ble_eq_true rfl) ?_) (fun _ _ q => q)
                                  show zGo X l 0 0 0 21 0 [(0, .int (zI w7M 332 3)), (1, .int w367v)] [] (zsI (zsI (zsI (zsI w7M 334 w323n (zI w7M 333 w319n)) 333 w319n w326v) 332 2 w350v) 332 1 w364v) _
                                  refine zs_iload_n (pc := 0) t21_0 rfl ?_
                                  refine zs_iload_n (pc := 1) t21_1 rfl ?_
                                  by_cases w368 : (zI w7M 332 3).toInt < w367v.toInt
                                  · refine zs_icmp_ltT (pc := 2) t21_2 rfl rfl (by omega) ?_
                                    refine zs_iload_n (pc := 9) t21_9 rfl ?_
                                    refine zs_iret (pc := 10) t21_10 mr21 rfl ?_
                                    show zGo X l 1 0 0 191 232 [(7, .int w325v), (12, .int (zI w7M 333 w319n)), (11, .int w318v), (0, .ref 332), (1, .int a), (2, .int b), (3, .int c), (4, .int d), (5, .int e), (6, .int f), (8, .int w11x8), (9, .int w7x9), (10, .int w10v)] [.int w367v, .ref 332] (zsI (zsI (zsI (zsI w7M 334 w323n (zI w7M 333 w319n)) 333 w319n w326v) 332 2 w350v) 332 1 w364v) _
                                    have w369 : zIv cLo cHi (zsI (zsI (zsI (zsI (zsI w7M 334 w323n (zI w7M 333 w319n)) 333 w319n w326v) 332 2 w350v) 332 1 w364v) 332 3 w367v) := zIv.put w365 (show (-2147483648) ≤ w367v.toInt ∧ w367v.toInt ≤ 2147483647 from (zrg w367v))
                                    refine zs_putI (pc := 232) t191_232 (zk1 (w7s.k fk_zMc_332)) rfl ?_
                                    obtain ⟨w370v, w370e, w370⟩ := ziadd (a := w7x9) (b := Int32.ofInt 1) rfl (show (Int32.ofInt 1).toInt = 1 by decide) (by omega) (by omega)
                                    refine zs_iinc (pc := 235) t191_235 (ls' := [(9, .int w370v), (7, .int w325v), (12, .int (zI w7M 333 w319n)), (11, .int w318v), (0, .ref 332), (1, .int a), (2, .int b), (3, .int c), (4, .int d), (5, .int e), (6, .int f), (8, .int w11x8), (10, .int w10v)]) (zml mf191 (by decide)) rfl (c := w370v) w370e rfl ?_
                                    refine zs_goto (pc := 238) t191_238 ?_
                                    refine zGo.locals (ls' := [(0, .ref 332), (1, .int a), (2, .int b), (3, .int c), (4, .int d), (5, .int e), (6, .int f), (7, .int w325v), (8, .int w11x8), (9, .int w370v)]) (by simp) ?_
                                    exact w7ih (w7m - 1) (by omega) w325v w11x8 w370v (zsI (zsI (zsI (zsI (zsI w7M 334 w323n (zI w7M 333 w319n)) 333 w319n w326v) 332 2 w350v) 332 1 w364v) 332 3 w367v) ⟨by omega, by omega⟩ ⟨by omega, by omega⟩ ⟨by omega, by omega⟩ w7s w369 (((((((zFr.refl).trans (w7F.mono rfl)).put rfl).put rfl).put rfl).put rfl).put rfl) (by omega)
                                  · refine zs_icmp_ltF (pc := 2) t21_2 rfl rfl (by omega) ?_
                                    refine zs_iload_n (pc := 5) t21_5 rfl ?_
                                    refine zs_goto (pc := 6) t21_6 ?_
                                    refine zs_iret (pc := 10) t21_10 mr21 rfl ?_
                                    show zGo X l 1 0 0 191 232 [(7, .int w325v), (12, .int (zI w7M 333 w319n)), (11, .int w318v), (0, .ref 332), (1, .int a), (2, .int b), (3, .int c), (4, .int d), (5, .int e), (6, .int f), (8, .int w11x8), (9, .int w7x9), (10, .int w10v)] [.int (zI w7M 332 3), .ref 332] (zsI (zsI (zsI (zsI w7M 334 w323n (zI w7M 333 w319n)) 333 w319n w326v) 332 2 w350v) 332 1 w364v) _
                                    have w371 : zIv cLo cHi (zsI (zsI (zsI (zsI (zsI w7M 334 w323n (zI w7M 333 w319n)) 333 w319n w326v) 332 2 w350v) 332 1 w364v) 332 3 (zI w7M 332 3)) := zIv.put w365 (show (-2147483648) ≤ (zI w7M 332 3).toInt ∧ (zI w7M 332 3).toInt ≤ 2147483647 from (zrg (zI w7M 332 3)))
                                    refine zs_putI (pc := 232) t191_232 (zk1 (w7s.k fk_zMc_332)) rfl ?_
                                    obtain ⟨w372v, w372e, w372⟩ := ziadd (a := w7x9) (b := Int32.ofInt 1) rfl (show (Int32.ofInt 1).toInt = 1 by decide) (by omega) (by omega)
                                    refine zs_iinc (pc := 235) t191_235 (ls' := [(9, .int w372v), (7, .int w325v), (12, .int (zI w7M 333 w319n)), (11, .int w318v), (0, .ref 332), (1, .int a), (2, .int b), (3, .int c), (4, .int d), (5, .int e), (6, .int f), (8, .int w11x8), (10, .int w10v)]) (zml mf191 (by decide)) rfl (c := w372v) w372e rfl ?_
                                    refine zs_goto (pc := 238) t191_238 ?_
                                    refine zGo.locals (ls' := [(0, .ref 332), (1, .int a), (2, .int b), (3, .int c), (4, .int d), (5, .int e), (6, .int f), (7, .int w325v), (8, .int w11x8), (9, .int w372v)]) (by simp) ?_
                                    exact w7ih (w7m - 1) (by omega) w325v w11x8 w372v (zsI (zsI (zsI (zsI (zsI w7M 334 w323n (zI w7M 333 w319n)) 333 w319n w326v) 332 2 w350v) 332 1 w364v) 332 3 (zI w7M 332 3)) ⟨by omega, by omega⟩ ⟨by omega, by omega⟩ ⟨by omega, by omega⟩ w7s w371 (((((((zFr.refl).trans (w7F.mono rfl)).put rfl).put rfl).put rfl).put rfl).put rfl) (by omega)
                              · refine zs_icmp_ltF (pc := 2) t21_2 rfl w350 (by omega) ?_
                                refine zs_iload_n (pc := 5) t21_5 rfl ?_
                                refine zs_goto (pc := 6) t21_6 ?_
                                refine zs_iret (pc := 10) t21_10 mr21 rfl ?_
                                show zGo X l 1 0 0 191 193 [(7, .int w325v), (12, .int (zI w7M 333 w319n)), (11, .int w318v), (0, .ref 332), (1, .int a), (2, .int b), (3, .int c), (4, .int d), (5, .int e), (6, .int f), (8, .int w11x8), (9, .int w7x9), (10, .int w10v)] [.int (zI w7M 332 2), .ref 332] (zsI (zsI w7M 334 w323n (zI w7M 333 w319n)) 333 w319n w326v) _
                                have w373 : zIv cLo cHi (zsI (zsI (zsI w7M 334 w323n (zI w7M 333 w319n)) 333 w319n w326v) 332 2 (zI w7M 332 2)) := zIv.put w327 (show (-2147483648) ≤ (zI w7M 332 2).toInt ∧ (zI w7M 332 2).toInt ≤ 2147483647 from (zrg (zI w7M 332 2)))
                                refine zs_putI (pc := 193) t191_193 (zk1 (w7s.k fk_zMc_332)) rfl ?_
                                refine zs_iload (pc := 196) t191_196 rfl ?_
                                refine zs_iload (pc := 198) t191_198 rfl ?_
                                obtain ⟨w374v, w374⟩ : ∃ v, v = (zI w7M 333 w319n) + e := ⟨_, rfl⟩
                                have w374g := zrg w374v
                                refine zs_iadd (pc := 200) t191_200 (c := w374v) w374.symm ?_
                                refine zs_iload (pc := 201) t191_201 rfl ?_
                                obtain ⟨w375v, w375⟩ : ∃ v, v = w374v - w10v := ⟨_, rfl⟩
                                have w375g := zrg w375v
                                refine zs_isub (pc := 203) t191_203 (c := w375v) w375.symm ?_
                                refine zs_iload (pc := 204) t191_204 rfl ?_
                                by_cases w376 : w375v.toInt ≤ f.toInt
                                · refine zs_icmp_leT (pc := 206) t191_206 rfl rfl (by omega) ?_
                                  refine zs_aload_n (pc := 219) t191_219 rfl ?_
                                  refine zs_aload_n (pc := 220) t191_220 rfl ?_
                                  have w377 := ib332_3 w7I
                                  refine zs_get (pc := 221) t191_221 (by decide) (zk1 (w7s.k fk_zMc_332)) (zfvi rfl ((zIoj (by decide)).trans ((zIo (by decide)).trans ((zIo (by decide)).trans rfl)))) ?_
                                  refine zs_iload (pc := 224) t191_224 rfl ?_
                                  refine zs_iload (pc := 226) t191_226 rfl ?_
                                  obtain ⟨w378v, w378⟩ : ∃ v, v = (zI w7M 333 w319n) + e := ⟨_, rfl⟩
                                  have w378g := zrg w378v
                                  refine zs_iadd (pc := 228) t191_228 (c := w378v) w378.symm ?_
                                  refine zs_invS (pc := 229) (as := [.int (zI w7M 332 3), .int w378v]) (st := [.ref 332]) t191_229 (by decide) mf21 rfl rfl ⟨by decide, by decide, Nat.le_of_ble_eq_true rfl, Nat.le_of_ble_eq_true rfl⟩ (zs_in (by decide) mf21 (Nat.le_of_ble_eq_true rfl) ?_) (fun _ _ q => q)
                                  show zGo X l 0 0 0 21 0 [(0, .int (zI w7M 332 3)), (1, .int w378v)] [] (zsI (zsI (zsI w7M 334 w323n (zI w7M 333 w319n)) 333 w319n w326v) 332 2 (zI w7M 332 2)) _
                                  refine zs_iload_n (pc := 0) t21_0 rfl ?_
                                  refine zs_iload_n (pc := 1) t21_1 rfl ?_
                                  by_cases w379 : (zI w7M 332 3).toInt < w378v.toInt
                                  · refine zs_icmp_ltT (pc := 2) t21_2 rfl rfl (by omega) ?_
                                    refine zs_iload_n (pc := 9) t21_9 rfl ?_
                                    refine zs_iret (pc := 10) t21_10 mr21 rfl ?_
                                    show zGo X l 1 0 0 191 232 [(7, .int w325v), (12, .int (zI w7M 333 w319n)), (11, .int w318v), (0, .ref 332), (1, .int a), (2, .int b), (3, .int c), (4, .int d), (5, .int e), (6, .int f), (8, .int w11x8), (9, .int w7x9), (10, .int w10v)] [.int w378v, .ref 332] (zsI (zsI (zsI w7M 334 w323n (zI w7M 333 w319n)) 333 w319n w326v) 332 2 (zI w7M 332 2)) _
                                    have w380 : zIv cLo cHi (zsI (zsI (zsI (zsI w7M 334 w323n (zI w7M 333 w319n)) 333 w319n w326v) 332 2 (zI w7M 332 2)) 332 3 w378v) := zIv.put w373 (show (-2147483648) ≤ w378v.toInt ∧ w378v.toInt ≤ 2147483647 from (zrg w378v))
                                    refine zs_putI (pc := 232) t191_232 (zk1 (w7s.k fk_zMc_332)) rfl ?_
                                    obtain ⟨w381v, w381e, w381⟩ := ziadd (a := w7x9) (b := Int32.ofInt 1) rfl (show (Int32.ofInt 1).toInt = 1 by decide) (by omega) (by omega)
                                    refine zs_iinc (pc := 235) t191_235 (ls' := [(9, .int w381v), (7, .int w325v), (12, .int (zI w7M 333 w319n)), (11, .int w318v), (0, .ref 332), (1, .int a), (2, .int b), (3, .int c), (4, .int d), (5, .int e), (6, .int f), (8, .int w11x8), (10, .int w10v)]) (zml mf191 (by decide)) rfl (c := w381v) w381e rfl ?_
                                    refine zs_goto (pc := 238) t191_238 ?_
                                    refine zGo.locals (ls' := [(0, .ref 332), (1, .int a), (2, .int b), (3, .int c), (4, .int d), (5, .int e), (6, .int f), (7, .int w325v), (8, .int w11x8), (9, .int w381v)]) (by simp) ?_
                                    exact w7ih (w7m - 1) (by omega) w325v w11x8 w381v (zsI (zsI (zsI (zsI w7M 334 w323n (zI w7M 333 w319n)) 333 w319n w326v) 332 2 (zI w7M 332 2)) 332 3 w378v) ⟨by omega, by omega⟩ ⟨by omega, by omega⟩ ⟨by omega, by omega⟩ w7s w380 ((((((zFr.refl).trans (w7F.mono rfl)).put rfl).put rfl).put rfl).put rfl) (by omega)
                                  · refine zs_icmp_ltF (pc := 2) t21_2 rfl rfl (by omega) ?_
                                    refine zs_iload_n (pc := 5) t21_5 rfl ?_
                                    refine zs_goto (pc := 6) t21_6 ?_
                                    refine zs_iret (pc := 10) t21_10 mr21 rfl ?_
                                    show zGo X l 1 0 0 191 232 [(7, .int w325v), (12, .int (zI w7M 333 w319n)), (11, .int w318v), (0, .ref 332), (1, .int a), (2, .int b), (3, .int c), (4, .int d), (5, .int e), (6, .int f), (8, .int w11x8), (9, .int w7x9), (10, .int w10v)] [.int (zI w7M 332 3), .ref 332] (zsI (zsI (zsI w7M 334 w323n (zI w7M 333 w319n)) 333 w319n w326v) 332 2 (zI w7M 332 2)) _
                                    have w382 : zIv cLo cHi (zsI (zsI (zsI (zsI w7M 334 w323n (zI w7M 333 w319n)) 333 w319n w326v) 332 2 (zI w7M 332 2)) 332 3 (zI w7M 332 3)) := zIv.put w373 (show (-2147483648) ≤ (zI w7M 332 3).toInt ∧ (zI w7M 332 3).toInt ≤ 2147483647 from (zrg (zI w7M 332 3)))
                                    refine zs_putI (pc := 232) t191_232 (zk1 (w7s.k fk_zMc_332)) rfl ?_
                                    obtain ⟨w383v, w383e, w383⟩ := ziadd (a := w7x9) (b := Int32.ofInt 1) rfl (show (Int32.ofInt 1).toInt = 1 by decide) (by omega) (by omega)
                                    refine zs_iinc (pc := 235) t191_235 (ls' := [(9, .int w383v), (7, .int w325v), (12, .int (zI w7M 333 w319n)), (11, .int w318v), (0, .ref 332), (1, .int a), (2, .int b), (3, .int c), (4, .int d), (5, .int e), (6, .int f), (8, .int w11x8), (10, .int w10v)]) (zml mf191 (by decide)) rfl (c := w383v) w383e rfl ?_
                                    refine zs_goto (pc := 238) t191_238 ?_
                                    refine zGo.locals (ls' := [(0, .ref 332), (1, .int a), (2, .int b), (3, .int c), (4, .int d), (5, .int e), (6, .int f), (7, .int w325v), (8, .int w11x8), (9, .int w383v)]) (by simp) ?_
                                    exact w7ih (w7m - 1) (by omega) w325v w11x8 w383v (zsI (zsI (zsI (zsI w7M 334 w323n (zI w7M 333 w319n)) 333 w319n w326v) 332 2 (zI w7M 332 2)) 332 3 (zI w7M 332 3)) ⟨by omega, by omega⟩ ⟨by omega, by omega⟩ ⟨by omega, by omega⟩ w7s w382 ((((((zFr.refl).trans (w7F.mono rfl)).put rfl).put rfl).put rfl).put rfl) (by omega)
                                · refine zs_icmp_leF (pc := 206) t191_206 rfl rfl (by omega) ?_
                                  refine zs_aload_n (pc := 209) t191_209 rfl ?_
                                  refine zs_dup (pc := 210) t191_210 rfl ?_
                                  have w384 := ib332_1 w7I
                                  refine zs_get (pc := 211) t191_211 (by decide) (zk1 (w7s.k fk_zMc_332)) (zfvi rfl ((zIoj (by decide)).trans ((zIo (by decide)).trans ((zIo (by decide)).trans rfl)))) ?_
                                  refine zs_iconst (pc := 214) t191_214 (v := 1) (by decide) ?_
                                  obtain ⟨w385v, w385⟩ : ∃ v, v = (zI w7M 332 1) + (1 : Int32) := ⟨_, rfl⟩
                                  have w385g := zrg w385v
                                  refine zs_iadd (pc := 215) t191_215 (c := w385v) w385.symm ?_
                                  have w386 : zIv cLo cHi (zsI (zsI (zsI (zsI w7M 334 w323n (zI w7M 333 w319n)) 333 w319n w326v) 332 2 (zI w7M 332 2)) 332 1 w385v) := zIv.put w373 (show (-2147483648) ≤ w385v.toInt ∧ w385v.toInt ≤ 2147483647 from (zrg w385v))
                                  refine zs_putI (pc := 216) t191_216 (zk1 (w7s.k fk_zMc_332)) rfl ?_
                                  refine zs_aload_n (pc := 219) t191_219 rfl ?_
                                  refine zs_aload_n (pc := 220) t191_220 rfl ?_
                                  have w387 := ib332_3 w7I
                                  refine zs_get (pc := 221) t191_221 (by decide) (zk1 (w7s.k fk_zMc_332)) (zfvi rfl ((zIoj (by decide)).trans ((zIoj (by decide)).trans ((zIo (by decide)).trans ((zIo (by decide)).trans rfl))))) ?_
                                  refine zs_iload (pc := 224) t191_224 rfl ?_
                                  refine zs_iload (pc := 226) t191_226 rfl ?_
                                  obtain ⟨w388v, w388⟩ : ∃ v, v = (zI w7M 333 w319n) + e := ⟨_, rfl⟩
                                  have w388g := zrg w388v
                                  refine zs_iadd (pc := 228) t191_228 (c := w388v) w388.symm ?_
                                  refine zs_invS (pc := 229) (as := [.int (zI w7M 332 3), .int w388v]) (st := [.ref 332]) t191_229 (by decide) mf21 rfl rfl ⟨by decide, by decide, Nat.le_of_ble_eq_true rfl, Nat.le_of_ble_eq_true rfl⟩ (zs_in (by decide) mf21 (Nat.le_of_ble_eq_true rfl) ?_) (fun _ _ q => q)
                                  show zGo X l 0 0 0 21 0 [(0, .int (zI w7M 332 3)), (1, .int w388v)] [] (zsI (zsI (zsI (zsI w7M 334 w323n (zI w7M 333 w319n)) 333 w319n w326v) 332 2 (zI w7M 332 2)) 332 1 w385v) _
                                  refine zs_iload_n (pc := 0) t21_0 rfl ?_
                                  refine zs_iload_n (pc := 1) t21_1 rfl ?_
                                  by_cases w389 : (zI w7M 332 3).toInt < w388v.toInt
                                  · refine zs_icmp_ltT (pc := 2) t21_2 rfl rfl (by omega) ?_
                                    refine zs_iload_n (pc := 9) t21_9 rfl ?_
                                    refine zs_iret (pc := 10) t21_10 mr21 rfl ?_
                                    show zGo X l 1 0 0 191 232 [(7, .int w325v), (12, .int (zI w7M 333 w319n)), (11, .int w318v), (0, .ref 332), (1, .int a), (2, .int b), (3, .int c), (4, .int d), (5, .int e), (6, .int f), (8, .int w11x8), (9, .int w7x9), (10, .int w10v)] [.int w388v, .ref 332] (zsI (zsI (zsI (zsI w7M 334 w323n (zI w7M 333 w319n)) 333 w319n w326v) 332 2 (zI w7M 332 2)) 332 1 w385v) _
                                    have w390 : zIv cLo cHi (zsI (zsI (zsI (zsI (zsI w7M 334 w323n (zI w7M 333 w319n)) 333 w319n w326v) 332 2 (zI w7M 332 2)) 332 1 w385v) 332 3 w388v) := zIv.put w386 (show (-2147483648) ≤ w388v.toInt ∧ w388v.toInt ≤ 2147483647 from (zrg w388v))
                                    refine zs_putI (pc := 232) t191_232 (zk1 (w7s.k fk_zMc_332)) rfl ?_
                                    obtain ⟨w391v, w391e, w391⟩ := ziadd (a := w7x9) (b := Int32.ofInt 1) rfl (show (Int32.ofInt 1).toInt = 1 by decide) (by omega) (by omega)
                                    refine zs_iinc (pc := 235) t191_235 (ls' := [(9, .int w391v), (7, .int w325v), (12, .int (zI w7M 333 w319n)), (11, .int w318v), (0, .ref 332), (1, .int a), (2, .int b), (3, .int c), (4, .int d), (5, .int e), (6, .int f), (8, .int w11x8), (10, .int w10v)]) (zml mf191 (by decide)) rfl (c := w391v) w391e rfl ?_
                                    refine zs_goto (pc := 238) t191_238 ?_
                                    refine zGo.locals (ls' := [(0, .ref 332), (1, .int a), (2, .int b), (3, .int c), (4, .int d), (5, .int e), (6, .int f), (7, .int w325v), (8, .int w11x8), (9, .int w391v)]) (by simp) ?_
                                    exact w7ih (w7m - 1) (by omega) w325v w11x8 w391v (zsI (zsI (zsI (zsI (zsI w7M 334 w323n (zI w7M 333 w319n)) 333 w319n w326v) 332 2 (zI w7M 332 2)) 332 1 w385v) 332 3 w388v) ⟨by omega, by omega⟩ ⟨by omega, by omega⟩ ⟨by omega, by omega⟩ w7s w390 (((((((zFr.refl).trans (w7F.mono rfl)).put rfl).put rfl).put rfl).put rfl).put rfl) (by omega)
                                  · refine zs_icmp_ltF (pc := 2) t21_2 rfl rfl (by omega) ?_
                                    refine zs_iload_n (pc := 5) t21_5 rfl ?_
                                    refine zs_goto (pc := 6) t21_6 ?_
                                    refine zs_iret (pc := 10) t21_10 mr21 rfl ?_
                                    show zGo X l 1 0 0 191 232 [(7, .int w325v), (12, .int (zI w7M 333 w319n)), (11, .int w318v), (0, .ref 332), (1, .int a), (2, .int b), (3, .int c), (4, .int d), (5, .int e), (6, .int f), (8, .int w11x8), (9, .int w7x9), (10, .int w10v)] [.int (zI w7M 332 3), .ref 332] (zsI (zsI (zsI (zsI w7M 334 w323n (zI w7M 333 w319n)) 333 w319n w326v) 332 2 (zI w7M 332 2)) 332 1 w385v) _
                                    have w392 : zIv cLo cHi (zsI (zsI (zsI (zsI (zsI w7M 334 w323n (zI w7M 333 w319n)) 333 w319n w326v) 332 2 (zI w7M 332 2)) 332 1 w385v) 332 3 (zI w7M 332 3)) := zIv.put w386 (show (-2147483648) ≤ (zI w7M 332 3).toInt ∧ (zI w7M 332 3).toInt ≤ 2147483647 from (zrg (zI w7M 332 3)))
                                    refine zs_putI (pc := 232) t191_232 (zk1 (w7s.k fk_zMc_332)) rfl ?_
                                    obtain ⟨w393v, w393e, w393⟩ := ziadd (a := w7x9) (b := Int32.ofInt 1) rfl (show (Int32.ofInt 1).toInt = 1 by decide) (by omega) (by omega)
                                    refine zs_iinc (pc := 235) t191_235 (ls' := [(9, .int w393v), (7, .int w325v), (12, .int (zI w7M 333 w319n)), (11, .int w318v), (0, .ref 332), (1, .int a), (2, .int b), (3, .int c), (4, .int d), (5, .int e), (6, .int f), (8, .int w11x8), (10, .int w10v)]) (zml mf191 (by decide)) rfl (c := w393v) w393e rfl ?_
                                    refine zs_goto (pc := 238) t191_238 ?_
                                    refine zGo.locals (ls' := [(0, .ref 332), (1, .int a), (2, .int b), (3, .int c), (4, .int d), (5, .int e), (6, .int f), (7, .int w325v), (8, .int w11x8), (9, .int w393v)]) (by simp) ?_
                                    exact w7ih (w7m - 1) (by omega) w325v w11x8 w393v (zsI (zsI (zsI (zsI (zsI w7M 334 w323n (zI w7M 333 w319n)) 333 w319n w326v) 332 2 (zI w7M 332 2)) 332 1 w385v) 332 3 (zI w7M 332 3)) ⟨by omega, by omega⟩ ⟨by omega, by omega⟩ ⟨by omega, by omega⟩ w7s w392 (((((((zFr.refl).trans (w7F.mono rfl)).put rfl).put rfl).put rfl).put rfl).put rfl) (by omega)
                          · refine zs_icmp_leF (pc := 123) t191_123 rfl rfl (by omega) ?_
                            refine zs_iload (pc := 126) t191_126 rfl ?_
                            refine zs_iload (pc := 128) t191_128 rfl ?_
                            obtain ⟨w394v, w394e, w394⟩ := zisub (a := w7x7) (b := w11x8) rfl rfl (by omega) (by omega)
                            refine zs_isub (pc := 130) t191_130 (c := w394v) w394e ?_
                            refine zs_iload (pc := 131) t191_131 rfl ?_
                            by_cases w395 : (w7x7.toInt - w11x8.toInt) < d.toInt
                            · refine zs_icmp_ltT (pc := 133) t191_133 w394 rfl (by omega) ?_
                              refine zs_aload_n (pc := 149) t191_149 rfl ?_
                              refine zs_get (pc := 150) t191_150 (by decide) (zk1 (w7s.k fk_zMc_332)) (w7s.p rfl fv_zMc_332_5) ?_
                              refine zs_iload (pc := 153) t191_153 rfl ?_
                              refine zs_iload (pc := 155) t191_155 rfl ?_
                              obtain ⟨w396n, w396⟩ : ∃ n : Nat, w7x7.toInt = (n : Int) := ⟨w7x7.toInt.toNat, by omega⟩
                              have w397 : zIv cLo cHi (zsI w7M 334 w396n (zI w7M 333 w319n)) := zIv.put w7I (show (-2147483648) ≤ (zI w7M 333 w319n).toInt ∧ (zI w7M 333 w319n).toInt ≤ 2147483647 from (zrg (zI w7M 333 w319n)))
                              refine zs_iast (pc := 157) t191_157 (j := w396n) (by decide) (zk1 (w7s.k fk_zMc_334)) w396 (zk2 (w7s.k fk_zMc_334) (by omega)) ?_
                              obtain ⟨w398v, w398e, w398⟩ := ziadd (a := w7x7) (b := Int32.ofInt 1) rfl (show (Int32.ofInt 1).toInt = 1 by decide) (by omega) (by omega)
                              refine zs_iinc (pc := 158) t191_158 (ls' := [(7, .int w398v), (12, .int (zI w7M 333 w319n)), (11, .int w318v), (0, .ref 332), (1, .int a), (2, .int b), (3, .int c), (4, .int d), (5, .int e), (6, .int f), (8, .int w11x8), (9, .int w7x9), (10, .int w10v)]) (zml mf191 (by decide)) rfl (c := w398v) w398e rfl ?_
                              refine zs_aload_n (pc := 161) t191_161 rfl ?_
                              refine zs_get (pc := 162) t191_162 (by decide) (zk1 (w7s.k fk_zMc_332)) (w7s.p rfl fv_zMc_332_4) ?_
                              refine zs_iload (pc := 165) t191_165 rfl ?_
                              refine zs_iload (pc := 167) t191_167 rfl ?_
                              refine zs_iload (pc := 169) t191_169 rfl ?_
                              obtain ⟨w399v, w399⟩ : ∃ v, v = (zI w7M 333 w319n) + e := ⟨_, rfl⟩
                              have w399g := zrg w399v
                              refine zs_iadd (pc := 171) t191_171 (c := w399v) w399.symm ?_
                              have w400 : zIv cLo cHi (zsI (zsI w7M 334 w396n (zI w7M 333 w319n)) 333 w319n w399v) := zIv.put w397 (show (-2147483648) ≤ w399v.toInt ∧ w399v.toInt ≤ 2147483647 from (zrg w399v))
                              refine zs_iast (pc := 172) t191_172 (j := w319n) (by decide) (zk1 (w7s.k fk_zMc_333)) w319 (zk2 (w7s.k fk_zMc_333) (by omega)) ?_
                              refine zs_iload (pc := 173) t191_173 rfl ?_
                              refine zs_iload (pc := 175) t191_175 rfl ?_
                              by_cases w401 : (zI w7M 333 w319n).toInt ≤ w10v.toInt
                              · refine zs_icmp_leT (pc := 177) t191_177 rfl rfl (by omega) ?_
                                refine zs_iload (pc := 196) t191_196 rfl ?_
                                refine zs_iload (pc := 198) t191_198 rfl ?_
                                obtain ⟨w402v, w402⟩ : ∃ v, v = (zI w7M 333 w319n) + e := ⟨_, rfl⟩
                                have w402g := zrg w402v
                                refine zs_iadd (pc := 200) t191_200 (c := w402v) w402.symm ?_
                                refine zs_iload (pc := 201) t191_201 rfl ?_
                                obtain ⟨w403v, w403⟩ : ∃ v, v = w402v - w10v := ⟨_, rfl⟩
                                have w403g := zrg w403v
                                refine zs_isub (pc := 203) t191_203 (c := w403v) w403.symm ?_
                                refine zs_iload (pc := 204) t191_204 rfl ?_
                                by_cases w404 : w403v.toInt ≤ f.toInt
                                · refine zs_icmp_leT (pc := 206) t191_206 rfl rfl (by omega) ?_
                                  refine zs_aload_n (pc := 219) t191_219 rfl ?_
                                  refine zs_aload_n (pc := 220) t191_220 rfl ?_
                                  have w405 := ib332_3 w7I
                                  refine zs_get (pc := 221) t191_221 (by decide) (zk1 (w7s.k fk_zMc_332)) (zfvi rfl ((zIo (by decide)).trans ((zIo (by decide)).trans rfl))) ?_
                                  refine zs_iload (pc := 224) t191_224 rfl ?_
                                  refine zs_iload (pc := 226) t191_226 rfl ?_
                                  obtain ⟨w406v, w406⟩ : ∃ v, v = (zI w7M 333 w319n) + e := ⟨_, rfl⟩
                                  have w406g := zrg w406v
                                  refine zs_iadd (pc := 228) t191_228 (c := w406v) w406.symm ?_
                                  refine zs_invS (pc := 229) (as := [.int (zI w7M 332 3), .int w406v]) (st := [.ref 332]) t191_229 (by decide) mf21 rfl rfl ⟨by decide, by decide, Nat.le_of_ble_eq_true rfl, Nat.le_of_ble_eq_true rfl⟩ (zs_in (by decide) mf21 (Nat.le_of_ble_eq_true rfl) ?_) (fun _ _ q => q)
                                  show zGo X l 0 0 0 21 0 [(0, .int (zI w7M 332 3)), (1, .int w406v)] [] (zsI (zsI w7M 334 w396n (zI w7M 333 w319n)) 333 w319n w399v) _
                                  refine zs_iload_n (pc := 0) t21_0 rfl ?_
                                  refine zs_iload_n (pc := 1) t21_1 rfl ?_
                                  by_cases w407 : (zI w7M 332 3).toInt < w406v.toInt
                                  · refine zs_icmp_ltT (pc := 2) t21_2 rfl rfl (by omega) ?_
                                    refine zs_iload_n (pc := 9) t21_9 rfl ?_
                                    refine zs_iret (pc := 10) t21_10 mr21 rfl ?_
                                    show zGo X l 1 0 0 191 232 [(7, .int w398v), (12, .int (zI w7M 333 w319n)), (11, .int w318v), (0, .ref 332), (1, .int a), (2, .int b), (3, .int c), (4, .int d), (5, .int e), (6, .int f), (8, .int w11x8), (9, .int w7x9), (10, .int w10v)] [.int w406v, .ref 332] (zsI (zsI w7M 334 w396n (zI w7M 333 w319n)) 333 w319n w399v) _
                                    have w408 : zIv cLo cHi (zsI (zsI (zsI w7M 334 w396n (zI w7M 333 w319n)) 333 w319n w399v) 332 3 w406v) := zIv.put w400 (show (-2147483648) ≤ w406v.toInt ∧ w406v.toInt ≤ 2147483647 from (zrg w406v))
                                    refine zs_putI (pc := 232) t191_232 (zk1 (w7s.k fk_zMc_332)) rfl ?_
                                    obtain ⟨w409v, w409e, w409⟩ := ziadd (a := w7x9) (b := Int32.ofInt 1) rfl (show (Int32.ofInt 1).toInt = 1 by decide) (by omega) (by omega)
                                    refine zs_iinc (pc := 235) t191_235 (ls' := [(9, .int w409v), (7, .int w398v), (12, .int (zI w7M 333 w319n)), (11, .int w318v), (0, .ref 332), (1, .int a), (2, .int b), (3, .int c), (4, .int d), (5, .int e), (6, .int f), (8, .int w11x8), (10, .int w10v)]) (zml mf191 (by decide)) rfl (c := w409v) w409e rfl ?_
                                    refine zs_goto (pc := 238) t191_238 ?_
                                    refine zGo.locals (ls' := [(0, .ref 332), (1, .int a), (2, .int b), (3, .int c), (4, .int d), (5, .int e), (6, .int f), (7, .int w398v), (8, .int w11x8), (9, .int w409v)]) (by simp) ?_
                                    exact w7ih (w7m - 1) (by omega) w398v w11x8 w409v (zsI (zsI (zsI w7M 334 w396n (zI w7M 333 w319n)) 333 w319n w399v) 332 3 w406v) ⟨by omega, by omega⟩ ⟨by omega, by omega⟩ ⟨by omega, by omega⟩ w7s w408 (((((zFr.refl).trans (w7F.mono rfl)).put rfl).put rfl).put rfl) (by omega)
                                  · refine zs_icmp_ltF (pc := 2) t21_2 rfl rfl (by omega) ?_
                                    refine zs_iload_n (pc := 5) t21_5 rfl ?_
                                    refine zs_goto (pc := 6) t21_6 ?_
                                    refine zs_iret (pc := 10) t21_10 mr21 rfl ?_
                                    show zGo X l 1 0 0 191 232 [(7, .int w398v), (12, .int (zI w7M 333 w319n)), (11, .int w318v), (0, .ref 332), (1, .int a), (2, .int b), (3, .int c), (4, .int d), (5, .int e), (6, .int f), (8, .int w11x8), (9, .int w7x9), (10, .int w10v)] [.int (zI w7M 332 3), .ref 332] (zsI (zsI w7M 334 w396n (zI w7M 333 w319n)) 333 w319n w399v) _
                                    have w410 : zIv cLo cHi (zsI (zsI (zsI w7M 334 w396n (zI w7M 333 w319n)) 333 w319n w399v) 332 3 (zI w7M 332 3)) := zIv.put w400 (show (-2147483648) ≤ (zI w7M 332 3).toInt ∧ (zI w7M 332 3).toInt ≤ 2147483647 from (zrg (zI w7M 332 3)))
                                    refine zs_putI (pc := 232) t191_232 (zk1 (w7s.k fk_zMc_332)) rfl ?_
                                    obtain ⟨w411v, w411e, w411⟩ := ziadd (a := w7x9) (b := Int32.ofInt 1) rfl (show (Int32.ofInt 1).toInt = 1 by decide) (by omega) (by omega)
                                    refine zs_iinc (pc := 235) t191_235 (ls' := [(9, .int w411v), (7, .int w398v), (12, .int (zI w7M 333 w319n)), (11, .int w318v), (0, .ref 332), (1, .int a), (2, .int b), (3, .int c), (4, .int d), (5, .int e), (6, .int f), (8, .int w11x8), (10, .int w10v)]) (zml mf191 (by decide)) rfl (c := w411v) w411e rfl ?_
                                    refine zs_goto (pc := 238) t191_238 ?_
                                    refine zGo.locals (ls' := [(0, .ref 332), (1, .int a), (2, .int b), (3, .int c), (4, .int d), (5, .int e), (6, .int f), (7, .int w398v), (8, .int w11x8), (9, .int w411v)]) (by simp) ?_
                                    exact w7ih (w7m - 1) (by omega) w398v w11x8 w411v (zsI (zsI (zsI w7M 334 w396n (zI w7M 333 w319n)) 333 w319n w399v) 332 3 (zI w7M 332 3)) ⟨by omega, by omega⟩ ⟨by omega, by omega⟩ ⟨by omega, by omega⟩ w7s w410 (((((zFr.refl).trans (w7F.mono rfl)).put rfl).put rfl).put rfl) (by omega)
                                · refine zs_icmp_leF (pc := 206) t191_206 rfl rfl (by omega) ?_
                                  refine zs_aload_n (pc := 209) t191_209 rfl ?_
                                  refine zs_dup (pc := 210) t191_210 rfl ?_
                                  have w412 := ib332_1 w7I
                                  refine zs_get (pc := 211) t191_211 (by decide) (zk1 (w7s.k fk_zMc_332)) (zfvi rfl ((zIo (by decide)).trans ((zIo (by decide)).trans rfl))) ?_
                                  refine zs_iconst (pc := 214) t191_214 (v := 1) (by decide) ?_
                                  obtain ⟨w413v, w413⟩ : ∃ v, v = (zI w7M 332 1) + (1 : Int32) := ⟨_, rfl⟩
                                  have w413g := zrg w413v
                                  refine zs_iadd (pc := 215) t191_215 (c := w413v) w413.symm ?_
                                  have w414 : zIv cLo cHi (zsI (zsI (zsI w7M 334 w396n (zI w7M 333 w319n)) 333 w319n w399v) 332 1 w413v) := zIv.put w400 (show (-2147483648) ≤ w413v.toInt ∧ w413v.toInt ≤ 2147483647 from (zrg w413v))
                                  refine zs_putI (pc := 216) t191_216 (zk1 (w7s.k fk_zMc_332)) rfl ?_
                                  refine zs_aload_n (pc := 219) t191_219 rfl ?_
                                  refine zs_aload_n (pc := 220) t191_220 rfl ?_
                                  have w415 := ib332_3 w7I
                                  refine zs_get (pc := 221) t191_221 (by decide) (zk1 (w7s.k fk_zMc_332)) (zfvi rfl ((zIoj (by decide)).trans ((zIo (by decide)).trans ((zIo (by decide)).trans rfl)))) ?_
                                  refine zs_iload (pc := 224) t191_224 rfl ?_
                                  refine zs_iload (pc := 226) t191_226 rfl ?_
                                  obtain ⟨w416v, w416⟩ : ∃ v, v = (zI w7M 333 w319n) + e := ⟨_, rfl⟩
                                  have w416g := zrg w416v
                                  refine zs_iadd (pc := 228) t191_228 (c := w416v) w416.symm ?_
                                  refine zs_invS (pc := 229) (as := [.int (zI w7M 332 3), .int w416v]) (st := [.ref 332]) t191_229 (by decide) mf21 rfl rfl ⟨by decide, by decide, Nat.le_of_ble_eq_true rfl, Nat.le_of_ble_eq_true rfl⟩ (zs_in (by decide) mf21 (Nat.le_of_ble_eq_true rfl) ?_) (fun _ _ q => q)
                                  show zGo X l 0 0 0 21 0 [(0, .int (zI w7M 332 3)), (1, .int w416v)] [] (zsI (zsI (zsI w7M 334 w396n (zI w7M 333 w319n)) 333 w319n w399v) 332 1 w413v) _
                                  refine zs_iload_n (pc := 0) t21_0 rfl ?_
                                  refine zs_iload_n (pc := 1) t21_1 rfl ?_
                                  by_cases w417 : (zI w7M 332 3).toInt < w416v.toInt
                                  · refine zs_icmp_ltT (pc := 2) t21_2 rfl rfl (by omega) ?_
                                    refine zs_iload_n (pc := 9) t21_9 rfl ?_
                                    refine zs_iret (pc := 10) t21_10 mr21 rfl ?_
                                    show zGo X l 1 0 0 191 232 [(7, .int w398v), (12, .int (zI w7M 333 w319n)), (11, .int w318v), (0, .ref 332), (1, .int a), (2, .int b), (3, .int c), (4, .int d), (5, .int e), (6, .int f), (8, .int w11x8), (9, .int w7x9), (10, .int w10v)] [.int w416v, .ref 332] (zsI (zsI (zsI w7M 334 w396n (zI w7M 333 w319n)) 333 w319n w399v) 332 1 w413v) _
                                    have w418 : zIv cLo cHi (zsI (zsI (zsI (zsI w7M 334 w396n (zI w7M 333 w319n)) 333 w319n w399v) 332 1 w413v) 332 3 w416v) := zIv.put w414 (show (-2147483648) ≤ w416v.toInt ∧ w416v.toInt ≤ 2147483647 from (zrg w416v))
                                    refine zs_putI (pc := 232) t191_232 (zk1 (w7s.k fk_zMc_332)) rfl ?_
                                    obtain ⟨w419v, w419e, w419⟩ := ziadd (a := w7x9) (b := Int32.ofInt 1) rfl (show (Int32.ofInt 1).toInt = 1 by decide) (by omega) (by omega)
                                    refine zs_iinc (pc := 235) t191_235 (ls' := [(9, .int w419v), (7, .int w398v), (12, .int (zI w7M 333 w319n)), (11, .int w318v), (0, .ref 332), (1, .int a), (2, .int b), (3, .int c), (4, .int d), (5, .int e), (6, .int f), (8, .int w11x8), (10, .int w10v)]) (zml mf191 (by decide)) rfl (c := w419v) w419e rfl ?_
                                    refine zs_goto (pc := 238) t191_238 ?_
                                    refine zGo.locals (ls' := [(0, .ref 332), (1, .int a), (2, .int b), (3, .int c), (4, .int d), (5, .int e), (6, .int f), (7, .int w398v), (8, .int w11x8), (9, .int w419v)]) (by simp) ?_
                                    exact w7ih (w7m - 1) (by omega) w398v w11x8 w419v (zsI (zsI (zsI (zsI w7M 334 w396n (zI w7M 333 w319n)) 333 w319n w399v) 332 1 w413v) 332 3 w416v) ⟨by omega, by omega⟩ ⟨by omega, by omega⟩ ⟨by omega, by omega⟩ w7s w418 ((((((zFr.refl).trans (w7F.mono rfl)).put rfl).put rfl).put rfl).put rfl) (by omega)
                                  · refine zs_icmp_ltF (pc := 2) t21_2 rfl rfl (by omega) ?_
                                    refine zs_iload_n (pc := 5) t21_5 rfl ?_
                                    refine zs_goto (pc := 6) t21_6 ?_
                                    refine zs_iret (pc := 10) t21_10 mr21 rfl ?_
                                    show zGo X l 1 0 0 191 232 [(7, .int w398v), (12, .int (zI w7M 333 w319n)), (11, .int w318v), (0, .ref 332), (1, .int a), (2, .int b), (3, .int c), (4, .int d), (5, .int e), (6, .int f), (8, .int w11x8), (9, .int w7x9), (10, .int w10v)] [.int (zI w7M 332 3), .ref 332] (zsI (zsI (zsI w7M 334 w396n (zI w7M 333 w319n)) 333 w319n w399v) 332 1 w413v) _
                                    have w420 : zIv cLo cHi (zsI (zsI (zsI (zsI w7M 334 w396n (zI w7M 333 w319n)) 333 w319n w399v) 332 1 w413v) 332 3 (zI w7M 332 3)) := zIv.put w414 (show (-2147483648) ≤ (zI w7M 332 3).toInt ∧ (zI w7M 332 3).toInt ≤ 2147483647 from (zrg (zI w7M 332 3)))
                                    refine zs_putI (pc := 232) t191_232 (zk1 (w7s.k fk_zMc_332)) rfl ?_
                                    obtain ⟨w421v, w421e, w421⟩ := ziadd (a := w7x9) (b := Int32.ofInt 1) rfl (show (Int32.ofInt 1).toInt = 1 by decide) (by omega) (by omega)
                                    refine zs_iinc (pc := 235) t191_235 (ls' := [(9, .int w421v), (7, .int w398v), (12, .int (zI w7M 333 w319n)), (11, .int w318v), (0, .ref 332), (1, .int a), (2, .int b), (3, .int c), (4, .int d), (5, .int e), (6, .int f), (8, .int w11x8), (10, .int w10v)]) (zml mf191 (by decide)) rfl (c := w421v) w421e rfl ?_
                                    refine zs_goto (pc := 238) t191_238 ?_
                                    refine zGo.locals (ls' := [(0, .ref 332), (1, .int a), (2, .int b), (3, .int c), (4, .int d), (5, .int e), (6, .int f), (7, .int w398v), (8, .int w11x8), (9, .int w421v)]) (by simp) ?_
                                    exact w7ih (w7m - 1) (by omega) w398v w11x8 w421v (zsI (zsI (zsI (zsI w7M 334 w396n (zI w7M 333 w319n)) 333 w319n w399v) 332 1 w413v) 332 3 (zI w7M 332 3)) ⟨by omega, by omega⟩ ⟨by omega, by omega⟩ ⟨by omega, by omega⟩ w7s w420 ((((((zFr.refl).trans (w7F.mono rfl)).put rfl).put rfl).put rfl).put rfl) (by omega)
                              · refine zs_icmp_leF (pc := 177) t191_177 rfl rfl (by omega) ?_
                                refine zs_aload_n (pc := 180) t191_180 rfl ?_
                                refine zs_aload_n (pc := 181) t191_181 rfl ?_
                                have w422 := ib332_2 w7I
                                refine zs_get (pc := 182) t191_182 (by decide) (zk1 (w7s.k fk_zMc_332)) (zfvi rfl ((zIo (by decide)).trans ((zIo (by decide)).trans rfl))) ?_
                                refine zs_iload (pc := 185) t191_185 rfl ?_
                                refine zs_iload (pc := 187) t191_187 rfl ?_
                                obtain ⟨w423v, w423e, w423⟩ := zisub (a := w398v) (b := w11x8) w398 rfl (by omega) (by omega)
                                refine zs_isub (pc := 189) t191_189 (c := w423v) w423e ?_
                                refine zs_invS (pc := 190) (as := [.int (zI w7M 332 2), .int w423v]) (st := [.ref 332]) t191_190 (by decide) mf21 rfl rfl ⟨by decide, by decide, Nat.le_of_ble_eq_true rfl, Nat.le_of_ble_eq_true rfl⟩ (zs_in (by decide) mf21 (Nat.le_of_ble_eq_true rfl) ?_) (fun _ _ q => q)
                                show zGo X l 0 0 0 21 0 [(0, .int (zI w7M 332 2)), (1, .int w423v)] [] (zsI (zsI w7M 334 w396n (zI w7M 333 w319n)) 333 w319n w399v) _
                                refine zs_iload_n (pc := 0) t21_0 rfl ?_
                                refine zs_iload_n (pc := 1) t21_1 rfl ?_
                                by_cases w424 : (zI w7M 332 2).toInt < ((w7x7.toInt + 1) - w11x8.toInt)
                                · refine zs_icmp_ltT (pc := 2) t21_2 rfl w423 (by omega) ?_
                                  refine zs_iload_n (pc := 9) t21_9 rfl ?_
                                  refine zs_iret (pc := 10) t21_10 mr21 rfl ?_
                                  show zGo X l 1 0 0 191 193 [(7, .int w398v), (12, .int (zI w7M 333 w319n)), (11, .int w318v), (0, .ref 332), (1, .int a), (2, .int b), (3, .int c), (4, .int d), (5, .int e), (6, .int f), (8, .int w11x8), (9, .int w7x9), (10, .int w10v)] [.int w423v, .ref 332] (zsI (zsI w7M 334 w396n (zI w7M 333 w319n)) 333 w319n w399v) _
                                  have w425 : zIv cLo cHi (zsI (zsI (zsI w7M 334 w396n (zI w7M 333 w319n)) 333 w319n w399v) 332 2 w423v) := zIv.put w400 (show (-2147483648) ≤ w423v.toInt ∧ w423v.toInt ≤ 2147483647 from (zrg w423v))
                                  refine zs_putI (pc := 193) t191_193 (zk1 (w7s.k fk_zMc_332)) rfl ?_
                                  refine zs_iload (pc := 196) t191_196 rfl ?_
                                  refine zs_iload (pc := 198) t191_198 rfl ?_
                                  obtain ⟨w426v, w426⟩ : ∃ v, v = (zI w7M 333 w319n) + e := ⟨_, rfl⟩
                                  have w426g := zrg w426v
                                  refine zs_iadd (pc := 200) t191_200 (c := w426v) w426.symm ?_
                                  refine zs_iload (pc := 201) t191_201 rfl ?_
                                  obtain ⟨w427v, w427⟩ : ∃ v, v = w426v - w10v := ⟨_, rfl⟩
                                  have w427g := zrg w427v
                                  refine zs_isub (pc := 203) t191_203 (c := w427v) w427.symm ?_
                                  refine zs_iload (pc := 204) t191_204 rfl ?_
                                  by_cases w428 : w427v.toInt ≤ f.toInt
                                  · refine zs_icmp_leT (pc := 206) t191_206 rfl rfl (by omega) ?_
                                    refine zs_aload_n (pc := 219) t191_219 rfl ?_
                                    refine zs_aload_n (pc := 220) t191_220 rfl ?_
                                    have w429 := ib332_3 w7I
                                    refine zs_get (pc := 221) t191_221 (by decide) (zk1 (w7s.k fk_zMc_332)) (zfvi rfl ((zIoj (by decide)).trans ((zIo (by decide)).trans ((zIo (by decide)).trans rfl)))) ?_
                                    refine zs_iload (pc := 224) t191_224 rfl ?_
                                    refine zs_iload (pc := 226) t191_226 rfl ?_
                                    obtain ⟨w430v, w430⟩ : ∃ v, v = (zI w7M 333 w319n) + e := ⟨_, rfl⟩
                                    have w430g := zrg w430v
                                    refine zs_iadd (pc := 228) t191_228 (c := w430v) w430.symm ?_
                                    refine zs_invS (pc := 229) (as := [.int (zI w7M 332 3), .int w430v]) (st := [.ref 332]) t191_229 (by decide) mf21 rfl rfl ⟨by decide, by decide, Nat.le_of_ble_eq_true rfl, Nat.le_of_ble_eq_true rfl⟩ (zs_in (by decide) mf21 (Nat.le_of_ble_eq_true rfl) ?_) (fun _ _ q => q)
                                    show zGo X l 0 0 0 21 0 [(0, .int (zI w7M 332 3)), (1, .int w430v)] [] (zsI (zsI (zsI w7M 334 w396n (zI w7M 333 w319n)) 333 w319n w399v) 332 2 w423v) _
                                    refine zs_iload_n (pc := 0) t21_0 rfl ?_
                                    refine zs_iload_n (pc := 1) t21_1 rfl ?_
                                    by_cases w431 : (zI w7M 332 3).toInt < w430v.toInt
                                    · refine zs_icmp_ltT (pc := 2) t21_2 rfl rfl (by omega) ?_
                                      refine zs_iload_n (pc := 9) t21_9 rfl ?_
                                      refine zs_iret (pc := 10) t21_10 mr21 rfl ?_
                                      show zGo X l 1 0 0 191 232 [(7, .int w398v), (12, .int (zI w7M 333 w319n)), (11, .int w318v), (0, .ref 332), (1, .int a), (2, .int b), (3, .int c), (4, .int d), (5, .int e), (6, .int f), (8, .int w11x8), (9, .int w7x9), (10, .int w10v)] [.int w430v, .ref 332] (zsI (zsI (zsI w7M 334 w396n (zI w7M 333 w319n)) 333 w319n w399v) 332 2 w423v) _
                                      have w432 : zIv cLo cHi (zsI (zsI (zsI (zsI w7M 334 w396n (zI w7M 333 w319n)) 333 w319n w399v) 332 2 w423v) 332 3 w430v) := zIv.put w425 (show (-2147483648) ≤ w430v.toInt ∧ w430v.toInt ≤ 2147483647 from (zrg w430v))
                                      refine zs_putI (pc := 232) t191_232 (zk1 (w7s.k fk_zMc_332)) rfl ?_
                                      obtain ⟨w433v, w433e, w433⟩ := ziadd (a := w7x9) (b := Int32.ofInt 1) rfl (show (Int32.ofInt 1).toInt = 1 by decide) (by omega) (by omega)
                                      refine zs_iinc (pc := 235) t191_235 (ls' := [(9, .int w433v), (7, .int w398v), (12, .int (zI w7M 333 w319n)), (11, .int w318v), (0, .ref 332), (1, .int a), (2, .int b), (3, .int c), (4, .int d), (5, .int e), (6, .int f), (8, .int w11x8), (10, .int w10v)]) (zml mf191 (by decide)) rfl (c := w433v) w433e rfl ?_
                                      refine zs_goto (pc := 238) t191_238 ?_
                                      refine zGo.locals (ls' := [(0, .ref 332), (1, .int a), (2, .int b), (3, .int c), (4, .int d), (5, .int e), (6, .int f), (7, .int w398v), (8, .int w11x8), (9, .int w433v)]) (by simp) ?_
                                      exact w7ih (w7m - 1) (by omega) w398v w11x8 w433v (zsI (zsI (zsI (zsI w7M 334 w396n (zI w7M 333 w319n)) 333 w319n w399v) 332 2 w423v) 332 3 w430v) ⟨by omega, by omega⟩ ⟨by omega, by omega⟩ ⟨by omega, by omega⟩ w7s w432 ((((((zFr.refl).trans (w7F.mono rfl)).put rfl).put rfl).put rfl).put rfl) (by omega)
                                    · refine zs_icmp_ltF (pc := 2) t21_2 rfl rfl (by omega) ?_
                                      refine zs_iload_n (pc := 5) t21_5 rfl ?_
                                      refine zs_goto (pc := 6) t21_6 ?_
                                      refine zs_iret (pc := 10) t21_10 mr21 rfl ?_
                                      show zGo X l 1 0 0 191 232 [(7, .int w398v), (12, .int (zI w7M 333 w319n)), (11, .int w318v), (0, .ref 332), (1, .int a), (2, .int b), (3, .int c), (4, .int d), (5, .int e), (6, .int f), (8, .int w11x8), (9, .int w7x9), (10, .int w10v)] [.int (zI w7M 332 3), .ref 332] (zsI (zsI (zsI w7M 334 w396n (zI w7M 333 w319n)) 333 w319n w399v) 332 2 w423v) _
                                      have w434 : zIv cLo cHi (zsI (zsI (zsI (zsI w7M 334 w396n (zI w7M 333 w319n)) 333 w319n w399v) 332 2 w423v) 332 3 (zI w7M 332 3)) := zIv.put w425 (show (-2147483648) ≤ (zI w7M 332 3).toInt ∧ (zI w7M 332 3).toInt ≤ 2147483647 from (zrg (zI w7M 332 3)))
                                      refine zs_putI (pc := 232) t191_232 (zk1 (w7s.k fk_zMc_332)) rfl ?_
                                      obtain ⟨w435v, w435e, w435⟩ := ziadd (a := w7x9) (b := Int32.ofInt 1) rfl (show (Int32.ofInt 1).toInt = 1 by decide) (by omega) (by omega)
                                      refine zs_iinc (pc := 235) t191_235 (ls' := [(9, .int w435v), (7, .int w398v), (12, .int (zI w7M 333 w319n)), (11, .int w318v), (0, .ref 332), (1, .int a), (2, .int b), (3, .int c), (4, .int d), (5, .int e), (6, .int f), (8, .int w11x8), (10, .int w10v)]) (zml mf191 (by decide)) rfl (c := w435v) w435e rfl ?_
                                      refine zs_goto (pc := 238) t191_238 ?_
                                      refine zGo.locals (ls' := [(0, .ref 332), (1, .int a), (2, .int b), (3, .int c), (4, .int d), (5, .int e), (6, .int f), (7, .int w398v), (8, .int w11x8), (9, .int w435v)]) (by simp) ?_
                                      exact w7ih (w7m - 1) (by omega) w398v w11x8 w435v (zsI (zsI (zsI (zsI w7M 334 w396n (zI w7M 333 w319n)) 333 w319n w399v) 332 2 w423v) 332 3 (zI w7M 332 3)) ⟨by omega, by omega⟩ ⟨by omega, by omega⟩ ⟨by omega, by omega⟩ w7s w434 ((((((zFr.refl).trans (w7F.mono rfl)).put rfl).put rfl).put rfl).put rfl) (by omega)
                                  · refine zs_icmp_leF (pc := 206) t191_206 rfl rfl (by omega) ?_
                                    refine zs_aload_n (pc := 209) t191_209 rfl ?_
                                    refine zs_dup (pc := 210) t191_210 rfl ?_
                                    have w436 := ib332_1 w7I
                                    refine zs_get (pc := 211) t191_211 (by decide) (zk1 (w7s.k fk_zMc_332)) (zfvi rfl ((zIoj (by decide)).trans ((zIo (by decide)).trans ((zIo (by decide)).trans rfl)))) ?_
                                    refine zs_iconst (pc := 214) t191_214 (v := 1) (by decide) ?_
                                    obtain ⟨w437v, w437⟩ : ∃ v, v = (zI w7M 332 1) + (1 : Int32) := ⟨_, rfl⟩
                                    have w437g := zrg w437v
                                    refine zs_iadd (pc := 215) t191_215 (c := w437v) w437.symm ?_
                                    have w438 : zIv cLo cHi (zsI (zsI (zsI (zsI w7M 334 w396n (zI w7M 333 w319n)) 333 w319n w399v) 332 2 w423v) 332 1 w437v) := zIv.put w425 (show (-2147483648) ≤ w437v.toInt ∧ w437v.toInt ≤ 2147483647 from (zrg w437v))
                                    refine zs_putI (pc := 216) t191_216 (zk1 (w7s.k fk_zMc_332)) rfl ?_
                                    refine zs_aload_n (pc := 219) t191_219 rfl ?_
                                    refine zs_aload_n (pc := 220) t191_220 rfl ?_
                                    have w439 := ib332_3 w7I
                                    refine zs_get (pc := 221) t191_221 (by decide) (zk1 (w7s.k fk_zMc_332)) (zfvi rfl ((zIoj (by decide)).trans ((zIoj (by decide)).trans ((zIo (by decide)).trans ((zIo (by decide)).trans rfl))))) ?_
                                    refine zs_iload (pc := 224) t191_224 rfl ?_
                                    refine zs_iload (pc := 226) t191_226 rfl ?_
                                    obtain ⟨w440v, w440⟩ : ∃ v, v = (zI w7M 333 w319n) + e := ⟨_, rfl⟩
                                    have w440g := zrg w440v
                                    refine zs_iadd (pc := 228) t191_228 (c := w440v) w440.symm ?_
                                    refine zs_invS (pc := 229) (as := [.int (zI w7M 332 3), .int w440v]) (st := [.ref 332]) t191_229 (by decide) mf21 rfl rfl ⟨by decide, by decide, Nat.le_of_ble_eq_true rfl, Nat.le_of_ble_eq_true rfl⟩ (zs_in (by decide) mf21 (Nat.le_of_ble_eq_true rfl) ?_) (fun _ _ q => q)
                                    show zGo X l 0 0 0 21 0 [(0, .int (zI w7M 332 3)), (1, .int w440v)] [] (zsI (zsI (zsI (zsI w7M 334 w396n (zI w7M 333 w319n)) 333 w319n w399v) 332 2 w423v) 332 1 w437v) _
                                    refine zs_iload_n (pc := 0) t21_0 rfl ?_
                                    refine zs_iload_n (pc := 1) t21_1 rfl ?_
                                    by_cases w441 : (zI w7M 332 3).toInt < w440v.toInt
                                    · refine zs_icmp_ltT (pc := 2) t21_2 rfl rfl (by omega) ?_
                                      refine zs_iload_n (pc := 9) t21_9 rfl ?_
                                      refine zs_iret (pc := 10) t21_10 mr21 rfl ?_
                                      show zGo X l 1 0 0 191 232 [(7, .int w398v), (12, .int (zI w7M 333 w319n)), (11, .int w318v), (0, .ref 332), (1, .int a), (2, .int b), (3, .int c), (4, .int d), (5, .int e), (6, .int f), (8, .int w11x8), (9, .int w7x9), (10, .int w10v)] [.int w440v, .ref 332] (zsI (zsI (zsI (zsI w7M 334 w396n (zI w7M 333 w319n)) 333 w319n w399v) 332 2 w423v) 332 1 w437v) _
                                      have w442 : zIv cLo cHi (zsI (zsI (zsI (zsI (zsI w7M 334 w396n (zI w7M 333 w319n)) 333 w319n w399v) 332 2 w423v) 332 1 w437v) 332 3 w440v) := zIv.put w438 (show (-2147483648) ≤ w440v.toInt ∧ w440v.toInt ≤ 2147483647 from (zrg w440v))
                                      refine zs_putI (pc := 232) t191_232 (zk1 (w7s.k fk_zMc_332)) rfl ?_
                                      obtain ⟨w443v, w443e, w443⟩ := ziadd (a := w7x9) (b := Int32.ofInt 1) rfl (show (Int32.ofInt 1).toInt = 1 by decide) (by omega) (by omega)
                                      refine zs_iinc (pc := 235) t191_235 (ls' := [(9, .int w443v), (7, .int w398v), (12, .int (zI w7M 333 w319n)), (11, .int w318v), (0, .ref 332), (1, .int a), (2, .int b), (3, .int c), (4, .int d), (5, .int e), (6, .int f), (8, .int w11x8), (10, .int w10v)]) (zml mf191 (by decide)) rfl (c := w443v) w443e rfl ?_
                                      refine zs_goto (pc := 238) t191_238 ?_
                                      refine zGo.locals (ls' := [(0, .ref 332), (1, .int a), (2, .int b), (3, .int c), (4, .int d), (5, .int e), (6, .int f), (7, .int w398v), (8, .int w11x8), (9, .int w443v)]) (by simp) ?_
                                      exact w7ih (w7m - 1) (by omega) w398v w11x8 w443v (zsI (zsI (zsI (zsI (zsI w7M 334 w396n (zI w7M 333 w319n)) 333 w319n w399v) 332 2 w423v) 332 1 w437v) 332 3 w440v) ⟨by omega, by omega⟩ ⟨by omega, by omega⟩ ⟨by omega, by omega⟩ w7s w442 (((((((zFr.refl).trans (w7F.mono rfl)).put rfl).put rfl).put rfl).put rfl).put rfl) (by omega)
                                    · refine zs_icmp_ltF (pc := 2) t21_2 rfl rfl (by omega) ?_
                                      refine zs_iload_n (pc := 5) t21_5 rfl ?_
                                      refine zs_goto (pc := 6) t21_6 ?_
                                      refine zs_iret (pc := 10) t21_10 mr21 rfl ?_
                                      show zGo X l 1 0 0 191 232 [(7, .int w398v), (12, .int (zI w7M 333 w319n)), (11, .int w318v), (0, .ref 332), (1, .int a), (2, .int b), (3, .int c), (4, .int d), (5, .int e), (6, .int f), (8, .int w11x8), (9, .int w7x9), (10, .int w10v)] [.int (zI w7M 332 3), .ref 332] (zsI (zsI (zsI (zsI w7M 334 w396n (zI w7M 333 w319n)) 333 w319n w399v) 332 2 w423v) 332 1 w437v) _
                                      have w444 : zIv cLo cHi (zsI (zsI (zsI (zsI (zsI w7M 334 w396n (zI w7M 333 w319n)) 333 w319n w399v) 332 2 w423v) 332 1 w437v) 332 3 (zI w7M 332 3)) := zIv.put w438 (show (-2147483648) ≤ (zI w7M 332 3).toInt ∧ (zI w7M 332 3).toInt ≤ 2147483647 from (zrg (zI w7M 332 3)))
                                      refine zs_putI (pc := 232) t191_232 (zk1 (w7s.k fk_zMc_332)) rfl ?_
                                      obtain ⟨w445v, w445e, w445⟩ := ziadd (a := w7x9) (b := Int32.ofInt 1) rfl (show (Int32.ofInt 1).toInt = 1 by decide) (by omega) (by omega)
                                      refine zs_iinc (pc := 235) t191_235 (ls' := [(9, .int w445v), (7, .int w398v), (12, .int (zI w7M 333 w319n)), (11, .int w318v), (0, .ref 332), (1, .int a), (2, .int b), (3, .int c), (4, .int d), (5, .int e), (6, .int f), (8, .int w11x8), (10, .int w10v)]) (zml mf191 (by decide)) rfl (c := w445v) w445e rfl ?_
                                      refine zs_goto (pc := 238) t191_238 ?_
                                      refine zGo.locals (ls' := [(0, .ref 332), (1, .int a), (2, .int b), (3, .int c), (4, .int d), (5, .int e), (6, .int f), (7, .int w398v), (8, .int w11x8), (9, .int w445v)]) (by simp) ?_
                                      exact w7ih (w7m - 1) (by omega) w398v w11x8 w445v (zsI (zsI (zsI (zsI (zsI w7M 334 w396n (zI w7M 333 w319n)) 333 w319n w399v) 332 2 w423v) 332 1 w437v) 332 3 (zI w7M 332 3)) ⟨by omega, by omega⟩ ⟨by omega, by omega⟩ ⟨by omega, by omega⟩ w7s w444 (((((((zFr.refl).trans (w7F.mono rfl)).put rfl).put rfl).put rfl).put rfl).put rfl) (by omega)
                                · refine zs_icmp_ltF (pc := 2) t21_2 rfl w423 (by omega) ?_
                                  refine zs_iload_n (pc := 5) t21_5 rfl ?_
                                  refine zs_goto (pc := 6) t21_6 ?_
                                  refine zs_iret (pc := 10) t21_10 mr21 rfl ?_
                                  show zGo X l 1 0 0 191 193 [(7, .int w398v), (12, .int (zI w7M 333 w319n)), (11, .int w318v), (0, .ref 332), (1, .int a), (2, .int b), (3, .int c), (4, .int d), (5, .int e), (6, .int f), (8, .int w11x8), (9, .int w7x9), (10, .int w10v)] [.int (zI w7M 332 2), .ref 332] (zsI (zsI w7M 334 w396n (zI w7M 333 w319n)) 333 w319n w399v) _
                                  have w446 : zIv cLo cHi (zsI (zsI (zsI w7M 334 w396n (zI w7M 333 w319n)) 333 w319n w399v) 332 2 (zI w7M 332 2)) := zIv.put w400 (show (-2147483648) ≤ (zI w7M 332 2).toInt ∧ (zI w7M 332 2).toInt ≤ 2147483647 from (zrg (zI w7M 332 2)))
                                  refine zs_putI (pc := 193) t191_193 (zk1 (w7s.k fk_zMc_332)) rfl ?_
                                  refine zs_iload (pc := 196) t191_196 rfl ?_
                                  refine zs_iload (pc := 198) t191_198 rfl ?_
                                  obtain ⟨w447v, w447⟩ : ∃ v, v = (zI w7M 333 w319n) + e := ⟨_, rfl⟩
                                  have w447g := zrg w447v
                                  refine zs_iadd (pc := 200) t191_200 (c := w447v) w447.symm ?_
                                  refine zs_iload (pc := 201) t191_201 rfl ?_
                                  obtain ⟨w448v, w448⟩ : ∃ v, v = w447v - w10v := ⟨_, rfl⟩
                                  have w448g := zrg w448v
                                  refine zs_isub (pc := 203) t191_203 (c := w448v) w448.symm ?_
                                  refine zs_iload (pc := 204) t191_204 rfl ?_
                                  by_cases w449 : w448v.toInt ≤ f.toInt
                                  · refine zs_icmp_leT (pc := 206) t191_206 rfl rfl (by omega) ?_
                                    refine zs_aload_n (pc := 219) t191_219 rfl ?_
                                    refine zs_aload_n (pc := 220) t191_220 rfl ?_
                                    have w450 := ib332_3 w7I
                                    refine zs_get (pc := 221) t191_221 (by decide) (zk1 (w7s.k fk_zMc_332)) (zfvi rfl ((zIoj (by decide)).trans ((zIo (by decide)).trans ((zIo (by decide)).trans rfl)))) ?_
                                    refine zs_iload (pc := 224) t191_224 rfl ?_
                                    refine zs_iload (pc := 226) t191_226 rfl ?_
                                    obtain ⟨w451v, w451⟩ : ∃ v, v = (zI w7M 333 w319n) + e := ⟨_, rfl⟩
                                    have w451g := zrg w451v
                                    refine zs_iadd (pc := 228) t191_228 (c := w451v) w451.symm ?_
                                    refine zs_invS (pc := 229) (as := [.int (zI w7M 332 3), .int w451v]) (st := [.ref 332]) t191_229 (by decide) mf21 rfl rfl ⟨by decide, by decide, Nat.le_of_ble_eq_true rfl, Nat.le_of_ble_eq_true rfl⟩ (zs_in (by decide) mf21 (Nat.le_of_ble_eq_true rfl) ?_) (fun _ _ q => q)
                                    show zGo X l 0 0 0 21 0 [(0, .int (zI w7M 332 3)), (1, .int w451v)] [] (zsI (zsI (zsI w7M 334 w396n (zI w7M 333 w319n)) 333 w319n w399v) 332 2 (zI w7M 332 2)) _
                                    refine zs_iload_n (pc := 0) t21_0 rfl ?_
                                    refine zs_iload_n (pc := 1) t21_1 rfl ?_
                                    by_cases w452 : (zI w7M 332 3).toInt < w451v.toInt
                                    · refine zs_icmp_ltT (pc := 2) t21_2 rfl rfl (by omega) ?_
                                      refine zs_iload_n (pc := 9) t21_9 rfl ?_
                                      refine zs_iret (pc := 10) t21_10 mr21 rfl ?_
                                      show zGo X l 1 0 0 191 232 [(7, .int w398v), (12, .int (zI w7M 333 w319n)), (11, .int w318v), (0, .ref 332), (1, .int a), (2, .int b), (3, .int c), (4, .int d), (5, .int e), (6, .int f), (8, .int w11x8), (9, .int w7x9), (10, .int w10v)] [.int w451v, .ref 332] (zsI (zsI (zsI w7M 334 w396n (zI w7M 333 w319n)) 333 w319n w399v) 332 2 (zI w7M 332 2)) _
                                      have w453 : zIv cLo cHi (zsI (zsI (zsI (zsI w7M 334 w396n (zI w7M 333 w319n)) 333 w319n w399v) 332 2 (zI w7M 332 2)) 332 3 w451v) := zIv.put w446 (show (-2147483648) ≤ w451v.toInt ∧ w451v.toInt ≤ 2147483647 from (zrg w451v))
                                      refine zs_putI (pc := 232) t191_232 (zk1 (w7s.k fk_zMc_332)) rfl ?_
                                      obtain ⟨w454v, w454e, w454⟩ := ziadd (a := w7x9) (b := Int32.ofInt 1) rfl (show (Int32.ofInt 1).toInt = 1 by decide) (by omega) (by omega)
                                      refine zs_iinc (pc := 235) t191_235 (ls' := [(9, .int w454v), (7, .int w398v), (12, .int (zI w7M 333 w319n)), (11, .int w318v), (0, .ref 332), (1, .int a), (2, .int b), (3, .int c), (4, .int d), (5, .int e), (6, .int f), (8, .int w11x8), (10, .int w10v)]) (zml mf191 (by decide)) rfl (c := w454v) w454e rfl ?_
                                      refine zs_goto (pc := 238) t191_238 ?_
                                      refine zGo.locals (ls' := [(0, .ref 332), (1, .int a), (2, .int b), (3, .int c), (4, .int d), (5, .int e), (6, .int f), (7, .int w398v), (8, .int w11x8), (9, .int w454v)]) (by simp) ?_
                                      exact w7ih (w7m - 1) (by omega) w398v w11x8 w454v (zsI (zsI (zsI (zsI w7M 334 w396n (zI w7M 333 w319n)) 333 w319n w399v) 332 2 (zI w7M 332 2)) 332 3 w451v) ⟨by omega, by omega⟩ ⟨by omega, by omega⟩ ⟨by omega, by omega⟩ w7s w453 ((((((zFr.refl).trans (w7F.mono rfl)).put rfl).put rfl).put rfl).put rfl) (by omega)
                                    · refine zs_icmp_ltF (pc := 2) t21_2 rfl rfl (by omega) ?_
                                      refine zs_iload_n (pc := 5) t21_5 rfl ?_
                                      refine zs_goto (pc := 6) t21_6 ?_
                                      refine zs_iret (pc := 10) t21_10 mr21 rfl ?_
                                      show zGo X l 1 0 0 191 232 [(7, .int w398v), (12, .int (zI w7M 333 w319n)), (11, .int w318v), (0, .ref 332), (1, .int a), (2, .int b), (3, .int c), (4, .int d), (5, .int e), (6, .int f), (8, .int w11x8), (9, .int w7x9), (10, .int w10v)] [.int (zI w7M 332 3), .ref 332] (zsI (zsI (zsI w7M 334 w396n (zI w7M 333 w319n)) 333 w319n w399v) 332 2 (zI w7M 332 2)) _
                                      have w455 : zIv cLo cHi (zsI (zsI (zsI (zsI w7M 334 w396n (zI w7M 333 w319n)) 333 w319n w399v) 332 2 (zI w7M 332 2)) 332 3 (zI w7M 332 3)) := zIv.put w446 (show (-2147483648) ≤ (zI w7M 332 3).toInt ∧ (zI w7M 332 3).toInt ≤ 2147483647 from (zrg (zI w7M 332 3)))
                                      refine zs_putI (pc := 232) t191_232 (zk1 (w7s.k fk_zMc_332)) rfl ?_
                                      obtain ⟨w456v, w456e, w456⟩ := ziadd (a := w7x9) (b := Int32.ofInt 1) rfl (show (Int32.ofInt 1).toInt = 1 by decide) (by omega) (by omega)
                                      refine zs_iinc (pc := 235) t191_235 (ls' := [(9, .int w456v), (7, .int w398v), (12, .int (zI w7M 333 w319n)), (11, .int w318v), (0, .ref 332), (1, .int a), (2, .int b), (3, .int c), (4, .int d), (5, .int e), (6, .int f), (8, .int w11x8), (10, .int w10v)]) (zml mf191 (by decide)) rfl (c := w456v) w456e rfl ?_
                                      refine zs_goto (pc := 238) t191_238 ?_
                                      refine zGo.locals (ls' := [(0, .ref 332), (1, .int a), (2, .int b), (3, .int c), (4, .int d), (5, .int e), (6, .int f), (7, .int w398v), (8, .int w11x8), (9, .int w456v)]) (by simp) ?_
                                      exact w7ih (w7m - 1) (by omega) w398v w11x8 w456v (zsI (zsI (zsI (zsI w7M 334 w396n (zI w7M 333 w319n)) 333 w319n w399v) 332 2 (zI w7M 332 2)) 332 3 (zI w7M 332 3)) ⟨by omega, by omega⟩ ⟨by omega, by omega⟩ ⟨by omega, by omega⟩ w7s w455 ((((((zFr.refl).trans (w7F.mono rfl)).put rfl).put rfl).put rfl).put rfl) (by omega)
                                  · refine zs_icmp_leF (pc := 206) t191_206 rfl rfl (by omega) ?_
                                    refine zs_aload_n (pc := 209) t191_209 rfl ?_
                                    refine zs_dup (pc := 210) t191_210 rfl ?_
                                    have w457 := ib332_1 w7I
                                    refine zs_get (pc := 211) t191_211 (by decide) (zk1 (w7s.k fk_zMc_332)) (zfvi rfl ((zIoj (by decide)).trans ((zIo (by decide)).trans ((zIo (by decide)).trans rfl)))) ?_
                                    refine zs_iconst (pc := 214) t191_214 (v := 1) (by decide) ?_
                                    obtain ⟨w458v, w458⟩ : ∃ v, v = (zI w7M 332 1) + (1 : Int32) := ⟨_, rfl⟩
                                    have w458g := zrg w458v
                                    refine zs_iadd (pc := 215) t191_215 (c := w458v) w458.symm ?_
                                    have w459 : zIv cLo cHi (zsI (zsI (zsI (zsI w7M 334 w396n (zI w7M 333 w319n)) 333 w319n w399v) 332 2 (zI w7M 332 2)) 332 1 w458v) := zIv.put w446 (show (-2147483648) ≤ w458v.toInt ∧ w458v.toInt ≤ 2147483647 from (zrg w458v))
                                    refine zs_putI (pc := 216) t191_216 (zk1 (w7s.k fk_zMc_332)) rfl ?_
                                    refine zs_aload_n (pc := 219) t191_219 rfl ?_
                                    refine zs_aload_n (pc := 220) t191_220 rfl ?_
                                    have w460 := ib332_3 w7I
                                    refine zs_get (pc := 221) t191_221 (by decide) (zk1 (w7s.k fk_zMc_332)) (zfvi rfl ((zIoj (by decide)).trans ((zIoj (by decide)).trans ((zIo (by decide)).trans ((zIo (by decide)).trans rfl))))) ?_
                                    refine zs_iload (pc := 224) t191_224 rfl ?_
                                    refine zs_iload (pc := 226) t191_226 rfl ?_
                                    obtain ⟨w461v, w461⟩ : ∃ v, v = (zI w7M 333 w319n) + e := ⟨_, rfl⟩
                                    have w461g := zrg w461v
                                    refine zs_iadd (pc := 228) t191_228 (c := w461v) w461.symm ?_
                                    refine zs_invS (pc := 229) (as := [.int (zI w7M 332 3), .int w461v]) (st := [.ref 332]) t191_229 (by decide) mf21 rfl rfl ⟨by decide, by decide, Nat.le_of_ble_eq_true rfl, Nat.le_of_ble_eq_true rfl⟩ (zs_in (by decide) mf21 (Nat.le_of_ble_eq_true rfl) ?_) (fun _ _ q => q)
                                    show zGo X l 0 0 0 21 0 [(0, .int (zI w7M 332 3)), (1, .int w461v)] [] (zsI (zsI (zsI (zsI w7M 334 w396n (zI w7M 333 w319n)) 333 w319n w399v) 332 2 (zI w7M 332 2)) 332 1 w458v) _
                                    refine zs_iload_n (pc := 0) t21_0 rfl ?_
                                    refine zs_iload_n (pc := 1) t21_1 rfl ?_
                                    by_cases w462 : (zI w7M 332 3).toInt < w461v.toInt
                                    · refine zs_icmp_ltT (pc := 2) t21_2 rfl rfl (by omega) ?_
                                      refine zs_iload_n (pc := 9) t21_9 rfl ?_
                                      refine zs_iret (pc := 10) t21_10 mr21 rfl ?_
                                      show zGo X l 1 0 0 191 232 [(7, .int w398v), (12, .int (zI w7M 333 w319n)), (11, .int w318v), (0, .ref 332), (1, .int a), (2, .int b), (3, .int c), (4, .int d), (5, .int e), (6, .int f), (8, .int w11x8), (9, .int w7x9), (10, .int w10v)] [.int w461v, .ref 332] (zsI (zsI (zsI (zsI w7M 334 w396n (zI w7M 333 w319n)) 333 w319n w399v) 332 2 (zI w7M 332 2)) 332 1 w458v) _
                                      have w463 : zIv cLo cHi (zsI (zsI (zsI (zsI (zsI w7M 334 w396n (zI w7M 333 w319n)) 333 w319n w399v) 332 2 (zI w7M 332 2)) 332 1 w458v) 332 3 w461v) := zIv.put w459 (show (-2147483648) ≤ w461v.toInt ∧ w461v.toInt ≤ 2147483647 from (zrg w461v))
                                      refine zs_putI (pc := 232) t191_232 (zk1 (w7s.k fk_zMc_332)) rfl ?_
                                      obtain ⟨w464v, w464e, w464⟩ := ziadd (a := w7x9) (b := Int32.ofInt 1) rfl (show (Int32.ofInt 1).toInt = 1 by decide) (by omega) (by omega)
                                      refine zs_iinc (pc := 235) t191_235 (ls' := [(9, .int w464v), (7, .int w398v), (12, .int (zI w7M 333 w319n)), (11, .int w318v), (0, .ref 332), (1, .int a), (2, .int b), (3, .int c), (4, .int d), (5, .int e), (6, .int f), (8, .int w11x8), (10, .int w10v)]) (zml mf191 (by decide)) rfl (c := w464v) w464e rfl ?_
                                      refine zs_goto (pc := 238) t191_238 ?_
                                      refine zGo.locals (ls' := [(0, .ref 332), (1, .int a), (2, .int b), (3, .int c), (4, .int d), (5, .int e), (6, .int f), (7, .int w398v), (8, .int w11x8), (9, .int w464v)]) (by simp) ?_
                                      exact w7ih (w7m - 1) (by omega) w398v w11x8 w464v (zsI (zsI (zsI (zsI (zsI w7M 334 w396n (zI w7M 333 w319n)) 333 w319n w399v) 332 2 (zI w7M 332 2)) 332 1 w458v) 332 3 w461v) ⟨by omega, by omega⟩ ⟨by omega, by omega⟩ ⟨by omega, by omega⟩ w7s w463 (((((((zFr.refl).trans (w7F.mono rfl)).put rfl).put rfl).put rfl).put rfl).put rfl) (by omega)
                                    · refine zs_icmp_ltF (pc := 2) t21_2 rfl rfl (by omega) ?_
                                      refine zs_iload_n (pc := 5) t21_5 rfl ?_
                                      refine zs_goto (pc := 6) t21_6 ?_
                                      refine zs_iret (pc := 10) t21_10 mr21 rfl ?_
                                      show zGo X l 1 0 0 191 232 [(7, .int w398v), (12, .int (zI w7M 333 w319n)), (11, .int w318v), (0, .ref 332), (1, .int a), (2, .int b), (3, .int c), (4, .int d), (5, .int e), (6, .int f), (8, .int w11x8), (9, .int w7x9), (10, .int w10v)] [.int (zI w7M 332 3), .ref 332] (zsI (zsI (zsI (zsI w7M 334 w396n (zI w7M 333 w319n)) 333 w319n w399v) 332 2 (zI w7M 332 2)) 332 1 w458v) _
                                      have w465 : zIv cLo cHi (zsI (zsI (zsI (zsI (zsI w7M 334 w396n (zI w7M 333 w319n)) 333 w319n w399v) 332 2 (zI w7M 332 2)) 332 1 w458v) 332 3 (zI w7M 332 3)) := zIv.put w459 (show (-2147483648) ≤ (zI w7M 332 3).toInt ∧ (zI w7M 332 3).toInt ≤ 2147483647 from (zrg (zI w7M 332 3)))
                                      refine zs_putI (pc := 232) t191_232 (zk1 (w7s.k fk_zMc_332)) rfl ?_
                                      obtain ⟨w466v, w466e, w466⟩ := ziadd (a := w7x9) (b := Int32.ofInt 1) rfl (show (Int32.ofInt 1).toInt = 1 by decide) (by omega) (by omega)
                                      refine zs_iinc (pc := 235) t191_235 (ls' := [(9, .int w466v), (7, .int w398v), (12, .int (zI w7M 333 w319n)), (11, .int w318v), (0, .ref 332), (1, .int a), (2, .int b), (3, .int c), (4, .int d), (5, .int e), (6, .int f), (8, .int w11x8), (10, .int w10v)]) (zml mf191 (by decide)) rfl (c := w466v) w466e rfl ?_
                                      refine zs_goto (pc := 238) t191_238 ?_
                                      refine zGo.locals (ls' := [(0, .ref 332), (1, .int a), (2, .int b), (3, .int c), (4, .int d), (5, .int e), (6, .int f), (7, .int w398v), (8, .int w11x8), (9, .int w466v)]) (by simp) ?_
                                      exact w7ih (w7m - 1) (by omega) w398v w11x8 w466v (zsI (zsI (zsI (zsI (zsI w7M 334 w396n (zI w7M 333 w319n)) 333 w319n w399v) 332 2 (zI w7M 332 2)) 332 1 w458v) 332 3 (zI w7M 332 3)) ⟨by omega, by omega⟩ ⟨by omega, by omega⟩ ⟨by omega, by omega⟩ w7s w465 (((((((zFr.refl).trans (w7F.mono rfl)).put rfl).put rfl).put rfl).put rfl).put rfl) (by omega)
                            · refine zs_icmp_ltF (pc := 133) t191_133 w394 rfl (by omega) ?_
                              refine zs_aload_n (pc := 136) t191_136 rfl ?_
                              refine zs_dup (pc := 137) t191_137 rfl ?_
                              have w467 := ib332_0 w7I
                              refine zs_get (pc := 138) t191_138 (by decide) (zk1 (w7s.k fk_zMc_332)) (zfvi rfl rfl) ?_
                              refine zs_iconst (pc := 141) t191_141 (v := 1) (by decide) ?_
                              obtain ⟨w468v, w468⟩ : ∃ v, v = (zI w7M 332 0) + (1 : Int32) := ⟨_, rfl⟩
                              have w468g := zrg w468v
                              refine zs_iadd (pc := 142) t191_142 (c := w468v) w468.symm ?_
                              have w469 : zIv cLo cHi (zsI w7M 332 0 w468v) := zIv.put w7I (show (-2147483648) ≤ w468v.toInt ∧ w468v.toInt ≤ 2147483647 from (zrg w468v))
                              refine zs_putI (pc := 143) t191_143 (zk1 (w7s.k fk_zMc_332)) rfl ?_
                              refine zs_goto (pc := 146) t191_146 ?_
                              obtain ⟨w470v, w470e, w470⟩ := ziadd (a := w7x9) (b := Int32.ofInt 1) rfl (show (Int32.ofInt 1).toInt = 1 by decide) (by omega) (by omega)
                              refine zs_iinc (pc := 235) t191_235 (ls' := [(9, .int w470v), (12, .int (zI w7M 333 w319n)), (11, .int w318v), (0, .ref 332), (1, .int a), (2, .int b), (3, .int c), (4, .int d), (5, .int e), (6, .int f), (7, .int w7x7), (8, .int w11x8), (10, .int w10v)]) (zml mf191 (by decide)) rfl (c := w470v) w470e rfl ?_
                              refine zs_goto (pc := 238) t191_238 ?_
                              refine zGo.locals (ls' := [(0, .ref 332), (1, .int a), (2, .int b), (3, .int c), (4, .int d), (5, .int e), (6, .int f), (7, .int w7x7), (8, .int w11x8), (9, .int w470v)]) (by simp) ?_
                              exact w7ih (w7m - 1) (by omega) w7x7 w11x8 w470v (zsI w7M 332 0 w468v) ⟨by omega, by omega⟩ ⟨by omega, by omega⟩ ⟨by omega, by omega⟩ w7s w469 (((zFr.refl).trans (w7F.mono rfl)).put rfl) (by omega)
                        · refine zs_icmp_ltF (pc := 2) t21_2 rfl rfl (by omega) ?_
                          refine zs_iload_n (pc := 5) t21_5 rfl ?_
                          refine zs_goto (pc := 6) t21_6 ?_
                          refine zs_iret (pc := 10) t21_10 mr21 rfl ?_
                          show zGo X l 1 0 0 191 117 [(11, .int w318v), (0, .ref 332), (1, .int a), (2, .int b), (3, .int c), (4, .int d), (5, .int e), (6, .int f), (7, .int w7x7), (8, .int w11x8), (9, .int w7x9), (10, .int w10v)] [.int w10v] w7M _
                          refine zs_istore (pc := 117) t191_117 (ls' := [(12, .int w10v), (11, .int w318v), (0, .ref 332), (1, .int a), (2, .int b), (3, .int c), (4, .int d), (5, .int e), (6, .int f), (7, .int w7x7), (8, .int w11x8), (9, .int w7x9), (10, .int w10v)]) (zml mf191 (by decide)) rfl ?_
                          refine zs_iload (pc := 119) t191_119 rfl ?_
                          refine zs_iload (pc := 121) t191_121 rfl ?_
                          by_cases w471 : w10v.toInt ≤ w10v.toInt
                          · refine zs_icmp_leT (pc := 123) t191_123 rfl rfl (by omega) ?_
                            refine zs_aload_n (pc := 149) t191_149 rfl ?_
                            refine zs_get (pc := 150) t191_150 (by decide) (zk1 (w7s.k fk_zMc_332)) (w7s.p rfl fv_zMc_332_5) ?_
                            refine zs_iload (pc := 153) t191_153 rfl ?_
                            refine zs_iload (pc := 155) t191_155 rfl ?_
                            obtain ⟨w472n, w472⟩ : ∃ n : Nat, w7x7.toInt = (n : Int) := ⟨w7x7.toInt.toNat, by omega⟩
                            have w473 : zIv cLo cHi (zsI w7M 334 w472n w10v) := zIv.put w7I (show (-2147483648) ≤ w10v.toInt ∧ w10v.toInt ≤ 2147483647 from (zrg w10v))
                            refine zs_iast (pc := 157) t191_157 (j := w472n) (by decide) (zk1 (w7s.k fk_zMc_334)) w472 (zk2 (w7s.k fk_zMc_334) (by omega)) ?_
                            obtain ⟨w474v, w474e, w474⟩ := ziadd (a := w7x7) (b := Int32.ofInt 1) rfl (show (Int32.ofInt 1).toInt = 1 by decide) (by omega) (by omega)
                            refine zs_iinc (pc := 158) t191_158 (ls' := [(7, .int w474v), (12, .int w10v), (11, .int w318v), (0, .ref 332), (1, .int a), (2, .int b), (3, .int c), (4, .int d), (5, .int e), (6, .int f), (8, .int w11x8), (9, .int w7x9), (10, .int w10v)]) (zml mf191 (by decide)) rfl (c := w474v) w474e rfl ?_
                            refine zs_aload_n (pc := 161) t191_161 rfl ?_
                            refine zs_get (pc := 162) t191_162 (by decide) (zk1 (w7s.k fk_zMc_332)) (w7s.p rfl fv_zMc_332_4) ?_
                            refine zs_iload (pc := 165) t191_165 rfl ?_
                            refine zs_iload (pc := 167) t191_167 rfl ?_
                            refine zs_iload (pc := 169) t191_169 rfl ?_
                            obtain ⟨w475v, w475⟩ : ∃ v, v = w10v + e := ⟨_, rfl⟩
                            have w475g := zrg w475v
                            refine zs_iadd (pc := 171) t191_171 (c := w475v) w475.symm ?_
                            have w476 : zIv cLo cHi (zsI (zsI w7M 334 w472n w10v) 333 w319n w475v) := zIv.put w473 (show (-2147483648) ≤ w475v.toInt ∧ w475v.toInt ≤ 2147483647 from (zrg w475v))
                            refine zs_iast (pc := 172) t191_172 (j := w319n) (by decide) (zk1 (w7s.k fk_zMc_333)) w319 (zk2 (w7s.k fk_zMc_333) (by omega)) ?_
                            refine zs_iload (pc := 173) t191_173 rfl ?_
                            refine zs_iload (pc := 175) t191_175 rfl ?_
                            by_cases w477 : w10v.toInt ≤ w10v.toInt
                            · refine zs_icmp_leT (pc := 177) t191_177 rfl rfl (by omega) ?_
                              refine zs_iload (pc := 196) t191_196 rfl ?_
                              refine zs_iload (pc := 198) t191_198 rfl ?_
                              obtain ⟨w478v, w478⟩ : ∃ v, v = w10v + e := ⟨_, rfl⟩
                              have w478g := zrg w478v
                              refine zs_iadd (pc := 200) t191_200 (c := w478v) w478.symm ?_
                              refine zs_iload (pc := 201) t191_201 rfl ?_
                              obtain ⟨w479v, w479⟩ : ∃ v, v = w478v - w10v := ⟨_, rfl⟩
                              have w479g := zrg w479v
                              refine zs_isub (pc := 203) t191_203 (c := w479v) w479.symm ?_
                              refine zs_iload (pc := 204) t191_204 rfl ?_
                              by_cases w480 : w479v.toInt ≤ f.toInt
                              · refine zs_icmp_leT (pc := 206) t191_206 rfl rfl (by omega) ?_
                                refine zs_aload_n (pc := 219) t191_219 rfl ?_
                                refine zs_aload_n (pc := 220) t191_220 rfl ?_
                                have w481 := ib332_3 w7I
                                refine zs_get (pc := 221) t191_221 (by decide) (zk1 (w7s.k fk_zMc_332)) (zfvi rfl ((zIo (by decide)).trans ((zIo (by decide)).trans rfl))) ?_
                                refine zs_iload (pc := 224) t191_224 rfl ?_
                                refine zs_iload (pc := 226) t191_226 rfl ?_
                                obtain ⟨w482v, w482⟩ : ∃ v, v = w10v + e := ⟨_, rfl⟩
                                have w482g := zrg w482v
                                refine zs_iadd (pc := 228) t191_228 (c := w482v) w482.symm ?_
                                refine zs_invS (pc := 229) (as := [.int (zI w7M 332 3), .int w482v]) (st := [.ref 332]) t191_229 (by decide) mf21 rfl rfl ⟨by decide, by decide, Nat.le_of_ble_eq_true rfl, Nat.le_of_ble_eq_true rfl⟩ (zs_in (by decide) mf21 (Nat.le_of_ble_eq_true rfl) ?_) (fun _ _ q => q)
                                show zGo X l 0 0 0 21 0 [(0, .int (zI w7M 332 3)), (1, .int w482v)] [] (zsI (zsI w7M 334 w472n w10v) 333 w319n w475v) _
                                refine zs_iload_n (pc := 0) t21_0 rfl ?_
                                refine zs_iload_n (pc := 1) t21_1 rfl ?_
                                by_cases w483 : (zI w7M 332 3).toInt < w482v.toInt
                                · refine zs_icmp_ltT (pc := 2) t21_2 rfl rfl (by omega) ?_
                                  refine zs_iload_n (pc := 9) t21_9 rfl ?_
                                  refine zs_iret (pc := 10) t21_10 mr21 rfl ?_
                                  show zGo X l 1 0 0 191 232 [(7, .int w474v), (12, .int w10v), (11, .int w318v), (0, .ref 332), (1, .int a), (2, .int b), (3, .int c), (4, .int d), (5, .int e), (6, .int f), (8, .int w11x8), (9, .int w7x9), (10, .int w10v)] [.int w482v, .ref 332] (zsI (zsI w7M 334 w472n w10v) 333 w319n w475v) _
                                  have w484 : zIv cLo cHi (zsI (zsI (zsI w7M 334 w472n w10v) 333 w319n w475v) 332 3 w482v) := zIv.put w476 (show (-2147483648) ≤ w482v.toInt ∧ w482v.toInt ≤ 2147483647 from (zrg w482v))
                                  refine zs_putI (pc := 232) t191_232 (zk1 (w7s.k fk_zMc_332)) rfl ?_
                                  obtain ⟨w485v, w485e, w485⟩ := ziadd (a := w7x9) (b := Int32.ofInt 1) rfl (show (Int32.ofInt 1).toInt = 1 by decide) (by omega) (by omega)
                                  refine zs_iinc (pc := 235) t191_235 (ls' := [(9, .int w485v), (7, .int w474v), (12, .int w10v), (11, .int w318v), (0, .ref 332), (1, .int a), (2, .int b), (3, .int c), (4, .int d), (5, .int e), (6, .int f), (8, .int w11x8), (10, .int w10v)]) (zml mf191 (by decide)) rfl (c := w485v) w485e rfl ?_
                                  refine zs_goto (pc := 238) t191_238 ?_
                                  refine zGo.locals (ls' := [(0, .ref 332), (1, .int a), (2, .int b), (3, .int c), (4, .int d), (5, .int e), (6, .int f), (7, .int w474v), (8, .int w11x8), (9, .int w485v)]) (by simp) ?_
                                  exact w7ih (w7m - 1) (by omega) w474v w11x8 w485v (zsI (zsI (zsI w7M 334 w472n w10v) 333 w319n w475v) 332 3 w482v) ⟨by omega, by omega⟩ ⟨by omega, by omega⟩ ⟨by omega, by omega⟩ w7s w484 (((((zFr.refl).trans (w7F.mono rfl)).put rfl).put rfl).put rfl) (by omega)
                                · refine zs_icmp_ltF (pc := 2) t21_2 rfl rfl (by omega) ?_
                                  refine zs_iload_n (pc := 5) t21_5 rfl ?_
                                  refine zs_goto (pc := 6) t21_6 ?_
                                  refine zs_iret (pc := 10) t21_10 mr21 rfl ?_
                                  show zGo X l 1 0 0 191 232 [(7, .int w474v), (12, .int w10v), (11, .int w318v), (0, .ref 332), (1, .int a), (2, .int b), (3, .int c), (4, .int d), (5, .int e), (6, .int f), (8, .int w11x8), (9, .int w7x9), (10, .int w10v)] [.int (zI w7M 332 3), .ref 332] (zsI (zsI w7M 334 w472n w10v) 333 w319n w475v) _
                                  have w486 : zIv cLo cHi (zsI (zsI (zsI w7M 334 w472n w10v) 333 w319n w475v) 332 3 (zI w7M 332 3)) := zIv.put w476 (show (-2147483648) ≤ (zI w7M 332 3).toInt ∧ (zI w7M 332 3).toInt ≤ 2147483647 from (zrg (zI w7M 332 3)))
                                  refine zs_putI (pc := 232) t191_232 (zk1 (w7s.k fk_zMc_332)) rfl ?_
                                  obtain ⟨w487v, w487e, w487⟩ := ziadd (a := w7x9) (b := Int32.ofInt 1) rfl (show (Int32.ofInt 1).toInt = 1 by decide) (by omega) (by omega)
                                  refine zs_iinc (pc := 235) t191_235 (ls' := [(9, .int w487v), (7, .int w474v), (12, .int w10v), (11, .int w318v), (0, .ref 332), (1, .int a), (2, .int b), (3, .int c), (4, .int d), (5, .int e), (6, .int f), (8, .int w11x8), (10, .int w10v)]) (zml mf191 (by decide)) rfl (c := w487v) w487e rfl ?_
                                  refine zs_goto (pc := 238) t191_238 ?_
                                  refine zGo.locals (ls' := [(0, .ref 332), (1, .int a), (2, .int b), (3, .int c), (4, .int d), (5, .int e), (6, .int f), (7, .int w474v), (8, .int w11x8), (9, .int w487v)]) (by simp) ?_
                                  exact w7ih (w7m - 1) (by omega) w474v w11x8 w487v (zsI (zsI (zsI w7M 334 w472n w10v) 333 w319n w475v) 332 3 (zI w7M 332 3)) ⟨by omega, by omega⟩ ⟨by omega, by omega⟩ ⟨by omega, by omega⟩ w7s w486 (((((zFr.refl).trans (w7F.mono rfl)).put rfl).put rfl).put rfl) (by omega)
                              · refine zs_icmp_leF (pc := 206) t191_206 rfl rfl (by omega) ?_
                                refine zs_aload_n (pc := 209) t191_209 rfl ?_
                                refine zs_dup (pc := 210) t191_210 rfl ?_
                                have w488 := ib332_1 w7I
                                refine zs_get (pc := 211) t191_211 (by decide) (zk1 (w7s.k fk_zMc_332)) (zfvi rfl ((zIo (by decide)).trans ((zIo (by decide)).trans rfl))) ?_
                                refine zs_iconst (pc := 214) t191_214 (v := 1) (by decide) ?_
                                obtain ⟨w489v, w489⟩ : ∃ v, v = (zI w7M 332 1) + (1 : Int32) := ⟨_, rfl⟩
                                have w489g := zrg w489v
                                refine zs_iadd (pc := 215) t191_215 (c := w489v) w489.symm ?_
                                have w490 : zIv cLo cHi (zsI (zsI (zsI w7M 334 w472n w10v) 333 w319n w475v) 332 1 w489v) := zIv.put w476 (show (-2147483648) ≤ w489v.toInt ∧ w489v.toInt ≤ 2147483647 from (zrg w489v))
                                refine zs_putI (pc := 216) t191_216 (zk1 (w7s.k fk_zMc_332)) rfl ?_
                                refine zs_aload_n (pc := 219) t191_219 rfl ?_
                                refine zs_aload_n (pc := 220) t191_220 rfl ?_
                                have w491 := ib332_3 w7I
                                refine zs_get (pc := 221) t191_221 (by decide) (zk1 (w7s.k fk_zMc_332)) (zfvi rfl ((zIoj (by decide)).trans ((zIo (by decide)).trans ((zIo (by decide)).trans rfl)))) ?_
                                refine zs_iload (pc := 224) t191_224 rfl ?_
                                refine zs_iload (pc := 226) t191_226 rfl ?_
                                obtain ⟨w492v, w492⟩ : ∃ v, v = w10v + e := ⟨_, rfl⟩
                                have w492g := zrg w492v
                                refine zs_iadd (pc := 228) t191_228 (c := w492v) w492.symm ?_
                                refine zs_invS (pc := 229) (as := [.int (zI w7M 332 3), .int w492v]) (st := [.ref 332]) t191_229 (by decide) mf21 rfl rfl ⟨by decide, by decide, Nat.le_of_ble_eq_true rfl, Nat.le_of_ble_eq_true rfl⟩ (zs_in (by decide) mf21 (Nat.le_of_ble_eq_true rfl) ?_) (fun _ _ q => q)
                                show zGo X l 0 0 0 21 0 [(0, .int (zI w7M 332 3)), (1, .int w492v)] [] (zsI (zsI (zsI w7M 334 w472n w10v) 333 w319n w475v) 332 1 w489v) _
                                refine zs_iload_n (pc := 0) t21_0 rfl ?_
                                refine zs_iload_n (pc := 1) t21_1 rfl ?_
                                by_cases w493 : (zI w7M 332 3).toInt < w492v.toInt
                                · refine zs_icmp_ltT (pc := 2) t21_2 rfl rfl (by omega) ?_
                                  refine zs_iload_n (pc := 9) t21_9 rfl ?_
                                  refine zs_iret (pc := 10) t21_10 mr21 rfl ?_
                                  show zGo X l 1 0 0 191 232 [(7, .int w474v), (12, .int w10v), (11, .int w318v), (0, .ref 332), (1, .int a), (2, .int b), (3, .int c), (4, .int d), (5, .int e), (6, .int f), (8, .int w11x8), (9, .int w7x9), (10, .int w10v)] [.int w492v, .ref 332] (zsI (zsI (zsI w7M 334 w472n w10v) 333 w319n w475v) 332 1 w489v) _
                                  have w494 : zIv cLo cHi (zsI (zsI (zsI (zsI w7M 334 w472n w10v) 333 w319n w475v) 332 1 w489v) 332 3 w492v) := zIv.put w490 (show (-2147483648) ≤ w492v.toInt ∧ w492v.toInt ≤ 2147483647 from (zrg w492v))
                                  refine zs_putI (pc := 232) t191_232 (zk1 (w7s.k fk_zMc_332)) rfl ?_
                                  obtain ⟨w495v, w495e, w495⟩ := ziadd (a := w7x9) (b := Int32.ofInt 1) rfl (show (Int32.ofInt 1).toInt = 1 by decide) (by omega) (by omega)
                                  refine zs_iinc (pc := 235) t191_235 (ls' := [(9, .int w495v), (7, .int w474v), (12, .int w10v), (11, .int w318v), (0, .ref 332), (1, .int a), (2, .int b), (3, .int c), (4, .int d), (5, .int e), (6, .int f), (8, .int w11x8), (10, .int w10v)]) (zml mf191 (by decide)) rfl (c := w495v) w495e rfl ?_
                                  refine zs_goto (pc := 238) t191_238 ?_
                                  refine zGo.locals (ls' := [(0, .ref 332), (1, .int a), (2, .int b), (3, .int c), (4, .int d), (5, .int e), (6, .int f), (7, .int w474v), (8, .int w11x8), (9, .int w495v)]) (by simp) ?_
                                  exact w7ih (w7m - 1) (by omega) w474v w11x8 w495v (zsI (zsI (zsI (zsI w7M 334 w472n w10v) 333 w319n w475v) 332 1 w489v) 332 3 w492v) ⟨by omega, by omega⟩ ⟨by omega, by omega⟩ ⟨by omega, by omega⟩ w7s w494 ((((((zFr.refl).trans (w7F.mono rfl)).put rfl).put rfl).put rfl).put rfl) (by omega)
                                · refine zs_icmp_ltF (pc := 2) t21_2 rfl rfl (by omega) ?_
                                  refine zs_iload_n (pc := 5) t21_5 rfl ?_
                                  refine zs_goto (pc := 6) t21_6 ?_
                                  refine zs_iret (pc := 10) t21_10 mr21 rfl ?_
                                  show zGo X l 1 0 0 191 232 [(7, .int w474v), (12, .int w10v), (11, .int w318v), (0, .ref 332), (1, .int a), (2, .int b), (3, .int c), (4, .int d), (5, .int e), (6, .int f), (8, .int w11x8), (9, .int w7x9), (10, .int w10v)] [.int (zI w7M 332 3), .ref 332] (zsI (zsI (zsI w7M 334 w472n w10v) 333 w319n w475v) 332 1 w489v) _
                                  have w496 : zIv cLo cHi (zsI (zsI (zsI (zsI w7M 334 w472n w10v) 333 w319n w475v) 332 1 w489v) 332 3 (zI w7M 332 3)) := zIv.put w490 (show (-2147483648) ≤ (zI w7M 332 3).toInt ∧ (zI w7M 332 3).toInt ≤ 2147483647 from (zrg (zI w7M 332 3)))
                                  refine zs_putI (pc := 232) t191_232 (zk1 (w7s.k fk_zMc_332)) rfl ?_
                                  obtain ⟨w497v, w497e, w497⟩ := ziadd (a := w7x9) (b := Int32.ofInt 1) rfl (show (Int32.ofInt 1).toInt = 1 by decide) (by omega) (by omega)
                                  refine zs_iinc (pc := 235) t191_235 (ls' := [(9, .int w497v), (7, .int w474v), (12, .int w10v), (11, .int w318v), (0, .ref 332), (1, .int a), (2, .int b), (3, .int c), (4, .int d), (5, .int e), (6, .int f), (8, .int w11x8), (10, .int w10v)]) (zml mf191 (by decide)) rfl (c := w497v) w497e rfl ?_
                                  refine zs_goto (pc := 238) t191_238 ?_
                                  refine zGo.locals (ls' := [(0, .ref 332), (1, .int a), (2, .int b), (3, .int c), (4, .int d), (5, .int e), (6, .int f), (7, .int w474v), (8, .int w11x8), (9, .int w497v)]) (by simp) ?_
                                  exact w7ih (w7m - 1) (by omega) w474v w11x8 w497v (zsI (zsI (zsI (zsI w7M 334 w472n w10v) 333 w319n w475v) 332 1 w489v) 332 3 (zI w7M 332 3)) ⟨by omega, by omega⟩ ⟨by omega, by omega⟩ ⟨by omega, by omega⟩ w7s w496 ((((((zFr.refl).trans (w7F.mono rfl)).put rfl).put rfl).put rfl).put rfl) (by omega)
                            · refine zs_icmp_leF (pc := 177) t191_177 rfl rfl (by omega) ?_
                              refine zs_aload_n (pc := 180) t191_180 rfl ?_
                              refine zs_aload_n (pc := 181) t191_181 rfl ?_
                              have w498 := ib332_2 w7I
                              refine zs_get (pc := 182) t191_182 (by decide) (zk1 (w7s.k fk_zMc_332)) (zfvi rfl ((zIo (by decide)).trans ((zIo (by decide)).trans rfl))) ?_
                              refine zs_iload (pc := 185) t191_185 rfl ?_
                              refine zs_iload (pc := 187) t191_187 rfl ?_
                              obtain ⟨w499v, w499e, w499⟩ := zisub (a := w474v) (b := w11x8) w474 rfl (by omega) (by omega)
                              refine zs_isub (pc := 189) t191_189 (c := w499v) w499e ?_
                              refine zs_invS (pc := 190) (as := [.int (zI w7M 332 2), .int w499v]) (st := [.ref 332]) t191_190 (by decide) mf21 rfl rfl ⟨by decide, by decide, Nat.le_of_ble_eq_true rfl, Nat.le_of_ble_eq_true rfl⟩ (zs_in (by decide) mf21 (Nat.le_of_ble_eq_true rfl) ?_) (fun _ _ q => q)
                              show zGo X l 0 0 0 21 0 [(0, .int (zI w7M 332 2)), (1, .int w499v)] [] (zsI (zsI w7M 334 w472n w10v) 333 w319n w475v) _
                              refine zs_iload_n (pc := 0) t21_0 rfl ?_
                              refine zs_iload_n (pc := 1) t21_1 rfl ?_
                              by_cases w500 : (zI w7M 332 2).toInt < ((w7x7.toInt + 1) - w11x8.toInt)
                              · refine zs_icmp_ltT (pc := 2) t21_2 rfl w499 (by omega) ?_
                                refine zs_iload_n (pc := 9) t21_9 rfl ?_
                                refine zs_iret (pc := 10) t21_10 mr21 rfl ?_
                                show zGo X l 1 0 0 191 193 [(7, .int w474v), (12, .int w10v), (11, .int w318v), (0, .ref 332), (1, .int a), (2, .int b), (3, .int c), (4, .int d), (5, .int e), (6, .int f), (8, .int w11x8), (9, .int w7x9), (10, .int w10v)] [.int w499v, .ref 332] (zsI (zsI w7M 334 w472n w10v) 333 w319n w475v) _
                                have w501 : zIv cLo cHi (zsI (zsI (zsI w7M 334 w472n w10v) 333 w319n w475v) 332 2 w499v) := zIv.put w476 (show (-2147483648) ≤ w499v.toInt ∧ w499v.toInt ≤ 2147483647 from (zrg w499v))
                                refine zs_putI (pc := 193) t191_193 (zk1 (w7s.k fk_zMc_332)) rfl ?_
                                refine zs_iload (pc := 196) t191_196 rfl ?_
                                refine zs_iload (pc := 198) t191_198 rfl ?_
                                obtain ⟨w502v, w502⟩ : ∃ v, v = w10v + e := ⟨_, rfl⟩
                                have w502g := zrg w502v
                                refine zs_iadd (pc := 200) t191_200 (c := w502v) w502.symm ?_
                                refine zs_iload (pc := 201) t191_201 rfl ?_
                                obtain ⟨w503v, w503⟩ : ∃ v, v = w502v - w10v := ⟨_, rfl⟩
                                have w503g := zrg w503v
                                refine zs_isub (pc := 203) t191_203 (c := w503v) w503.symm ?_
                                refine zs_iload (pc := 204) t191_204 rfl ?_
                                by_cases w504 : w503v.toInt ≤ f.toInt
                                · refine zs_icmp_leT (pc := 206) t191_206 rfl rfl (by omega) ?_
                                  refine zs_aload_n (pc := 219) t191_219 rfl ?_
                                  refine zs_aload_n (pc := 220) t191_220 rfl ?_
                                  have w505 := ib332_3 w7I
                                  refine zs_get (pc := 221) t191_221 (by decide) (zk1 (w7s.k fk_zMc_332)) (zfvi rfl ((zIoj (by decide)).trans ((zIo (by decide)).trans ((zIo (by decide)).trans rfl)))) ?_
                                  refine zs_iload (pc := 224) t191_224 rfl ?_
                                  refine zs_iload (pc := 226) t191_226 rfl ?_
                                  obtain ⟨w506v, w506⟩ : ∃ v, v = w10v + e := ⟨_, rfl⟩
                                  have w506g := zrg w506v
                                  refine zs_iadd (pc := 228) t191_228 (c := w506v) w506.symm ?_
                                  refine zs_invS (pc := 229) (as := [.int (zI w7M 332 3), .int w506v]) (st := [.ref 332]) t191_229 (by decide) mf21 rfl rfl ⟨by decide, by decide, Nat.le_of_ble_eq_true rfl, Nat.le_of_ble_eq_true rfl⟩ (zs_in (by decide) mf21 (Nat.le_of_ble_eq_true rfl) ?_) (fun _ _ q => q)
                                  show zGo X l 0 0 0 21 0 [(0, .int (zI w7M 332 3)), (1, .int w506v)] [] (zsI (zsI (zsI w7M 334 w472n w10v) 333 w319n w475v) 332 2 w499v) _
                                  refine zs_iload_n (pc := 0) t21_0 rfl ?_
                                  refine zs_iload_n (pc := 1) t21_1 rfl ?_
                                  by_cases w507 : (zI w7M 332 3).toInt < w506v.toInt
                                  · refine zs_icmp_ltT (pc := 2) t21_2 rfl rfl (by omega) ?_
                                    refine zs_iload_n (pc := 9) t21_9 rfl ?_
                                    refine zs_iret (pc := 10) t21_10 mr21 rfl ?_
                                    show zGo X l 1 0 0 191 232 [(7, .int w474v), (12, .int w10v), (11, .int w318v), (0, .ref 332), (1, .int a), (2, .int b), (3, .int c), (4, .int d), (5, .int e), (6, .int f), (8, .int w11x8), (9, .int w7x9), (10, .int w10v)] [.int w506v, .ref 332] (zsI (zsI (zsI w7M 334 w472n w10v) 333 w319n w475v) 332 2 w499v) _
                                    have w508 : zIv cLo cHi (zsI (zsI (zsI (zsI w7M 334 w472n w10v) 333 w319n w475v) 332 2 w499v) 332 3 w506v) := zIv.put w501 (show (-2147483648) ≤ w506v.toInt ∧ w506v.toInt ≤ 2147483647 from (zrg w506v))
                                    refine zs_putI (pc := 232) t191_232 (zk1 (w7s.k fk_zMc_332)) rfl ?_
                                    obtain ⟨w509v, w509e, w509⟩ := ziadd (a := w7x9) (b := Int32.ofInt 1) rfl (show (Int32.ofInt 1).toInt = 1 by decide) (by omega) (by omega)
                                    refine zs_iinc (pc := 235) t191_235 (ls' := [(9, .int w509v), (7, .int w474v), (12, .int w10v), (11, .int w318v), (0, .ref 332), (1, .int a), (2, .int b), (3, .int c), (4, .int d), (5, .int e), (6, .int f), (8, .int w11x8), (10, .int w10v)]) (zml mf191 (by decide)) rfl (c := w509v) w509e rfl ?_
                                    refine zs_goto (pc := 238) t191_238 ?_
                                    refine zGo.locals (ls' := [(0, .ref 332), (1, .int a), (2, .int b), (3, .int c), (4, .int d), (5, .int e), (6, .int f), (7, .int w474v), (8, .int w11x8), (9, .int w509v)]) (by simp) ?_
                                    exact w7ih (w7m - 1) (by omega) w474v w11x8 w509v (zsI (zsI (zsI (zsI w7M 334 w472n w10v) 333 w319n w475v) 332 2 w499v) 332 3 w506v) ⟨by omega, by omega⟩ ⟨by omega, by omega⟩ ⟨by omega, by omega⟩ w7s w508 ((((((zFr.refl).trans (w7F.mono rfl)).put rfl).put rfl).put rfl).put rfl) (by omega)
                                  · refine zs_icmp_ltF (pc := 2) t21_2 rfl rfl (by omega) ?_
                                    refine zs_iload_n (pc := 5) t21_5 rfl ?_
                                    refine zs_goto (pc := 6) t21_6 ?_
                                    refine zs_iret (pc := 10) t21_10 mr21 rfl ?_
                                    show zGo X l 1 0 0 191 232 [(7, .int w474v), (12, .int w10v), (11, .int w318v), (0, .ref 332), (1, .int a), (2, .int b), (3, .int c), (4, .int d), (5, .int e), (6, .int f), (8, .int w11x8), (9, .int w7x9), (10, .int w10v)] [.int (zI w7M 332 3), .ref 332] (zsI (zsI (zsI w7M 334 w472n w10v) 333 w319n w475v) 332 2 w499v) _
                                    have w510 : zIv cLo cHi (zsI (zsI (zsI (zsI w7M 334 w472n w10v) 333 w319n w475v) 332 2 w499v) 332 3 (zI w7M 332 3)) := zIv.put w501 (show (-2147483648) ≤ (zI w7M 332 3).toInt ∧ (zI w7M 332 3).toInt ≤ 2147483647 from (zrg (zI w7M 332 3)))
                                    refine zs_putI (pc := 232) t191_232 (zk1 (w7s.k fk_zMc_332)) rfl ?_
                                    obtain ⟨w511v, w511e, w511⟩ := ziadd (a := w7x9) (b := Int32.ofInt 1) rfl (show (Int32.ofInt 1).toInt = 1 by decide) (by omega) (by omega)
                                    refine zs_iinc (pc := 235) t191_235 (ls' := [(9, .int w511v), (7, .int w474v), (12, .int w10v), (11, .int w318v), (0, .ref 332), (1, .int a), (2, .int b), (3, .int c), (4, .int d), (5, .int e), (6, .int f), (8, .int w11x8), (10, .int w10v)]) (zml mf191 (by decide)) rfl (c := w511v) w511e rfl ?_
                                    refine zs_goto (pc := 238) t191_238 ?_
                                    refine zGo.locals (ls' := [(0, .ref 332), (1, .int a), (2, .int b), (3, .int c), (4, .int d), (5, .int e), (6, .int f), (7, .int w474v), (8, .int w11x8), (9, .int w511v)]) (by simp) ?_
                                    exact w7ih (w7m - 1) (by omega) w474v w11x8 w511v (zsI (zsI (zsI (zsI w7M 334 w472n w10v) 333 w319n w475v) 332 2 w499v) 332 3 (zI w7M 332 3)) ⟨by omega, by omega⟩ ⟨by omega, by omega⟩ ⟨by omega, by omega⟩ w7s w510 ((((((zFr.refl).trans (w7F.mono rfl)).put rfl).put rfl).put rfl).put rfl) (by omega)
                                · refine zs_icmp_leF (pc := 206) t191_206 rfl rfl (by omega) ?_
                                  refine zs_aload_n (pc := 209) t191_209 rfl ?_
                                  refine zs_dup (pc := 210) t191_210 rfl ?_
                                  have w512 := ib332_1 w7I
                                  refine zs_get (pc := 211) t191_211 (by decide) (zk1 (w7s.k fk_zMc_332)) (zfvi rfl ((zIoj (by decide)).trans ((zIo (by decide)).trans ((zIo (by decide)).trans rfl)))) ?_
                                  refine zs_iconst (pc := 214) t191_214 (v := 1) (by decide) ?_
                                  obtain ⟨w513v, w513⟩ : ∃ v, v = (zI w7M 332 1) + (1 : Int32) := ⟨_, rfl⟩
                                  have w513g := zrg w513v
                                  refine zs_iadd (pc := 215) t191_215 (c := w513v) w513.symm ?_
                                  have w514 : zIv cLo cHi (zsI (zsI (zsI (zsI w7M 334 w472n w10v) 333 w319n w475v) 332 2 w499v) 332 1 w513v) := zIv.put w501 (show (-2147483648) ≤ w513v.toInt ∧ w513v.toInt ≤ 2147483647 from (zrg w513v))
                                  refine zs_putI (pc := 216) t191_216 (zk1 (w7s.k fk_zMc_332)) rfl ?_
                                  refine zs_aload_n (pc := 219) t191_219 rfl ?_
                                  refine zs_aload_n (pc := 220) t191_220 rfl ?_
                                  have w515 := ib332_3 w7I
                                  refine zs_get (pc := 221) t191_221 (by decide) (zk1 (w7s.k fk_zMc_332)) (zfvi rfl ((zIoj (by decide)).trans ((zIoj (by decide)).trans ((zIo (by decide)).trans ((zIo (by decide)).trans rfl))))) ?_
                                  refine zs_iload (pc := 224) t191_224 rfl ?_
                                  refine zs_iload (pc := 226) t191_226 rfl ?_
                                  obtain ⟨w516v, w516⟩ : ∃ v, v = w10v + e := ⟨_, rfl⟩
                                  have w516g := zrg w516v
                                  refine zs_iadd (pc := 228) t191_228 (c := w516v) w516.symm ?_
                                  refine zs_invS (pc := 229) (as := [.int (zI w7M 332 3), .int w516v]) (st := [.ref 332]) t191_229 (by decide) mf21 rfl rfl ⟨by decide, by decide, Nat.le_of_ble_eq_true rfl, Nat.le_of_ble_eq_true rfl⟩ (zs_in (by decide) mf21 (Nat.le_of_ble_eq_true rfl) ?_) (fun _ _ q => q)
                                  show zGo X l 0 0 0 21 0 [(0, .int (zI w7M 332 3)), (1, .int w516v)] [] (zsI (zsI (zsI (zsI w7M 334 w472n w10v) 333 w319n w475v) 332 2 w499v) 332 1 w513v) _
                                  refine zs_iload_n (pc := 0) t21_0 rfl ?_
                                  refine zs_iload_n (pc := 1) t21_1 rfl ?_
                                  by_cases w517 : (zI w7M 332 3).toInt < w516v.toInt
                                  · refine zs_icmp_ltT (pc := 2) t21_2 rfl rfl (by omega) ?_
                                    refine zs_iload_n (pc := 9) t21_9 rfl ?_
                                    refine zs_iret (pc := 10) t21_10 mr21 rfl ?_
                                    show zGo X l 1 0 0 191 232 [(7, .int w474v), (12, .int w10v), (11, .int w318v), (0, .ref 332), (1, .int a), (2, .int b), (3, .int c), (4, .int d), (5, .int e), (6, .int f), (8, .int w11x8), (9, .int w7x9), (10, .int w10v)] [.int w516v, .ref 332] (zsI (zsI (zsI (zsI w7M 334 w472n w10v) 333 w319n w475v) 332 2 w499v) 332 1 w513v) _
                                    have w518 : zIv cLo cHi (zsI (zsI (zsI (zsI (zsI w7M 334 w472n w10v) 333 w319n w475v) 332 2 w499v) 332 1 w513v) 332 3 w516v) := zIv.put w514 (show (-2147483648) ≤ w516v.toInt ∧ w516v.toInt ≤ 2147483647 from (zrg w516v))
                                    refine zs_putI (pc := 232) t191_232 (zk1 (w7s.k fk_zMc_332)) rfl ?_
                                    obtain ⟨w519v, w519e, w519⟩ := ziadd (a := w7x9) (b := Int32.ofInt 1) rfl (show (Int32.ofInt 1).toInt = 1 by decide) (by omega) (by omega)
                                    refine zs_iinc (pc := 235) t191_235 (ls' := [(9, .int w519v), (7, .int w474v), (12, .int w10v), (11, .int w318v), (0, .ref 332), (1, .int a), (2, .int b), (3, .int c), (4, .int d), (5, .int e), (6, .int f), (8, .int w11x8), (10, .int w10v)]) (zml mf191 (by decide)) rfl (c := w519v) w519e rfl ?_
                                    refine zs_goto (pc := 238) t191_238 ?_
                                    refine zGo.locals (ls' := [(0, .ref 332), (1, .int a), (2, .int b), (3, .int c), (4, .int d), (5, .int e), (6, .int f), (7, .int w474v), (8, .int w11x8), (9, .int w519v)]) (by simp) ?_
                                    exact w7ih (w7m - 1) (by omega) w474v w11x8 w519v (zsI (zsI (zsI (zsI (zsI w7M 334 w472n w10v) 333 w319n w475v) 332 2 w499v) 332 1 w513v) 332 3 w516v) ⟨by omega, by omega⟩ ⟨by omega, by omega⟩ ⟨by omega, by omega⟩ w7s w518 (((((((zFr.refl).trans (w7F.mono rfl)).put rfl).put rfl).put rfl).put rfl).put rfl) (by omega)
                                  · refine zs_icmp_ltF (pc := 2) t21_2 rfl rfl (by omega) ?_
                                    refine zs_iload_n (pc := 5) t21_5 rfl ?_
                                    refine zs_goto (pc := 6) t21_6 ?_
                                    refine zs_iret (pc := 10) t21_10 mr21 rfl ?_
                                    show zGo X l 1 0 0 191 232 [(7, .int w474v), (12, .int w10v), (11, .int w318v), (0, .ref 332), (1, .int a), (2, .int b), (3, .int c), (4, .int d), (5, .int e), (6, .int f), (8, .int w11x8), (9, .int w7x9), (10, .int w10v)] [.int (zI w7M 332 3), .ref 332] (zsI (zsI (zsI (zsI w7M 334 w472n w10v) 333 w319n w475v) 332 2 w499v) 332 1 w513v) _
                                    have w520 : zIv cLo cHi (zsI (zsI (zsI (zsI (zsI w7M 334 w472n w10v) 333 w319n w475v) 332 2 w499v) 332 1 w513v) 332 3 (zI w7M 332 3)) := zIv.put w514 (show (-2147483648) ≤ (zI w7M 332 3).toInt ∧ (zI w7M 332 3).toInt ≤ 2147483647 from (zrg (zI w7M 332 3)))
                                    refine zs_putI (pc := 232) t191_232 (zk1 (w7s.k fk_zMc_332)) rfl ?_
                                    obtain ⟨w521v, w521e, w521⟩ := ziadd (a := w7x9) (b := Int32.ofInt 1) rfl (show (Int32.ofInt 1).toInt = 1 by decide) (by omega) (by omega)
                                    refine zs_iinc (pc := 235) t191_235 (ls' := [(9, .int w521v), (7, .int w474v), (12, .int w10v), (11, .int w318v), (0, .ref 332), (1, .int a), (2, .int b), (3, .int c), (4, .int d), (5, .int e), (6, .int f), (8, .int w11x8), (10, .int w10v)]) (zml mf191 (by decide)) rfl (c := w521v) w521e rfl ?_
                                    refine zs_goto (pc := 238) t191_238 ?_
                                    refine zGo.locals (ls' := [(0, .ref 332), (1, .int a), (2, .int b), (3, .int c), (4, .int d), (5, .int e), (6, .int f), (7, .int w474v), (8, .int w11x8), (9, .int w521v)]) (by simp) ?_
                                    exact w7ih (w7m - 1) (by omega) w474v w11x8 w521v (zsI (zsI (zsI (zsI (zsI w7M 334 w472n w10v) 333 w319n w475v) 332 2 w499v) 332 1 w513v) 332 3 (zI w7M 332 3)) ⟨by omega, by omega⟩ ⟨by omega, by omega⟩ ⟨by omega, by omega⟩ w7s w520 (((((((zFr.refl).trans (w7F.mono rfl)).put rfl).put rfl).put rfl).put rfl).put rfl) (by omega)
                              · refine zs_icmp_ltF (pc := 2) t21_2 rfl w499 (by omega) ?_
                                refine zs_iload_n (pc := 5) t21_5 rfl ?_
                                refine zs_goto (pc := 6) t21_6 ?_
                                refine zs_iret (pc := 10) t21_10 mr21 rfl ?_
                                show zGo X l 1 0 0 191 193 [(7, .int w474v), (12, .int w10v), (11, .int w318v), (0, .ref 332), (1, .int a), (2, .int b), (3, .int c), (4, .int d), (5, .int e), (6, .int f), (8, .int w11x8), (9, .int w7x9), (10, .int w10v)] [.int (zI w7M 332 2), .ref 332] (zsI (zsI w7M 334 w472n w10v) 333 w319n w475v) _
                                have w522 : zIv cLo cHi (zsI (zsI (zsI w7M 334 w472n w10v) 333 w319n w475v) 332 2 (zI w7M 332 2)) := zIv.put w476 (show (-2147483648) ≤ (zI w7M 332 2).toInt ∧ (zI w7M 332 2).toInt ≤ 2147483647 from (zrg (zI w7M 332 2)))
                                refine zs_putI (pc := 193) t191_193 (zk1 (w7s.k fk_zMc_332)) rfl ?_
                                refine zs_iload (pc := 196) t191_196 rfl ?_
                                refine zs_iload (pc := 198) t191_198 rfl ?_
                                obtain ⟨w523v, w523⟩ : ∃ v, v = w10v + e := ⟨_, rfl⟩
                                have w523g := zrg w523v
                                refine zs_iadd (pc := 200) t191_200 (c := w523v) w523.symm ?_
                                refine zs_iload (pc := 201) t191_201 rfl ?_
                                obtain ⟨w524v, w524⟩ : ∃ v, v = w523v - w10v := ⟨_, rfl⟩
                                have w524g := zrg w524v
                                refine zs_isub (pc := 203) t191_203 (c := w524v) w524.symm ?_
                                refine zs_iload (pc := 204) t191_204 rfl ?_
                                by_cases w525 : w524v.toInt ≤ f.toInt
                                · refine zs_icmp_leT (pc := 206) t191_206 rfl rfl (by omega) ?_
                                  refine zs_aload_n (pc := 219) t191_219 rfl ?_
                                  refine zs_aload_n (pc := 220) t191_220 rfl ?_
                                  have w526 := ib332_3 w7I
                                  refine zs_get (pc := 221) t191_221 (by decide) (zk1 (w7s.k fk_zMc_332)) (zfvi rfl ((zIoj (by decide)).trans ((zIo (by decide)).trans ((zIo (by decide)).trans rfl)))) ?_
                                  refine zs_iload (pc := 224) t191_224 rfl ?_
                                  refine zs_iload (pc := 226) t191_226 rfl ?_
                                  obtain ⟨w527v, w527⟩ : ∃ v, v = w10v + e := ⟨_, rfl⟩
                                  have w527g := zrg w527v
                                  refine zs_iadd (pc := 228) t191_228 (c := w527v) w527.symm ?_
                                  refine zs_invS (pc := 229) (as := [.int (zI w7M 332 3), .int w527v]) (st := [.ref 332]) t191_229 (by decide) mf21 rfl rfl ⟨by decide, by decide, Nat.le_of_ble_eq_true rfl, Nat.le_of_ble_eq_true rfl⟩ (zs_in (by decide) mf21 (Nat.le_of_ble_eq_true rfl) ?_) (fun _ _ q => q)
                                  show zGo X l 0 0 0 21 0 [(0, .int (zI w7M 332 3)), (1, .int w527v)] [] (zsI (zsI (zsI w7M 334 w472n w10v) 333 w319n w475v) 332 2 (zI w7M 332 2)) _
                                  refine zs_iload_n (pc := 0) t21_0 rfl ?_
                                  refine zs_iload_n (pc := 1) t21_1 rfl ?_
                                  by_cases w528 : (zI w7M 332 3).toInt < w527v.toInt
                                  · refine zs_icmp_ltT (pc := 2) t21_2 rfl rfl (by omega) ?_
                                    refine zs_iload_n (pc := 9) t21_9 rfl ?_
                                    refine zs_iret (pc := 10) t21_10 mr21 rfl ?_
                                    show zGo X l 1 0 0 191 232 [(7, .int w474v), (12, .int w10v), (11, .int w318v), (0, .ref 332), (1, .int a), (2, .int b), (3, .int c), (4, .int d), (5, .int e), (6, .int f), (8, .int w11x8), (9, .int w7x9), (10, .int w10v)] [.int w527v, .ref 332] (zsI (zsI (zsI w7M 334 w472n w10v) 333 w319n w475v) 332 2 (zI w7M 332 2)) _
                                    have w529 : zIv cLo cHi (zsI (zsI (zsI (zsI w7M 334 w472n w10v) 333 w319n w475v) 332 2 (zI w7M 332 2)) 332 3 w527v) := zIv.put w522 (show (-2147483648) ≤ w527v.toInt ∧ w527v.toInt ≤ 2147483647 from (zrg w527v))
                                    refine zs_putI (pc := 232) t191_232 (zk1 (w7s.k fk_zMc_332)) rfl ?_
                                    obtain ⟨w530v, w530e, w530⟩ := ziadd (a := w7x9) (b := Int32.ofInt 1) rfl (show (Int32.ofInt 1).toInt = 1 by decide) (by omega) (by omega)
                                    refine zs_iinc (pc := 235) t191_235 (ls' := [(9, .int w530v), (7, .int w474v), (12, .int w10v), (11, .int w318v), (0, .ref 332), (1, .int a), (2, .int b), (3, .int c), (4, .int d), (5, .int e), (6, .int f), (8, .int w11x8), (10, .int w10v)]) (zml mf191 (by decide)) rfl (c := w530v) w530e rfl ?_
                                    refine zs_goto (pc := 238) t191_238 ?_
                                    refine zGo.locals (ls' := [(0, .ref 332), (1, .int a), (2, .int b), (3, .int c), (4, .int d), (5, .int e), (6, .int f), (7, .int w474v), (8, .int w11x8), (9, .int w530v)]) (by simp) ?_
                                    exact w7ih (w7m - 1) (by omega) w474v w11x8 w530v (zsI (zsI (zsI (zsI w7M 334 w472n w10v) 333 w319n w475v) 332 2 (zI w7M 332 2)) 332 3 w527v) ⟨by omega, by omega⟩ ⟨by omega, by omega⟩ ⟨by omega, by omega⟩ w7s w529 ((((((zFr.refl).trans (w7F.mono rfl)).put rfl).put rfl).put rfl).put rfl) (by omega)
                                  · refine zs_icmp_ltF (pc := 2) t21_2 rfl rfl (by omega) ?_
                                    refine zs_iload_n (pc := 5) t21_5 rfl ?_
                                    refine zs_goto (pc := 6) t21_6 ?_
                                    refine zs_iret (pc := 10) t21_10 mr21 rfl ?_
                                    show zGo X l 1 0 0 191 232 [(7, .int w474v), (12, .int w10v), (11, .int w318v), (0, .ref 332), (1, .int a), (2, .int b), (3, .int c), (4, .int d), (5, .int e), (6, .int f), (8, .int w11x8), (9, .int w7x9), (10, .int w10v)] [.int (zI w7M 332 3), .ref 332] (zsI (zsI (zsI w7M 334 w472n w10v) 333 w319n w475v) 332 2 (zI w7M 332 2)) _
                                    have w531 : zIv cLo cHi (zsI (zsI (zsI (zsI w7M 334 w472n w10v) 333 w319n w475v) 332 2 (zI w7M 332 2)) 332 3 (zI w7M 332 3)) := zIv.put w522 (show (-2147483648) ≤ (zI w7M 332 3).toInt ∧ (zI w7M 332 3).toInt ≤ 2147483647 from (zrg (zI w7M 332 3)))
                                    refine zs_putI (pc := 232) t191_232 (zk1 (w7s.k fk_zMc_332)) rfl ?_
                                    obtain ⟨w532v, w532e, w532⟩ := ziadd (a := w7x9) (b := Int32.ofInt 1) rfl (show (Int32.ofInt 1).toInt = 1 by decide) (by omega) (by omega)
                                    refine zs_iinc (pc := 235) t191_235 (ls' := [(9, .int w532v), (7, .int w474v), (12, .int w10v), (11, .int w318v), (0, .ref 332), (1, .int a), (2, .int b), (3, .int c), (4, .int d), (5, .int e), (6, .int f), (8, .int w11x8), (10, .int w10v)]) (zml mf191 (by decide)) rfl (c := w532v) w532e rfl ?_
                                    refine zs_goto (pc := 238) t191_238 ?_
                                    refine zGo.locals (ls' := [(0, .ref 332), (1, .int a), (2, .int b), (3, .int c), (4, .int d), (5, .int e), (6, .int f), (7, .int w474v), (8, .int w11x8), (9, .int w532v)]) (by simp) ?_
                                    exact w7ih (w7m - 1) (by omega) w474v w11x8 w532v (zsI (zsI (zsI (zsI w7M 334 w472n w10v) 333 w319n w475v) 332 2 (zI w7M 332 2)) 332 3 (zI w7M 332 3)) ⟨by omega, by omega⟩ ⟨by omega, by omega⟩ ⟨by omega, by omega⟩ w7s w531 ((((((zFr.refl).trans (w7F.mono rfl)).put rfl).put rfl).put rfl).put rfl) (by omega)
                                · refine zs_icmp_leF (pc := 206) t191_206 rfl rfl (by omega) ?_
                                  refine zs_aload_n (pc := 209) t191_209 rfl ?_
                                  refine zs_dup (pc := 210) t191_210 rfl ?_
                                  have w533 := ib332_1 w7I
                                  refine zs_get (pc := 211) t191_211 (by decide) (zk1 (w7s.k fk_zMc_332)) (zfvi rfl ((zIoj (by decide)).trans ((zIo (by decide)).trans ((zIo (by decide)).trans rfl)))) ?_
                                  refine zs_iconst (pc := 214) t191_214 (v := 1) (by decide) ?_
                                  obtain ⟨w534v, w534⟩ : ∃ v, v = (zI w7M 332 1) + (1 : Int32) := ⟨_, rfl⟩
                                  have w534g := zrg w534v
                                  refine zs_iadd (pc := 215) t191_215 (c := w534v) w534.symm ?_
                                  have w535 : zIv cLo cHi (zsI (zsI (zsI (zsI w7M 334 w472n w10v) 333 w319n w475v) 332 2 (zI w7M 332 2)) 332 1 w534v) := zIv.put w522 (show (-2147483648) ≤ w534v.toInt ∧ w534v.toInt ≤ 2147483647 from (zrg w534v))
                                  refine zs_putI (pc := 216) t191_216 (zk1 (w7s.k fk_zMc_332)) rfl ?_
                                  refine zs_aload_n (pc := 219) t191_219 rfl ?_
                                  refine zs_aload_n (pc := 220) t191_220 rfl ?_
                                  have w536 := ib332_3 w7I
                                  refine zs_get (pc := 221) t191_221 (by decide) (zk1 (w7s.k fk_zMc_332)) (zfvi rfl ((zIoj (by decide)).trans ((zIoj (by decide)).trans ((zIo (by decide)).trans ((zIo (by decide)).trans rfl))))) ?_
                                  refine zs_iload (pc := 224) t191_224 rfl ?_
                                  refine zs_iload (pc := 226) t191_226 rfl ?_
                                  obtain ⟨w537v, w537⟩ : ∃ v, v = w10v + e := ⟨_, rfl⟩
                                  have w537g := zrg w537v
                                  refine zs_iadd (pc := 228) t191_228 (c := w537v) w537.symm ?_
                                  refine zs_invS (pc := 229) (as := [.int (zI w7M 332 3), .int w537v]) (st := [.ref 332]) t191_229 (by decide) mf21 rfl rfl ⟨by decide, by decide, Nat.le_of_ble_eq_true rfl, Nat.le_of_ble_eq_true rfl⟩ (zs_in (by decide) mf21 (Nat.le_of_ble_eq_true rfl) ?_) (fun _ _ q => q)
                                  show zGo X l 0 0 0 21 0 [(0, .int (zI w7M 332 3)), (1, .int w537v)] [] (zsI (zsI (zsI (zsI w7M 334 w472n w10v) 333 w319n w475v) 332 2 (zI w7M 332 2)) 332 1 w534v) _
                                  refine zs_iload_n (pc := 0) t21_0 rfl ?_
                                  refine zs_iload_n (pc := 1) t21_1 rfl ?_
                                  by_cases w538 : (zI w7M 332 3).toInt < w537v.toInt
                                  · refine zs_icmp_ltT (pc := 2) t21_2 rfl rfl (by omega) ?_
                                    refine zs_iload_n (pc := 9) t21_9 rfl ?_
                                    refine zs_iret (pc := 10) t21_10 mr21 rfl ?_
                                    show zGo X l 1 0 0 191 232 [(7, .int w474v), (12, .int w10v), (11, .int w318v), (0, .ref 332), (1, .int a), (2, .int b), (3, .int c), (4, .int d), (5, .int e), (6, .int f), (8, .int w11x8), (9, .int w7x9), (10, .int w10v)] [.int w537v, .ref 332] (zsI (zsI (zsI (zsI w7M 334 w472n w10v) 333 w319n w475v) 332 2 (zI w7M 332 2)) 332 1 w534v) _
                                    have w539 : zIv cLo cHi (zsI (zsI (zsI (zsI (zsI w7M 334 w472n w10v) 333 w319n w475v) 332 2 (zI w7M 332 2)) 332 1 w534v) 332 3 w537v) := zIv.put w535 (show (-2147483648) ≤ w537v.toInt ∧ w537v.toInt ≤ 2147483647 from (zrg w537v))
                                    refine zs_putI (pc := 232) t191_232 (zk1 (w7s.k fk_zMc_332)) rfl ?_
                                    obtain ⟨w540v, w540e, w540⟩ := ziadd (a := w7x9) (b := Int32.ofInt 1) rfl (show (Int32.ofInt 1).toInt = 1 by decide) (by omega) (by omega)
                                    refine zs_iinc (pc := 235) t191_235 (ls' := [(9, .int w540v), (7, .int w474v), (12, .int w10v), (11, .int w318v), (0, .ref 332), (1, .int a), (2, .int b), (3, .int c), (4, .int d), (5, .int e), (6, .int f), (8, .int w11x8), (10, .int w10v)]) (zml mf191 (by decide)) rfl (c := w540v) w540e rfl ?_
                                    refine zs_goto (pc := 238) t191_238 ?_
                                    refine zGo.locals (ls' := [(0, .ref 332), (1, .int a), (2, .int b), (3, .int c), (4, .int d), (5, .int e), (6, .int f), (7, .int w474v), (8, .int w11x8), (9, .int w540v)]) (by simp) ?_
                                    exact w7ih (w7m - 1) (by omega) w474v w11x8 w540v (zsI (zsI (zsI (zsI (zsI w7M 334 w472n w10v) 333 w319n w475v) 332 2 (zI w7M 332 2)) 332 1 w534v) 332 3 w537v) ⟨by omega, by omega⟩ ⟨by omega, by omega⟩ ⟨by omega, by omega⟩ w7s w539 (((((((zFr.refl).trans (w7F.mono rfl)).put rfl).put rfl).put rfl).put rfl).put rfl) (by omega)
                                  · refine zs_icmp_ltF (pc := 2) t21_2 rfl rfl (by omega) ?_
                                    refine zs_iload_n (pc := 5) t21_5 rfl ?_
                                    refine zs_goto (pc := 6) t21_6 ?_
                                    refine zs_iret (pc := 10) t21_10 mr21 rfl ?_
                                    show zGo X l 1 0 0 191 232 [(7, .int w474v), (12, .int w10v), (11, .int w318v), (0, .ref 332), (1, .int a), (2, .int b), (3, .int c), (4, .int d), (5, .int e), (6, .int f), (8, .int w11x8), (9, .int w7x9), (10, .int w10v)] [.int (zI w7M 332 3), .ref 332] (zsI (zsI (zsI (zsI w7M 334 w472n w10v) 333 w319n w475v) 332 2 (zI w7M 332 2)) 332 1 w534v) _
                                    have w541 : zIv cLo cHi (zsI (zsI (zsI (zsI (zsI w7M 334 w472n w10v) 333 w319n w475v) 332 2 (zI w7M 332 2)) 332 1 w534v) 332 3 (zI w7M 332 3)) := zIv.put w535 (show (-2147483648) ≤ (zI w7M 332 3).toInt ∧ (zI w7M 332 3).toInt ≤ 2147483647 from (zrg (zI w7M 332 3)))
                                    refine zs_putI (pc := 232) t191_232 (zk1 (w7s.k fk_zMc_332)) rfl ?_
                                    obtain ⟨w542v, w542e, w542⟩ := ziadd (a := w7x9) (b := Int32.ofInt 1) rfl (show (Int32.ofInt 1).toInt = 1 by decide) (by omega) (by omega)
                                    refine zs_iinc (pc := 235) t191_235 (ls' := [(9, .int w542v), (7, .int w474v), (12, .int w10v), (11, .int w318v), (0, .ref 332), (1, .int a), (2, .int b), (3, .int c), (4, .int d), (5, .int e), (6, .int f), (8, .int w11x8), (10, .int w10v)]) (zml mf191 (by decide)) rfl (c := w542v) w542e rfl ?_
                                    refine zs_goto (pc := 238) t191_238 ?_
                                    refine zGo.locals (ls' := [(0, .ref 332), (1, .int a), (2, .int b), (3, .int c), (4, .int d), (5, .int e), (6, .int f), (7, .int w474v), (8, .int w11x8), (9, .int w542v)]) (by simp) ?_
                                    exact w7ih (w7m - 1) (by omega) w474v w11x8 w542v (zsI (zsI (zsI (zsI (zsI w7M 334 w472n w10v) 333 w319n w475v) 332 2 (zI w7M 332 2)) 332 1 w534v) 332 3 (zI w7M 332 3)) ⟨by omega, by omega⟩ ⟨by omega, by omega⟩ ⟨by omega, by omega⟩ w7s w541 (((((((zFr.refl).trans (w7F.mono rfl)).put rfl).put rfl).put rfl).put rfl).put rfl) (by omega)
                          · refine zs_icmp_leF (pc := 123) t191_123 rfl rfl (by omega) ?_
                            refine zs_iload (pc := 126) t191_126 rfl ?_
                            refine zs_iload (pc := 128) t191_128 rfl ?_
                            obtain ⟨w543v, w543e, w543⟩ := zisub (a := w7x7) (b := w11x8) rfl rfl (by omega) (by omega)
                            refine zs_isub (pc := 130) t191_130 (c := w543v) w543e ?_
                            refine zs_iload (pc := 131) t191_131 rfl ?_
                            by_cases w544 : (w7x7.toInt - w11x8.toInt) < d.toInt
                            · refine zs_icmp_ltT (pc := 133) t191_133 w543 rfl (by omega) ?_
                              refine zs_aload_n (pc := 149) t191_149 rfl ?_
                              refine zs_get (pc := 150) t191_150 (by decide) (zk1 (w7s.k fk_zMc_332)) (w7s.p rfl fv_zMc_332_5) ?_
                              refine zs_iload (pc := 153) t191_153 rfl ?_
                              refine zs_iload (pc := 155) t191_155 rfl ?_
                              obtain ⟨w545n, w545⟩ : ∃ n : Nat, w7x7.toInt = (n : Int) := ⟨w7x7.toInt.toNat, by omega⟩
                              have w546 : zIv cLo cHi (zsI w7M 334 w545n w10v) := zIv.put w7I (show (-2147483648) ≤ w10v.toInt ∧ w10v.toInt ≤ 2147483647 from (zrg w10v))
                              refine zs_iast (pc := 157) t191_157 (j := w545n) (by decide) (zk1 (w7s.k fk_zMc_334)) w545 (zk2 (w7s.k fk_zMc_334) (by omega)) ?_
                              obtain ⟨w547v, w547e, w547⟩ := ziadd (a := w7x7) (b := Int32.ofInt 1) rfl (show (Int32.ofInt 1).toInt = 1 by decide) (by omega) (by omega)
                              refine zs_iinc (pc := 158) t191_158 (ls' := [(7, .int w547v), (12, .int w10v), (11, .int w318v), (0, .ref 332), (1, .int a), (2, .int b), (3, .int c), (4, .int d), (5, .int e), (6, .int f), (8, .int w11x8), (9, .int w7x9), (10, .int w10v)]) (zml mf191 (by decide)) rfl (c := w547v) w547e rfl ?_
                              refine zs_aload_n (pc := 161) t191_161 rfl ?_
                              refine zs_get (pc := 162) t191_162 (by decide) (zk1 (w7s.k fk_zMc_332)) (w7s.p rfl fv_zMc_332_4) ?_
                              refine zs_iload (pc := 165) t191_165 rfl ?_
                              refine zs_iload (pc := 167) t191_167 rfl ?_
                              refine zs_iload (pc := 169) t191_169 rfl ?_
                              obtain ⟨w548v, w548⟩ : ∃ v, v = w10v + e := ⟨_, rfl⟩
                              have w548g := zrg w548v
                              refine zs_iadd (pc := 171) t191_171 (c := w548v) w548.symm ?_
                              have w549 : zIv cLo cHi (zsI (zsI w7M 334 w545n w10v) 333 w319n w548v) := zIv.put w546 (show (-2147483648) ≤ w548v.toInt ∧ w548v.toInt ≤ 2147483647 from (zrg w548v))
                              refine zs_iast (pc := 172) t191_172 (j := w319n) (by decide) (zk1 (w7s.k fk_zMc_333)) w319 (zk2 (w7s.k fk_zMc_333) (by omega)) ?_
                              refine zs_iload (pc := 173) t191_173 rfl ?_
                              refine zs_iload (pc := 175) t191_175 rfl ?_
                              by_cases w550 : w10v.toInt ≤ w10v.toInt
                              · refine zs_icmp_leT (pc := 177) t191_177 rfl rfl (by omega) ?_
                                refine zs_iload (pc := 196) t191_196 rfl ?_
                                refine zs_iload (pc := 198) t191_198 rfl ?_
                                obtain ⟨w551v, w551⟩ : ∃ v, v = w10v + e := ⟨_, rfl⟩
                                have w551g := zrg w551v
                                refine zs_iadd (pc := 200) t191_200 (c := w551v) w551.symm ?_
                                refine zs_iload (pc := 201) t191_201 rfl ?_
                                obtain ⟨w552v, w552⟩ : ∃ v, v = w551v - w10v := ⟨_, rfl⟩
                                have w552g := zrg w552v
                                refine zs_isub (pc := 203) t191_203 (c := w552v) w552.symm ?_
                                refine zs_iload (pc := 204) t191_204 rfl ?_
                                by_cases w553 : w552v.toInt ≤ f.toInt
                                · refine zs_icmp_leT (pc := 206) t191_206 rfl rfl (by omega) ?_
                                  refine zs_aload_n (pc := 219) t191_219 rfl ?_
                                  refine zs_aload_n (pc := 220) t191_220 rfl ?_
                                  have w554 := ib332_3 w7I
                                  refine zs_get (pc := 221) t191_221 (by decide) (zk1 (w7s.k fk_zMc_332)) (zfvi rfl ((zIo (by decide)).trans ((zIo (by decide)).trans rfl))) ?_
                                  refine zs_iload (pc := 224) t191_224 rfl ?_
                                  refine zs_iload (pc := 226) t191_226 rfl ?_
                                  obtain ⟨w555v, w555⟩ : ∃ v, v = w10v + e := ⟨_, rfl⟩
                                  have w555g := zrg w555v
                                  refine zs_iadd (pc := 228) t191_228 (c := w555v) w555.symm ?_
                                  refine zs_invS (pc := 229) (as := [.int (zI w7M 332 3), .int w555v]) (st := [.ref 332]) t191_229 (by decide) mf21 rfl rfl ⟨by decide, by decide, Nat.le_of_ble_eq_true rfl, Nat.le_of_ble_eq_true rfl⟩ (zs_in (by decide) mf21 (Nat.le_of_ble_eq_true rfl) ?_) (fun _ _ q => q)
                                  show zGo X l 0 0 0 21 0 [(0, .int (zI w7M 332 3)), (1, .int w555v)] [] (zsI (zsI w7M 334 w545n w10v) 333 w319n w548v) _
                                  refine zs_iload_n (pc := 0) t21_0 rfl ?_
                                  refine zs_iload_n (pc := 1) t21_1 rfl ?_
                                  by_cases w556 : (zI w7M 332 3).toInt < w555v.toInt
                                  · refine zs_icmp_ltT (pc := 2) t21_2 rfl rfl (by omega) ?_
                                    refine zs_iload_n (pc := 9) t21_9 rfl ?_
                                    refine zs_iret (pc := 10) t21_10 mr21 rfl ?_
                                    show zGo X l 1 0 0 191 232 [(7, .int w547v), (12, .int w10v), (11, .int w318v), (0, .ref 332), (1, .int a), (2, .int b), (3, .int c), (4, .int d), (5, .int e), (6, .int f), (8, .int w11x8), (9, .int w7x9), (10, .int w10v)] [.int w555v, .ref 332] (zsI (zsI w7M 334 w545n w10v) 333 w319n w548v) _
                                    have w557 : zIv cLo cHi (zsI (zsI (zsI w7M 334 w545n w10v) 333 w319n w548v) 332 3 w555v) := zIv.put w549 (show (-2147483648) ≤ w555v.toInt ∧ w555v.toInt ≤ 2147483647 from (zrg w555v))
                                    refine zs_putI (pc := 232) t191_232 (zk1 (w7s.k fk_zMc_332)) rfl ?_
                                    obtain ⟨w558v, w558e, w558⟩ := ziadd (a := w7x9) (b := Int32.ofInt 1) rfl (show (Int32.ofInt 1).toInt = 1 by decide) (by omega) (by omega)
                                    refine zs_iinc (pc := 235) t191_235 (ls' := [(9, .int w558v), (7, .int w547v), (12, .int w10v), (11, .int w318v), (0, .ref 332), (1, .int a), (2, .int b), (3, .int c), (4, .int d), (5, .int e), (6, .int f), (8, .int w11x8), (10, .int w10v)]) (zml mf191 (by decide)) rfl (c := w558v) w558e rfl ?_
                                    refine zs_goto (pc := 238) t191_238 ?_
                                    refine zGo.locals (ls' := [(0, .ref 332), (1, .int a), (2, .int b), (3, .int c), (4, .int d), (5, .int e), (6, .int f), (7, .int w547v), (8, .int w11x8), (9, .int w558v)]) (by simp) ?_
                                    exact w7ih (w7m - 1) (by omega) w547v w11x8 w558v (zsI (zsI (zsI w7M 334 w545n w10v) 333 w319n w548v) 332 3 w555v) ⟨by omega, by omega⟩ ⟨by omega, by omega⟩ ⟨by omega, by omega⟩ w7s w557 (((((zFr.refl).trans (w7F.mono rfl)).put rfl).put rfl).put rfl) (by omega)
                                  · refine zs_icmp_ltF (pc := 2) t21_2 rfl rfl (by omega) ?_
                                    refine zs_iload_n (pc := 5) t21_5 rfl ?_
                                    refine zs_goto (pc := 6) t21_6 ?_
                                    refine zs_iret (pc := 10) t21_10 mr21 rfl ?_
                                    show zGo X l 1 0 0 191 232 [(7, .int w547v), (12, .int w10v), (11, .int w318v), (0, .ref 332), (1, .int a), (2, .int b), (3, .int c), (4, .int d), (5, .int e), (6, .int f), (8, .int w11x8), (9, .int w7x9), (10, .int w10v)] [.int (zI w7M 332 3), .ref 332] (zsI (zsI w7M 334 w545n w10v) 333 w319n w548v) _
                                    have w559 : zIv cLo cHi (zsI (zsI (zsI w7M 334 w545n w10v) 333 w319n w548v) 332 3 (zI w7M 332 3)) := zIv.put w549 (show (-2147483648) ≤ (zI w7M 332 3).toInt ∧ (zI w7M 332 3).toInt ≤ 2147483647 from (zrg (zI w7M 332 3)))
                                    refine zs_putI (pc := 232) t191_232 (zk1 (w7s.k fk_zMc_332)) rfl ?_
                                    obtain ⟨w560v, w560e, w560⟩ := ziadd (a := w7x9) (b := Int32.ofInt 1) rfl (show (Int32.ofInt 1).toInt = 1 by decide) (by omega) (by omega)
                                    refine zs_iinc (pc := 235) t191_235 (ls' := [(9, .int w560v), (7, .int w547v), (12, .int w10v), (11, .int w318v), (0, .ref 332), (1, .int a), (2, .int b), (3, .int c), (4, .int d), (5, .int e), (6, .int f), (8, .int w11x8), (10, .int w10v)]) (zml mf191 (by decide)) rfl (c := w560v) w560e rfl ?_
                                    refine zs_goto (pc := 238) t191_238 ?_
                                    refine zGo.locals (ls' := [(0, .ref 332), (1, .int a), (2, .int b), (3, .int c), (4, .int d), (5, .int e), (6, .int f), (7, .int w547v), (8, .int w11x8), (9, .int w560v)]) (by simp) ?_
                                    exact w7ih (w7m - 1) (by omega) w547v w11x8 w560v (zsI (zsI (zsI w7M 334 w545n w10v) 333 w319n w548v) 332 3 (zI w7M 332 3)) ⟨by omega, by omega⟩ ⟨by omega, by omega⟩ ⟨by omega, by omega⟩ w7s w559 (((((zFr.refl).trans (w7F.mono rfl)).put rfl).put rfl).put rfl) (by omega)
                                · refine zs_icmp_leF (pc := 206) t191_206 rfl rfl (by omega) ?_
                                  refine zs_aload_n (pc := 209) t191_209 rfl ?_
                                  refine zs_dup (pc := 210) t191_210 rfl ?_
                                  have w561 := ib332_1 w7I
                                  refine zs_get (pc := 211) t191_211 (by decide) (zk1 (w7s.k fk_zMc_332)) (zfvi rfl ((zIo (by decide)).trans ((zIo (by decide)).trans rfl))) ?_
                                  refine zs_iconst (pc := 214) t191_214 (v := 1) (by decide) ?_
                                  obtain ⟨w562v, w562⟩ : ∃ v, v = (zI w7M 332 1) + (1 : Int32) := ⟨_, rfl⟩
                                  have w562g := zrg w562v
                                  refine zs_iadd (pc := 215) t191_215 (c := w562v) w562.symm ?_
                                  have w563 : zIv cLo cHi (zsI (zsI (zsI w7M 334 w545n w10v) 333 w319n w548v) 332 1 w562v) := zIv.put w549 (show (-2147483648) ≤ w562v.toInt ∧ w562v.toInt ≤ 2147483647 from (zrg w562v))
                                  refine zs_putI (pc := 216) t191_216 (zk1 (w7s.k fk_zMc_332)) rfl ?_
                                  refine zs_aload_n (pc := 219) t191_219 rfl ?_
                                  refine zs_aload_n (pc := 220) t191_220 rfl ?_
                                  have w564 := ib332_3 w7I
                                  refine zs_get (pc := 221) t191_221 (by decide) (zk1 (w7s.k fk_zMc_332)) (zfvi rfl ((zIoj (by decide)).trans ((zIo (by decide)).trans ((zIo (by decide)).trans rfl)))) ?_
                                  refine zs_iload (pc := 224) t191_224 rfl ?_
                                  refine zs_iload (pc := 226) t191_226 rfl ?_
                                  obtain ⟨w565v, w565⟩ : ∃ v, v = w10v + e := ⟨_, rfl⟩
                                  have w565g := zrg w565v
                                  refine zs_iadd (pc := 228) t191_228 (c := w565v) w565.symm ?_
                                  refine zs_invS (pc := 229) (as := [.int (zI w7M 332 3), .int w565v]) (st := [.ref 332]) t191_229 (by decide) mf21 rfl rfl ⟨by decide, by decide, Nat.le_of_ble_eq_true rfl, Nat.le_of_ble_eq_true rfl⟩ (zs_in (by decide) mf21 (Nat.le_of_ble_eq_true rfl) ?_) (fun _ _ q => q)
                                  show zGo X l 0 0 0 21 0 [(0, .int (zI w7M 332 3)), (1, .int w565v)] [] (zsI (zsI (zsI w7M 334 w545n w10v) 333 w319n w548v) 332 1 w562v) _
                                  refine zs_iload_n (pc := 0) t21_0 rfl ?_
                                  refine zs_iload_n (pc := 1) t21_1 rfl ?_
                                  by_cases w566 : (zI w7M 332 3).toInt < w565v.toInt
                                  · refine zs_icmp_ltT (pc := 2) t21_2 rfl rfl (by omega) ?_
                                    refine zs_iload_n (pc := 9) t21_9 rfl ?_
                                    refine zs_iret (pc := 10) t21_10 mr21 rfl ?_
                                    show zGo X l 1 0 0 191 232 [(7, .int w547v), (12, .int w10v), (11, .int w318v), (0, .ref 332), (1, .int a), (2, .int b), (3, .int c), (4, .int d), (5, .int e), (6, .int f), (8, .int w11x8), (9, .int w7x9), (10, .int w10v)] [.int w565v, .ref 332] (zsI (zsI (zsI w7M 334 w545n w10v) 333 w319n w548v) 332 1 w562v) _
                                    have w567 : zIv cLo cHi (zsI (zsI (zsI (zsI w7M 334 w545n w10v) 333 w319n w548v) 332 1 w562v) 332 3 w565v) := zIv.put w563 (show (-2147483648) ≤ w565v.toInt ∧ w565v.toInt ≤ 2147483647 from (zrg w565v))
                                    refine zs_putI (pc := 232) t191_232 (zk1 (w7s.k fk_zMc_332)) rfl ?_
                                    obtain ⟨w568v, w568e, w568⟩ := ziadd (a := w7x9) (b := Int32.ofInt 1) rfl (show (Int32.ofInt 1).toInt = 1 by decide) (by omega) (by omega)
                                    refine zs_iinc (pc := 235) t191_235 (ls' := [(9, .int w568v), (7, .int w547v), (12, .int w10v), (11, .int w318v), (0, .ref 332), (1, .int a), (2, .int b), (3, .int c), (4, .int d), (5, .int e), (6, .int f), (8, .int w11x8), (10, .int w10v)]) (zml mf191 (by decide)) rfl (c := w568v) w568e rfl ?_
                                    refine zs_goto (pc := 238) t191_238 ?_
                                    refine zGo.locals (ls' := [(0, .ref 332), (1, .int a), (2, .int b), (3, .int c), (4, .int d), (5, .int e), (6, .int f), (7, .int w547v), (8, .int w11x8), (9, .int w568v)]) (by simp) ?_
                                    exact w7ih (w7m - 1) (by omega) w547v w11x8 w568v (zsI (zsI (zsI (zsI w7M 334 w545n w10v) 333 w319n w548v) 332 1 w562v) 332 3 w565v) ⟨by omega, by omega⟩ ⟨by omega, by omega⟩ ⟨by omega, by omega⟩ w7s w567 ((((((zFr.refl).trans (w7F.mono rfl)).put rfl).put rfl).put rfl).put rfl) (by omega)
                                  · refine zs_icmp_ltF (pc := 2) t21_2 rfl rfl (by omega) ?_
                                    refine zs_iload_n (pc := 5) t21_5 rfl ?_
                                    refine zs_goto (pc := 6) t21_6 ?_
                                    refine zs_iret (pc := 10) t21_10 mr21 rfl ?_
                                    show zGo X l 1 0 0 191 232 [(7, .int w547v), (12, .int w10v), (11, .int w318v), (0, .ref 332), (1, .int a), (2, .int b), (3, .int c), (4, .int d), (5, .int e), (6, .int f), (8, .int w11x8), (9, .int w7x9), (10, .int w10v)] [.int (zI w7M 332 3), .ref 332] (zsI (zsI (zsI w7M 334 w545n w10v) 333 w319n w548v) 332 1 w562v) _
                                    have w569 : zIv cLo cHi (zsI (zsI (zsI (zsI w7M 334 w545n w10v) 333 w319n w548v) 332 1 w562v) 332 3 (zI w7M 332 3)) := zIv.put w563 (show (-2147483648) ≤ (zI w7M 332 3).toInt ∧ (zI w7M 332 3).toInt ≤ 2147483647 from (zrg (zI w7M 332 3)))
                                    refine zs_putI (pc := 232) t191_232 (zk1 (w7s.k fk_zMc_332)) rfl ?_
                                    obtain ⟨w570v, w570e, w570⟩ := ziadd (a := w7x9) (b := Int32.ofInt 1) rfl (show (Int32.ofInt 1).toInt = 1 by decide) (by omega) (by omega)
                                    refine zs_iinc (pc := 235) t191_235 (ls' := [(9, .int w570v), (7, .int w547v), (12, .int w10v), (11, .int w318v), (0, .ref 332), (1, .int a), (2, .int b), (3, .int c), (4, .int d), (5, .int e), (6, .int f), (8, .int w11x8), (10, .int w10v)]) (zml mf191 (by decide)) rfl (c := w570v) w570e rfl ?_
                                    refine zs_goto (pc := 238) t191_238 ?_
                                    refine zGo.locals (ls' := [(0, .ref 332), (1, .int a), (2, .int b), (3, .int c), (4, .int d), (5, .int e), (6, .int f), (7, .int w547v), (8, .int w11x8), (9, .int w570v)]) (by simp) ?_
                                    exact w7ih (w7m - 1) (by omega) w547v w11x8 w570v (zsI (zsI (zsI (zsI w7M 334 w545n w10v) 333 w319n w548v) 332 1 w562v) 332 3 (zI w7M 332 3)) ⟨by omega, by omega⟩ ⟨by omega, by omega⟩ ⟨by omega, by omega⟩ w7s w569 ((((((zFr.refl).trans (w7F.mono rfl)).put rfl).put rfl).put rfl).put rfl) (by omega)
                              · refine zs_icmp_leF (pc := 177) t191_177 rfl rfl (by omega) ?_
                                refine zs_aload_n (pc := 180) t191_180 rfl ?_
                                refine zs_aload_n (pc := 181) t191_181 rfl ?_
                                have w571 := ib332_2 w7I
                                refine zs_get (pc := 182) t191_182 (by decide) (zk1 (w7s.k fk_zMc_332)) (zfvi rfl ((zIo (by decide)).trans ((zIo (by decide)).trans rfl))) ?_
                                refine zs_iload (pc := 185) t191_185 rfl ?_
                                refine zs_iload (pc := 187) t191_187 rfl ?_
                                obtain ⟨w572v, w572e, w572⟩ := zisub (a := w547v) (b := w11x8) w547 rfl (by omega) (by omega)
                                refine zs_isub (pc := 189) t191_189 (c := w572v) w572e ?_
                                refine zs_invS (pc := 190) (as := [.int (zI w7M 332 2), .int w572v]) (st := [.ref 332]) t191_190 (by decide) mf21 rfl rfl ⟨by decide, by decide, Nat.le_of_ble_eq_true rfl, Nat.le_of_ble_eq_true rfl⟩ (zs_in (by decide) mf21 (Nat.le_of_ble_eq_true rfl) ?_) (fun _ _ q => q)
                                show zGo X l 0 0 0 21 0 [(0, .int (zI w7M 332 2)), (1, .int w572v)] [] (zsI (zsI w7M 334 w545n w10v) 333 w319n w548v) _
                                refine zs_iload_n (pc := 0) t21_0 rfl ?_
                                refine zs_iload_n (pc := 1) t21_1 rfl ?_
                                by_cases w573 : (zI w7M 332 2).toInt < ((w7x7.toInt + 1) - w11x8.toInt)
                                · refine zs_icmp_ltT (pc := 2) t21_2 rfl w572 (by omega) ?_
                                  refine zs_iload_n (pc := 9) t21_9 rfl ?_
                                  refine zs_iret (pc := 10) t21_10 mr21 rfl ?_
                                  show zGo X l 1 0 0 191 193 [(7, .int w547v), (12, .int w10v), (11, .int w318v), (0, .ref 332), (1, .int a), (2, .int b), (3, .int c), (4, .int d), (5, .int e), (6, .int f), (8, .int w11x8), (9, .int w7x9), (10, .int w10v)] [.int w572v, .ref 332] (zsI (zsI w7M 334 w545n w10v) 333 w319n w548v) _
                                  have w574 : zIv cLo cHi (zsI (zsI (zsI w7M 334 w545n w10v) 333 w319n w548v) 332 2 w572v) := zIv.put w549 (show (-2147483648) ≤ w572v.toInt ∧ w572v.toInt ≤ 2147483647 from (zrg w572v))
                                  refine zs_putI (pc := 193) t191_193 (zk1 (w7s.k fk_zMc_332)) rfl ?_
                                  refine zs_iload (pc := 196) t191_196 rfl ?_
                                  refine zs_iload (pc := 198) t191_198 rfl ?_
                                  obtain ⟨w575v, w575⟩ : ∃ v, v = w10v + e := ⟨_, rfl⟩
                                  have w575g := zrg w575v
                                  refine zs_iadd (pc := 200) t191_200 (c := w575v) w575.symm ?_
                                  refine zs_iload (pc := 201) t191_201 rfl ?_
                                  obtain ⟨w576v, w576⟩ : ∃ v, v = w575v - w10v := ⟨_, rfl⟩
                                  have w576g := zrg w576v
                                  refine zs_isub (pc := 203) t191_203 (c := w576v) w576.symm ?_
                                  refine zs_iload (pc := 204) t191_204 rfl ?_
                                  by_cases w577 : w576v.toInt ≤ f.toInt
                                  · refine zs_icmp_leT (pc := 206) t191_206 rfl rfl (by omega) ?_
                                    refine zs_aload_n (pc := 219) t191_219 rfl ?_
                                    refine zs_aload_n (pc := 220) t191_220 rfl ?_
                                    have w578 := ib332_3 w7I
                                    refine zs_get (pc := 221) t191_221 (by decide) (zk1 (w7s.k fk_zMc_332)) (zfvi rfl ((zIoj (by decide)).trans ((zIo (by decide)).trans ((zIo (by decide)).trans rfl)))) ?_
                                    refine zs_iload (pc := 224) t191_224 rfl ?_
                                    refine zs_iload (pc := 226) t191_226 rfl ?_
                                    obtain ⟨w579v, w579⟩ : ∃ v, v = w10v + e := ⟨_, rfl⟩
                                    have w579g := zrg w579v
                                    refine zs_iadd (pc := 228) t191_228 (c := w579v) w579.symm ?_
                                    refine zs_invS (pc := 229) (as := [.int (zI w7M 332 3), .int w579v]) (st := [.ref 332]) t191_229 (by decide) mf21 rfl rfl ⟨by decide, by decide, Nat.le_of_ble_eq_true rfl, Nat.le_of_ble_eq_true rfl⟩ (zs_in (by decide) mf21 (Nat.le_of_ble_eq_true rfl) ?_) (fun _ _ q => q)
                                    show zGo X l 0 0 0 21 0 [(0, .int (zI w7M 332 3)), (1, .int w579v)] [] (zsI (zsI (zsI w7M 334 w545n w10v) 333 w319n w548v) 332 2 w572v) _
                                    refine zs_iload_n (pc := 0) t21_0 rfl ?_
                                    refine zs_iload_n (pc := 1) t21_1 rfl ?_
                                    by_cases w580 : (zI w7M 332 3).toInt < w579v.toInt
                                    · refine zs_icmp_ltT (pc := 2) t21_2 rfl rfl (by omega) ?_
                                      refine zs_iload_n (pc := 9) t21_9 rfl ?_
                                      refine zs_iret (pc := 10) t21_10 mr21 rfl ?_
                                      show zGo X l 1 0 0 191 232 [(7, .int w547v), (12, .int w10v), (11, .int w318v), (0, .ref 332), (1, .int a), (2, .int b), (3, .int c), (4, .int d), (5, .int e), (6, .int f), (8, .int w11x8), (9, .int w7x9), (10, .int w10v)] [.int w579v, .ref 332] (zsI (zsI (zsI w7M 334 w545n w10v) 333 w319n w548v) 332 2 w572v) _
                                      have w581 : zIv cLo cHi (zsI (zsI (zsI (zsI w7M 334 w545n w10v) 333 w319n w548v) 332 2 w572v) 332 3 w579v) := zIv.put w574 (show (-2147483648) ≤ w579v.toInt ∧ w579v.toInt ≤ 2147483647 from (zrg w579v))
                                      refine zs_putI (pc := 232) t191_232 (zk1 (w7s.k fk_zMc_332)) rfl ?_
                                      obtain ⟨w582v, w582e, w582⟩ := ziadd (a := w7x9) (b := Int32.ofInt 1) rfl (show (Int32.ofInt 1).toInt = 1 by decide) (by omega) (by omega)
                                      refine zs_iinc (pc := 235) t191_235 (ls' := [(9, .int w582v), (7, .int w547v), (12, .int w10v), (11, .int w318v), (0, .ref 332), (1, .int a), (2, .int b), (3, .int c), (4, .int d), (5, .int e), (6, .int f), (8, .int w11x8), (10, .int w10v)]) (zml mf191 (by decide)) rfl (c := w582v) w582e rfl ?_
                                      refine zs_goto (pc := 238) t191_238 ?_
                                      refine zGo.locals (ls' := [(0, .ref 332), (1, .int a), (2, .int b), (3, .int c), (4, .int d), (5, .int e), (6, .int f), (7, .int w547v), (8, .int w11x8), (9, .int w582v)]) (by simp) ?_
                                      exact w7ih (w7m - 1) (by omega) w547v w11x8 w582v (zsI (zsI (zsI (zsI w7M 334 w545n w10v) 333 w319n w548v) 332 2 w572v) 332 3 w579v) ⟨by omega, by omega⟩ ⟨by omega, by omega⟩ ⟨by omega, by omega⟩ w7s w581 ((((((zFr.refl).trans (w7F.mono rfl)).put rfl).put rfl).put rfl).put rfl) (by omega)
                                    · refine zs_icmp_ltF (pc := 2) t21_2 rfl rfl (by omega) ?_
                                      refine zs_iload_n (pc := 5) t21_5 rfl ?_
                                      refine zs_goto (pc := 6) t21_6 ?_
                                      refine zs_iret (pc := 10) t21_10 mr21 rfl ?_
                                      show zGo X l 1 0 0 191 232 [(7, .int w547v), (12, .int w10v), (11, .int w318v), (0, .ref 332), (1, .int a), (2, .int b), (3, .int c), (4, .int d), (5, .int e), (6, .int f), (8, .int w11x8), (9, .int w7x9), (10, .int w10v)] [.int (zI w7M 332 3), .ref 332] (zsI (zsI (zsI w7M 334 w545n w10v) 333 w319n w548v) 332 2 w572v) _
                                      have w583 : zIv cLo cHi (zsI (zsI (zsI (zsI w7M 334 w545n w10v) 333 w319n w548v) 332 2 w572v) 332 3 (zI w7M 332 3)) := zIv.put w574 (show (-2147483648) ≤ (zI w7M 332 3).toInt ∧ (zI w7M 332 3).toInt ≤ 2147483647 from (zrg (zI w7M 332 3)))
                                      refine zs_putI (pc := 232) t191_232 (zk1 (w7s.k fk_zMc_332)) rfl ?_
                                      obtain ⟨w584v, w584e, w584⟩ := ziadd (a := w7x9) (b := Int32.ofInt 1) rfl (show (Int32.ofInt 1).toInt = 1 by decide) (by omega) (by omega)
                                      refine zs_iinc (pc := 235) t191_235 (ls' := [(9, .int w584v), (7, .int w547v), (12, .int w10v), (11, .int w318v), (0, .ref 332), (1, .int a), (2, .int b), (3, .int c), (4, .int d), (5, .int e), (6, .int f), (8, .int w11x8), (10, .int w10v)]) (zml mf191 (by decide)) rfl (c := w584v) w584e rfl ?_
                                      refine zs_goto (pc := 238) t191_238 ?_
                                      refine zGo.locals (ls' := [(0, .ref 332), (1, .int a), (2, .int b), (3, .int c), (4, .int d), (5, .int e), (6, .int f), (7, .int w547v), (8, .int w11x8), (9, .int w584v)]) (by simp) ?_
                                      exact w7ih (w7m - 1) (by omega) w547v w11x8 w584v (zsI (zsI (zsI (zsI w7M 334 w545n w10v) 333 w319n w548v) 332 2 w572v) 332 3 (zI w7M 332 3)) ⟨by omega, by omega⟩ ⟨by omega, by omega⟩ ⟨by omega, by omega⟩ w7s w583 ((((((zFr.refl).trans (w7F.mono rfl)).put rfl).put rfl).put rfl).put rfl) (by omega)
                                  · refine zs_icmp_leF (pc := 206) t191_206 rfl rfl (by omega) ?_
                                    refine zs_aload_n (pc := 209) t191_209 rfl ?_
                                    refine zs_dup (pc := 210) t191_210 rfl ?_
                                    have w585 := ib332_1 w7I
                                    refine zs_get (pc := 211) t191_211 (by decide) (zk1 (w7s.k fk_zMc_332)) (zfvi rfl ((zIoj (by decide)).trans ((zIo (by decide)).trans ((zIo (by decide)).trans rfl)))) ?_
                                    refine zs_iconst (pc := 214) t191_214 (v := 1) (by decide) ?_
                                    obtain ⟨w586v, w586⟩ : ∃ v, v = (zI w7M 332 1) + (1 : Int32) := ⟨_, rfl⟩
                                    have w586g := zrg w586v
                                    refine zs_iadd (pc := 215) t191_215 (c := w586v) w586.symm ?_
                                    have w587 : zIv cLo cHi (zsI (zsI (zsI (zsI w7M 334 w545n w10v) 333 w319n w548v) 332 2 w572v) 332 1 w586v) := zIv.put w574 (show (-2147483648) ≤ w586v.toInt ∧ w586v.toInt ≤ 2147483647 from (zrg w586v))
                                    refine zs_putI (pc := 216) t191_216 (zk1 (w7s.k fk_zMc_332)) rfl ?_
                                    refine zs_aload_n (pc := 219) t191_219 rfl ?_
                                    refine zs_aload_n (pc := 220) t191_220 rfl ?_
                                    have w588 := ib332_3 w7I
                                    refine zs_get (pc := 221) t191_221 (by decide) (zk1 (w7s.k fk_zMc_332)) (zfvi rfl ((zIoj (by decide)).trans ((zIoj (by decide)).trans ((zIo (by decide)).trans ((zIo (by decide)).trans rfl))))) ?_
                                    refine zs_iload (pc := 224) t191_224 rfl ?_
                                    refine zs_iload (pc := 226) t191_226 rfl ?_
                                    obtain ⟨w589v, w589⟩ : ∃ v, v = w10v + e := ⟨_, rfl⟩
                                    have w589g := zrg w589v
                                    refine zs_iadd (pc := 228) t191_228 (c := w589v) w589.symm ?_
                                    refine zs_invS (pc := 229) (as := [.int (zI w7M 332 3), .int w589v]) (st := [.ref 332]) t191_229 (by decide) mf21 rfl rfl ⟨by decide, by decide, Nat.le_of_ble_eq_true rfl, Nat.le_of_ble_eq_true rfl⟩ (zs_in (by decide) mf21 (Nat.le_of_ble_eq_true rfl) ?_) (fun _ _ q => q)
                                    show zGo X l 0 0 0 21 0 [(0, .int (zI w7M 332 3)), (1, .int w589v)] [] (zsI (zsI (zsI (zsI w7M 334 w545n w10v) 333 w319n w548v) 332 2 w572v) 332 1 w586v) _
                                    refine zs_iload_n (pc := 0) t21_0 rfl ?_
                                    refine zs_iload_n (pc := 1) t21_1 rfl ?_
                                    by_cases w590 : (zI w7M 332 3).toInt < w589v.toInt
                                    · refine zs_icmp_ltT (pc := 2) t21_2 rfl rfl (by omega) ?_
                                      refine zs_iload_n (pc := 9) t21_9 rfl ?_
                                      refine zs_iret (pc := 10) t21_10 mr21 rfl ?_
                                      show zGo X l 1 0 0 191 232 [(7, .int w547v), (12, .int w10v), (11, .int w318v), (0, .ref 332), (1, .int a), (2, .int b), (3, .int c), (4, .int d), (5, .int e), (6, .int f), (8, .int w11x8), (9, .int w7x9), (10, .int w10v)] [.int w589v, .ref 332] (zsI (zsI (zsI (zsI w7M 334 w545n w10v) 333 w319n w548v) 332 2 w572v) 332 1 w586v) _
                                      have w591 : zIv cLo cHi (zsI (zsI (zsI (zsI (zsI w7M 334 w545n w10v) 333 w319n w548v) 332 2 w572v) 332 1 w586v) 332 3 w589v) := zIv.put w587 (show (-2147483648) ≤ w589v.toInt ∧ w589v.toInt ≤ 2147483647 from (zrg w589v))
                                      refine zs_putI (pc := 232) t191_232 (zk1 (w7s.k fk_zMc_332)) rfl ?_
                                      obtain ⟨w592v, w592e, w592⟩ := ziadd (a := w7x9) (b := Int32.ofInt 1) rfl (show (Int32.ofInt 1).toInt = 1 by decide) (by omega) (by omega)
                                      refine zs_iinc (pc := 235) t191_235 (ls' := [(9, .int w592v), (7, .int w547v), (12, .int w10v), (11, .int w318v), (0, .ref 332), (1, .int a), (2, .int b), (3, .int c), (4, .int d), (5, .int e), (6, .int f), (8, .int w11x8), (10, .int w10v)]) (zml mf191 (by decide)) rfl (c := w592v) w592e rfl ?_
                                      refine zs_goto (pc := 238) t191_238 ?_
                                      refine zGo.locals (ls' := [(0, .ref 332), (1, .int a), (2, .int b), (3, .int c), (4, .int d), (5, .int e), (6, .int f), (7, .int w547v), (8, .int w11x8), (9, .int w592v)]) (by simp) ?_
                                      exact w7ih (w7m - 1) (by omega) w547v w11x8 w592v (zsI (zsI (zsI (zsI (zsI w7M 334 w545n w10v) 333 w319n w548v) 332 2 w572v) 332 1 w586v) 332 3 w589v) ⟨by omega, by omega⟩ ⟨by omega, by omega⟩ ⟨by omega, by omega⟩ w7s w591 (((((((zFr.refl).trans (w7F.mono rfl)).put rfl).put rfl).put rfl).put rfl).put rfl) (by omega)
                                    · refine zs_icmp_ltF (pc := 2) t21_2 rfl rfl (by omega) ?_
                                      refine zs_iload_n (pc := 5) t21_5 rfl ?_
                                      refine zs_goto (pc := 6) t21_6 ?_
                                      refine zs_iret (pc := 10) t21_10 mr21 rfl ?_
                                      show zGo X l 1 0 0 191 232 [(7, .int w547v), (12, .int w10v), (11, .int w318v), (0, .ref 332), (1, .int a), (2, .int b), (3, .int c), (4, .int d), (5, .int e), (6, .int f), (8, .int w11x8), (9, .int w7x9), (10, .int w10v)] [.int (zI w7M 332 3), .ref 332] (zsI (zsI (zsI (zsI w7M 334 w545n w10v) 333 w319n w548v) 332 2 w572v) 332 1 w586v) _
                                      have w593 : zIv cLo cHi (zsI (zsI (zsI (zsI (zsI w7M 334 w545n w10v) 333 w319n w548v) 332 2 w572v) 332 1 w586v) 332 3 (zI w7M 332 3)) := zIv.put w587 (show (-2147483648) ≤ (zI w7M 332 3).toInt ∧ (zI w7M 332 3).toInt ≤ 2147483647 from (zrg (zI w7M 332 3)))
                                      refine zs_putI (pc := 232) t191_232 (zk1 (w7s.k fk_zMc_332)) rfl ?_
                                      obtain ⟨w594v, w594e, w594⟩ := ziadd (a := w7x9) (b := Int32.ofInt 1) rfl (show (Int32.ofInt 1).toInt = 1 by decide) (by omega) (by omega)
                                      refine zs_iinc (pc := 235) t191_235 (ls' := [(9, .int w594v), (7, .int w547v), (12, .int w10v), (11, .int w318v), (0, .ref 332), (1, .int a), (2, .int b), (3, .int c), (4, .int d), (5, .int e), (6, .int f), (8, .int w11x8), (10, .int w10v)]) (zml mf191 (by decide)) rfl (c := w594v) w594e rfl ?_
                                      refine zs_goto (pc := 238) t191_238 ?_
                                      refine zGo.locals (ls' := [(0, .ref 332), (1, .int a), (2, .int b), (3, .int c), (4, .int d), (5, .int e), (6, .int f), (7, .int w547v), (8, .int w11x8), (9, .int w594v)]) (by simp) ?_
                                      exact w7ih (w7m - 1) (by omega) w547v w11x8 w594v (zsI (zsI (zsI (zsI (zsI w7M 334 w545n w10v) 333 w319n w548v) 332 2 w572v) 332 1 w586v) 332 3 (zI w7M 332 3)) ⟨by omega, by omega⟩ ⟨by omega, by omega⟩ ⟨by omega, by omega⟩ w7s w593 (((((((zFr.refl).trans (w7F.mono rfl)).put rfl).put rfl).put rfl).put rfl).put rfl) (by omega)
                                · refine zs_icmp_ltF (pc := 2) t21_2 rfl w572 (by omega) ?_
                                  refine zs_iload_n (pc := 5) t21_5 rfl ?_
                                  refine zs_goto (pc := 6) t21_6 ?_
                                  refine zs_iret (pc := 10) t21_10 mr21 rfl ?_
                                  show zGo X l 1 0 0 191 193 [(7, .int w547v), (12, .int w10v), (11, .int w318v), (0, .ref 332), (1, .int a), (2, .int b), (3, .int c), (4, .int d), (5, .int e), (6, .int f), (8, .int w11x8), (9, .int w7x9), (10, .int w10v)] [.int (zI w7M 332 2), .ref 332] (zsI (zsI w7M 334 w545n w10v) 333 w319n w548v) _
                                  have w595 : zIv cLo cHi (zsI (zsI (zsI w7M 334 w545n w10v) 333 w319n w548v) 332 2 (zI w7M 332 2)) := zIv.put w549 (show (-2147483648) ≤ (zI w7M 332 2).toInt ∧ (zI w7M 332 2).toInt ≤ 2147483647 from (zrg (zI w7M 332 2)))
                                  refine zs_putI (pc := 193) t191_193 (zk1 (w7s.k fk_zMc_332)) rfl ?_
                                  refine zs_iload (pc := 196) t191_196 rfl ?_
                                  refine zs_iload (pc := 198) t191_198 rfl ?_
                                  obtain ⟨w596v, w596⟩ : ∃ v, v = w10v + e := ⟨_, rfl⟩
                                  have w596g := zrg w596v
                                  refine zs_iadd (pc := 200) t191_200 (c := w596v) w596.symm ?_
                                  refine zs_iload (pc := 201) t191_201 rfl ?_
                                  obtain ⟨w597v, w597⟩ : ∃ v, v = w596v - w10v := ⟨_, rfl⟩
                                  have w597g := zrg w597v
                                  refine zs_isub (pc := 203) t191_203 (c := w597v) w597.symm ?_
                                  refine zs_iload (pc := 204) t191_204 rfl ?_
                                  by_cases w598 : w597v.toInt ≤ f.toInt
                                  · refine zs_icmp_leT (pc := 206) t191_206 rfl rfl (by omega) ?_
                                    refine zs_aload_n (pc := 219) t191_219 rfl ?_
                                    refine zs_aload_n (pc := 220) t191_220 rfl ?_
                                    have w599 := ib332_3 w7I
                                    refine zs_get (pc := 221) t191_221 (by decide) (zk1 (w7s.k fk_zMc_332)) (zfvi rfl ((zIoj (by decide)).trans ((zIo (by decide)).trans ((zIo (by decide)).trans rfl)))) ?_
                                    refine zs_iload (pc := 224) t191_224 rfl ?_
                                    refine zs_iload (pc := 226) t191_226 rfl ?_
                                    obtain ⟨w600v, w600⟩ : ∃ v, v = w10v + e := ⟨_, rfl⟩
                                    have w600g := zrg w600v
                                    refine zs_iadd (pc := 228) t191_228 (c := w600v) w600.symm ?_
                                    refine zs_invS (pc := 229) (as := [.int (zI w7M 332 3), .int w600v]) (st := [.ref 332]) t191_229 (by decide) mf21 rfl rfl ⟨by decide, by decide, Nat.le_of_ble_eq_true rfl, Nat.le_of_ble_eq_true rfl⟩ (zs_in (by decide) mf21 (Nat.le_of_ble_eq_true rfl) ?_) (fun _ _ q => q)
                                    show zGo X l 0 0 0 21 0 [(0, .int (zI w7M 332 3)), (1, .int w600v)] [] (zsI (zsI (zsI w7M 334 w545n w10v) 333 w319n w548v) 332 2 (zI w7M 332 2)) _
                                    refine zs_iload_n (pc := 0) t21_0 rfl ?_
                                    refine zs_iload_n (pc := 1) t21_1 rfl ?_
                                    by_cases w601 : (zI w7M 332 3).toInt < w600v.toInt
                                    · refine zs_icmp_ltT (pc := 2) t21_2 rfl rfl (by omega) ?_
                                      refine zs_iload_n (pc := 9) t21_9 rfl ?_
                                      refine zs_iret (pc := 10) t21_10 mr21 rfl ?_
                                      show zGo X l 1 0 0 191 232 [(7, .int w547v), (12, .int w10v), (11, .int w318v), (0, .ref 332), (1, .int a), (2, .int b), (3, .int c), (4, .int d), (5, .int e), (6, .int f), (8, .int w11x8), (9, .int w7x9), (10, .int w10v)] [.int w600v, .ref 332] (zsI (zsI (zsI w7M 334 w545n w10v) 333 w319n w548v) 332 2 (zI w7M 332 2)) _
                                      have w602 : zIv cLo cHi (zsI (zsI (zsI (zsI w7M 334 w545n w10v) 333 w319n w548v) 332 2 (zI w7M 332 2)) 332 3 w600v) := zIv.put w595 (show (-2147483648) ≤ w600v.toInt ∧ w600v.toInt ≤ 2147483647 from (zrg w600v))
                                      refine zs_putI (pc := 232) t191_232 (zk1 (w7s.k fk_zMc_332)) rfl ?_
                                      obtain ⟨w603v, w603e, w603⟩ := ziadd (a := w7x9) (b := Int32.ofInt 1) rfl (show (Int32.ofInt 1).toInt = 1 by decide) (by omega) (by omega)
                                      refine zs_iinc (pc := 235) t191_235 (ls' := [(9, .int w603v), (7, .int w547v), (12, .int w10v), (11, .int w318v), (0, .ref 332), (1, .int a), (2, .int b), (3, .int c), (4, .int d), (5, .int e), (6, .int f), (8, .int w11x8), (10, .int w10v)]) (zml mf191 (by decide)) rfl (c := w603v) w603e rfl ?_
                                      refine zs_goto (pc := 238) t191_238 ?_
                                      refine zGo.locals (ls' := [(0, .ref 332), (1, .int a), (2, .int b), (3, .int c), (4, .int d), (5, .int e), (6, .int f), (7, .int w547v), (8, .int w11x8), (9, .int w603v)]) (by simp) ?_
                                      exact w7ih (w7m - 1) (by omega) w547v w11x8 w603v (zsI (zsI (zsI (zsI w7M 334 w545n w10v) 333 w319n w548v) 332 2 (zI w7M 332 2)) 332 3 w600v) ⟨by omega, by omega⟩ ⟨by omega, by omega⟩ ⟨by omega, by omega⟩ w7s w602 ((((((zFr.refl).trans (w7F.mono rfl)).put rfl).put rfl).put rfl).put rfl) (by omega)
                                    · refine zs_icmp_ltF (pc := 2) t21_2 rfl rfl (by omega) ?_
                                      refine zs_iload_n (pc := 5) t21_5 rfl ?_
                                      refine zs_goto (pc := 6) t21_6 ?_
                                      refine zs_iret (pc := 10) t21_10 mr21 rfl ?_
                                      show zGo X l 1 0 0 191 232 [(7, .int w547v), (12, .int w10v), (11, .int w318v), (0, .ref 332), (1, .int a), (2, .int b), (3, .int c), (4, .int d), (5, .int e), (6, .int f), (8, .int w11x8), (9, .int w7x9), (10, .int w10v)] [.int (zI w7M 332 3), .ref 332] (zsI (zsI (zsI w7M 334 w545n w10v) 333 w319n w548v) 332 2 (zI w7M 332 2)) _
                                      have w604 : zIv cLo cHi (zsI (zsI (zsI (zsI w7M 334 w545n w10v) 333 w319n w548v) 332 2 (zI w7M 332 2)) 332 3 (zI w7M 332 3)) := zIv.put w595 (show (-2147483648) ≤ (zI w7M 332 3).toInt ∧ (zI w7M 332 3).toInt ≤ 2147483647 from (zrg (zI w7M 332 3)))
                                      refine zs_putI (pc := 232) t191_232 (zk1 (w7s.k fk_zMc_332)) rfl ?_
                                      obtain ⟨w605v, w605e, w605⟩ := ziadd (a := w7x9) (b := Int32.ofInt 1) rfl (show (Int32.ofInt 1).toInt = 1 by decide) (by omega) (by omega)
                                      refine zs_iinc (pc := 235) t191_235 (ls' := [(9, .int w605v), (7, .int w547v), (12, .int w10v), (11, .int w318v), (0, .ref 332), (1, .int a), (2, .int b), (3, .int c), (4, .int d), (5, .int e), (6, .int f), (8, .int w11x8), (10, .int w10v)]) (zml mf191 (by decide)) rfl (c := w605v) w605e rfl ?_
                                      refine zs_goto (pc := 238) t191_238 ?_
                                      refine zGo.locals (ls' := [(0, .ref 332), (1, .int a), (2, .int b), (3, .int c), (4, .int d), (5, .int e), (6, .int f), (7, .int w547v), (8, .int w11x8), (9, .int w605v)]) (by simp) ?_
                                      exact w7ih (w7m - 1) (by omega) w547v w11x8 w605v (zsI (zsI (zsI (zsI w7M 334 w545n w10v) 333 w319n w548v) 332 2 (zI w7M 332 2)) 332 3 (zI w7M 332 3)) ⟨by omega, by omega⟩ ⟨by omega, by omega⟩ ⟨by omega, by omega⟩ w7s w604 ((((((zFr.refl).trans (w7F.mono rfl)).put rfl).put rfl).put rfl).put rfl) (by omega)
                                  · refine zs_icmp_leF (pc := 206) t191_206 rfl rfl (by omega) ?_
                                    refine zs_aload_n (pc := 209) t191_209 rfl ?_
                                    refine zs_dup (pc := 210) t191_210 rfl ?_
                                    have w606 := ib332_1 w7I
                                    refine zs_get (pc := 211) t191_211 (by decide) (zk1 (w7s.k fk_zMc_332)) (zfvi rfl ((zIoj (by decide)).trans ((zIo (by decide)).trans ((zIo (by decide)).trans rfl)))) ?_
                                    refine zs_iconst (pc := 214) t191_214 (v := 1) (by decide) ?_
                                    obtain ⟨w607v, w607⟩ : ∃ v, v = (zI w7M 332 1) + (1 : Int32) := ⟨_, rfl⟩
                                    have w607g := zrg w607v
                                    refine zs_iadd (pc := 215) t191_215 (c := w607v) w607.symm ?_
                                    have w608 : zIv cLo cHi (zsI (zsI (zsI (zsI w7M 334 w545n w10v) 333 w319n w548v) 332 2 (zI w7M 332 2)) 332 1 w607v) := zIv.put w595 (show (-2147483648) ≤ w607v.toInt ∧ w607v.toInt ≤ 2147483647 from (zrg w607v))
                                    refine zs_putI (pc := 216) t191_216 (zk1 (w7s.k fk_zMc_332)) rfl ?_
                                    refine zs_aload_n (pc := 219) t191_219 rfl ?_
                                    refine zs_aload_n (pc := 220) t191_220 rfl ?_
                                    have w609 := ib332_3 w7I
                                    refine zs_get (pc := 221) t191_221 (by decide) (zk1 (w7s.k fk_zMc_332)) (zfvi rfl ((zIoj (by decide)).trans ((zIoj (by decide)).trans ((zIo (by decide)).trans ((zIo (by decide)).trans rfl))))) ?_
                                    refine zs_iload (pc := 224) t191_224 rfl ?_
                                    refine zs_iload (pc := 226) t191_226 rfl ?_
                                    obtain ⟨w610v, w610⟩ : ∃ v, v = w10v + e := ⟨_, rfl⟩
                                    have w610g := zrg w610v
                                    refine zs_iadd (pc := 228) t191_228 (c := w610v) w610.symm ?_
                                    refine zs_invS (pc := 229) (as := [.int (zI w7M 332 3), .int w610v]) (st := [.ref 332]) t191_229 (by decide) mf21 rfl rfl ⟨by decide, by decide, Nat.le_of_ble_eq_true rfl, Nat.le_of_ble_eq_true rfl⟩ (zs_in (by decide) mf21 (Nat.le_of_ble_eq_true rfl) ?_) (fun _ _ q => q)
                                    show zGo X l 0 0 0 21 0 [(0, .int (zI w7M 332 3)), (1, .int w610v)] [] (zsI (zsI (zsI (zsI w7M 334 w545n w10v) 333 w319n w548v) 332 2 (zI w7M 332 2)) 332 1 w607v) _
                                    refine zs_iload_n (pc := 0) t21_0 rfl ?_
                                    refine zs_iload_n (pc := 1) t21_1 rfl ?_
                                    by_cases w611 : (zI w7M 332 3).toInt < w610v.toInt
                                    · refine zs_icmp_ltT (pc := 2) t21_2 rfl rfl (by omega) ?_
                                      refine zs_iload_n (pc := 9) t21_9 rfl ?_
                                      refine zs_iret (pc := 10) t21_10 mr21 rfl ?_
                                      show zGo X l 1 0 0 191 232 [(7, .int w547v), (12, .int w10v), (11, .int w318v), (0, .ref 332), (1, .int a), (2, .int b), (3, .int c), (4, .int d), (5, .int e), (6, .int f), (8, .int w11x8), (9, .int w7x9), (10, .int w10v)] [.int w610v, .ref 332] (zsI (zsI (zsI (zsI w7M 334 w545n w10v) 333 w319n w548v) 332 2 (zI w7M 332 2)) 332 1 w607v) _
                                      have w612 : zIv cLo cHi (zsI (zsI (zsI (zsI (zsI w7M 334 w545n w10v) 333 w319n w548v) 332 2 (zI w7M 332 2)) 332 1 w607v) 332 3 w610v) := zIv.put w608 (show (-2147483648) ≤ w610v.toInt ∧ w610v.toInt ≤ 2147483647 from (zrg w610v))
                                      refine zs_putI (pc := 232) t191_232 (zk1 (w7s.k fk_zMc_332)) rfl ?_
                                      obtain ⟨w613v, w613e, w613⟩ := ziadd (a := w7x9) (b := Int32.ofInt 1) rfl (show (Int32.ofInt 1).toInt = 1 by decide) (by omega) (by omega)
                                      refine zs_iinc (pc := 235) t191_235 (ls' := [(9, .int w613v), (7, .int w547v), (12, .int w10v), (11, .int w318v), (0, .ref 332), (1, .int a), (2, .int b), (3, .int c), (4, .int d), (5, .int e), (6, .int f), (8, .int w11x8), (10, .int w10v)]) (zml mf191 (by decide)) rfl (c := w613v) w613e rfl ?_
                                      refine zs_goto (pc := 238) t191_238 ?_
                                      refine zGo.locals (ls' := [(0, .ref 332), (1, .int a), (2, .int b), (3, .int c), (4, .int d), (5, .int e), (6, .int f), (7, .int w547v), (8, .int w11x8), (9, .int w613v)]) (by simp) ?_
                                      exact w7ih (w7m - 1) (by omega) w547v w11x8 w613v (zsI (zsI (zsI (zsI (zsI w7M 334 w545n w10v) 333 w319n w548v) 332 2 (zI w7M 332 2)) 332 1 w607v) 332 3 w610v) ⟨by omega, by omega⟩ ⟨by omega, by omega⟩ ⟨by omega, by omega⟩ w7s w612 (((((((zFr.refl).trans (w7F.mono rfl)).put rfl).put rfl).put rfl).put rfl).put rfl) (by omega)
                                    · refine zs_icmp_ltF (pc := 2) t21_2 rfl rfl (by omega) ?_
                                      refine zs_iload_n (pc := 5) t21_5 rfl ?_
                                      refine zs_goto (pc := 6) t21_6 ?_
                                      refine zs_iret (pc := 10) t21_10 mr21 rfl ?_
                                      show zGo X l 1 0 0 191 232 [(7, .int w547v), (12, .int w10v), (11, .int w318v), (0, .ref 332), (1, .int a), (2, .int b), (3, .int c), (4, .int d), (5, .int e), (6, .int f), (8, .int w11x8), (9, .int w7x9), (10, .int w10v)] [.int (zI w7M 332 3), .ref 332] (zsI (zsI (zsI (zsI w7M 334 w545n w10v) 333 w319n w548v) 332 2 (zI w7M 332 2)) 332 1 w607v) _
                                      have w614 : zIv cLo cHi (zsI (zsI (zsI (zsI (zsI w7M 334 w545n w10v) 333 w319n w548v) 332 2 (zI w7M 332 2)) 332 1 w607v) 332 3 (zI w7M 332 3)) := zIv.put w608 (show (-2147483648) ≤ (zI w7M 332 3).toInt ∧ (zI w7M 332 3).toInt ≤ 2147483647 from (zrg (zI w7M 332 3)))
                                      refine zs_putI (pc := 232) t191_232 (zk1 (w7s.k fk_zMc_332)) rfl ?_
                                      obtain ⟨w615v, w615e, w615⟩ := ziadd (a := w7x9) (b := Int32.ofInt 1) rfl (show (Int32.ofInt 1).toInt = 1 by decide) (by omega) (by omega)
                                      refine zs_iinc (pc := 235) t191_235 (ls' := [(9, .int w615v), (7, .int w547v), (12, .int w10v), (11, .int w318v), (0, .ref 332), (1, .int a), (2, .int b), (3, .int c), (4, .int d), (5, .int e), (6, .int f), (8, .int w11x8), (10, .int w10v)]) (zml mf191 (by decide)) rfl (c := w615v) w615e rfl ?_
                                      refine zs_goto (pc := 238) t191_238 ?_
                                      refine zGo.locals (ls' := [(0, .ref 332), (1, .int a), (2, .int b), (3, .int c), (4, .int d), (5, .int e), (6, .int f), (7, .int w547v), (8, .int w11x8), (9, .int w615v)]) (by simp) ?_
                                      exact w7ih (w7m - 1) (by omega) w547v w11x8 w615v (zsI (zsI (zsI (zsI (zsI w7M 334 w545n w10v) 333 w319n w548v) 332 2 (zI w7M 332 2)) 332 1 w607v) 332 3 (zI w7M 332 3)) ⟨by omega, by omega⟩ ⟨by omega, by omega⟩ ⟨by omega, by omega⟩ w7s w614 (((((((zFr.refl).trans (w7F.mono rfl)).put rfl).put rfl).put rfl).put rfl).put rfl) (by omega)
                            · refine zs_icmp_ltF (pc := 133) t191_133 w543 rfl (by omega) ?_
                              refine zs_aload_n (pc := 136) t191_136 rfl ?_
                              refine zs_dup (pc := 137) t191_137 rfl ?_
                              have w616 := ib332_0 w7I
                              refine zs_get (pc := 138) t191_138 (by decide) (zk1 (w7s.k fk_zMc_332)) (zfvi rfl rfl) ?_
                              refine zs_iconst (pc := 141) t191_141 (v := 1) (by decide) ?_
                              obtain ⟨w617v, w617⟩ : ∃ v, v = (zI w7M 332 0) + (1 : Int32) := ⟨_, rfl⟩
                              have w617g := zrg w617v
                              refine zs_iadd (pc := 142) t191_142 (c := w617v) w617.symm ?_
                              have w618 : zIv cLo cHi (zsI w7M 332 0 w617v) := zIv.put w7I (show (-2147483648) ≤ w617v.toInt ∧ w617v.toInt ≤ 2147483647 from (zrg w617v))
                              refine zs_putI (pc := 143) t191_143 (zk1 (w7s.k fk_zMc_332)) rfl ?_
                              refine zs_goto (pc := 146) t191_146 ?_
                              obtain ⟨w619v, w619e, w619⟩ := ziadd (a := w7x9) (b := Int32.ofInt 1) rfl (show (Int32.ofInt 1).toInt = 1 by decide) (by omega) (by omega)
                              refine zs_iinc (pc := 235) t191_235 (ls' := [(9, .int w619v), (12, .int w10v), (11, .int w318v), (0, .ref 332), (1, .int a), (2, .int b), (3, .int c), (4, .int d), (5, .int e), (6, .int f), (7, .int w7x7), (8, .int w11x8), (10, .int w10v)]) (zml mf191 (by decide)) rfl (c := w619v) w619e rfl ?_
                              refine zs_goto (pc := 238) t191_238 ?_
                              refine zGo.locals (ls' := [(0, .ref 332), (1, .int a), (2, .int b), (3, .int c), (4, .int d), (5, .int e), (6, .int f), (7, .int w7x7), (8, .int w11x8), (9, .int w619v)]) (by simp) ?_
                              exact w7ih (w7m - 1) (by omega) w7x7 w11x8 w619v (zsI w7M 332 0 w617v) ⟨by omega, by omega⟩ ⟨by omega, by omega⟩ ⟨by omega, by omega⟩ w7s w618 (((zFr.refl).trans (w7F.mono rfl)).put rfl) (by omega)
                      · refine zs_icmp_gtF (pc := 89) t191_89 rfl rfl (by omega) ?_
                        obtain ⟨w620v, w620e, w620⟩ := ziadd (a := w11x8) (b := Int32.ofInt 1) rfl (show (Int32.ofInt 1).toInt = 1 by decide) (by omega) (by omega)
                        refine zs_iinc (pc := 92) t191_92 (ls' := [(8, .int w620v), (0, .ref 332), (1, .int a), (2, .int b), (3, .int c), (4, .int d), (5, .int e), (6, .int f), (7, .int w7x7), (9, .int w7x9), (10, .int w10v)]) (zml mf191 (by decide)) rfl (c := w620v) w620e rfl ?_
                        refine zs_goto (pc := 95) t191_95 ?_
                        refine zGo.locals (ls' := [(0, .ref 332), (1, .int a), (2, .int b), (3, .int c), (4, .int d), (5, .int e), (6, .int f), (7, .int w7x7), (8, .int w620v), (9, .int w7x9), (10, .int w10v)]) (by simp) ?_
                        exact w11ih (w11m - 1) (by omega) w620v ⟨by omega, by omega⟩ (by omega)
                refine zGo.locals (ls' := [(0, .ref 332), (1, .int a), (2, .int b), (3, .int c), (4, .int d), (5, .int e), (6, .int f), (7, .int w7x7), (8, .int w7x8), (9, .int w7x9), (10, .int w10v)]) (by simp) ?_
                exact w11L ((200 - w7x8.toInt : Int).toNat) w7x8 ⟨by omega, by omega⟩ (by omega)
        refine zGo.locals (ls' := [(0, .ref 332), (1, .int a), (2, .int b), (3, .int c), (4, .int d), (5, .int e), (6, .int f), (7, .int (0 : Int32)), (8, .int (0 : Int32)), (9, .int (0 : Int32))]) (by simp) ?_
        have w621 := li0
        have w622 := li0
        have w623 := li0
        exact w7L ((200 - 0 : Int).toNat) (0 : Int32) (0 : Int32) (0 : Int32) w5M ⟨by decide, by decide⟩ ⟨by decide, by decide⟩ ⟨by decide, by decide⟩ w5s w5I zFr.refl (by omega)
      · refine zs_icmp_geF (pc := 27) t191_27 rfl li8 (by omega) ?_
        refine zs_aload_n (pc := 30) t191_30 rfl ?_
        refine zs_get (pc := 31) t191_31 (by decide) (zk1 (w5s.k fk_zMc_332)) (w5s.p rfl fv_zMc_332_4) ?_
        refine zs_iload (pc := 34) t191_34 rfl ?_
        refine zs_iconst (pc := 36) t191_36 (v := 0) (by decide) ?_
        obtain ⟨w624n, w624⟩ : ∃ n : Nat, w5x7.toInt = (n : Int) := ⟨w5x7.toInt.toNat, by omega⟩
        have w625 : zIv cLo cHi (zsI w5M 333 w624n (0 : Int32)) := zIv.put w5I (show (-2147483648) ≤ (0 : Int32).toInt ∧ (0 : Int32).toInt ≤ 2147483647 from (zrg (0 : Int32)))
        refine zs_iast (pc := 37) t191_37 (j := w624n) (by decide) (zk1 (w5s.k fk_zMc_333)) w624 (zk2 (w5s.k fk_zMc_333) (by omega)) ?_
        obtain ⟨w626v, w626e, w626⟩ := ziadd (a := w5x7) (b := Int32.ofInt 1) rfl (show (Int32.ofInt 1).toInt = 1 by decide) (by omega) (by omega)
        refine zs_iinc (pc := 38) t191_38 (ls' := [(7, .int w626v), (0, .ref 332), (1, .int a), (2, .int b), (3, .int c), (4, .int d), (5, .int e), (6, .int f)]) (zml mf191 (by decide)) rfl (c := w626v) w626e rfl ?_
        refine zs_goto (pc := 41) t191_41 ?_
        refine zGo.locals (ls' := [(0, .ref 332), (1, .int a), (2, .int b), (3, .int c), (4, .int d), (5, .int e), (6, .int f), (7, .int w626v)]) (by simp) ?_
        exact w5ih (w5m - 1) (by omega) w626v (zsI w5M 333 w624n (0 : Int32)) ⟨by omega, by omega⟩ w5s w625 (((zFr.refl).trans (w5F.mono rfl)).put rfl) (by omega)
  refine zGo.locals (ls' := [(0, .ref 332), (1, .int a), (2, .int b), (3, .int c), (4, .int d), (5, .int e), (6, .int f), (7, .int (0 : Int32))]) (by simp) ?_
  have w627 := li0
  exact w5L ((8 - 0 : Int).toNat) (0 : Int32) (zsI (zsI (zsI (zsI M 332 0 (0 : Int32)) 332 1 (0 : Int32)) 332 2 (0 : Int32)) 332 3 (0 : Int32)) ⟨by decide, by decide⟩ hs w4 zFr.refl (by omega)
