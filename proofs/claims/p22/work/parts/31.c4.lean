theorem K275 {X : zX} {l : Launch} {M : zM} {Q : Option Value → zM → Prop} {a b : Int32} (hs : zSk zMm M) (hI : zIv mLo mHi M) (hQ : ∀ M', zSk zMm M' → zIv mLo mHi M' → zFr [(344, 344, none)] M M' → zJ M' 351 = zJ M 351 → (zLy M' a b) → Q none M') : zCall X l 3 0 0 275 [.ref 336, .int a, .int b] M Q := by
  have ga := zrg a
  have gb := zrg b
  refine zs_in (by decide) mf275 (Nat.le_of_ble_eq_true rfl) ?_
  show zGo X l 3 0 0 275 0 [(0, .ref 336), (1, .int a), (2, .int b)] [] M _
  refine zs_iconst (pc := 0) t275_0 (v := 0) (by decide) ?_
  refine zs_istore_n (pc := 1) t275_1 (ls' := [(3, .int (0 : Int32)), (0, .ref 336), (1, .int a), (2, .int b)]) (zml mf275 (by decide)) rfl ?_
  have w1L : ∀ (m : Nat) (w1x3 : Int32) (w1M : zM), (0 ≤ w1x3.toInt ∧ w1x3.toInt ≤ 60) → zSk zMm w1M → zIv mLo mHi w1M → zFr [(344, 344, none)] M w1M → zJ w1M 351 = zJ M 351 → (zLn M w1M a b (w1x3.toInt).toNat) → 60 - w1x3.toInt ≤ (m : Int) → zGo X l 3 0 0 275 2 [(0, .ref 336), (1, .int a), (2, .int b), (3, .int w1x3)] [] w1M Q := by
    intro m
    induction m using Nat.strongRecOn with
    | ind w1m w1ih =>
      intro w1x3 w1M w1b3 w1s w1I w1F w1J w1t0 w1q
      refine zs_iload_n (pc := 2) t275_2 rfl ?_
      refine zs_aload_n (pc := 3) t275_3 rfl ?_
      refine zs_get (pc := 4) t275_4 (by decide) (zk1 (w1s.k fk_zMm_336)) (w1s.p rfl fv_zMm_336_0) ?_
      refine zs_iconst (pc := 7) t275_7 (v := 1) (by decide) ?_
      have w2 := ibA1 hI
      refine zs_iald (pc := 8) t275_8 (j := 1) (by decide) (zk1 (w1s.k fk_zMm_337)) li1 (zk2 (w1s.k fk_zMm_337) (by decide)) ((w1F 337 1 rfl).trans rfl) ?_
      by_cases w3 : (zI M 337 1).toInt ≤ w1x3.toInt
      · refine zs_icmp_geT (pc := 9) t275_9 rfl rfl (by omega) ?_
        exact zs_vret (pc := 64) t275_64 mr275 (hQ _ w1s w1I ((zFr.refl).trans (w1F.mono rfl)) w1J (zLn.all w1t0 (by omega) (((zFr.refl).trans (w1F.mono rfl)).eq (W := [(344, 344, none)]) rfl)))
      · refine zs_icmp_geF (pc := 9) t275_9 rfl rfl (by omega) ?_
        refine zs_aload_n (pc := 12) t275_12 rfl ?_
        refine zs_get (pc := 13) t275_13 (by decide) (zk1 (w1s.k fk_zMm_336)) (w1s.p rfl fv_zMm_336_16) ?_
        refine zs_iload_n (pc := 16) t275_16 rfl ?_
        obtain ⟨w4n, w4⟩ : ∃ n : Nat, w1x3.toInt = (n : Int) := ⟨(w1x3.toInt).toNat, by omega⟩
        have w5 := ib343 hI w4n
        refine zs_bald (pc := 17) t275_17 (j := w4n) (Or.inr (zk1 (w1s.k fk_zMm_343))) (show w1x3.toInt = ((w4n : Nat) : Int) by omega) (zk2 (w1s.k fk_zMm_343) (by omega)) ((w1F 343 w4n rfl).trans rfl) ?_
        by_cases w6 : (zI M 343 w4n).toInt = 0
        · refine zs_if_eqT (pc := 18) t275_18 rfl (by omega) ?_
          obtain ⟨w7v, w7e, w7⟩ := ziadd (a := w1x3) (b := Int32.ofInt 1) rfl (show (Int32.ofInt 1).toInt = 1 by decide) (by omega) (by omega)
          refine zs_iinc (pc := 58) t275_58 (ls' := [(3, .int w7v), (0, .ref 336), (1, .int a), (2, .int b)]) (zml mf275 (by decide)) rfl (c := w7v) w7e rfl ?_
          refine zs_goto (pc := 61) t275_61 ?_
          refine zGo.locals (ls' := [(0, .ref 336), (1, .int a), (2, .int b), (3, .int w7v)]) (by simp) ?_
          have w8 := w7
          exact w1ih (w1m - 1) (by omega) w7v w1M ⟨by omega, by omega⟩ w1s w1I ((zFr.refl).trans (w1F.mono rfl)) w1J (zLn.skip (j := w4n) w1t0 (by omega) (by omega) (by omega)) (by omega)
        · refine zs_if_eqF (pc := 18) t275_18 rfl (by omega) ?_
          refine zs_aload_n (pc := 21) t275_21 rfl ?_
          refine zs_get (pc := 22) t275_22 (by decide) (zk1 (w1s.k fk_zMm_336)) (w1s.p rfl fv_zMm_336_17) ?_
          refine zs_iload_n (pc := 25) t275_25 rfl ?_
          refine zs_aload_n (pc := 26) t275_26 rfl ?_
          refine zs_iload_n (pc := 27) t275_27 rfl ?_
          refine zs_iconst (pc := 28) t275_28 (v := 1) (by decide) ?_
          refine zs_invV (pc := 29) (k := 336) (as' := [.int w1x3, .int (1 : Int32)]) (st := [.int w1x3, .ref 344]) t275_29 mf272 rfl rfl (Or.inl ⟨by decide, (zk1 (w1s.k fk_zMm_336))⟩) ⟨by decide, by decide, Nat.le_of_ble_eq_true rfl, Nat.le_of_ble_eq_true rfl⟩ (zs_in (by decide) mf272 (Nat.le_of_ble_eq_true rfl) ?_) (fun _ _ q => q)
          show zGo X l 0 0 0 272 0 [(0, .ref 336), (1, .int w1x3), (2, .int (1 : Int32))] [] w1M _
          refine zs_aload_n (pc := 0) t272_0 rfl ?_
          refine zs_get (pc := 1) t272_1 (by decide) (zk1 (w1s.k fk_zMm_336)) (w1s.p rfl fv_zMm_336_0) ?_
          refine zs_bipush (pc := 4) t272_4 (v := 30) (by decide) ?_
          refine zs_iconst (pc := 6) t272_6 (v := 4) (by decide) ?_
          refine zs_iload_n (pc := 7) t272_7 rfl ?_
          obtain ⟨w9v, w9⟩ : ∃ v, (4 : Int32) * w1x3 = v := ⟨_, rfl⟩
          have w9g : w9v.toInt = 4 * w1x3.toInt := by rw [← w9]; exact zmulc li4 rfl (by omega) (by omega)
          refine zs_imul (pc := 8) t272_8 (c := w9v) w9 ?_
          obtain ⟨w10v, w10e, w10⟩ := ziadd (a := (30 : Int32)) (b := w9v) li30 w9g (by omega) (by omega)
          refine zs_iadd (pc := 9) t272_9 (c := w10v) w10e ?_
          refine zs_iload_n (pc := 10) t272_10 rfl ?_
          obtain ⟨w11v, w11e, w11⟩ := ziadd (a := w10v) (b := (1 : Int32)) w10 li1 (by omega) (by omega)
          refine zs_iadd (pc := 11) t272_11 (c := w11v) w11e ?_
          have w12 := zrg (zI M 337 (31 + 4 * w4n))
          refine zs_iald (pc := 12) t272_12 (j := (31 + 4 * w4n)) (by decide) (zk1 (w1s.k fk_zMm_337)) (show w11v.toInt = (((31 + 4 * w4n) : Nat) : Int) by omega) (zk2 (w1s.k fk_zMm_337) (by omega)) ((w1F 337 (31 + 4 * w4n) rfl).trans rfl) ?_
          refine zs_iret (pc := 13) t272_13 mr272 rfl ?_
          show zGo X l 3 0 0 275 32 [(0, .ref 336), (1, .int a), (2, .int b), (3, .int w1x3)] [.int (zI M 337 (31 + 4 * w4n)), .int w1x3, .ref 344] w1M _
          refine zs_aload_n (pc := 32) t275_32 rfl ?_
          refine zs_aload_n (pc := 33) t275_33 rfl ?_
          refine zs_iload_n (pc := 34) t275_34 rfl ?_
          refine zs_iconst (pc := 35) t275_35 (v := 0) (by decide) ?_
          refine zs_invV (pc := 36) (k := 336) (as' := [.int w1x3, .int (0 : Int32)]) (st := [.ref 336, .int (zI M 337 (31 + 4 * w4n)), .int w1x3, .ref 344]) t275_36 mf272 rfl rfl (Or.inl ⟨by decide, (zk1 (w1s.k fk_zMm_336))⟩) ⟨by decide, by decide, Nat.le_of_ble_eq_true rfl, Nat.le_of_ble_eq_true rfl⟩ (zs_in (by decide) mf272 (Nat.le_of_ble_eq_true rfl) ?_) (fun _ _ q => q)
          show zGo X l 0 0 0 272 0 [(0, .ref 336), (1, .int w1x3), (2, .int (0 : Int32))] [] w1M _
          refine zs_aload_n (pc := 0) t272_0 rfl ?_
          refine zs_get (pc := 1) t272_1 (by decide) (zk1 (w1s.k fk_zMm_336)) (w1s.p rfl fv_zMm_336_0) ?_
          refine zs_bipush (pc := 4) t272_4 (v := 30) (by decide) ?_
          refine zs_iconst (pc := 6) t272_6 (v := 4) (by decide) ?_
          refine zs_iload_n (pc := 7) t272_7 rfl ?_
          obtain ⟨w13v, w13⟩ : ∃ v, (4 : Int32) * w1x3 = v := ⟨_, rfl⟩
          have w13g : w13v.toInt = 4 * w1x3.toInt := by rw [← w13]; exact zmulc li4 rfl (by omega) (by omega)
          refine zs_imul (pc := 8) t272_8 (c := w13v) w13 ?_
          obtain ⟨w14v, w14e, w14⟩ := ziadd (a := (30 : Int32)) (b := w13v) li30 w13g (by omega) (by omega)
          refine zs_iadd (pc := 9) t272_9 (c := w14v) w14e ?_
          refine zs_iload_n (pc := 10) t272_10 rfl ?_
          obtain ⟨w15v, w15e, w15⟩ := ziadd (a := w14v) (b := (0 : Int32)) w14 li0 (by omega) (by omega)
          refine zs_iadd (pc := 11) t272_11 (c := w15v) w15e ?_
          have w16 := ibL (j := (30 + 4 * w4n)) hI (by omega) (by omega) (by omega)
          refine zs_iald (pc := 12) t272_12 (j := (30 + 4 * w4n)) (by decide) (zk1 (w1s.k fk_zMm_337)) (show w15v.toInt = (((30 + 4 * w4n) : Nat) : Int) by omega) (zk2 (w1s.k fk_zMm_337) (by omega)) ((w1F 337 (30 + 4 * w4n) rfl).trans rfl) ?_
          refine zs_iret (pc := 13) t272_13 mr272 rfl ?_
          show zGo X l 3 0 0 275 39 [(0, .ref 336), (1, .int a), (2, .int b), (3, .int w1x3)] [.int (zI M 337 (30 + 4 * w4n)), .ref 336, .int (zI M 337 (31 + 4 * w4n)), .int w1x3, .ref 344] w1M _
          refine zs_iload_n (pc := 39) t275_39 rfl ?_
          refine zs_iload_n (pc := 40) t275_40 rfl ?_
          refine zs_invV (pc := 41) (k := 336) (as' := [.int (zI M 337 (30 + 4 * w4n)), .int a, .int b]) (st := [.int (zI M 337 (31 + 4 * w4n)), .int w1x3, .ref 344]) t275_41 mf249 rfl rfl (Or.inl ⟨by decide, (zk1 (w1s.k fk_zMm_336))⟩) ⟨by decide, by decide, Nat.le_of_ble_eq_true rfl, Nat.le_of_ble_eq_true rfl⟩ (K249 w1s w1I ⟨by omega, by omega⟩ ?_) (fun _ _ q => q)
          have w17 := zrg (zlift w1M (zI M 337 (30 + 4 * w4n)) a b)
          show zGo X l 3 0 0 275 44 [(0, .ref 336), (1, .int a), (2, .int b), (3, .int w1x3)] [.int (zlift w1M (zI M 337 (30 + 4 * w4n)) a b), .int (zI M 337 (31 + 4 * w4n)), .int w1x3, .ref 344] w1M _
          obtain ⟨w18v, w18⟩ : ∃ v, v = (zI M 337 (31 + 4 * w4n)) - (zlift w1M (zI M 337 (30 + 4 * w4n)) a b) := ⟨_, rfl⟩
          have w18g := zrg w18v
          refine zs_isub (pc := 44) t275_44 (c := w18v) w18.symm ?_
          refine zs_i2l (pc := 45) t275_45 rfl ?_
          refine zs_aload_n (pc := 46) t275_46 rfl ?_
          refine zs_get (pc := 47) t275_47 (by decide) (zk1 (w1s.k fk_zMm_336)) (w1s.p rfl fv_zMm_336_0) ?_
          refine zs_bipush (pc := 50) t275_50 (v := 7) (by decide) ?_
          have w19 := ibA7 hI
          refine zs_iald (pc := 52) t275_52 (j := 7) (by decide) (zk1 (w1s.k fk_zMm_337)) li7 (zk2 (w1s.k fk_zMm_337) (by decide)) ((w1F 337 7 rfl).trans rfl) ?_
          refine zs_i2l (pc := 53) t275_53 rfl ?_
          have w20 : w18v.toInt64.toInt = w18v.toInt := (zi2l rfl)
          have w21 : (zI M 337 7).toInt64.toInt = (zI M 337 7).toInt := (zi2l rfl)
          refine zs_invS (pc := 54) (as := [.long w18v.toInt64, .long (zI M 337 7).toInt64]) (st := [.int w1x3, .ref 344]) t275_54 (by decide) mf250 rfl rfl ⟨by decide, by decide, Nat.le_of_ble_eq_true rfl, Nat.le_of_ble_eq_true rfl⟩ (K250 w1s w1I ⟨by omega, by omega⟩ ?_) (fun _ _ q => q)
          have w22 := zrg (zflr w18v.toInt64 (zI M 337 7).toInt64)
          show zGo X l 3 0 0 275 57 [(0, .ref 336), (1, .int a), (2, .int b), (3, .int w1x3)] [.int (zflr w18v.toInt64 (zI M 337 7).toInt64), .int w1x3, .ref 344] w1M _
          have w23 : zIv mLo mHi (zsI w1M 344 w4n (zflr w18v.toInt64 (zI M 337 7).toInt64)) := zIv.put w1I (show (-2147483648) ≤ (zflr w18v.toInt64 (zI M 337 7).toInt64).toInt ∧ (zflr w18v.toInt64 (zI M 337 7).toInt64).toInt ≤ 2147483647 from zrg (zflr w18v.toInt64 (zI M 337 7).toInt64))
          refine zs_iast (pc := 57) t275_57 (j := w4n) (by decide) (zk1 (w1s.k fk_zMm_344)) (show w1x3.toInt = ((w4n : Nat) : Int) by omega) (zk2 (w1s.k fk_zMm_344) (by omega)) ?_
          obtain ⟨w24v, w24e, w24⟩ := ziadd (a := w1x3) (b := Int32.ofInt 1) rfl (show (Int32.ofInt 1).toInt = 1 by decide) (by omega) (by omega)
          refine zs_iinc (pc := 58) t275_58 (ls' := [(3, .int w24v), (0, .ref 336), (1, .int a), (2, .int b)]) (zml mf275 (by decide)) rfl (c := w24v) w24e rfl ?_
          refine zs_goto (pc := 61) t275_61 ?_
          refine zGo.locals (ls' := [(0, .ref 336), (1, .int a), (2, .int b), (3, .int w24v)]) (by simp) ?_
          have w25 := w24
          exact w1ih (w1m - 1) (by omega) w24v (zsI w1M 344 w4n (zflr w18v.toInt64 (zI M 337 7).toInt64)) ⟨by omega, by omega⟩ w1s w23 (((zFr.refl).trans (w1F.mono rfl)).put rfl) w1J (zLn.put w1t0 (by omega) (by omega) (by unfold zcell; rw [w18, zlift.fr (fun j => (w1F 337 j rfl))])) (by omega)
  refine zGo.locals (ls' := [(0, .ref 336), (1, .int a), (2, .int b), (3, .int (0 : Int32))]) (by simp) ?_
  have w26 := li0
  exact w1L ((60 - 0 : Int).toNat) (0 : Int32) M ⟨by decide, by decide⟩ hs hI zFr.refl rfl (zLn.nil (by omega)) (by omega)
theorem K278_0 {X : zX} {l : Launch} {M : zM} {Q : Option Value → zM → Prop} (hs : zSk zMm M) (hI : zIv mLo mHi M) (hQ : ∀ v : Int32, 0 ≤ v.toInt → v.toInt ≤ 1 → Q (some (.int v)) M) : zCall X l 0 0 0 278 [.int (0 : Int32)] M Q := by
  refine zs_in (by decide) mf278 (Nat.le_of_ble_eq_true rfl) ?_
  show zGo X l 0 0 0 278 0 [(0, .int (0 : Int32))] [] M _
  refine zs_iconst (pc := 0) t278_0 (v := 0) (by decide) ?_
  refine zs_istore_n (pc := 1) t278_1 (ls' := [(1, .int (0 : Int32)), (0, .int (0 : Int32))]) (zml mf278 (by decide)) rfl ?_
  refine zs_iconst (pc := 2) t278_2 (v := 0) (by decide) ?_
  refine zs_istore_n (pc := 3) t278_3 (ls' := [(2, .int (0 : Int32)), (1, .int (0 : Int32)), (0, .int (0 : Int32))]) (zml mf278 (by decide)) rfl ?_
  refine zs_iload_n (pc := 4) t278_4 rfl ?_
  refine zs_bipush (pc := 5) t278_5 (v := 8) (by decide) ?_
  refine zs_icmp_geF (pc := 7) t278_7 li0 li8 (by decide) ?_
  refine zs_iload_n (pc := 10) t278_10 rfl ?_
  refine zs_iload_n (pc := 11) t278_11 rfl ?_
  refine zs_iload_n (pc := 12) t278_12 rfl ?_
  refine zs_ishr (pc := 13) t278_13 (c := 0) (by decide) ?_
  refine zs_iconst (pc := 14) t278_14 (v := 1) (by decide) ?_
  refine zs_iand (pc := 15) t278_15 (c := 0) (by decide) ?_
  refine zs_iadd (pc := 16) t278_16 (c := 0) (by decide) ?_
  refine zs_istore_n (pc := 17) t278_17 (ls' := [(1, .int (0 : Int32)), (2, .int (0 : Int32)), (0, .int (0 : Int32))]) (zml mf278 (by decide)) rfl ?_
  refine zs_iinc (pc := 18) t278_18 (ls' := [(2, .int (1 : Int32)), (1, .int (0 : Int32)), (0, .int (0 : Int32))]) (zml mf278 (by decide)) rfl (c := 1) (by decide) rfl ?_
  refine zs_goto (pc := 21) t278_21 ?_
  refine zs_iload_n (pc := 4) t278_4 rfl ?_
  refine zs_bipush (pc := 5) t278_5 (v := 8) (by decide) ?_
  refine zs_icmp_geF (pc := 7) t278_7 li1 li8 (by decide) ?_
  refine zs_iload_n (pc := 10) t278_10 rfl ?_
  refine zs_iload_n (pc := 11) t278_11 rfl ?_
  refine zs_iload_n (pc := 12) t278_12 rfl ?_
  refine zs_ishr (pc := 13) t278_13 (c := 0) (by decide) ?_
  refine zs_iconst (pc := 14) t278_14 (v := 1) (by decide) ?_
  refine zs_iand (pc := 15) t278_15 (c := 0) (by decide) ?_
  refine zs_iadd (pc := 16) t278_16 (c := 0) (by decide) ?_
  refine zs_istore_n (pc := 17) t278_17 (ls' := [(1, .int (0 : Int32)), (2, .int (1 : Int32)), (0, .int (0 : Int32))]) (zml mf278 (by decide)) rfl ?_
  refine zs_iinc (pc := 18) t278_18 (ls' := [(2, .int (2 : Int32)), (1, .int (0 : Int32)), (0, .int (0 : Int32))]) (zml mf278 (by decide)) rfl (c := 2) (by decide) rfl ?_
  refine zs_goto (pc := 21) t278_21 ?_
  refine zs_iload_n (pc := 4) t278_4 rfl ?_
  refine zs_bipush (pc := 5) t278_5 (v := 8) (by decide) ?_
  refine zs_icmp_geF (pc := 7) t278_7 li2 li8 (by decide) ?_
  refine zs_iload_n (pc := 10) t278_10 rfl ?_
  refine zs_iload_n (pc := 11) t278_11 rfl ?_
  refine zs_iload_n (pc := 12) t278_12 rfl ?_
  refine zs_ishr (pc := 13) t278_13 (c := 0) (by decide) ?_
  refine zs_iconst (pc := 14) t278_14 (v := 1) (by decide) ?_
  refine zs_iand (pc := 15) t278_15 (c := 0) (by decide) ?_
  refine zs_iadd (pc := 16) t278_16 (c := 0) (by decide) ?_
  refine zs_istore_n (pc := 17) t278_17 (ls' := [(1, .int (0 : Int32)), (2, .int (2 : Int32)), (0, .int (0 : Int32))]) (zml mf278 (by decide)) rfl ?_
  refine zs_iinc (pc := 18) t278_18 (ls' := [(2, .int (3 : Int32)), (1, .int (0 : Int32)), (0, .int (0 : Int32))]) (zml mf278 (by decide)) rfl (c := 3) (by decide) rfl ?_
  refine zs_goto (pc := 21) t278_21 ?_
  refine zs_iload_n (pc := 4) t278_4 rfl ?_
  refine zs_bipush (pc := 5) t278_5 (v := 8) (by decide) ?_
  refine zs_icmp_geF (pc := 7) t278_7 li3 li8 (by decide) ?_
  refine zs_iload_n (pc := 10) t278_10 rfl ?_
  refine zs_iload_n (pc := 11) t278_11 rfl ?_
  refine zs_iload_n (pc := 12) t278_12 rfl ?_
  refine zs_ishr (pc := 13) t278_13 (c := 0) (by decide) ?_
  refine zs_iconst (pc := 14) t278_14 (v := 1) (by decide) ?_
  refine zs_iand (pc := 15) t278_15 (c := 0) (by decide) ?_
  refine zs_iadd (pc := 16) t278_16 (c := 0) (by decide) ?_
  refine zs_istore_n (pc := 17) t278_17 (ls' := [(1, .int (0 : Int32)), (2, .int (3 : Int32)), (0, .int (0 : Int32))]) (zml mf278 (by decide)) rfl ?_
  refine zs_iinc (pc := 18) t278_18 (ls' := [(2, .int (4 : Int32)), (1, .int (0 : Int32)), (0, .int (0 : Int32))]) (zml mf278 (by decide)) rfl (c := 4) (by decide) rfl ?_
  refine zs_goto (pc := 21) t278_21 ?_
  refine zs_iload_n (pc := 4) t278_4 rfl ?_
  refine zs_bipush (pc := 5) t278_5 (v := 8) (by decide) ?_
  refine zs_icmp_geF (pc := 7) t278_7 li4 li8 (by decide) ?_
  refine zs_iload_n (pc := 10) t278_10 rfl ?_
  refine zs_iload_n (pc := 11) t278_11 rfl ?_
  refine zs_iload_n (pc := 12) t278_12 rfl ?_
  refine zs_ishr (pc := 13) t278_13 (c := 0) (by decide) ?_
  refine zs_iconst (pc := 14) t278_14 (v := 1) (by decide) ?_
  refine zs_iand (pc := 15) t278_15 (c := 0) (by decide) ?_
  refine zs_iadd (pc := 16) t278_16 (c := 0) (by decide) ?_
  refine zs_istore_n (pc := 17) t278_17 (ls' := [(1, .int (0 : Int32)), (2, .int (4 : Int32)), (0, .int (0 : Int32))]) (zml mf278 (by decide)) rfl ?_
  refine zs_iinc (pc := 18) t278_18 (ls' := [(2, .int (5 : Int32)), (1, .int (0 : Int32)), (0, .int (0 : Int32))]) (zml mf278 (by decide)) rfl (c := 5) (by decide) rfl ?_
  refine zs_goto (pc := 21) t278_21 ?_
  refine zs_iload_n (pc := 4) t278_4 rfl ?_
  refine zs_bipush (pc := 5) t278_5 (v := 8) (by decide) ?_
  refine zs_icmp_geF (pc := 7) t278_7 li5 li8 (by decide) ?_
  refine zs_iload_n (pc := 10) t278_10 rfl ?_
  refine zs_iload_n (pc := 11) t278_11 rfl ?_
  refine zs_iload_n (pc := 12) t278_12 rfl ?_
  refine zs_ishr (pc := 13) t278_13 (c := 0) (by decide) ?_
  refine zs_iconst (pc := 14) t278_14 (v := 1) (by decide) ?_
  refine zs_iand (pc := 15) t278_15 (c := 0) (by decide) ?_
  refine zs_iadd (pc := 16) t278_16 (c := 0) (by decide) ?_
  refine zs_istore_n (pc := 17) t278_17 (ls' := [(1, .int (0 : Int32)), (2, .int (5 : Int32)), (0, .int (0 : Int32))]) (zml mf278 (by decide)) rfl ?_
  refine zs_iinc (pc := 18) t278_18 (ls' := [(2, .int (6 : Int32)), (1, .int (0 : Int32)), (0, .int (0 : Int32))]) (zml mf278 (by decide)) rfl (c := 6) (by decide) rfl ?_
  refine zs_goto (pc := 21) t278_21 ?_
  refine zs_iload_n (pc := 4) t278_4 rfl ?_
  refine zs_bipush (pc := 5) t278_5 (v := 8) (by decide) ?_
  refine zs_icmp_geF (pc := 7) t278_7 li6 li8 (by decide) ?_
  refine zs_iload_n (pc := 10) t278_10 rfl ?_
  refine zs_iload_n (pc := 11) t278_11 rfl ?_
  refine zs_iload_n (pc := 12) t278_12 rfl ?_
  refine zs_ishr (pc := 13) t278_13 (c := 0) (by decide) ?_
  refine zs_iconst (pc := 14) t278_14 (v := 1) (by decide) ?_
  refine zs_iand (pc := 15) t278_15 (c := 0) (by decide) ?_
  refine zs_iadd (pc := 16) t278_16 (c := 0) (by decide) ?_
  refine zs_istore_n (pc := 17) t278_17 (ls' := [(1, .int (0 : Int32)), (2, .int (6 : Int32)), (0, .int (0 : Int32))]) (zml mf278 (by decide)) rfl ?_
  refine zs_iinc (pc := 18) t278_18 (ls' := [(2, .int (7 : Int32)), (1, .int (0 : Int32)), (0, .int (0 : Int32))]) (zml mf278 (by decide)) rfl (c := 7) (by decide) rfl ?_
  refine zs_goto (pc := 21) t278_21 ?_
  refine zs_iload_n (pc := 4) t278_4 rfl ?_
  refine zs_bipush (pc := 5) t278_5 (v := 8) (by decide) ?_
  refine zs_icmp_geF (pc := 7) t278_7 li7 li8 (by decide) ?_
  refine zs_iload_n (pc := 10) t278_10 rfl ?_
  refine zs_iload_n (pc := 11) t278_11 rfl ?_
  refine zs_iload_n (pc := 12) t278_12 rfl ?_
  refine zs_ishr (pc := 13) t278_13 (c := 0) (by decide) ?_
  refine zs_iconst (pc := 14) t278_14 (v := 1) (by decide) ?_
  refine zs_iand (pc := 15) t278_15 (c := 0) (by decide) ?_
  refine zs_iadd (pc := 16) t278_16 (c := 0) (by decide) ?_
  refine zs_istore_n (pc := 17) t278_17 (ls' := [(1, .int (0 : Int32)), (2, .int (7 : Int32)), (0, .int (0 : Int32))]) (zml mf278 (by decide)) rfl ?_
  refine zs_iinc (pc := 18) t278_18 (ls' := [(2, .int (8 : Int32)), (1, .int (0 : Int32)), (0, .int (0 : Int32))]) (zml mf278 (by decide)) rfl (c := 8) (by decide) rfl ?_
  refine zs_goto (pc := 21) t278_21 ?_
  refine zs_iload_n (pc := 4) t278_4 rfl ?_
  refine zs_bipush (pc := 5) t278_5 (v := 8) (by decide) ?_
  refine zs_icmp_geT (pc := 7) t278_7 li8 li8 (by decide) ?_
  refine zs_iload_n (pc := 24) t278_24 rfl ?_
  exact zs_iret (pc := 25) t278_25 mr278 (by decide) (hQ _ (by decide) (by decide))
