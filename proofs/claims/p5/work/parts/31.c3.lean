theorem zrowN {M : zM} {k j r : Nat} {v : Int32} (h : 337 ≠ k) : zrow (zsI M k j v) r = zrow M r := funext fun _ => zIo h
theorem K226 {X : zX} {l : Launch} {M : zM} {Q : Option Value → zM → Prop} {a b : Int32} {na nb : Nat} (hs : zSk zMm M) (hI : zIv mLo mHi M) (ha : a.toInt = (na : Int)) (hb : b.toInt = (nb : Int)) (h1 : na ≤ 11) (h2 : nb ≤ 11) (hab : na ≠ nb) (hk : zRk (zrow M na)) (hQ : ∀ M', zSk zMm M' → zIv mLo mHi M' → zFr [(337, 337, none)] M M' → zJ M' 351 = zJ M 351 → zCp M M' na nb 506 → Q none M') : zCall X l 0 0 0 226 [.ref 336, .int a, .int b] M Q := by
  refine zs_in (by decide) mf226 (Nat.le_of_ble_eq_true rfl) ?_
  show zGo X l 0 0 0 226 0 [(0, .ref 336), (1, .int a), (2, .int b)] [] M _
  refine zs_iconst (pc := 0) t226_0 (v := 0) (by decide) ?_
  refine zs_istore_n (pc := 1) t226_1 (ls' := [(3, .int (0 : Int32)), (0, .ref 336), (1, .int a), (2, .int b)]) (zml mf226 (by decide)) rfl ?_
  have w1L : ∀ (m : Nat) (w1x3 : Int32) (w1M : zM), (0 ≤ w1x3.toInt ∧ w1x3.toInt ≤ 506) → zSk zMm w1M → zIv mLo mHi w1M → zFr [(337, 337, none)] M w1M → zJ w1M 351 = zJ M 351 → (zCp M w1M na nb (w1x3.toInt).toNat) → 506 - w1x3.toInt ≤ (m : Int) → zGo X l 0 0 0 226 2 [(0, .ref 336), (1, .int a), (2, .int b), (3, .int w1x3)] [] w1M Q := by
    intro m
    induction m using Nat.strongRecOn with
    | ind w1m w1ih =>
      intro w1x3 w1M w1b3 w1s w1I w1F w1J w1t0 w1q
      refine zs_iload_n (pc := 2) t226_2 rfl ?_
      refine zs_sipush (pc := 3) t226_3 (v := 506) (by decide) ?_
      by_cases w2 : 506 ≤ w1x3.toInt
      · refine zs_icmp_geT (pc := 6) t226_6 rfl li506 (by omega) ?_
        exact zs_vret (pc := 39) t226_39 mr226 (hQ _ w1s w1I ((zFr.refl).trans (w1F.mono rfl)) w1J (by rw [show 506 = w1x3.toInt.toNat by omega]; exact w1t0))
      · refine zs_icmp_geF (pc := 6) t226_6 rfl li506 (by omega) ?_
        refine zs_aload_n (pc := 9) t226_9 rfl ?_
        refine zs_get (pc := 10) t226_10 (by decide) (zk1 (w1s.k fk_zMm_336)) (w1s.p rfl fv_zMm_336_0) ?_
        refine zs_sipush (pc := 13) t226_13 (v := 506) (by decide) ?_
        refine zs_iload_n (pc := 16) t226_16 rfl ?_
        obtain ⟨w3v, w3⟩ : ∃ v, (506 : Int32) * b = v := ⟨_, rfl⟩
        have w3g : w3v.toInt = 506 * b.toInt := by rw [← w3]; exact zmulc li506 rfl (by omega) (by omega)
        refine zs_imul (pc := 17) t226_17 (c := w3v) w3 ?_
        refine zs_iload_n (pc := 18) t226_18 rfl ?_
        obtain ⟨w4v, w4e, w4⟩ := ziadd (a := w3v) (b := w1x3) w3g rfl (by omega) (by omega)
        refine zs_iadd (pc := 19) t226_19 (c := w4v) w4e ?_
        refine zs_aload_n (pc := 20) t226_20 rfl ?_
        refine zs_get (pc := 21) t226_21 (by decide) (zk1 (w1s.k fk_zMm_336)) (w1s.p rfl fv_zMm_336_0) ?_
        refine zs_sipush (pc := 24) t226_24 (v := 506) (by decide) ?_
        refine zs_iload_n (pc := 27) t226_27 rfl ?_
        obtain ⟨w5v, w5⟩ : ∃ v, (506 : Int32) * a = v := ⟨_, rfl⟩
        have w5g : w5v.toInt = 506 * a.toInt := by rw [← w5]; exact zmulc li506 rfl (by omega) (by omega)
        refine zs_imul (pc := 28) t226_28 (c := w5v) w5 ?_
        refine zs_iload_n (pc := 29) t226_29 rfl ?_
        obtain ⟨w6v, w6e, w6⟩ := ziadd (a := w5v) (b := w1x3) w5g rfl (by omega) (by omega)
        refine zs_iadd (pc := 30) t226_30 (c := w6v) w6e ?_
        obtain ⟨w7n, w7⟩ : ∃ n : Nat, w1x3.toInt = (n : Int) := ⟨(w1x3.toInt).toNat, by omega⟩
        have w8 := zrg (zI w1M 337 (506 * na + w7n))
        refine zs_iald (pc := 31) t226_31 (j := (506 * na + w7n)) (by decide) (zk1 (w1s.k fk_zMm_337)) (show w6v.toInt = (((506 * na + w7n) : Nat) : Int) by omega) (zk2 (w1s.k fk_zMm_337) (by omega)) rfl ?_
        have w9 : zIv mLo mHi (zsI w1M 337 (506 * nb + w7n) (zI w1M 337 (506 * na + w7n))) := zIv.putB w1I (zCp.bd (n := w1x3.toInt.toNat) w1t0 hk hab (by omega) (by omega) (by omega))
        refine zs_iast (pc := 32) t226_32 (j := (506 * nb + w7n)) (by decide) (zk1 (w1s.k fk_zMm_337)) (show w4v.toInt = (((506 * nb + w7n) : Nat) : Int) by omega) (zk2 (w1s.k fk_zMm_337) (by omega)) ?_
        obtain ⟨w10v, w10e, w10⟩ := ziadd (a := w1x3) (b := Int32.ofInt 1) rfl (show (Int32.ofInt 1).toInt = 1 by decide) (by omega) (by omega)
        refine zs_iinc (pc := 33) t226_33 (ls' := [(3, .int w10v), (0, .ref 336), (1, .int a), (2, .int b)]) (zml mf226 (by decide)) rfl (c := w10v) w10e rfl ?_
        refine zs_goto (pc := 36) t226_36 ?_
        refine zGo.locals (ls' := [(0, .ref 336), (1, .int a), (2, .int b), (3, .int w10v)]) (by simp) ?_
        have w11 := w10
        exact w1ih (w1m - 1) (by omega) w10v (zsI w1M 337 (506 * nb + w7n) (zI w1M 337 (506 * na + w7n))) ⟨by omega, by omega⟩ w1s w9 (((zFr.refl).trans (w1F.mono rfl)).put rfl) w1J (zCp.step w1t0 hab (by omega) (by omega) (by omega) (by omega)) (by omega)
  refine zGo.locals (ls' := [(0, .ref 336), (1, .int a), (2, .int b), (3, .int (0 : Int32))]) (by simp) ?_
  have w12 := li0
  exact w1L ((506 - 0 : Int).toNat) (0 : Int32) M ⟨by decide, by decide⟩ hs hI zFr.refl rfl (zCp.nil (by omega)) (by omega)
theorem K230_0 {X : zX} {l : Launch} {M : zM} {Q : Option Value → zM → Prop} (hs : zSk zMm M) (hI : zIv mLo mHi M) (pR : zPR M) (pC : zPC M) (hQ : ∀ M', zSk zMm M' → zIv mLo mHi M' → zFr [(337, 337, none), (336, 336, some 1), (336, 336, some 3)] M M' → zJ M' 351 = zJ M 351 → zPR M' → zPC M' → zPF M' → ((zI M' 337 0).toInt = (zI M 337 0).toInt) → ((zI M' 337 1).toInt = (zI M 337 1).toInt) → ((zI M' 337 2).toInt = (zI M 337 2).toInt) → Q none M') : zCall X l 1 0 0 230 [.ref 336, .int (0 : Int32)] M Q := by
  refine zs_in (by decide) mf230 (Nat.le_of_ble_eq_true rfl) ?_
  show zGo X l 1 0 0 230 0 [(0, .ref 336), (1, .int (0 : Int32))] [] M _
  refine zs_aload_n (pc := 0) t230_0 rfl ?_
  have w1 := ib336_1 hI
  refine zs_get (pc := 1) t230_1 (by decide) (zk1 (hs.k fk_zMm_336)) (zfvi rfl rfl) ?_
  refine zs_bipush (pc := 4) t230_4 (v := 8) (by decide) ?_
  by_cases w2 : (zI M 336 1).toInt ≠ 8
  · refine zs_icmp_neT (pc := 6) t230_6 rfl li8 (by omega) ?_
    refine zs_aload_n (pc := 45) t230_45 rfl ?_
    refine zs_iload_n (pc := 46) t230_46 rfl ?_
    refine zs_iconst (pc := 47) t230_47 (v := 3) (by decide) ?_
    refine zs_aload_n (pc := 48) t230_48 rfl ?_
    refine zs_get (pc := 49) t230_49 (by decide) (zk1 (hs.k fk_zMm_336)) (zfvi rfl rfl) ?_
    obtain ⟨w3v, w3e, w3⟩ := ziadd (a := (3 : Int32)) (b := (zI M 336 1)) li3 rfl (by omega) (by omega)
    refine zs_iadd (pc := 52) t230_52 (c := w3v) w3e ?_
    obtain ⟨w4n, w4⟩ : ∃ n : Nat, (zI M 336 1).toInt = (n : Int) := ⟨((zI M 336 1).toInt).toNat, by omega⟩
    have w5k : zRk (zrow M 0) := (zRk0 hI pR pC)
    refine zs_invV (pc := 53) (k := 336) (as' := [.int (0 : Int32), .int w3v]) (st := []) t230_53 mf226 rfl rfl (Or.inl ⟨by decide, (zk1 (hs.k fk_zMm_336))⟩) ⟨by decide, by decide, Nat.le_of_ble_eq_true rfl, Nat.le_of_ble_eq_true rfl⟩ (K226 (na := 0) (nb := (3 + w4n)) hs hI (by decide) (by omega) (by omega) (by omega) (by omega) w5k ?_) (fun _ _ q => q)
    intro w5M w5s w5I w5F w5J w5c
    have w5R : zPR w5M := zPR.cp pR hI w5k w5c (w5F.eq rfl)
    have w5C : zPC w5M := zPC.cp pC hI pR w5k w5c
    have w6 := ibA0 hI
    have w5r0 : zI w5M 337 0 = (zI M 337 0) := (w5c.1 0 (Or.inl (by omega))).trans rfl
    have w7 := ibA1 hI
    have w5r1 : zI w5M 337 1 = (zI M 337 1) := (w5c.1 1 (Or.inl (by omega))).trans rfl
    have w8 := ibA2 hI
    have w5r2 : zI w5M 337 2 = (zI M 337 2) := (w5c.1 2 (Or.inl (by omega))).trans rfl
    show zGo X l 1 0 0 230 56 [(0, .ref 336), (1, .int (0 : Int32))] [] w5M _
    refine zs_aload_n (pc := 56) t230_56 rfl ?_
    refine zs_dup (pc := 57) t230_57 rfl ?_
    refine zs_get (pc := 58) t230_58 (by decide) (zk1 (w5s.k fk_zMm_336)) (zfvi rfl ((w5F 336 1 rfl).trans rfl)) ?_
    refine zs_iconst (pc := 61) t230_61 (v := 1) (by decide) ?_
    obtain ⟨w9v, w9e, w9⟩ := ziadd (a := (zI M 336 1)) (b := (1 : Int32)) rfl li1 (by omega) (by omega)
    refine zs_iadd (pc := 62) t230_62 (c := w9v) w9e ?_
    have w10 : zIv mLo mHi (zsI w5M 336 1 w9v) := zIv.put w5I (show 0 ≤ w9v.toInt ∧ w9v.toInt ≤ 8 from ⟨by omega, by omega⟩)
    have w11 : (zI w5M 336 1).toInt = (zI M 336 1).toInt := (congrArg Int32.toInt ((w5F 336 1 rfl).trans rfl)).trans rfl
    have w12 : w9v.toInt = ((zI M 336 1).toInt + 1) := w9
    have w13 : zPR (zsI w5M 336 1 w9v) := zPR.more (n := w4n) w5R (by omega) (by omega) (zCp.k w5c w5k (Or.inl (by omega)))
    refine zs_putI (pc := 63) t230_63 (zk1 (w5s.k fk_zMm_336)) rfl ?_
    refine zs_aload_n (pc := 66) t230_66 rfl ?_
    refine zs_iconst (pc := 67) t230_67 (v := 0) (by decide) ?_
    have w14 : zIv mLo mHi (zsI (zsI w5M 336 1 w9v) 336 3 (0 : Int32)) := zIv.put w10 (show 0 ≤ (0 : Int32).toInt ∧ (0 : Int32).toInt ≤ 1 from ⟨by decide, by decide⟩)
    have w15 : zPF (zsI (zsI w5M 336 1 w9v) 336 3 (0 : Int32)) := zPF.off
    refine zs_putI (pc := 68) t230_68 (zk1 (w5s.k fk_zMm_336)) (by decide) ?_
    have w16 : (zI (zsI (zsI w5M 336 1 w9v) 336 3 (0 : Int32)) 337 1).toInt = (zI M 337 1).toInt := (congrArg Int32.toInt ((zIo (by decide)).trans ((zIo (by decide)).trans w5r1))).trans rfl
    have w17 : (zI (zsI (zsI w5M 336 1 w9v) 336 3 (0 : Int32)) 337 0).toInt = (zI M 337 0).toInt := (congrArg Int32.toInt ((zIo (by decide)).trans ((zIo (by decide)).trans w5r0))).trans rfl
    have w18 : (zI (zsI (zsI w5M 336 1 w9v) 336 3 (0 : Int32)) 337 2).toInt = (zI M 337 2).toInt := (congrArg Int32.toInt ((zIo (by decide)).trans ((zIo (by decide)).trans w5r2))).trans rfl
    exact zs_vret (pc := 71) t230_71 mr230 (hQ _ w5s w14 ((((zFr.refl).trans (w5F.mono rfl)).put rfl).put rfl) w5J (zPR.fr (M' := (zsI (zsI w5M 336 1 w9v) 336 3 (0 : Int32))) w13 (zEq.put rfl)) (zPC.fr (M' := (zsI (zsI w5M 336 1 w9v) 336 3 (0 : Int32))) (zPC.fr (M' := (zsI w5M 336 1 w9v)) w5C (zEq.put rfl)) (zEq.put rfl)) w15 (by omega) (by omega) (by omega))
  · refine zs_icmp_neF (pc := 6) t230_6 rfl li8 (by omega) ?_
    refine zs_iconst (pc := 9) t230_9 (v := 1) (by decide) ?_
    refine zs_istore_n (pc := 10) t230_10 (ls' := [(2, .int (1 : Int32)), (0, .ref 336), (1, .int (0 : Int32))]) (zml mf230 (by decide)) rfl ?_
    have w19L : ∀ (m : Nat) (w19x2 : Int32) (w19M : zM), (1 ≤ w19x2.toInt ∧ w19x2.toInt ≤ 8) → zSk zMm w19M → zIv mLo mHi w19M → zFr [(337, 337, none)] M w19M → zJ w19M 351 = zJ M 351 → zPR w19M → zPC w19M → ((zI w19M 336 1).toInt = 8) → ((zI w19M 337 0).toInt = (zI M 337 0).toInt) → ((zI w19M 337 1).toInt = (zI M 337 1).toInt) → ((zI w19M 337 2).toInt = (zI M 337 2).toInt) → 8 - w19x2.toInt ≤ (m : Int) → zGo X l 1 0 0 230 11 [(0, .ref 336), (1, .int (0 : Int32)), (2, .int w19x2)] [] w19M Q := by
      intro m
      induction m using Nat.strongRecOn with
      | ind w19m w19ih =>
        intro w19x2 w19M w19b2 w19s w19I w19F w19J w19PR w19PC w19r0 w19r1 w19r2 w19r3 w19q
        have w20 := ibA0 w19I
        have w21 := ibA0 hI
        have w22 : (zI M 337 0).toInt = (zI M 337 0).toInt := (congrArg Int32.toInt rfl).trans rfl
        have w23 := ibA1 w19I
        have w24 := ibA1 hI
        have w25 : (zI M 337 1).toInt = (zI M 337 1).toInt := (congrArg Int32.toInt rfl).trans rfl
        have w26 := ibA2 w19I
        have w27 := ibA2 hI
        have w28 : (zI M 337 2).toInt = (zI M 337 2).toInt := (congrArg Int32.toInt rfl).trans rfl
        refine zs_iload_n (pc := 11) t230_11 rfl ?_
        refine zs_bipush (pc := 12) t230_12 (v := 8) (by decide) ?_
        by_cases w29 : 8 ≤ w19x2.toInt
        · refine zs_icmp_geT (pc := 14) t230_14 rfl li8 (by omega) ?_
          refine zs_aload_n (pc := 35) t230_35 rfl ?_
          refine zs_dup (pc := 36) t230_36 rfl ?_
          refine zs_get (pc := 37) t230_37 (by decide) (zk1 (w19s.k fk_zMm_336)) (zfvi rfl ((w19F 336 1 rfl).trans rfl)) ?_
          refine zs_iconst (pc := 40) t230_40 (v := 1) (by decide) ?_
          obtain ⟨w30v, w30e, w30⟩ := zisub (a := (zI M 336 1)) (b := (1 : Int32)) rfl li1 (by omega) (by omega)
          refine zs_isub (pc := 41) t230_41 (c := w30v) w30e ?_
          have w31 : zIv mLo mHi (zsI w19M 336 1 w30v) := zIv.put w19I (show 0 ≤ w30v.toInt ∧ w30v.toInt ≤ 8 from ⟨by omega, by omega⟩)
          have w32 : (zI w19M 336 1).toInt = (zI M 336 1).toInt := (congrArg Int32.toInt ((w19F 336 1 rfl).trans rfl)).trans rfl
          have w33 : w30v.toInt = ((zI M 336 1).toInt - 1) := w30
          have w34 : zPR (zsI w19M 336 1 w30v) := zPR.less w19PR (by omega)
          refine zs_putI (pc := 42) t230_42 (zk1 (w19s.k fk_zMm_336)) rfl ?_
          refine zs_aload_n (pc := 45) t230_45 rfl ?_
          refine zs_iload_n (pc := 46) t230_46 rfl ?_
          refine zs_iconst (pc := 47) t230_47 (v := 3) (by decide) ?_
          refine zs_aload_n (pc := 48) t230_48 rfl ?_
          refine zs_get (pc := 49) t230_49 (by decide) (zk1 (w19s.k fk_zMm_336)) (zfvi rfl zIs) ?_
          obtain ⟨w35v, w35e, w35⟩ := ziadd (a := (3 : Int32)) (b := w30v) li3 w30 (by omega) (by omega)
          refine zs_iadd (pc := 52) t230_52 (c := w35v) w35e ?_
          obtain ⟨w36n, w36⟩ : ∃ n : Nat, (zI M 336 1).toInt = (n : Int) := ⟨((zI M 336 1).toInt).toNat, by omega⟩
          have w37k : zRk (zrow (zsI w19M 336 1 w30v) 0) := (zRk0 w31 w34 (zPC.fr (M' := (zsI w19M 336 1 w30v)) w19PC (zEq.put rfl)))
          refine zs_invV (pc := 53) (k := 336) (as' := [.int (0 : Int32), .int w35v]) (st := []) t230_53 mf226 rfl rfl (Or.inl ⟨by decide, (zk1 (w19s.k fk_zMm_336))⟩) ⟨by decide, by decide, Nat.le_of_ble_eq_true rfl, Nat.le_of_ble_eq_true rfl⟩ (K226 (na := 0) (nb := (2 + w36n)) w19s w31 (by decide) (by omega) (by omega) (by omega) (by omega) w37k ?_) (fun _ _ q => q)
          intro w37M w37s w37I w37F w37J w37c
          have w37R : zPR w37M := zPR.cp w34 w31 w37k w37c (w37F.eq rfl)
          have w37C : zPC w37M := zPC.cp (zPC.fr (M' := (zsI w19M 336 1 w30v)) w19PC (zEq.put rfl)) w31 w34 w37k w37c
          have w37r0 : zI w37M 337 0 = (zI w19M 337 0) := (w37c.1 0 (Or.inl (by omega))).trans ((zIo (by decide)).trans rfl)
          have w37r1 : zI w37M 337 1 = (zI w19M 337 1) := (w37c.1 1 (Or.inl (by omega))).trans ((zIo (by decide)).trans rfl)
          have w37r2 : zI w37M 337 2 = (zI w19M 337 2) := (w37c.1 2 (Or.inl (by omega))).trans ((zIo (by decide)).trans rfl)
          show zGo X l 1 0 0 230 56 [(0, .ref 336), (1, .int (0 : Int32)), (2, .int w19x2)] [] w37M _
          refine zs_aload_n (pc := 56) t230_56 rfl ?_
          refine zs_dup (pc := 57) t230_57 rfl ?_
          refine zs_get (pc := 58) t230_58 (by decide) (zk1 (w37s.k fk_zMm_336)) (zfvi rfl ((w37F 336 1 rfl).trans zIs)) ?_
          refine zs_iconst (pc := 61) t230_61 (v := 1) (by decide) ?_
          obtain ⟨w38v, w38e, w38⟩ := ziadd (a := w30v) (b := (1 : Int32)) w30 li1 (by omega) (by omega)
          refine zs_iadd (pc := 62) t230_62 (c := w38v) w38e ?_
          have w39 : zIv mLo mHi (zsI w37M 336 1 w38v) := zIv.put w37I (show 0 ≤ w38v.toInt ∧ w38v.toInt ≤ 8 from ⟨by omega, by omega⟩)
          have w40 : (zI w37M 336 1).toInt = ((zI M 336 1).toInt - 1) := (congrArg Int32.toInt ((w37F 336 1 rfl).trans zIs)).trans w30
          have w41 : w38v.toInt = (((zI M 336 1).toInt - 1) + 1) := w38
          have w42 : zPR (zsI w37M 336 1 w38v) := zPR.more (n := (w36n - 1)) w37R (by omega) (by omega) (zCp.k w37c w37k (Or.inl (by omega)))
          refine zs_putI (pc := 63) t230_63 (zk1 (w37s.k fk_zMm_336)) rfl ?_
          refine zs_aload_n (pc := 66) t230_66 rfl ?_
          refine zs_iconst (pc := 67) t230_67 (v := 0) (by decide) ?_
          have w43 : zIv mLo mHi (zsI (zsI w37M 336 1 w38v) 336 3 (0 : Int32)) := zIv.put w39 (show 0 ≤ (0 : Int32).toInt ∧ (0 : Int32).toInt ≤ 1 from ⟨by decide, by decide⟩)
          have w44 : zPF (zsI (zsI w37M 336 1 w38v) 336 3 (0 : Int32)) := zPF.off
          refine zs_putI (pc := 68) t230_68 (zk1 (w37s.k fk_zMm_336)) (by decide) ?_
          have w45 : (zI (zsI (zsI w37M 336 1 w38v) 336 3 (0 : Int32)) 337 1).toInt = (zI w19M 337 1).toInt := (congrArg Int32.toInt ((zIo (by decide)).trans ((zIo (by decide)).trans w37r1))).trans rfl
          have w46 : (zI (zsI (zsI w37M 336 1 w38v) 336 3 (0 : Int32)) 337 0).toInt = (zI w19M 337 0).toInt := (congrArg Int32.toInt ((zIo (by decide)).trans ((zIo (by decide)).trans w37r0))).trans rfl
          have w47 : (zI (zsI (zsI w37M 336 1 w38v) 336 3 (0 : Int32)) 337 2).toInt = (zI w19M 337 2).toInt := (congrArg Int32.toInt ((zIo (by decide)).trans ((zIo (by decide)).trans w37r2))).trans rfl
          exact zs_vret (pc := 71) t230_71 mr230 (hQ _ w37s w43 ((((((zFr.refl).trans (w19F.mono rfl)).put rfl).trans (w37F.mono rfl)).put rfl).put rfl) (w37J.trans w19J) (zPR.fr (M' := (zsI (zsI w37M 336 1 w38v) 336 3 (0 : Int32))) w42 (zEq.put rfl)) (zPC.fr (M' := (zsI (zsI w37M 336 1 w38v) 336 3 (0 : Int32))) (zPC.fr (M' := (zsI w37M 336 1 w38v)) w37C (zEq.put rfl)) (zEq.put rfl)) w44 (by omega) (by omega) (by omega))
        · refine zs_icmp_geF (pc := 14) t230_14 rfl li8 (by omega) ?_
          refine zs_aload_n (pc := 17) t230_17 rfl ?_
          refine zs_iconst (pc := 18) t230_18 (v := 3) (by decide) ?_
          refine zs_iload_n (pc := 19) t230_19 rfl ?_
          obtain ⟨w48v, w48e, w48⟩ := ziadd (a := (3 : Int32)) (b := w19x2) li3 rfl (by omega) (by omega)
          refine zs_iadd (pc := 20) t230_20 (c := w48v) w48e ?_
          refine zs_iconst (pc := 21) t230_21 (v := 3) (by decide) ?_
          refine zs_iload_n (pc := 22) t230_22 rfl ?_
          obtain ⟨w49v, w49e, w49⟩ := ziadd (a := (3 : Int32)) (b := w19x2) li3 rfl (by omega) (by omega)
          refine zs_iadd (pc := 23) t230_23 (c := w49v) w49e ?_
          refine zs_iconst (pc := 24) t230_24 (v := 1) (by decide) ?_
          obtain ⟨w50v, w50e, w50⟩ := zisub (a := w49v) (b := (1 : Int32)) w49 li1 (by omega) (by omega)
          refine zs_isub (pc := 25) t230_25 (c := w50v) w50e ?_
          obtain ⟨w51n, w51⟩ : ∃ n : Nat, w19x2.toInt = (n : Int) := ⟨(w19x2.toInt).toNat, by omega⟩
          have w52 : (zI w19M 336 1).toInt = (zI M 336 1).toInt := (congrArg Int32.toInt ((w19F 336 1 rfl).trans rfl)).trans rfl
          have w53k : zRk (zrow w19M (3 + w51n)) := (w19PR.2.2 w51n (by omega))
          refine zs_invV (pc := 26) (k := 336) (as' := [.int w48v, .int w50v]) (st := []) t230_26 mf226 rfl rfl (Or.inl ⟨by decide, (zk1 (w19s.k fk_zMm_336))⟩) ⟨by decide, by decide, Nat.le_of_ble_eq_true rfl, Nat.le_of_ble_eq_true rfl⟩ (K226 (na := (3 + w51n)) (nb := (2 + w51n)) w19s w19I (by omega) (by omega) (by omega) (by omega) (by omega) w53k ?_) (fun _ _ q => q)
          intro w53M w53s w53I w53F w53J w53c
          have w53R : zPR w53M := zPR.cp w19PR w19I w53k w53c (w53F.eq rfl)
          have w53C : zPC w53M := zPC.cp w19PC w19I w19PR w53k w53c
          have w53r0 : zI w53M 337 0 = (zI w19M 337 0) := (w53c.1 0 (Or.inl (by omega))).trans rfl
          have w53r1 : zI w53M 337 1 = (zI w19M 337 1) := (w53c.1 1 (Or.inl (by omega))).trans rfl
          have w53r2 : zI w53M 337 2 = (zI w19M 337 2) := (w53c.1 2 (Or.inl (by omega))).trans rfl
          show zGo X l 1 0 0 230 29 [(0, .ref 336), (1, .int (0 : Int32)), (2, .int w19x2)] [] w53M _
          obtain ⟨w54v, w54e, w54⟩ := ziadd (a := w19x2) (b := Int32.ofInt 1) rfl (show (Int32.ofInt 1).toInt = 1 by decide) (by omega) (by omega)
          refine zs_iinc (pc := 29) t230_29 (ls' := [(2, .int w54v), (0, .ref 336), (1, .int (0 : Int32))]) (zml mf230 (by decide)) rfl (c := w54v) w54e rfl ?_
          refine zs_goto (pc := 32) t230_32 ?_
          refine zGo.locals (ls' := [(0, .ref 336), (1, .int (0 : Int32)), (2, .int w54v)]) (by simp) ?_
          have w55 := w54
          have w56 : (zI w53M 336 1).toInt = (zI M 336 1).toInt := (congrArg Int32.toInt ((w53F 336 1 rfl).trans ((w19F 336 1 rfl).trans rfl))).trans rfl
          have w57 : (zI w53M 337 0).toInt = (zI w19M 337 0).toInt := (congrArg Int32.toInt w53r0).trans rfl
          have w58 : (zI w53M 337 1).toInt = (zI w19M 337 1).toInt := (congrArg Int32.toInt w53r1).trans rfl
          have w59 : (zI w53M 337 2).toInt = (zI w19M 337 2).toInt := (congrArg Int32.toInt w53r2).trans rfl
          exact w19ih (w19m - 1) (by omega) w54v w53M ⟨by omega, by omega⟩ w53s w53I (((zFr.refl).trans (w19F.mono rfl)).trans (w53F.mono rfl)) (w53J.trans w19J) w53R w53C (by omega) (by omega) (by omega) (by omega) (by omega)
    refine zGo.locals (ls' := [(0, .ref 336), (1, .int (0 : Int32)), (2, .int (1 : Int32))]) (by simp) ?_
    have w60 := li1
    have w61 : (zI M 336 1).toInt = (zI M 336 1).toInt := (congrArg Int32.toInt rfl).trans rfl
    have w62 : (zI M 337 0).toInt = (zI M 337 0).toInt := (congrArg Int32.toInt rfl).trans rfl
    have w63 : (zI M 337 1).toInt = (zI M 337 1).toInt := (congrArg Int32.toInt rfl).trans rfl
    have w64 : (zI M 337 2).toInt = (zI M 337 2).toInt := (congrArg Int32.toInt rfl).trans rfl
    exact w19L ((8 - 1 : Int).toNat) (1 : Int32) M ⟨by decide, by decide⟩ hs hI zFr.refl rfl pR pC (by omega) (by omega) (by omega) (by omega) (by omega)
theorem K230_11 {X : zX} {l : Launch} {M : zM} {Q : Option Value → zM → Prop} (hs : zSk zMm M) (hI : zIv mLo mHi M) (pR : zPR M) (pC : zPC M) (pA : zPA M) (hQ : ∀ M', zSk zMm M' → zIv mLo mHi M' → zFr [(337, 337, none), (336, 336, some 1), (336, 336, some 3)] M M' → zJ M' 351 = zJ M 351 → zPR M' → zPC M' → zPF M' → ((zI M' 337 0).toInt = (zI M 337 0).toInt) → ((zI M' 337 1).toInt = (zI M 337 1).toInt) → ((zI M' 337 2).toInt = (zI M 337 2).toInt) → Q none M') : zCall X l 1 0 0 230 [.ref 336, .int (11 : Int32)] M Q := by
  refine zs_in (by decide) mf230 (Nat.le_of_ble_eq_true rfl) ?_
  show zGo X l 1 0 0 230 0 [(0, .ref 336), (1, .int (11 : Int32))] [] M _
  refine zs_aload_n (pc := 0) t230_0 rfl ?_
  have w1 := ib336_1 hI
  refine zs_get (pc := 1) t230_1 (by decide) (zk1 (hs.k fk_zMm_336)) (zfvi rfl rfl) ?_
  refine zs_bipush (pc := 4) t230_4 (v := 8) (by decide) ?_
  by_cases w2 : (zI M 336 1).toInt ≠ 8
  · refine zs_icmp_neT (pc := 6) t230_6 rfl li8 (by omega) ?_
    refine zs_aload_n (pc := 45) t230_45 rfl ?_
    refine zs_iload_n (pc := 46) t230_46 rfl ?_
    refine zs_iconst (pc := 47) t230_47 (v := 3) (by decide) ?_
    refine zs_aload_n (pc := 48) t230_48 rfl ?_
    refine zs_get (pc := 49) t230_49 (by decide) (zk1 (hs.k fk_zMm_336)) (zfvi rfl rfl) ?_
    obtain ⟨w3v, w3e, w3⟩ := ziadd (a := (3 : Int32)) (b := (zI M 336 1)) li3 rfl (by omega) (by omega)
    refine zs_iadd (pc := 52) t230_52 (c := w3v) w3e ?_
    obtain ⟨w4n, w4⟩ : ∃ n : Nat, (zI M 336 1).toInt = (n : Int) := ⟨((zI M 336 1).toInt).toNat, by omega⟩
    have w5k : zRk (zrow M 11) := pA
    refine zs_invV (pc := 53) (k := 336) (as' := [.int (11 : Int32), .int w3v]) (st := []) t230_53 mf226 rfl rfl (Or.inl ⟨by decide, (zk1 (hs.k fk_zMm_336))⟩) ⟨by decide, by decide, Nat.le_of_ble_eq_true rfl, Nat.le_of_ble_eq_true rfl⟩ (K226 (na := 11) (nb := (3 + w4n)) hs hI (by decide) (by omega) (by omega) (by omega) (by omega) w5k ?_) (fun _ _ q => q)
    intro w5M w5s w5I w5F w5J w5c
    have w5R : zPR w5M := zPR.cp pR hI w5k w5c (w5F.eq rfl)
    have w5C : zPC w5M := zPC.cp pC hI pR w5k w5c
    have w5A : zPA w5M := zPA.cp w5k w5c (Or.inr pA)
    have w6 := ibA0 hI
    have w5r0 : zI w5M 337 0 = (zI M 337 0) := (w5c.1 0 (Or.inl (by omega))).trans rfl
    have w7 := ibA1 hI
    have w5r1 : zI w5M 337 1 = (zI M 337 1) := (w5c.1 1 (Or.inl (by omega))).trans rfl
    have w8 := ibA2 hI
    have w5r2 : zI w5M 337 2 = (zI M 337 2) := (w5c.1 2 (Or.inl (by omega))).trans rfl
    show zGo X l 1 0 0 230 56 [(0, .ref 336), (1, .int (11 : Int32))] [] w5M _
    refine zs_aload_n (pc := 56) t230_56 rfl ?_
    refine zs_dup (pc := 57) t230_57 rfl ?_
    refine zs_get (pc := 58) t230_58 (by decide) (zk1 (w5s.k fk_zMm_336)) (zfvi rfl ((w5F 336 1 rfl).trans rfl)) ?_
    refine zs_iconst (pc := 61) t230_61 (v := 1) (by decide) ?_
    obtain ⟨w9v, w9e, w9⟩ := ziadd (a := (zI M 336 1)) (b := (1 : Int32)) rfl li1 (by omega) (by omega)
    refine zs_iadd (pc := 62) t230_62 (c := w9v) w9e ?_
    have w10 : zIv mLo mHi (zsI w5M 336 1 w9v) := zIv.put w5I (show 0 ≤ w9v.toInt ∧ w9v.toInt ≤ 8 from ⟨by omega, by omega⟩)
    have w11 : (zI w5M 336 1).toInt = (zI M 336 1).toInt := (congrArg Int32.toInt ((w5F 336 1 rfl).trans rfl)).trans rfl
    have w12 : w9v.toInt = ((zI M 336 1).toInt + 1) := w9
    have w13 : zPR (zsI w5M 336 1 w9v) := zPR.more (n := w4n) w5R (by omega) (by omega) (zCp.k w5c w5k (Or.inl (by omega)))
    refine zs_putI (pc := 63) t230_63 (zk1 (w5s.k fk_zMm_336)) rfl ?_
    refine zs_aload_n (pc := 66) t230_66 rfl ?_
    refine zs_iconst (pc := 67) t230_67 (v := 0) (by decide) ?_
    have w14 : zIv mLo mHi (zsI (zsI w5M 336 1 w9v) 336 3 (0 : Int32)) := zIv.put w10 (show 0 ≤ (0 : Int32).toInt ∧ (0 : Int32).toInt ≤ 1 from ⟨by decide, by decide⟩)
    have w15 : zPF (zsI (zsI w5M 336 1 w9v) 336 3 (0 : Int32)) := zPF.off
    refine zs_putI (pc := 68) t230_68 (zk1 (w5s.k fk_zMm_336)) (by decide) ?_
    have w16 : (zI (zsI (zsI w5M 336 1 w9v) 336 3 (0 : Int32)) 337 1).toInt = (zI M 337 1).toInt := (congrArg Int32.toInt ((zIo (by decide)).trans ((zIo (by decide)).trans w5r1))).trans rfl
    have w17 : (zI (zsI (zsI w5M 336 1 w9v) 336 3 (0 : Int32)) 337 0).toInt = (zI M 337 0).toInt := (congrArg Int32.toInt ((zIo (by decide)).trans ((zIo (by decide)).trans w5r0))).trans rfl
    have w18 : (zI (zsI (zsI w5M 336 1 w9v) 336 3 (0 : Int32)) 337 2).toInt = (zI M 337 2).toInt := (congrArg Int32.toInt ((zIo (by decide)).trans ((zIo (by decide)).trans w5r2))).trans rfl
    exact zs_vret (pc := 71) t230_71 mr230 (hQ _ w5s w14 ((((zFr.refl).trans (w5F.mono rfl)).put rfl).put rfl) w5J (zPR.fr (M' := (zsI (zsI w5M 336 1 w9v) 336 3 (0 : Int32))) w13 (zEq.put rfl)) (zPC.fr (M' := (zsI (zsI w5M 336 1 w9v) 336 3 (0 : Int32))) (zPC.fr (M' := (zsI w5M 336 1 w9v)) w5C (zEq.put rfl)) (zEq.put rfl)) w15 (by omega) (by omega) (by omega))
  · refine zs_icmp_neF (pc := 6) t230_6 rfl li8 (by omega) ?_
    refine zs_iconst (pc := 9) t230_9 (v := 1) (by decide) ?_
    refine zs_istore_n (pc := 10) t230_10 (ls' := [(2, .int (1 : Int32)), (0, .ref 336), (1, .int (11 : Int32))]) (zml mf230 (by decide)) rfl ?_
    have w19L : ∀ (m : Nat) (w19x2 : Int32) (w19M : zM), (1 ≤ w19x2.toInt ∧ w19x2.toInt ≤ 8) → zSk zMm w19M → zIv mLo mHi w19M → zFr [(337, 337, none)] M w19M → zJ w19M 351 = zJ M 351 → zPR w19M → zPC w19M → zPA w19M → ((zI w19M 336 1).toInt = 8) → ((zI w19M 337 0).toInt = (zI M 337 0).toInt) → ((zI w19M 337 1).toInt = (zI M 337 1).toInt) → ((zI w19M 337 2).toInt = (zI M 337 2).toInt) → 8 - w19x2.toInt ≤ (m : Int) → zGo X l 1 0 0 230 11 [(0, .ref 336), (1, .int (11 : Int32)), (2, .int w19x2)] [] w19M Q := by
      intro m
      induction m using Nat.strongRecOn with
      | ind w19m w19ih =>
        intro w19x2 w19M w19b2 w19s w19I w19F w19J w19PR w19PC w19PA w19r0 w19r1 w19r2 w19r3 w19q
        have w20 := ibA0 w19I
        have w21 := ibA0 hI
        have w22 : (zI M 337 0).toInt = (zI M 337 0).toInt := (congrArg Int32.toInt rfl).trans rfl
        have w23 := ibA1 w19I
        have w24 := ibA1 hI
        have w25 : (zI M 337 1).toInt = (zI M 337 1).toInt := (congrArg Int32.toInt rfl).trans rfl
        have w26 := ibA2 w19I
        have w27 := ibA2 hI
        have w28 : (zI M 337 2).toInt = (zI M 337 2).toInt := (congrArg Int32.toInt rfl).trans rfl
        refine zs_iload_n (pc := 11) t230_11 rfl ?_
        refine zs_bipush (pc := 12) t230_12 (v := 8) (by decide) ?_
        by_cases w29 : 8 ≤ w19x2.toInt
        · refine zs_icmp_geT (pc := 14) t230_14 rfl li8 (by omega) ?_
          refine zs_aload_n (pc := 35) t230_35 rfl ?_
          refine zs_dup (pc := 36) t230_36 rfl ?_
          refine zs_get (pc := 37) t230_37 (by decide) (zk1 (w19s.k fk_zMm_336)) (zfvi rfl ((w19F 336 1 rfl).trans rfl)) ?_
          refine zs_iconst (pc := 40) t230_40 (v := 1) (by decide) ?_
          obtain ⟨w30v, w30e, w30⟩ := zisub (a := (zI M 336 1)) (b := (1 : Int32)) rfl li1 (by omega) (by omega)
          refine zs_isub (pc := 41) t230_41 (c := w30v) w30e ?_
          have w31 : zIv mLo mHi (zsI w19M 336 1 w30v) := zIv.put w19I (show 0 ≤ w30v.toInt ∧ w30v.toInt ≤ 8 from ⟨by omega, by omega⟩)
          have w32 : (zI w19M 336 1).toInt = (zI M 336 1).toInt := (congrArg Int32.toInt ((w19F 336 1 rfl).trans rfl)).trans rfl
          have w33 : w30v.toInt = ((zI M 336 1).toInt - 1) := w30
          have w34 : zPR (zsI w19M 336 1 w30v) := zPR.less w19PR (by omega)
          refine zs_putI (pc := 42) t230_42 (zk1 (w19s.k fk_zMm_336)) rfl ?_
          refine zs_aload_n (pc := 45) t230_45 rfl ?_
          refine zs_iload_n (pc := 46) t230_46 rfl ?_
          refine zs_iconst (pc := 47) t230_47 (v := 3) (by decide) ?_
          refine zs_aload_n (pc := 48) t230_48 rfl ?_
          refine zs_get (pc := 49) t230_49 (by decide) (zk1 (w19s.k fk_zMm_336)) (zfvi rfl zIs) ?_
          obtain ⟨w35v, w35e, w35⟩ := ziadd (a := (3 : Int32)) (b := w30v) li3 w30 (by omega) (by omega)
          refine zs_iadd (pc := 52) t230_52 (c := w35v) w35e ?_
          obtain ⟨w36n, w36⟩ : ∃ n : Nat, (zI M 336 1).toInt = (n : Int) := ⟨((zI M 336 1).toInt).toNat, by omega⟩
          have w37k : zRk (zrow (zsI w19M 336 1 w30v) 11) := (zPA.fr (M' := (zsI w19M 336 1 w30v)) w19PA (zEq.put rfl))
          refine zs_invV (pc := 53) (k := 336) (as' := [.int (11 : Int32), .int w35v]) (st := []) t230_53 mf226 rfl rfl (Or.inl ⟨by decide, (zk1 (w19s.k fk_zMm_336))⟩) ⟨by decide, by decide, Nat.le_of_ble_eq_true rfl, Nat.le_of_ble_eq_true rfl⟩ (K226 (na := 11) (nb := (2 + w36n)) w19s w31 (by decide) (by omega) (by omega) (by omega) (by omega) w37k ?_) (fun _ _ q => q)
          intro w37M w37s w37I w37F w37J w37c
          have w37R : zPR w37M := zPR.cp w34 w31 w37k w37c (w37F.eq rfl)
          have w37C : zPC w37M := zPC.cp (zPC.fr (M' := (zsI w19M 336 1 w30v)) w19PC (zEq.put rfl)) w31 w34 w37k w37c
          have w37A : zPA w37M := zPA.cp w37k w37c (Or.inr (zPA.fr (M' := (zsI w19M 336 1 w30v)) w19PA (zEq.put rfl)))
          have w37r0 : zI w37M 337 0 = (zI w19M 337 0) := (w37c.1 0 (Or.inl (by omega))).trans ((zIo (by decide)).trans rfl)
          have w37r1 : zI w37M 337 1 = (zI w19M 337 1) := (w37c.1 1 (Or.inl (by omega))).trans ((zIo (by decide)).trans rfl)
          have w37r2 : zI w37M 337 2 = (zI w19M 337 2) := (w37c.1 2 (Or.inl (by omega))).trans ((zIo (by decide)).trans rfl)
          show zGo X l 1 0 0 230 56 [(0, .ref 336), (1, .int (11 : Int32)), (2, .int w19x2)] [] w37M _
          refine zs_aload_n (pc := 56) t230_56 rfl ?_
          refine zs_dup (pc := 57) t230_57 rfl ?_
          refine zs_get (pc := 58) t230_58 (by decide) (zk1 (w37s.k fk_zMm_336)) (zfvi rfl ((w37F 336 1 rfl).trans zIs)) ?_
          refine zs_iconst (pc := 61) t230_61 (v := 1) (by decide) ?_
          obtain ⟨w38v, w38e, w38⟩ := ziadd (a := w30v) (b := (1 : Int32)) w30 li1 (by omega) (by omega)
          refine zs_iadd (pc := 62) t230_62 (c := w38v) w38e ?_
          have w39 : zIv mLo mHi (zsI w37M 336 1 w38v) := zIv.put w37I (show 0 ≤ w38v.toInt ∧ w38v.toInt ≤ 8 from ⟨by omega, by omega⟩)
          have w40 : (zI w37M 336 1).toInt = ((zI M 336 1).toInt - 1) := (congrArg Int32.toInt ((w37F 336 1 rfl).trans zIs)).trans w30
          have w41 : w38v.toInt = (((zI M 336 1).toInt - 1) + 1) := w38
          have w42 : zPR (zsI w37M 336 1 w38v) := zPR.more (n := (w36n - 1)) w37R (by omega) (by omega) (zCp.k w37c w37k (Or.inl (by omega)))
          refine zs_putI (pc := 63) t230_63 (zk1 (w37s.k fk_zMm_336)) rfl ?_
          refine zs_aload_n (pc := 66) t230_66 rfl ?_
          refine zs_iconst (pc := 67) t230_67 (v := 0) (by decide) ?_
          have w43 : zIv mLo mHi (zsI (zsI w37M 336 1 w38v) 336 3 (0 : Int32)) := zIv.put w39 (show 0 ≤ (0 : Int32).toInt ∧ (0 : Int32).toInt ≤ 1 from ⟨by decide, by decide⟩)
          have w44 : zPF (zsI (zsI w37M 336 1 w38v) 336 3 (0 : Int32)) := zPF.off
          refine zs_putI (pc := 68) t230_68 (zk1 (w37s.k fk_zMm_336)) (by decide) ?_
          have w45 : (zI (zsI (zsI w37M 336 1 w38v) 336 3 (0 : Int32)) 337 1).toInt = (zI w19M 337 1).toInt := (congrArg Int32.toInt ((zIo (by decide)).trans ((zIo (by decide)).trans w37r1))).trans rfl
          have w46 : (zI (zsI (zsI w37M 336 1 w38v) 336 3 (0 : Int32)) 337 0).toInt = (zI w19M 337 0).toInt := (congrArg Int32.toInt ((zIo (by decide)).trans ((zIo (by decide)).trans w37r0))).trans rfl
          have w47 : (zI (zsI (zsI w37M 336 1 w38v) 336 3 (0 : Int32)) 337 2).toInt = (zI w19M 337 2).toInt := (congrArg Int32.toInt ((zIo (by decide)).trans ((zIo (by decide)).trans w37r2))).trans rfl
          exact zs_vret (pc := 71) t230_71 mr230 (hQ _ w37s w43 ((((((zFr.refl).trans (w19F.mono rfl)).put rfl).trans (w37F.mono rfl)).put rfl).put rfl) (w37J.trans w19J) (zPR.fr (M' := (zsI (zsI w37M 336 1 w38v) 336 3 (0 : Int32))) w42 (zEq.put rfl)) (zPC.fr (M' := (zsI (zsI w37M 336 1 w38v) 336 3 (0 : Int32))) (zPC.fr (M' := (zsI w37M 336 1 w38v)) w37C (zEq.put rfl)) (zEq.put rfl)) w44 (by omega) (by omega) (by omega))
        · refine zs_icmp_geF (pc := 14) t230_14 rfl li8 (by omega) ?_
          refine zs_aload_n (pc := 17) t230_17 rfl ?_
          refine zs_iconst (pc := 18) t230_18 (v := 3) (by decide) ?_
          refine zs_iload_n (pc := 19) t230_19 rfl ?_
          obtain ⟨w48v, w48e, w48⟩ := ziadd (a := (3 : Int32)) (b := w19x2) li3 rfl (by omega) (by omega)
          refine zs_iadd (pc := 20) t230_20 (c := w48v) w48e ?_
          refine zs_iconst (pc := 21) t230_21 (v := 3) (by decide) ?_
          refine zs_iload_n (pc := 22) t230_22 rfl ?_
          obtain ⟨w49v, w49e, w49⟩ := ziadd (a := (3 : Int32)) (b := w19x2) li3 rfl (by omega) (by omega)
          refine zs_iadd (pc := 23) t230_23 (c := w49v) w49e ?_
          refine zs_iconst (pc := 24) t230_24 (v := 1) (by decide) ?_
          obtain ⟨w50v, w50e, w50⟩ := zisub (a := w49v) (b := (1 : Int32)) w49 li1 (by omega) (by omega)
          refine zs_isub (pc := 25) t230_25 (c := w50v) w50e ?_
          obtain ⟨w51n, w51⟩ : ∃ n : Nat, w19x2.toInt = (n : Int) := ⟨(w19x2.toInt).toNat, by omega⟩
          have w52 : (zI w19M 336 1).toInt = (zI M 336 1).toInt := (congrArg Int32.toInt ((w19F 336 1 rfl).trans rfl)).trans rfl
          have w53k : zRk (zrow w19M (3 + w51n)) := (w19PR.2.2 w51n (by omega))
          refine zs_invV (pc := 26) (k := 336) (as' := [.int w48v, .int w50v]) (st := []) t230_26 mf226 rfl rfl (Or.inl ⟨by decide, (zk1 (w19s.k fk_zMm_336))⟩) ⟨by decide, by decide, Nat.le_of_ble_eq_true rfl, Nat.le_of_ble_eq_true rfl⟩ (K226 (na := (3 + w51n)) (nb := (2 + w51n)) w19s w19I (by omega) (by omega) (by omega) (by omega) (by omega) w53k ?_) (fun _ _ q => q)
          intro w53M w53s w53I w53F w53J w53c
          have w53R : zPR w53M := zPR.cp w19PR w19I w53k w53c (w53F.eq rfl)
          have w53C : zPC w53M := zPC.cp w19PC w19I w19PR w53k w53c
          have w53A : zPA w53M := zPA.cp w53k w53c (Or.inr w19PA)
          have w53r0 : zI w53M 337 0 = (zI w19M 337 0) := (w53c.1 0 (Or.inl (by omega))).trans rfl
          have w53r1 : zI w53M 337 1 = (zI w19M 337 1) := (w53c.1 1 (Or.inl (by omega))).trans rfl
          have w53r2 : zI w53M 337 2 = (zI w19M 337 2) := (w53c.1 2 (Or.inl (by omega))).trans rfl
          show zGo X l 1 0 0 230 29 [(0, .ref 336), (1, .int (11 : Int32)), (2, .int w19x2)] [] w53M _
          obtain ⟨w54v, w54e, w54⟩ := ziadd (a := w19x2) (b := Int32.ofInt 1) rfl (show (Int32.ofInt 1).toInt = 1 by decide) (by omega) (by omega)
          refine zs_iinc (pc := 29) t230_29 (ls' := [(2, .int w54v), (0, .ref 336), (1, .int (11 : Int32))]) (zml mf230 (by decide)) rfl (c := w54v) w54e rfl ?_
          refine zs_goto (pc := 32) t230_32 ?_
          refine zGo.locals (ls' := [(0, .ref 336), (1, .int (11 : Int32)), (2, .int w54v)]) (by simp) ?_
          have w55 := w54
          have w56 : (zI w53M 336 1).toInt = (zI M 336 1).toInt := (congrArg Int32.toInt ((w53F 336 1 rfl).trans ((w19F 336 1 rfl).trans rfl))).trans rfl
          have w57 : (zI w53M 337 0).toInt = (zI w19M 337 0).toInt := (congrArg Int32.toInt w53r0).trans rfl
          have w58 : (zI w53M 337 1).toInt = (zI w19M 337 1).toInt := (congrArg Int32.toInt w53r1).trans rfl
          have w59 : (zI w53M 337 2).toInt = (zI w19M 337 2).toInt := (congrArg Int32.toInt w53r2).trans rfl
          exact w19ih (w19m - 1) (by omega) w54v w53M ⟨by omega, by omega⟩ w53s w53I (((zFr.refl).trans (w19F.mono rfl)).trans (w53F.mono rfl)) (w53J.trans w19J) w53R w53C w53A (by omega) (by omega) (by omega) (by omega) (by omega)
    refine zGo.locals (ls' := [(0, .ref 336), (1, .int (11 : Int32)), (2, .int (1 : Int32))]) (by simp) ?_
    have w60 := li1
    have w61 : (zI M 336 1).toInt = (zI M 336 1).toInt := (congrArg Int32.toInt rfl).trans rfl
    have w62 : (zI M 337 0).toInt = (zI M 337 0).toInt := (congrArg Int32.toInt rfl).trans rfl
    have w63 : (zI M 337 1).toInt = (zI M 337 1).toInt := (congrArg Int32.toInt rfl).trans rfl
    have w64 : (zI M 337 2).toInt = (zI M 337 2).toInt := (congrArg Int32.toInt rfl).trans rfl
    exact w19L ((8 - 1 : Int).toNat) (1 : Int32) M ⟨by decide, by decide⟩ hs hI zFr.refl rfl pR pC pA (by omega) (by omega) (by omega) (by omega) (by omega)
theorem K242 {X : zX} {l : Launch} {M : zM} {Q : Option Value → zM → Prop} {a b c d : Int32} (hs : zSk zMm M) (hI : zIv mLo mHi M) (pR : zPR M) (pC : zPC M) (ha : 5 ≤ a.toInt ∧ a.toInt ≤ 305) (hd : 0 ≤ d.toInt ∧ d.toInt ≤ 255) (u0 : a.toInt < 14 ∨ 30 ≤ a.toInt ∨ 14 + 2 * (zI M 337 0).toInt ≤ a.toInt) (u1 : a.toInt < 30 ∨ 270 ≤ a.toInt ∨ a.toInt % 4 ≠ 2 ∨ 30 + 4 * (zI M 337 1).toInt ≤ a.toInt) (x0 : aLo a.toInt.toNat ≤ b.toInt ∧ c.toInt ≤ aHi a.toInt.toNat) (hQ : ∀ (M' : zM) (v : Int32), zSk zMm M' → zIv mLo mHi M' → zFr [(336, 336, some 6), (336, 336, some 7), (336, 336, some 8), (337, 337, none)] M M' → zJ M' 351 = zJ M 351 → zUp M M' → zPR M' → zPC M' → ((zI M 336 6).toInt ≤ (zI M' 336 6).toInt) → ((v.toInt = 1 ∧ (zI M' 336 7).toInt = (zI M 336 7).toInt) ∨ (v.toInt = 0 ∧ 0 ≤ (zI M' 336 7).toInt)) → ((zI M' 337 0).toInt = (zI M 337 0).toInt) → ((zI M' 337 1).toInt = (zI M 337 1).toInt) → ((zI M' 337 2).toInt = (zI M 337 2).toInt) → (∀ j : Nat, (j : Int) ≠ a.toInt → zI M' 337 j = zI M 337 j) → (v.toInt = 0 ∨ ∀ j : Nat, (j : Int) = a.toInt → b.toInt ≤ (zI M' 337 j).toInt ∧ (zI M' 337 j).toInt ≤ c.toInt) → 0 ≤ v.toInt → v.toInt ≤ 1 → Q (some (.int v)) M') : zCall X l 3 0 0 242 [.ref 336, .int a, .int b, .int c, .int d] M Q := by
  have ga := zrg a
  have gb := zrg b
  have gc := zrg c
  have gd := zrg d
  refine zs_in (by decide) mf242 (Nat.le_of_ble_eq_true rfl) ?_
  show zGo X l 3 0 0 242 0 [(0, .ref 336), (1, .int a), (2, .int b), (3, .int c), (4, .int d)] [] M _
  refine zs_aload_n (pc := 0) t242_0 rfl ?_
  refine zs_iload_n (pc := 1) t242_1 rfl ?_
  refine zs_iload_n (pc := 2) t242_2 rfl ?_
  have w1 := ib336_6 hI
  have w2 : (zI M 336 6).toInt = (zI M 336 6).toInt := (congrArg Int32.toInt rfl).trans rfl
  have w3 := ib336_7 hI
  have w4 : (zI M 336 7).toInt = (zI M 336 7).toInt := (congrArg Int32.toInt rfl).trans rfl
  refine zs_invV (pc := 3) (k := 336) (as' := [.int b, .int c]) (st := []) t242_3 mf243 rfl rfl (Or.inl ⟨by decide, (zk1 (hs.k fk_zMm_336))⟩) ⟨by decide, by decide, Nat.le_of_ble_eq_true rfl, Nat.le_of_ble_eq_true rfl⟩ (K243 hs hI ?_) (fun _ _ q => q)
  intro w5M w5v w5s w5I w5F w5J w5t0 w5t1 w5t2 w5a w5b
  have w6 := ib336_6 w5I
  have w7 := ib336_7 w5I
  have w8 := zrg (zI w5M 336 8)
  show zGo X l 3 0 0 242 6 [(0, .ref 336), (1, .int a), (2, .int b), (3, .int c), (4, .int d)] [.int w5v] w5M _
  by_cases w9 : w5v.toInt ≠ 0
  · refine zs_if_neT (pc := 6) t242_6 rfl (by omega) ?_
    refine zs_aload_n (pc := 11) t242_11 rfl ?_
    refine zs_get (pc := 12) t242_12 (by decide) (zk1 (w5s.k fk_zMm_336)) (w5s.p rfl fv_zMm_336_0) ?_
    refine zs_iload_n (pc := 15) t242_15 rfl ?_
    refine zs_aload_n (pc := 16) t242_16 rfl ?_
    refine zs_get (pc := 17) t242_17 (by decide) (zk1 (w5s.k fk_zMm_336)) (zfvi rfl rfl) ?_
    obtain ⟨w10n, w10⟩ : ∃ n : Nat, a.toInt = (n : Int) := ⟨(a.toInt).toNat, by omega⟩
    have w11 : zIv mLo mHi (zsI w5M 337 w10n (zI w5M 336 8)) := zIv.putA w5I (by omega) (by rw [show w10n = a.toInt.toNat by omega]; exact ⟨by omega, by omega⟩)
    have w12 := ibA0 hI
    have w13 : (zI w5M 337 0).toInt = (zI M 337 0).toInt := (congrArg Int32.toInt ((w5F 337 0 rfl).trans rfl)).trans rfl
    have w14 := ibA1 hI
    have w15 : (zI w5M 337 1).toInt = (zI M 337 1).toInt := (congrArg Int32.toInt ((w5F 337 1 rfl).trans rfl)).trans rfl
    have w16 : zPR (zsI w5M 337 w10n (zI w5M 336 8)) := zPR.put (zPR.fr pR (w5F.eq rfl)) (by omega) (by omega) (by omega) (by omega)
    have w17 : zPC (zsI w5M 337 w10n (zI w5M 336 8)) := zPC.put (zPC.fr pC (w5F.eq rfl)) (by omega) (by omega)
    refine zs_iast (pc := 20) t242_20 (j := w10n) (by decide) (zk1 (w5s.k fk_zMm_337)) (show a.toInt = ((w10n : Nat) : Int) by omega) (zk2 (w5s.k fk_zMm_337) (by omega)) ?_
    refine zs_aload_n (pc := 21) t242_21 rfl ?_
    refine zs_iload (pc := 22) t242_22 rfl ?_
    have w18 : (zI (zsI w5M 337 w10n (zI w5M 336 8)) 336 6).toInt = (zI w5M 336 6).toInt := (congrArg Int32.toInt ((zIo (by decide)).trans rfl)).trans rfl
    have w19 : (zI (zsI w5M 337 w10n (zI w5M 336 8)) 336 7).toInt = (zI w5M 336 7).toInt := (congrArg Int32.toInt ((zIo (by decide)).trans rfl)).trans rfl
    refine zs_invV (pc := 24) (k := 336) (as' := [.int d]) (st := []) t242_24 mf246 rfl rfl (Or.inl ⟨by decide, (zk1 (w5s.k fk_zMm_336))⟩) ⟨by decide, by decide, Nat.le_of_ble_eq_true rfl, Nat.le_of_ble_eq_true rfl⟩ (K246 w5s w11 ⟨by omega, by omega⟩ ?_) (fun _ _ q => q)
    intro w20M w20v w20s w20I w20F w20J w20t0 w20t1 w20a w20b
    have w21 := ib336_6 w20I
    have w22 := ib336_7 w20I
    show zGo X l 3 0 0 242 27 [(0, .ref 336), (1, .int a), (2, .int b), (3, .int c), (4, .int d)] [.int w20v] w20M _
    have w23 : (zI w20M 336 6).toInt = (zI w20M 336 6).toInt := (congrArg Int32.toInt rfl).trans rfl
    have w24 : (zI w20M 337 1).toInt = (zI M 337 1).toInt := (congrArg Int32.toInt ((w20F 337 1 rfl).trans ((zIoj (by omega)).trans ((w5F 337 1 rfl).trans rfl)))).trans rfl
    have w25 : (zI w20M 337 0).toInt = (zI M 337 0).toInt := (congrArg Int32.toInt ((w20F 337 0 rfl).trans ((zIoj (by omega)).trans ((w5F 337 0 rfl).trans rfl)))).trans rfl
    have w26 := ibA2 hI
    have w27 : (zI w20M 337 2).toInt = (zI M 337 2).toInt := (congrArg Int32.toInt ((w20F 337 2 rfl).trans ((zIoj (by omega)).trans ((w5F 337 2 rfl).trans rfl)))).trans rfl
    have w28 : (zI w20M 336 7).toInt = (zI w20M 336 7).toInt := (congrArg Int32.toInt rfl).trans rfl
    exact zs_iret (pc := 27) t242_27 mr242 (zfb01 (by omega)) (hQ _ _ w20s w20I ((((zFr.refl).trans (w5F.mono rfl)).put rfl).trans (w20F.mono rfl)) (w20J.trans w5J) ((((zUp.refl).trans (zUp.fr w5F rfl)).put (Or.inr (by omega))).trans (zUp.fr w20F rfl)) (zPR.fr w16 (w20F.eq rfl)) (zPC.fr w17 (w20F.eq rfl)) (by omega) (by omega) (by omega) (by omega) (by omega) (fun j hj => ((w20F 337 j rfl).trans ((zIoj (by omega)).trans (w5F 337 j rfl)))) (Or.inr (fun j hj => by
        obtain rfl : j = w10n := by omega
        rw [w20F 337 _ rfl, zIs]
        exact ⟨by omega, by omega⟩)) (by omega) (by omega))
  · refine zs_if_neF (pc := 6) t242_6 rfl (by omega) ?_
    refine zs_iconst (pc := 9) t242_9 (v := 0) (by decide) ?_
    have w29 : (zI w5M 336 6).toInt = (zI w5M 336 6).toInt := (congrArg Int32.toInt rfl).trans rfl
    have w30 : (zI w5M 337 1).toInt = (zI M 337 1).toInt := (congrArg Int32.toInt ((w5F 337 1 rfl).trans rfl)).trans rfl
    have w31 : (zI w5M 337 0).toInt = (zI M 337 0).toInt := (congrArg Int32.toInt ((w5F 337 0 rfl).trans rfl)).trans rfl
    have w32 : (zI w5M 337 2).toInt = (zI M 337 2).toInt := (congrArg Int32.toInt ((w5F 337 2 rfl).trans rfl)).trans rfl
    have w33 : (zI w5M 336 7).toInt = (zI w5M 336 7).toInt := (congrArg Int32.toInt rfl).trans rfl
    have w34 := li0
    exact zs_iret (pc := 10) t242_10 mr242 (by decide) (hQ _ _ w5s w5I ((zFr.refl).trans (w5F.mono rfl)) w5J ((zUp.refl).trans (zUp.fr w5F rfl)) (zPR.fr pR (w5F.eq rfl)) (zPC.fr pC (w5F.eq rfl)) (by omega) (by omega) (by omega) (by omega) (by omega) (fun j hj => (w5F 337 j rfl)) (Or.inl (by decide)) (by decide) (by decide))
theorem K240 {X : zX} {l : Launch} {M : zM} {Q : Option Value → zM → Prop} (hs : zSk zMm M) (hI : zIv mLo mHi M) (pR : zPR M) (pC : zPC M) (u0 : (zI M 337 0).toInt < 8) (hQ : ∀ (M' : zM) (v : Int32), zSk zMm M' → zIv mLo mHi M' → zFr [(336, 336, some 6), (336, 336, some 7), (336, 336, some 8), (337, 337, none)] M M' → zJ M' 351 = zJ M 351 → zUp M M' → zPR M' → zPC M' → ((zI M 336 6).toInt ≤ (zI M' 336 6).toInt) → ((v.toInt = 1 ∧ (zI M' 336 7).toInt = (zI M 336 7).toInt) ∨ (v.toInt = 0 ∧ 0 ≤ (zI M' 336 7).toInt)) → 0 ≤ v.toInt → v.toInt ≤ 1 → Q (some (.int v)) M') : zCall X l 4 0 0 240 [.ref 336] M Q := by
  refine zs_in (by decide) mf240 (Nat.le_of_ble_eq_true rfl) ?_
  show zGo X l 4 0 0 240 0 [(0, .ref 336)] [] M _
  refine zs_aload_n (pc := 0) t240_0 rfl ?_
  refine zs_get (pc := 1) t240_1 (by decide) (zk1 (hs.k fk_zMm_336)) (hs.p rfl fv_zMm_336_0) ?_
  refine zs_iconst (pc := 4) t240_4 (v := 0) (by decide) ?_
  have w1 := ibA0 hI
  refine zs_iald (pc := 5) t240_5 (j := 0) (by decide) (zk1 (hs.k fk_zMm_337)) li0 (zk2 (hs.k fk_zMm_337) (by decide)) rfl ?_
  refine zs_istore_n (pc := 6) t240_6 (ls' := [(1, .int (zI M 337 0)), (0, .ref 336)]) (zml mf240 (by decide)) rfl ?_
  refine zs_aload_n (pc := 7) t240_7 rfl ?_
  refine zs_bipush (pc := 8) t240_8 (v := 14) (by decide) ?_
  refine zs_iconst (pc := 10) t240_10 (v := 2) (by decide) ?_
  refine zs_iload_n (pc := 11) t240_11 rfl ?_
  obtain ⟨w2v, w2⟩ : ∃ v, (2 : Int32) * (zI M 337 0) = v := ⟨_, rfl⟩
  have w2g : w2v.toInt = 2 * (zI M 337 0).toInt := by rw [← w2]; exact zmulc li2 rfl (by omega) (by omega)
  refine zs_imul (pc := 12) t240_12 (c := w2v) w2 ?_
  obtain ⟨w3v, w3e, w3⟩ := ziadd (a := (14 : Int32)) (b := w2v) li14 w2g (by omega) (by omega)
  refine zs_iadd (pc := 13) t240_13 (c := w3v) w3e ?_
  refine zs_iload_n (pc := 14) t240_14 rfl ?_
  by_cases w4 : (zI M 337 0).toInt ≠ 0
  · refine zs_if_neT (pc := 15) t240_15 rfl (by omega) ?_
    refine zs_aload_n (pc := 22) t240_22 rfl ?_
    refine zs_iload_n (pc := 23) t240_23 rfl ?_
    refine zs_iconst (pc := 24) t240_24 (v := 1) (by decide) ?_
    obtain ⟨w5v, w5e, w5⟩ := zisub (a := (zI M 337 0)) (b := (1 : Int32)) rfl li1 (by omega) (by omega)
    refine zs_isub (pc := 25) t240_25 (c := w5v) w5e ?_
    refine zs_invV (pc := 26) (k := 336) (as' := [.int w5v]) (st := [.int w3v, .ref 336]) t240_26 mf241 rfl rfl (Or.inl ⟨by decide, (zk1 (hs.k fk_zMm_336))⟩) ⟨by decide, by decide, Nat.le_of_ble_eq_true rfl, Nat.le_of_ble_eq_true rfl⟩ (zs_in (by decide) mf241 (Nat.le_of_ble_eq_true rfl) ?_) (fun _ _ q => q)
    show zGo X l 0 0 0 241 0 [(0, .ref 336), (1, .int w5v)] [] M _
    refine zs_aload_n (pc := 0) t241_0 rfl ?_
    refine zs_get (pc := 1) t241_1 (by decide) (zk1 (hs.k fk_zMm_336)) (hs.p rfl fv_zMm_336_0) ?_
    refine zs_bipush (pc := 4) t241_4 (v := 14) (by decide) ?_
    refine zs_iconst (pc := 6) t241_6 (v := 2) (by decide) ?_
    refine zs_iload_n (pc := 7) t241_7 rfl ?_
    obtain ⟨w6v, w6⟩ : ∃ v, (2 : Int32) * w5v = v := ⟨_, rfl⟩
    have w6g : w6v.toInt = 2 * ((zI M 337 0).toInt - 1) := by rw [← w6]; exact zmulc li2 w5 (by omega) (by omega)
    refine zs_imul (pc := 8) t241_8 (c := w6v) w6 ?_
    obtain ⟨w7v, w7e, w7⟩ := ziadd (a := (14 : Int32)) (b := w6v) li14 w6g (by omega) (by omega)
    refine zs_iadd (pc := 9) t241_9 (c := w7v) w7e ?_
    obtain ⟨w8n, w8⟩ : ∃ n : Nat, (zI M 337 0).toInt = (n : Int) := ⟨((zI M 337 0).toInt).toNat, by omega⟩
    have w9 := ibX (j := (12 + 2 * w8n)) hI (by omega) (by omega) (by omega)
    refine zs_iald (pc := 10) t241_10 (j := (12 + 2 * w8n)) (by decide) (zk1 (hs.k fk_zMm_337)) (show w7v.toInt = (((12 + 2 * w8n) : Nat) : Int) by omega) (zk2 (hs.k fk_zMm_337) (by omega)) rfl ?_
    refine zs_iret (pc := 11) t241_11 mr241 rfl ?_
    show zGo X l 4 0 0 240 29 [(1, .int (zI M 337 0)), (0, .ref 336)] [.int (zI M 337 (12 + 2 * w8n)), .int w3v, .ref 336] M _
    refine zs_iconst (pc := 29) t240_29 (v := 1) (by decide) ?_
    obtain ⟨w10v, w10e, w10⟩ := ziadd (a := (zI M 337 (12 + 2 * w8n))) (b := (1 : Int32)) rfl li1 (by omega) (by omega)
    refine zs_iadd (pc := 30) t240_30 (c := w10v) w10e ?_
    refine zs_sipush (pc := 31) t240_31 (v := 999) (by decide) ?_
    refine zs_bipush (pc := 34) t240_34 (v := 59) (by decide) ?_
    have w11 : w3v.toInt = (14 + (2 * (zI M 337 0).toInt)) := w3
    have w12 : w10v.toInt = ((zI M 337 (12 + 2 * w8n)).toInt + 1) := w10
    have w13 : (999 : Int32).toInt = 999 := li999
    have w14 : (59 : Int32).toInt = 59 := li59
    have w15 := ibA1 hI
    have w16 : (zI M 337 1).toInt = (zI M 337 1).toInt := (congrArg Int32.toInt rfl).trans rfl
    have w17 : (zI M 337 0).toInt = (zI M 337 0).toInt := (congrArg Int32.toInt rfl).trans rfl
    have w18 := ib336_6 hI
    have w19 : (zI M 336 6).toInt = (zI M 336 6).toInt := (congrArg Int32.toInt rfl).trans rfl
    have w20 : (zI M 337 1).toInt = (zI M 337 1).toInt := (congrArg Int32.toInt rfl).trans rfl
    have w21 : (zI M 337 0).toInt = (zI M 337 0).toInt := (congrArg Int32.toInt rfl).trans rfl
    have w22 := ibA2 hI
    have w23 : (zI M 337 2).toInt = (zI M 337 2).toInt := (congrArg Int32.toInt rfl).trans rfl
    have w24 := ib336_7 hI
    have w25 : (zI M 336 7).toInt = (zI M 336 7).toInt := (congrArg Int32.toInt rfl).trans rfl
    have w27 : w10v.toInt = ((zI M 337 (12 + 2 * w8n)).toInt + 1) := w10
    have w28 : (999 : Int32).toInt = 999 := li999
    have w29 : w3v.toInt = (14 + (2 * (zI M 337 0).toInt)) := w3
    have w26 := aX (p := w3v.toInt.toNat) (by omega) (by omega) (by omega)
    refine zs_invV (pc := 36) (k := 336) (as' := [.int w3v, .int w10v, .int (999 : Int32), .int (59 : Int32)]) (st := []) t240_36 mf242 rfl rfl (Or.inl ⟨by decide, (zk1 (hs.k fk_zMm_336))⟩) ⟨by decide, by decide, Nat.le_of_ble_eq_true rfl, Nat.le_of_ble_eq_true rfl⟩ (K242 hs hI pR pC ⟨by omega, by omega⟩ ⟨by decide, by decide⟩ (by omega) (by omega) (by rw [w26.1, w26.2]; exact ⟨by omega, by omega⟩) ?_) (fun _ _ q => q)
    intro w30M w30v w30s w30I w30F w30J w30U w30PR w30PC w30t0 w30t1 w30t2 w30t3 w30t4 w30x0 w30x1 w30a w30b
    have w31 := ib336_6 w30I
    have w32 := ibA1 w30I
    have w33 := ibA0 w30I
    have w34 := ibA2 w30I
    have w35 := ib336_7 w30I
    show zGo X l 4 0 0 240 39 [(1, .int (zI M 337 0)), (0, .ref 336)] [.int w30v] w30M _
    by_cases w36 : w30v.toInt ≠ 0
    · refine zs_if_neT (pc := 39) t240_39 rfl (by omega) ?_
      refine zs_aload_n (pc := 44) t240_44 rfl ?_
      refine zs_get (pc := 45) t240_45 (by decide) (zk1 (w30s.k fk_zMm_336)) (w30s.p rfl fv_zMm_336_0) ?_
      refine zs_bipush (pc := 48) t240_48 (v := 14) (by decide) ?_
      refine zs_iconst (pc := 50) t240_50 (v := 2) (by decide) ?_
      refine zs_iload_n (pc := 51) t240_51 rfl ?_
      obtain ⟨w37v, w37⟩ : ∃ v, (2 : Int32) * (zI M 337 0) = v := ⟨_, rfl⟩
      have w37g : w37v.toInt = 2 * (zI M 337 0).toInt := by rw [← w37]; exact zmulc li2 rfl (by omega) (by omega)
      refine zs_imul (pc := 52) t240_52 (c := w37v) w37 ?_
      obtain ⟨w38v, w38e, w38⟩ := ziadd (a := (14 : Int32)) (b := w37v) li14 w37g (by omega) (by omega)
      refine zs_iadd (pc := 53) t240_53 (c := w38v) w38e ?_
      refine zs_iconst (pc := 54) t240_54 (v := 1) (by decide) ?_
      obtain ⟨w39v, w39e, w39⟩ := ziadd (a := w38v) (b := (1 : Int32)) w38 li1 (by omega) (by omega)
      refine zs_iadd (pc := 55) t240_55 (c := w39v) w39e ?_
      refine zs_iconst (pc := 56) t240_56 (v := 1) (by decide) ?_
      have w40a := aN (p := (15 + 2 * w8n)) (by omega)
      have w40 : zIv mLo mHi (zsI w30M 337 (15 + 2 * w8n) (1 : Int32)) := zIv.putA w30I (by omega) (by rw [w40a.1, w40a.2]; exact zrg (1 : Int32))
      have w41 : (zI w30M 337 0).toInt = (zI w30M 337 0).toInt := (congrArg Int32.toInt rfl).trans rfl
      have w42 : (zI w30M 337 1).toInt = (zI w30M 337 1).toInt := (congrArg Int32.toInt rfl).trans rfl
      have w43 : zPR (zsI w30M 337 (15 + 2 * w8n) (1 : Int32)) := zPR.put w30PR (by omega) (by omega) (by omega) (by omega)
      have w44 : zPC (zsI w30M 337 (15 + 2 * w8n) (1 : Int32)) := zPC.put w30PC (by omega) (by omega)
      refine zs_iast (pc := 57) t240_57 (j := (15 + 2 * w8n)) (by decide) (zk1 (w30s.k fk_zMm_337)) (show w39v.toInt = (((15 + 2 * w8n) : Nat) : Int) by omega) (zk2 (w30s.k fk_zMm_337) (by omega)) ?_
      refine zs_aload_n (pc := 58) t240_58 rfl ?_
      refine zs_get (pc := 59) t240_59 (by decide) (zk1 (w30s.k fk_zMm_336)) (w30s.p rfl fv_zMm_336_0) ?_
      refine zs_iconst (pc := 62) t240_62 (v := 0) (by decide) ?_
      refine zs_dup2 (pc := 63) t240_63 ⟨rfl, rfl⟩ ?_
      refine zs_iald (pc := 64) t240_64 (j := 0) (by decide) (zk1 (w30s.k fk_zMm_337)) li0 (zk2 (w30s.k fk_zMm_337) (by decide)) ((zIoj (by omega)).trans rfl) ?_
      refine zs_iconst (pc := 65) t240_65 (v := 1) (by decide) ?_
      obtain ⟨w45v, w45e, w45⟩ := ziadd (a := (zI w30M 337 0)) (b := (1 : Int32)) rfl li1 (by omega) (by omega)
      refine zs_iadd (pc := 66) t240_66 (c := w45v) w45e ?_
      have w46 : zIv mLo mHi (zsI (zsI w30M 337 (15 + 2 * w8n) (1 : Int32)) 337 0 w45v) := zIv.putA w40 (by decide) (show 0 ≤ w45v.toInt ∧ w45v.toInt ≤ 8 from ⟨by omega, by omega⟩)
      have w47 : (zI (zsI w30M 337 (15 + 2 * w8n) (1 : Int32)) 337 0).toInt = (zI w30M 337 0).toInt := (congrArg Int32.toInt ((zIoj (by omega)).trans rfl)).trans rfl
      obtain ⟨w48n, w48⟩ : ∃ n : Nat, (zI w30M 337 0).toInt = (n : Int) := ⟨((zI w30M 337 0).toInt).toNat, by omega⟩
      have w49 : w45v.toInt = ((zI w30M 337 0).toInt + 1) := w45
      have w30q := w30x1.resolve_left (by omega) (14 + 2 * w8n) (by omega)
      have w30e := w10
      have w50 : zPR (zsI (zsI w30M 337 (15 + 2 * w8n) (1 : Int32)) 337 0 w45v) := zPR.lay (n := w8n) w43 (by omega) (by omega) (Or.inr (by rw [zIoj (by omega), zIoj (by omega), w30x0 (14 + 2 * (w8n - 1)) (by omega), show 14 + 2 * (w8n - 1) = 12 + 2 * w8n by omega]; omega))
      have w51 : zPC (zsI (zsI w30M 337 (15 + 2 * w8n) (1 : Int32)) 337 0 w45v) := zPC.put w44 (by decide) (by decide)
      refine zs_iast (pc := 67) t240_67 (j := 0) (by decide) (zk1 (w30s.k fk_zMm_337)) li0 (zk2 (w30s.k fk_zMm_337) (by decide)) ?_
      refine zs_iconst (pc := 68) t240_68 (v := 1) (by decide) ?_
      have w52 : (zI (zsI (zsI w30M 337 (15 + 2 * w8n) (1 : Int32)) 337 0 w45v) 336 6).toInt = (zI w30M 336 6).toInt := (congrArg Int32.toInt ((zIo (by decide)).trans ((zIo (by decide)).trans rfl))).trans rfl
      have w53 : (zI (zsI (zsI w30M 337 (15 + 2 * w8n) (1 : Int32)) 337 0 w45v) 336 7).toInt = (zI w30M 336 7).toInt := (congrArg Int32.toInt ((zIo (by decide)).trans ((zIo (by decide)).trans rfl))).trans rfl
      have w54 := li1
      exact zs_iret (pc := 69) t240_69 mr240 (by decide) (hQ _ _ w30s w46 ((((zFr.refl).trans (w30F.mono rfl)).put rfl).put rfl) w30J ((((zUp.refl).trans w30U).put (Or.inr (by omega))).put (Or.inr (by decide))) w50 w51 (by omega) (by omega) (by decide) (by decide))
    · refine zs_if_neF (pc := 39) t240_39 rfl (by omega) ?_
      refine zs_iconst (pc := 42) t240_42 (v := 0) (by decide) ?_
      have w55 : (zI w30M 336 6).toInt = (zI w30M 336 6).toInt := (congrArg Int32.toInt rfl).trans rfl
      have w56 : (zI w30M 336 7).toInt = (zI w30M 336 7).toInt := (congrArg Int32.toInt rfl).trans rfl
      have w57 := li0
      exact zs_iret (pc := 43) t240_43 mr240 (by decide) (hQ _ _ w30s w30I ((zFr.refl).trans (w30F.mono rfl)) w30J ((zUp.refl).trans w30U) w30PR w30PC (by omega) (by omega) (by decide) (by decide))
  · refine zs_if_neF (pc := 15) t240_15 rfl (by omega) ?_
    refine zs_iconst (pc := 18) t240_18 (v := 1) (by decide) ?_
    refine zs_goto (pc := 19) t240_19 ?_
    refine zs_sipush (pc := 31) t240_31 (v := 999) (by decide) ?_
    refine zs_bipush (pc := 34) t240_34 (v := 59) (by decide) ?_
    have w58 : w3v.toInt = (14 + (2 * (zI M 337 0).toInt)) := w3
    have w59 : (1 : Int32).toInt = 1 := li1
    have w60 : (999 : Int32).toInt = 999 := li999
    have w61 : (59 : Int32).toInt = 59 := li59
    have w62 := ibA1 hI
    have w63 : (zI M 337 1).toInt = (zI M 337 1).toInt := (congrArg Int32.toInt rfl).trans rfl
    have w64 : (zI M 337 0).toInt = (zI M 337 0).toInt := (congrArg Int32.toInt rfl).trans rfl
    have w65 := ib336_6 hI
    have w66 : (zI M 336 6).toInt = (zI M 336 6).toInt := (congrArg Int32.toInt rfl).trans rfl
    have w67 : (zI M 337 1).toInt = (zI M 337 1).toInt := (congrArg Int32.toInt rfl).trans rfl
    have w68 : (zI M 337 0).toInt = (zI M 337 0).toInt := (congrArg Int32.toInt rfl).trans rfl
    have w69 := ibA2 hI
    have w70 : (zI M 337 2).toInt = (zI M 337 2).toInt := (congrArg Int32.toInt rfl).trans rfl
    have w71 := ib336_7 hI
    have w72 : (zI M 336 7).toInt = (zI M 336 7).toInt := (congrArg Int32.toInt rfl).trans rfl
    have w74 : (1 : Int32).toInt = 1 := li1
    have w75 : (999 : Int32).toInt = 999 := li999
    have w76 : w3v.toInt = (14 + (2 * (zI M 337 0).toInt)) := w3
    have w73 := aX (p := w3v.toInt.toNat) (by omega) (by omega) (by omega)
    refine zs_invV (pc := 36) (k := 336) (as' := [.int w3v, .int (1 : Int32), .int (999 : Int32), .int (59 : Int32)]) (st := []) t240_36 mf242 rfl rfl (Or.inl ⟨by decide, (zk1 (hs.k fk_zMm_336))⟩) ⟨by decide, by decide, Nat.le_of_ble_eq_true rfl, Nat.le_of_ble_eq_true rfl⟩ (K242 hs hI pR pC ⟨by omega, by omega⟩ ⟨by decide, by decide⟩ (by omega) (by omega) (by rw [w73.1, w73.2]; exact ⟨by omega, by omega⟩) ?_) (fun _ _ q => q)
    intro w77M w77v w77s w77I w77F w77J w77U w77PR w77PC w77t0 w77t1 w77t2 w77t3 w77t4 w77x0 w77x1 w77a w77b
    have w78 := ib336_6 w77I
    have w79 := ibA1 w77I
    have w80 := ibA0 w77I
    have w81 := ibA2 w77I
    have w82 := ib336_7 w77I
    show zGo X l 4 0 0 240 39 [(1, .int (zI M 337 0)), (0, .ref 336)] [.int w77v] w77M _
    by_cases w83 : w77v.toInt ≠ 0
    · refine zs_if_neT (pc := 39) t240_39 rfl (by omega) ?_
      refine zs_aload_n (pc := 44) t240_44 rfl ?_
      refine zs_get (pc := 45) t240_45 (by decide) (zk1 (w77s.k fk_zMm_336)) (w77s.p rfl fv_zMm_336_0) ?_
      refine zs_bipush (pc := 48) t240_48 (v := 14) (by decide) ?_
      refine zs_iconst (pc := 50) t240_50 (v := 2) (by decide) ?_
      refine zs_iload_n (pc := 51) t240_51 rfl ?_
      obtain ⟨w84v, w84⟩ : ∃ v, (2 : Int32) * (zI M 337 0) = v := ⟨_, rfl⟩
      have w84g : w84v.toInt = 2 * (zI M 337 0).toInt := by rw [← w84]; exact zmulc li2 rfl (by omega) (by omega)
      refine zs_imul (pc := 52) t240_52 (c := w84v) w84 ?_
      obtain ⟨w85v, w85e, w85⟩ := ziadd (a := (14 : Int32)) (b := w84v) li14 w84g (by omega) (by omega)
      refine zs_iadd (pc := 53) t240_53 (c := w85v) w85e ?_
      refine zs_iconst (pc := 54) t240_54 (v := 1) (by decide) ?_
      obtain ⟨w86v, w86e, w86⟩ := ziadd (a := w85v) (b := (1 : Int32)) w85 li1 (by omega) (by omega)
      refine zs_iadd (pc := 55) t240_55 (c := w86v) w86e ?_
      refine zs_iconst (pc := 56) t240_56 (v := 1) (by decide) ?_
      obtain ⟨w87n, w87⟩ : ∃ n : Nat, (zI M 337 0).toInt = (n : Int) := ⟨((zI M 337 0).toInt).toNat, by omega⟩
      have w88a := aN (p := (15 + 2 * w87n)) (by omega)
      have w88 : zIv mLo mHi (zsI w77M 337 (15 + 2 * w87n) (1 : Int32)) := zIv.putA w77I (by omega) (by rw [w88a.1, w88a.2]; exact zrg (1 : Int32))
      have w89 : (zI w77M 337 0).toInt = (zI w77M 337 0).toInt := (congrArg Int32.toInt rfl).trans rfl
      have w90 : (zI w77M 337 1).toInt = (zI w77M 337 1).toInt := (congrArg Int32.toInt rfl).trans rfl
      have w91 : zPR (zsI w77M 337 (15 + 2 * w87n) (1 : Int32)) := zPR.put w77PR (by omega) (by omega) (by omega) (by omega)
      have w92 : zPC (zsI w77M 337 (15 + 2 * w87n) (1 : Int32)) := zPC.put w77PC (by omega) (by omega)
      refine zs_iast (pc := 57) t240_57 (j := (15 + 2 * w87n)) (by decide) (zk1 (w77s.k fk_zMm_337)) (show w86v.toInt = (((15 + 2 * w87n) : Nat) : Int) by omega) (zk2 (w77s.k fk_zMm_337) (by omega)) ?_
      refine zs_aload_n (pc := 58) t240_58 rfl ?_
      refine zs_get (pc := 59) t240_59 (by decide) (zk1 (w77s.k fk_zMm_336)) (w77s.p rfl fv_zMm_336_0) ?_
      refine zs_iconst (pc := 62) t240_62 (v := 0) (by decide) ?_
      refine zs_dup2 (pc := 63) t240_63 ⟨rfl, rfl⟩ ?_
      refine zs_iald (pc := 64) t240_64 (j := 0) (by decide) (zk1 (w77s.k fk_zMm_337)) li0 (zk2 (w77s.k fk_zMm_337) (by decide)) ((zIoj (by omega)).trans rfl) ?_
      refine zs_iconst (pc := 65) t240_65 (v := 1) (by decide) ?_
      obtain ⟨w93v, w93e, w93⟩ := ziadd (a := (zI w77M 337 0)) (b := (1 : Int32)) rfl li1 (by omega) (by omega)
      refine zs_iadd (pc := 66) t240_66 (c := w93v) w93e ?_
      have w94 : zIv mLo mHi (zsI (zsI w77M 337 (15 + 2 * w87n) (1 : Int32)) 337 0 w93v) := zIv.putA w88 (by decide) (show 0 ≤ w93v.toInt ∧ w93v.toInt ≤ 8 from ⟨by omega, by omega⟩)
      have w95 : (zI (zsI w77M 337 (15 + 2 * w87n) (1 : Int32)) 337 0).toInt = (zI w77M 337 0).toInt := (congrArg Int32.toInt ((zIoj (by omega)).trans rfl)).trans rfl
      obtain ⟨w96n, w96⟩ : ∃ n : Nat, (zI w77M 337 0).toInt = (n : Int) := ⟨((zI w77M 337 0).toInt).toNat, by omega⟩
      have w97 : w93v.toInt = ((zI w77M 337 0).toInt + 1) := w93
      have w98 : zPR (zsI (zsI w77M 337 (15 + 2 * w87n) (1 : Int32)) 337 0 w93v) := zPR.lay (n := w87n) w91 (by omega) (by omega) (Or.inl (by omega))
      have w99 : zPC (zsI (zsI w77M 337 (15 + 2 * w87n) (1 : Int32)) 337 0 w93v) := zPC.put w92 (by decide) (by decide)
      refine zs_iast (pc := 67) t240_67 (j := 0) (by decide) (zk1 (w77s.k fk_zMm_337)) li0 (zk2 (w77s.k fk_zMm_337) (by decide)) ?_
      refine zs_iconst (pc := 68) t240_68 (v := 1) (by decide) ?_
      have w100 : (zI (zsI (zsI w77M 337 (15 + 2 * w87n) (1 : Int32)) 337 0 w93v) 336 6).toInt = (zI w77M 336 6).toInt := (congrArg Int32.toInt ((zIo (by decide)).trans ((zIo (by decide)).trans rfl))).trans rfl
      have w101 : (zI (zsI (zsI w77M 337 (15 + 2 * w87n) (1 : Int32)) 337 0 w93v) 336 7).toInt = (zI w77M 336 7).toInt := (congrArg Int32.toInt ((zIo (by decide)).trans ((zIo (by decide)).trans rfl))).trans rfl
      have w102 := li1
      exact zs_iret (pc := 69) t240_69 mr240 (by decide) (hQ _ _ w77s w94 ((((zFr.refl).trans (w77F.mono rfl)).put rfl).put rfl) w77J ((((zUp.refl).trans w77U).put (Or.inr (by omega))).put (Or.inr (by decide))) w98 w99 (by omega) (by omega) (by decide) (by decide))
    · refine zs_if_neF (pc := 39) t240_39 rfl (by omega) ?_
      refine zs_iconst (pc := 42) t240_42 (v := 0) (by decide) ?_
      have w103 : (zI w77M 336 6).toInt = (zI w77M 336 6).toInt := (congrArg Int32.toInt rfl).trans rfl
      have w104 : (zI w77M 336 7).toInt = (zI w77M 336 7).toInt := (congrArg Int32.toInt rfl).trans rfl
      have w105 := li0
      exact zs_iret (pc := 43) t240_43 mr240 (by decide) (hQ _ _ w77s w77I ((zFr.refl).trans (w77F.mono rfl)) w77J ((zUp.refl).trans w77U) w77PR w77PC (by omega) (by omega) (by decide) (by decide))
theorem K247 {X : zX} {l : Launch} {M : zM} {Q : Option Value → zM → Prop} (hs : zSk zMm M) (hI : zIv mLo mHi M) (pR : zPR M) (pC : zPC M) (u0 : (zI M 337 1).toInt < 60) (hQ : ∀ (M' : zM) (v : Int32), zSk zMm M' → zIv mLo mHi M' → zFr [(336, 336, some 6), (336, 336, some 7), (336, 336, some 8), (337, 337, none)] M M' → zJ M' 351 = zJ M 351 → zUp M M' → zPR M' → zPC M' → ((zI M 336 6).toInt ≤ (zI M' 336 6).toInt) → ((v.toInt = 1 ∧ (zI M' 336 7).toInt = (zI M 336 7).toInt) ∨ (v.toInt = 0 ∧ 0 ≤ (zI M' 336 7).toInt)) → 0 ≤ v.toInt → v.toInt ≤ 1 → Q (some (.int v)) M') : zCall X l 4 0 0 247 [.ref 336] M Q := by
  refine zs_in (by decide) mf247 (Nat.le_of_ble_eq_true rfl) ?_
  show zGo X l 4 0 0 247 0 [(0, .ref 336)] [] M _
  refine zs_bipush (pc := 0) t247_0 (v := 30) (by decide) ?_
  refine zs_iconst (pc := 2) t247_2 (v := 4) (by decide) ?_
  refine zs_aload_n (pc := 3) t247_3 rfl ?_
  refine zs_get (pc := 4) t247_4 (by decide) (zk1 (hs.k fk_zMm_336)) (hs.p rfl fv_zMm_336_0) ?_
  refine zs_iconst (pc := 7) t247_7 (v := 1) (by decide) ?_
  have w1 := ibA1 hI
  refine zs_iald (pc := 8) t247_8 (j := 1) (by decide) (zk1 (hs.k fk_zMm_337)) li1 (zk2 (hs.k fk_zMm_337) (by decide)) rfl ?_
  obtain ⟨w2v, w2⟩ : ∃ v, (4 : Int32) * (zI M 337 1) = v := ⟨_, rfl⟩
  have w2g : w2v.toInt = 4 * (zI M 337 1).toInt := by rw [← w2]; exact zmulc li4 rfl (by omega) (by omega)
  refine zs_imul (pc := 9) t247_9 (c := w2v) w2 ?_
  obtain ⟨w3v, w3e, w3⟩ := ziadd (a := (30 : Int32)) (b := w2v) li30 w2g (by omega) (by omega)
  refine zs_iadd (pc := 10) t247_10 (c := w3v) w3e ?_
  refine zs_istore_n (pc := 11) t247_11 (ls' := [(1, .int w3v), (0, .ref 336)]) (zml mf247 (by decide)) rfl ?_
  refine zs_aload_n (pc := 12) t247_12 rfl ?_
  refine zs_iload_n (pc := 13) t247_13 rfl ?_
  refine zs_iconst (pc := 14) t247_14 (v := 0) (by decide) ?_
  refine zs_aload_n (pc := 15) t247_15 rfl ?_
  refine zs_get (pc := 16) t247_16 (by decide) (zk1 (hs.k fk_zMm_336)) (hs.p rfl fv_zMm_336_0) ?_
  refine zs_iconst (pc := 19) t247_19 (v := 0) (by decide) ?_
  have w4 := ibA0 hI
  refine zs_iald (pc := 20) t247_20 (j := 0) (by decide) (zk1 (hs.k fk_zMm_337)) li0 (zk2 (hs.k fk_zMm_337) (by decide)) rfl ?_
  refine zs_iconst (pc := 21) t247_21 (v := 1) (by decide) ?_
  obtain ⟨w5v, w5e, w5⟩ := zisub (a := (zI M 337 0)) (b := (1 : Int32)) rfl li1 (by omega) (by omega)
  refine zs_isub (pc := 22) t247_22 (c := w5v) w5e ?_
  refine zs_bipush (pc := 23) t247_23 (v := 44) (by decide) ?_
  have w6 : w3v.toInt = (30 + (4 * (zI M 337 1).toInt)) := w3
  have w7 : (0 : Int32).toInt = 0 := li0
  have w8 : w5v.toInt = ((zI M 337 0).toInt - 1) := w5
  have w9 : (44 : Int32).toInt = 44 := li44
  have w10 : (zI M 337 1).toInt = (zI M 337 1).toInt := (congrArg Int32.toInt rfl).trans rfl
  have w11 : (zI M 337 0).toInt = (zI M 337 0).toInt := (congrArg Int32.toInt rfl).trans rfl
  have w12 := ib336_6 hI
  have w13 : (zI M 336 6).toInt = (zI M 336 6).toInt := (congrArg Int32.toInt rfl).trans rfl
  have w14 : (zI M 337 1).toInt = (zI M 337 1).toInt := (congrArg Int32.toInt rfl).trans rfl
  have w15 : (zI M 337 0).toInt = (zI M 337 0).toInt := (congrArg Int32.toInt rfl).trans rfl
  have w16 := ibA2 hI
  have w17 : (zI M 337 2).toInt = (zI M 337 2).toInt := (congrArg Int32.toInt rfl).trans rfl
  have w18 := ib336_7 hI
  have w19 : (zI M 336 7).toInt = (zI M 336 7).toInt := (congrArg Int32.toInt rfl).trans rfl
  have w21 : (0 : Int32).toInt = 0 := li0
  have w22 : w5v.toInt = ((zI M 337 0).toInt - 1) := w5
  have w23 : w3v.toInt = (30 + (4 * (zI M 337 1).toInt)) := w3
  have w20 := aL (p := w3v.toInt.toNat) (by omega) (by omega) (by omega)
  refine zs_invV (pc := 25) (k := 336) (as' := [.int w3v, .int (0 : Int32), .int w5v, .int (44 : Int32)]) (st := []) t247_25 mf242 rfl rfl (Or.inl ⟨by decide, (zk1 (hs.k fk_zMm_336))⟩) ⟨by decide, by decide, Nat.le_of_ble_eq_true rfl, Nat.le_of_ble_eq_true rfl⟩ (K242 hs hI pR pC ⟨by omega, by omega⟩ ⟨by decide, by decide⟩ (by omega) (by omega) (by rw [w20.1, w20.2]; exact ⟨by omega, by omega⟩) ?_) (fun _ _ q => q)
  intro w24M w24v w24s w24I w24F w24J w24U w24PR w24PC w24t0 w24t1 w24t2 w24t3 w24t4 w24x0 w24x1 w24a w24b
  have w25 := ib336_6 w24I
  have w26 := ibA1 w24I
  have w27 := ibA0 w24I
  have w28 := ibA2 w24I
  have w29 := ib336_7 w24I
  show zGo X l 4 0 0 247 28 [(1, .int w3v), (0, .ref 336)] [.int w24v] w24M _
  by_cases w30 : w24v.toInt = 0
  · refine zs_if_eqT (pc := 28) t247_28 rfl (by omega) ?_
    refine zs_iconst (pc := 65) t247_65 (v := 0) (by decide) ?_
    have w31 : (zI w24M 336 6).toInt = (zI w24M 336 6).toInt := (congrArg Int32.toInt rfl).trans rfl
    have w32 : (zI w24M 336 7).toInt = (zI w24M 336 7).toInt := (congrArg Int32.toInt rfl).trans rfl
    have w33 := li0
    exact zs_iret (pc := 66) t247_66 mr247 (by decide) (hQ _ _ w24s w24I ((zFr.refl).trans (w24F.mono rfl)) w24J ((zUp.refl).trans w24U) w24PR w24PC (by omega) (by omega) (by decide) (by decide))
  · refine zs_if_eqF (pc := 28) t247_28 rfl (by omega) ?_
    refine zs_aload_n (pc := 31) t247_31 rfl ?_
    refine zs_iload_n (pc := 32) t247_32 rfl ?_
    refine zs_iconst (pc := 33) t247_33 (v := 1) (by decide) ?_
    obtain ⟨w34v, w34e, w34⟩ := ziadd (a := w3v) (b := (1 : Int32)) w3 li1 (by omega) (by omega)
    refine zs_iadd (pc := 34) t247_34 (c := w34v) w34e ?_
    refine zs_sipush (pc := 35) t247_35 (v := -9999) (by decide) ?_
    refine zs_sipush (pc := 38) t247_38 (v := 9999) (by decide) ?_
    refine zs_bipush (pc := 41) t247_41 (v := 44) (by decide) ?_
    have w35 : w34v.toInt = ((30 + (4 * (zI M 337 1).toInt)) + 1) := w34
    have w36 : (-9999 : Int32).toInt = (-9999) := lin9999
    have w37 : (9999 : Int32).toInt = 9999 := li9999
    have w38 : (44 : Int32).toInt = 44 := li44
    have w39 : (zI w24M 337 1).toInt = (zI w24M 337 1).toInt := (congrArg Int32.toInt rfl).trans rfl
    have w40 : (zI w24M 337 0).toInt = (zI w24M 337 0).toInt := (congrArg Int32.toInt rfl).trans rfl
    have w41 : (zI w24M 336 6).toInt = (zI w24M 336 6).toInt := (congrArg Int32.toInt rfl).trans rfl
    have w42 : (zI w24M 337 1).toInt = (zI w24M 337 1).toInt := (congrArg Int32.toInt rfl).trans rfl
    have w43 : (zI w24M 337 0).toInt = (zI w24M 337 0).toInt := (congrArg Int32.toInt rfl).trans rfl
    have w44 : (zI w24M 337 2).toInt = (zI w24M 337 2).toInt := (congrArg Int32.toInt rfl).trans rfl
    have w45 : (zI w24M 336 7).toInt = (zI w24M 336 7).toInt := (congrArg Int32.toInt rfl).trans rfl
    have w47 : (-9999 : Int32).toInt = (-9999) := lin9999
    have w48 : (9999 : Int32).toInt = 9999 := li9999
    have w49 : w34v.toInt = ((30 + (4 * (zI M 337 1).toInt)) + 1) := w34
    have w46 := aN (p := w34v.toInt.toNat) (by omega)
    refine zs_invV (pc := 43) (k := 336) (as' := [.int w34v, .int (-9999 : Int32), .int (9999 : Int32), .int (44 : Int32)]) (st := []) t247_43 mf242 rfl rfl (Or.inl ⟨by decide, (zk1 (w24s.k fk_zMm_336))⟩) ⟨by decide, by decide, Nat.le_of_ble_eq_true rfl, Nat.le_of_ble_eq_true rfl⟩ (K242 w24s w24I w24PR w24PC ⟨by omega, by omega⟩ ⟨by decide, by decide⟩ (by omega) (by omega) (by rw [w46.1, w46.2]; exact ⟨by omega, by omega⟩) ?_) (fun _ _ q => q)
    intro w50M w50v w50s w50I w50F w50J w50U w50PR w50PC w50t0 w50t1 w50t2 w50t3 w50t4 w50x0 w50x1 w50a w50b
    have w51 := ib336_6 w50I
    have w52 := ibA1 w50I
    have w53 := ibA0 w50I
    have w54 := ibA2 w50I
    have w55 := ib336_7 w50I
    show zGo X l 4 0 0 247 46 [(1, .int w3v), (0, .ref 336)] [.int w50v] w50M _
    by_cases w56 : w50v.toInt = 0
    · refine zs_if_eqT (pc := 46) t247_46 rfl (by omega) ?_
      refine zs_iconst (pc := 65) t247_65 (v := 0) (by decide) ?_
      have w57 : (zI w50M 336 6).toInt = (zI w50M 336 6).toInt := (congrArg Int32.toInt rfl).trans rfl
      have w58 : (zI w50M 336 7).toInt = (zI w50M 336 7).toInt := (congrArg Int32.toInt rfl).trans rfl
      have w59 := li0
      exact zs_iret (pc := 66) t247_66 mr247 (by decide) (hQ _ _ w50s w50I (((zFr.refl).trans (w24F.mono rfl)).trans (w50F.mono rfl)) (w50J.trans w24J) (((zUp.refl).trans w24U).trans w50U) w50PR w50PC (by omega) (by omega) (by decide) (by decide))
    · refine zs_if_eqF (pc := 46) t247_46 rfl (by omega) ?_
      refine zs_aload_n (pc := 49) t247_49 rfl ?_
      refine zs_iload_n (pc := 50) t247_50 rfl ?_
      refine zs_iconst (pc := 51) t247_51 (v := 2) (by decide) ?_
      obtain ⟨w60v, w60e, w60⟩ := ziadd (a := w3v) (b := (2 : Int32)) w3 li2 (by omega) (by omega)
      refine zs_iadd (pc := 52) t247_52 (c := w60v) w60e ?_
      refine zs_iconst (pc := 53) t247_53 (v := 0) (by decide) ?_
      refine zs_sipush (pc := 54) t247_54 (v := 999) (by decide) ?_
      refine zs_bipush (pc := 57) t247_57 (v := 59) (by decide) ?_
      have w61 : w60v.toInt = ((30 + (4 * (zI M 337 1).toInt)) + 2) := w60
      have w62 : (0 : Int32).toInt = 0 := li0
      have w63 : (999 : Int32).toInt = 999 := li999
      have w64 : (59 : Int32).toInt = 59 := li59
      have w65 : (zI w50M 337 1).toInt = (zI w50M 337 1).toInt := (congrArg Int32.toInt rfl).trans rfl
      have w66 : (zI w50M 337 0).toInt = (zI w50M 337 0).toInt := (congrArg Int32.toInt rfl).trans rfl
      have w67 : (zI w50M 336 6).toInt = (zI w50M 336 6).toInt := (congrArg Int32.toInt rfl).trans rfl
      have w68 : (zI w50M 337 1).toInt = (zI w50M 337 1).toInt := (congrArg Int32.toInt rfl).trans rfl
      have w69 : (zI w50M 337 0).toInt = (zI w50M 337 0).toInt := (congrArg Int32.toInt rfl).trans rfl
      have w70 : (zI w50M 337 2).toInt = (zI w50M 337 2).toInt := (congrArg Int32.toInt rfl).trans rfl
      have w71 : (zI w50M 336 7).toInt = (zI w50M 336 7).toInt := (congrArg Int32.toInt rfl).trans rfl
      have w73 : (0 : Int32).toInt = 0 := li0
      have w74 : (999 : Int32).toInt = 999 := li999
      have w75 : w60v.toInt = ((30 + (4 * (zI M 337 1).toInt)) + 2) := w60
      have w72 := aN (p := w60v.toInt.toNat) (by omega)
      refine zs_invV (pc := 59) (k := 336) (as' := [.int w60v, .int (0 : Int32), .int (999 : Int32), .int (59 : Int32)]) (st := []) t247_59 mf242 rfl rfl (Or.inl ⟨by decide, (zk1 (w50s.k fk_zMm_336))⟩) ⟨by decide, by decide, Nat.le_of_ble_eq_true rfl, Nat.le_of_ble_eq_true rfl⟩ (K242 w50s w50I w50PR w50PC ⟨by omega, by omega⟩ ⟨by decide, by decide⟩ (by omega) (by omega) (by rw [w72.1, w72.2]; exact ⟨by omega, by omega⟩) ?_) (fun _ _ q => q)
      intro w76M w76v w76s w76I w76F w76J w76U w76PR w76PC w76t0 w76t1 w76t2 w76t3 w76t4 w76x0 w76x1 w76a w76b
      have w77 := ib336_6 w76I
      have w78 := ibA1 w76I
      have w79 := ibA0 w76I
      have w80 := ibA2 w76I
      have w81 := ib336_7 w76I
      show zGo X l 4 0 0 247 62 [(1, .int w3v), (0, .ref 336)] [.int w76v] w76M _
      by_cases w82 : w76v.toInt ≠ 0
      · refine zs_if_neT (pc := 62) t247_62 rfl (by omega) ?_
        refine zs_aload_n (pc := 67) t247_67 rfl ?_
        refine zs_get (pc := 68) t247_68 (by decide) (zk1 (w76s.k fk_zMm_336)) (w76s.p rfl fv_zMm_336_0) ?_
        refine zs_iload_n (pc := 71) t247_71 rfl ?_
        refine zs_iconst (pc := 72) t247_72 (v := 3) (by decide) ?_
        obtain ⟨w83v, w83e, w83⟩ := ziadd (a := w3v) (b := (3 : Int32)) w3 li3 (by omega) (by omega)
        refine zs_iadd (pc := 73) t247_73 (c := w83v) w83e ?_
        refine zs_bipush (pc := 74) t247_74 (v := -2) (by decide) ?_
        obtain ⟨w84n, w84⟩ : ∃ n : Nat, (zI M 337 1).toInt = (n : Int) := ⟨((zI M 337 1).toInt).toNat, by omega⟩
        have w85a := aN (p := (33 + 4 * w84n)) (by omega)
        have w85 : zIv mLo mHi (zsI w76M 337 (33 + 4 * w84n) (-2 : Int32)) := zIv.putA w76I (by omega) (by rw [w85a.1, w85a.2]; exact zrg (-2 : Int32))
        have w86 : (zI w76M 337 0).toInt = (zI w76M 337 0).toInt := (congrArg Int32.toInt rfl).trans rfl
        have w87 : (zI w76M 337 1).toInt = (zI w76M 337 1).toInt := (congrArg Int32.toInt rfl).trans rfl
        have w88 : zPR (zsI w76M 337 (33 + 4 * w84n) (-2 : Int32)) := zPR.put w76PR (by omega) (by omega) (by omega) (by omega)
        have w89 : zPC (zsI w76M 337 (33 + 4 * w84n) (-2 : Int32)) := zPC.put w76PC (by omega) (by omega)
        refine zs_iast (pc := 76) t247_76 (j := (33 + 4 * w84n)) (by decide) (zk1 (w76s.k fk_zMm_337)) (show w83v.toInt = (((33 + 4 * w84n) : Nat) : Int) by omega) (zk2 (w76s.k fk_zMm_337) (by omega)) ?_
        refine zs_aload_n (pc := 77) t247_77 rfl ?_
        refine zs_get (pc := 78) t247_78 (by decide) (zk1 (w76s.k fk_zMm_336)) (w76s.p rfl fv_zMm_336_0) ?_
        refine zs_iconst (pc := 81) t247_81 (v := 1) (by decide) ?_
        refine zs_dup2 (pc := 82) t247_82 ⟨rfl, rfl⟩ ?_
        refine zs_iald (pc := 83) t247_83 (j := 1) (by decide) (zk1 (w76s.k fk_zMm_337)) li1 (zk2 (w76s.k fk_zMm_337) (by decide)) ((zIoj (by omega)).trans rfl) ?_
        refine zs_iconst (pc := 84) t247_84 (v := 1) (by decide) ?_
        obtain ⟨w90v, w90e, w90⟩ := ziadd (a := (zI w76M 337 1)) (b := (1 : Int32)) rfl li1 (by omega) (by omega)
        refine zs_iadd (pc := 85) t247_85 (c := w90v) w90e ?_
        have w91 : zIv mLo mHi (zsI (zsI w76M 337 (33 + 4 * w84n) (-2 : Int32)) 337 1 w90v) := zIv.putA w85 (by decide) (show 0 ≤ w90v.toInt ∧ w90v.toInt ≤ 60 from ⟨by omega, by omega⟩)
        have w92 : (zI (zsI w76M 337 (33 + 4 * w84n) (-2 : Int32)) 337 1).toInt = (zI w76M 337 1).toInt := (congrArg Int32.toInt ((zIoj (by omega)).trans rfl)).trans rfl
        have w93 : (zI (zsI w76M 337 (33 + 4 * w84n) (-2 : Int32)) 337 0).toInt = (zI w76M 337 0).toInt := (congrArg Int32.toInt ((zIoj (by omega)).trans rfl)).trans rfl
        obtain ⟨w94n, w94⟩ : ∃ n : Nat, (zI w76M 337 1).toInt = (n : Int) := ⟨((zI w76M 337 1).toInt).toNat, by omega⟩
        have w95 : w90v.toInt = ((zI w76M 337 1).toInt + 1) := w90
        have w24q := w24x1.resolve_left (by omega) (30 + 4 * w84n) (by omega)
        have w96 : zPR (zsI (zsI w76M 337 (33 + 4 * w84n) (-2 : Int32)) 337 1 w90v) := zPR.hit (n := w84n) w88 (by omega) (by omega) (by rw [zIoj (by omega), w76x0 _ (by omega), w50x0 _ (by omega)]; omega)
        have w97 : zPC (zsI (zsI w76M 337 (33 + 4 * w84n) (-2 : Int32)) 337 1 w90v) := zPC.put w89 (by decide) (by decide)
        refine zs_iast (pc := 86) t247_86 (j := 1) (by decide) (zk1 (w76s.k fk_zMm_337)) li1 (zk2 (w76s.k fk_zMm_337) (by decide)) ?_
        refine zs_iconst (pc := 87) t247_87 (v := 1) (by decide) ?_
        have w98 : (zI (zsI (zsI w76M 337 (33 + 4 * w84n) (-2 : Int32)) 337 1 w90v) 336 6).toInt = (zI w76M 336 6).toInt := (congrArg Int32.toInt ((zIo (by decide)).trans ((zIo (by decide)).trans rfl))).trans rfl
        have w99 : (zI (zsI (zsI w76M 337 (33 + 4 * w84n) (-2 : Int32)) 337 1 w90v) 336 7).toInt = (zI w76M 336 7).toInt := (congrArg Int32.toInt ((zIo (by decide)).trans ((zIo (by decide)).trans rfl))).trans rfl
        have w100 := li1
        exact zs_iret (pc := 88) t247_88 mr247 (by decide) (hQ _ _ w76s w91 ((((((zFr.refl).trans (w24F.mono rfl)).trans (w50F.mono rfl)).trans (w76F.mono rfl)).put rfl).put rfl) (w76J.trans (w50J.trans w24J)) ((((((zUp.refl).trans w24U).trans w50U).trans w76U).put (Or.inr (by omega))).put (Or.inr (by decide))) w96 w97 (by omega) (by omega) (by decide) (by decide))
      · refine zs_if_neF (pc := 62) t247_62 rfl (by omega) ?_
        refine zs_iconst (pc := 65) t247_65 (v := 0) (by decide) ?_
        have w101 : (zI w76M 336 6).toInt = (zI w76M 336 6).toInt := (congrArg Int32.toInt rfl).trans rfl
        have w102 : (zI w76M 336 7).toInt = (zI w76M 336 7).toInt := (congrArg Int32.toInt rfl).trans rfl
        have w103 := li0
        exact zs_iret (pc := 66) t247_66 mr247 (by decide) (hQ _ _ w76s w76I ((((zFr.refl).trans (w24F.mono rfl)).trans (w50F.mono rfl)).trans (w76F.mono rfl)) (w76J.trans (w50J.trans w24J)) ((((zUp.refl).trans w24U).trans w50U).trans w76U) w76PR w76PC (by omega) (by omega) (by decide) (by decide))
theorem K252 {X : zX} {l : Launch} {M : zM} {Q : Option Value → zM → Prop} {a b c d : Int32} (hs : zSk zMm M) (hI : zIv mLo mHi M) (pR : zPR M) (pC : zPC M) (ha : 0 ≤ a.toInt ∧ a.toInt ≤ 7) (u0 : (zI M 337 1).toInt < 60) (u1 : a.toInt < (zI M 337 0).toInt) (hQ : ∀ M', zSk zMm M' → zIv mLo mHi M' → zFr [(337, 337, none)] M M' → zJ M' 351 = zJ M 351 → zUp M M' → zPR M' → zPC M' → ((zI M' 337 0).toInt = (zI M 337 0).toInt) → ((zI M' 337 1).toInt = (zI M 337 1).toInt + 1) → ((zI M' 337 2).toInt = (zI M 337 2).toInt) → Q none M') : zCall X l 0 0 0 252 [.ref 336, .int a, .int b, .int c, .int d] M Q := by
  have ga := zrg a
  have gb := zrg b
  have gc := zrg c
  have gd := zrg d
  refine zs_in (by decide) mf252 (Nat.le_of_ble_eq_true rfl) ?_
  show zGo X l 0 0 0 252 0 [(0, .ref 336), (1, .int a), (2, .int b), (3, .int c), (4, .int d)] [] M _
  refine zs_bipush (pc := 0) t252_0 (v := 30) (by decide) ?_
  refine zs_iconst (pc := 2) t252_2 (v := 4) (by decide) ?_
  refine zs_aload_n (pc := 3) t252_3 rfl ?_
  refine zs_get (pc := 4) t252_4 (by decide) (zk1 (hs.k fk_zMm_336)) (hs.p rfl fv_zMm_336_0) ?_
  refine zs_iconst (pc := 7) t252_7 (v := 1) (by decide) ?_
  have w1 := ibA1 hI
  refine zs_iald (pc := 8) t252_8 (j := 1) (by decide) (zk1 (hs.k fk_zMm_337)) li1 (zk2 (hs.k fk_zMm_337) (by decide)) rfl ?_
  obtain ⟨w2v, w2⟩ : ∃ v, (4 : Int32) * (zI M 337 1) = v := ⟨_, rfl⟩
  have w2g : w2v.toInt = 4 * (zI M 337 1).toInt := by rw [← w2]; exact zmulc li4 rfl (by omega) (by omega)
  refine zs_imul (pc := 9) t252_9 (c := w2v) w2 ?_
  obtain ⟨w3v, w3e, w3⟩ := ziadd (a := (30 : Int32)) (b := w2v) li30 w2g (by omega) (by omega)
  refine zs_iadd (pc := 10) t252_10 (c := w3v) w3e ?_
  refine zs_istore (pc := 11) t252_11 (ls' := [(5, .int w3v), (0, .ref 336), (1, .int a), (2, .int b), (3, .int c), (4, .int d)]) (zml mf252 (by decide)) rfl ?_
  refine zs_aload_n (pc := 13) t252_13 rfl ?_
  refine zs_get (pc := 14) t252_14 (by decide) (zk1 (hs.k fk_zMm_336)) (hs.p rfl fv_zMm_336_0) ?_
  refine zs_iload (pc := 17) t252_17 rfl ?_
  refine zs_iload_n (pc := 19) t252_19 rfl ?_
  obtain ⟨w4n, w4⟩ : ∃ n : Nat, (zI M 337 1).toInt = (n : Int) := ⟨((zI M 337 1).toInt).toNat, by omega⟩
  have w5a := aL (p := (30 + 4 * w4n)) (by omega) (by omega) (by omega)
  have w5 : zIv mLo mHi (zsI M 337 (30 + 4 * w4n) a) := zIv.putA hI (by omega) (by rw [w5a.1, w5a.2]; exact ⟨by omega, by omega⟩)
  have w6 := ibA0 hI
  have w7 : (zI M 337 0).toInt = (zI M 337 0).toInt := (congrArg Int32.toInt rfl).trans rfl
  have w8 : (zI M 337 1).toInt = (zI M 337 1).toInt := (congrArg Int32.toInt rfl).trans rfl
  have w9 : zPR (zsI M 337 (30 + 4 * w4n) a) := zPR.put pR (by omega) (by omega) (by omega) (by omega)
  have w10 : zPC (zsI M 337 (30 + 4 * w4n) a) := zPC.put pC (by omega) (by omega)
  refine zs_iast (pc := 20) t252_20 (j := (30 + 4 * w4n)) (by decide) (zk1 (hs.k fk_zMm_337)) (show w3v.toInt = (((30 + 4 * w4n) : Nat) : Int) by omega) (zk2 (hs.k fk_zMm_337) (by omega)) ?_
  refine zs_aload_n (pc := 21) t252_21 rfl ?_
  refine zs_get (pc := 22) t252_22 (by decide) (zk1 (hs.k fk_zMm_336)) (hs.p rfl fv_zMm_336_0) ?_
  refine zs_iload (pc := 25) t252_25 rfl ?_
  refine zs_iconst (pc := 27) t252_27 (v := 1) (by decide) ?_
  obtain ⟨w11v, w11e, w11⟩ := ziadd (a := w3v) (b := (1 : Int32)) w3 li1 (by omega) (by omega)
  refine zs_iadd (pc := 28) t252_28 (c := w11v) w11e ?_
  refine zs_iload_n (pc := 29) t252_29 rfl ?_
  have w12a := aN (p := (31 + 4 * w4n)) (by omega)
  have w12 : zIv mLo mHi (zsI (zsI M 337 (30 + 4 * w4n) a) 337 (31 + 4 * w4n) b) := zIv.putA w5 (by omega) (by rw [w12a.1, w12a.2]; exact zrg b)
  have w13 := ibA0 hI
  have w14 : (zI (zsI M 337 (30 + 4 * w4n) a) 337 0).toInt = (zI M 337 0).toInt := (congrArg Int32.toInt ((zIoj (by omega)).trans rfl)).trans rfl
  have w15 : (zI (zsI M 337 (30 + 4 * w4n) a) 337 1).toInt = (zI M 337 1).toInt := (congrArg Int32.toInt ((zIoj (by omega)).trans rfl)).trans rfl
  have w16 : zPR (zsI (zsI M 337 (30 + 4 * w4n) a) 337 (31 + 4 * w4n) b) := zPR.put w9 (by omega) (by omega) (by omega) (by omega)
  have w17 : zPC (zsI (zsI M 337 (30 + 4 * w4n) a) 337 (31 + 4 * w4n) b) := zPC.put w10 (by omega) (by omega)
  refine zs_iast (pc := 30) t252_30 (j := (31 + 4 * w4n)) (by decide) (zk1 (hs.k fk_zMm_337)) (show w11v.toInt = (((31 + 4 * w4n) : Nat) : Int) by omega) (zk2 (hs.k fk_zMm_337) (by omega)) ?_
  refine zs_aload_n (pc := 31) t252_31 rfl ?_
  refine zs_get (pc := 32) t252_32 (by decide) (zk1 (hs.k fk_zMm_336)) (hs.p rfl fv_zMm_336_0) ?_
  refine zs_iload (pc := 35) t252_35 rfl ?_
  refine zs_iconst (pc := 37) t252_37 (v := 2) (by decide) ?_
  obtain ⟨w18v, w18e, w18⟩ := ziadd (a := w3v) (b := (2 : Int32)) w3 li2 (by omega) (by omega)
  refine zs_iadd (pc := 38) t252_38 (c := w18v) w18e ?_
  refine zs_iload_n (pc := 39) t252_39 rfl ?_
  have w19a := aN (p := (32 + 4 * w4n)) (by omega)
  have w19 : zIv mLo mHi (zsI (zsI (zsI M 337 (30 + 4 * w4n) a) 337 (31 + 4 * w4n) b) 337 (32 + 4 * w4n) c) := zIv.putA w12 (by omega) (by rw [w19a.1, w19a.2]; exact zrg c)
  have w20 := ibA0 hI
  have w21 : (zI (zsI (zsI M 337 (30 + 4 * w4n) a) 337 (31 + 4 * w4n) b) 337 0).toInt = (zI M 337 0).toInt := (congrArg Int32.toInt ((zIoj (by omega)).trans ((zIoj (by omega)).trans rfl))).trans rfl
  have w22 : (zI (zsI (zsI M 337 (30 + 4 * w4n) a) 337 (31 + 4 * w4n) b) 337 1).toInt = (zI M 337 1).toInt := (congrArg Int32.toInt ((zIoj (by omega)).trans ((zIoj (by omega)).trans rfl))).trans rfl
  have w23 : zPR (zsI (zsI (zsI M 337 (30 + 4 * w4n) a) 337 (31 + 4 * w4n) b) 337 (32 + 4 * w4n) c) := zPR.put w16 (by omega) (by omega) (by omega) (by omega)
  have w24 : zPC (zsI (zsI (zsI M 337 (30 + 4 * w4n) a) 337 (31 + 4 * w4n) b) 337 (32 + 4 * w4n) c) := zPC.put w17 (by omega) (by omega)
  refine zs_iast (pc := 40) t252_40 (j := (32 + 4 * w4n)) (by decide) (zk1 (hs.k fk_zMm_337)) (show w18v.toInt = (((32 + 4 * w4n) : Nat) : Int) by omega) (zk2 (hs.k fk_zMm_337) (by omega)) ?_
  refine zs_aload_n (pc := 41) t252_41 rfl ?_
  refine zs_get (pc := 42) t252_42 (by decide) (zk1 (hs.k fk_zMm_336)) (hs.p rfl fv_zMm_336_0) ?_
  refine zs_iload (pc := 45) t252_45 rfl ?_
  refine zs_iconst (pc := 47) t252_47 (v := 3) (by decide) ?_
  obtain ⟨w25v, w25e, w25⟩ := ziadd (a := w3v) (b := (3 : Int32)) w3 li3 (by omega) (by omega)
  refine zs_iadd (pc := 48) t252_48 (c := w25v) w25e ?_
  refine zs_iload (pc := 49) t252_49 rfl ?_
  have w26a := aN (p := (33 + 4 * w4n)) (by omega)
  have w26 : zIv mLo mHi (zsI (zsI (zsI (zsI M 337 (30 + 4 * w4n) a) 337 (31 + 4 * w4n) b) 337 (32 + 4 * w4n) c) 337 (33 + 4 * w4n) d) := zIv.putA w19 (by omega) (by rw [w26a.1, w26a.2]; exact zrg d)
  have w27 := ibA0 hI
  have w28 : (zI (zsI (zsI (zsI M 337 (30 + 4 * w4n) a) 337 (31 + 4 * w4n) b) 337 (32 + 4 * w4n) c) 337 0).toInt = (zI M 337 0).toInt := (congrArg Int32.toInt ((zIoj (by omega)).trans ((zIoj (by omega)).trans ((zIoj (by omega)).trans rfl)))).trans rfl
  have w29 : (zI (zsI (zsI (zsI M 337 (30 + 4 * w4n) a) 337 (31 + 4 * w4n) b) 337 (32 + 4 * w4n) c) 337 1).toInt = (zI M 337 1).toInt := (congrArg Int32.toInt ((zIoj (by omega)).trans ((zIoj (by omega)).trans ((zIoj (by omega)).trans rfl)))).trans rfl
  have w30 : zPR (zsI (zsI (zsI (zsI M 337 (30 + 4 * w4n) a) 337 (31 + 4 * w4n) b) 337 (32 + 4 * w4n) c) 337 (33 + 4 * w4n) d) := zPR.put w23 (by omega) (by omega) (by omega) (by omega)
  have w31 : zPC (zsI (zsI (zsI (zsI M 337 (30 + 4 * w4n) a) 337 (31 + 4 * w4n) b) 337 (32 + 4 * w4n) c) 337 (33 + 4 * w4n) d) := zPC.put w24 (by omega) (by omega)
  refine zs_iast (pc := 51) t252_51 (j := (33 + 4 * w4n)) (by decide) (zk1 (hs.k fk_zMm_337)) (show w25v.toInt = (((33 + 4 * w4n) : Nat) : Int) by omega) (zk2 (hs.k fk_zMm_337) (by omega)) ?_
  refine zs_aload_n (pc := 52) t252_52 rfl ?_
  refine zs_get (pc := 53) t252_53 (by decide) (zk1 (hs.k fk_zMm_336)) (hs.p rfl fv_zMm_336_0) ?_
  refine zs_iconst (pc := 56) t252_56 (v := 1) (by decide) ?_
  refine zs_dup2 (pc := 57) t252_57 ⟨rfl, rfl⟩ ?_
  refine zs_iald (pc := 58) t252_58 (j := 1) (by decide) (zk1 (hs.k fk_zMm_337)) li1 (zk2 (hs.k fk_zMm_337) (by decide)) ((zIoj (by omega)).trans ((zIoj (by omega)).trans ((zIoj (by omega)).trans ((zIoj (by omega)).trans rfl)))) ?_
  refine zs_iconst (pc := 59) t252_59 (v := 1) (by decide) ?_
  obtain ⟨w32v, w32e, w32⟩ := ziadd (a := (zI M 337 1)) (b := (1 : Int32)) rfl li1 (by omega) (by omega)
  refine zs_iadd (pc := 60) t252_60 (c := w32v) w32e ?_
  have w33 : zIv mLo mHi (zsI (zsI (zsI (zsI (zsI M 337 (30 + 4 * w4n) a) 337 (31 + 4 * w4n) b) 337 (32 + 4 * w4n) c) 337 (33 + 4 * w4n) d) 337 1 w32v) := zIv.putA w26 (by decide) (show 0 ≤ w32v.toInt ∧ w32v.toInt ≤ 60 from ⟨by omega, by omega⟩)
  have w34 : (zI (zsI (zsI (zsI (zsI M 337 (30 + 4 * w4n) a) 337 (31 + 4 * w4n) b) 337 (32 + 4 * w4n) c) 337 (33 + 4 * w4n) d) 337 1).toInt = (zI M 337 1).toInt := (congrArg Int32.toInt ((zIoj (by omega)).trans ((zIoj (by omega)).trans ((zIoj (by omega)).trans ((zIoj (by omega)).trans rfl))))).trans rfl
  have w35 := ibA0 hI
  have w36 : (zI (zsI (zsI (zsI (zsI M 337 (30 + 4 * w4n) a) 337 (31 + 4 * w4n) b) 337 (32 + 4 * w4n) c) 337 (33 + 4 * w4n) d) 337 0).toInt = (zI M 337 0).toInt := (congrArg Int32.toInt ((zIoj (by omega)).trans ((zIoj (by omega)).trans ((zIoj (by omega)).trans ((zIoj (by omega)).trans rfl))))).trans rfl
  have w37 : w32v.toInt = ((zI M 337 1).toInt + 1) := w32
  have w38 : zPR (zsI (zsI (zsI (zsI (zsI M 337 (30 + 4 * w4n) a) 337 (31 + 4 * w4n) b) 337 (32 + 4 * w4n) c) 337 (33 + 4 * w4n) d) 337 1 w32v) := zPR.hit (n := w4n) w30 (by omega) (by omega) (by rw [show zI (zsI (zsI (zsI (zsI M 337 (30 + 4 * w4n) a) 337 (31 + 4 * w4n) b) 337 (32 + 4 * w4n) c) 337 (33 + 4 * w4n) d) 337 (30 + 4 * w4n) = a from ((zIoj (by omega)).trans ((zIoj (by omega)).trans ((zIoj (by omega)).trans zIs)))]; omega)
  have w39 : zPC (zsI (zsI (zsI (zsI (zsI M 337 (30 + 4 * w4n) a) 337 (31 + 4 * w4n) b) 337 (32 + 4 * w4n) c) 337 (33 + 4 * w4n) d) 337 1 w32v) := zPC.put w31 (by decide) (by decide)
  refine zs_iast (pc := 61) t252_61 (j := 1) (by decide) (zk1 (hs.k fk_zMm_337)) li1 (zk2 (hs.k fk_zMm_337) (by decide)) ?_
  have w40 : (zI (zsI (zsI (zsI (zsI (zsI M 337 (30 + 4 * w4n) a) 337 (31 + 4 * w4n) b) 337 (32 + 4 * w4n) c) 337 (33 + 4 * w4n) d) 337 1 w32v) 337 1).toInt = ((zI M 337 1).toInt + 1) := (congrArg Int32.toInt zIs).trans w32
  have w41 := ibA0 hI
  have w42 : (zI (zsI (zsI (zsI (zsI (zsI M 337 (30 + 4 * w4n) a) 337 (31 + 4 * w4n) b) 337 (32 + 4 * w4n) c) 337 (33 + 4 * w4n) d) 337 1 w32v) 337 0).toInt = (zI M 337 0).toInt := (congrArg Int32.toInt ((zIoj (by decide)).trans ((zIoj (by omega)).trans ((zIoj (by omega)).trans ((zIoj (by omega)).trans ((zIoj (by omega)).trans rfl)))))).trans rfl
  have w43 := ibA2 hI
  have w44 : (zI (zsI (zsI (zsI (zsI (zsI M 337 (30 + 4 * w4n) a) 337 (31 + 4 * w4n) b) 337 (32 + 4 * w4n) c) 337 (33 + 4 * w4n) d) 337 1 w32v) 337 2).toInt = (zI M 337 2).toInt := (congrArg Int32.toInt ((zIoj (by decide)).trans ((zIoj (by omega)).trans ((zIoj (by omega)).trans ((zIoj (by omega)).trans ((zIoj (by omega)).trans rfl)))))).trans rfl
  exact zs_vret (pc := 62) t252_62 mr252 (hQ _ hs w33 ((((((zFr.refl).put rfl).put rfl).put rfl).put rfl).put rfl) rfl ((((((zUp.refl).put (Or.inr (by omega))).put (Or.inr (by omega))).put (Or.inr (by omega))).put (Or.inr (by omega))).put (Or.inr (by decide))) w38 w39 (by omega) (by omega) (by omega))
theorem K248 {X : zX} {l : Launch} {M : zM} {Q : Option Value → zM → Prop} {a : Int32} (hs : zSk zMm M) (hI : zIv mLo mHi M) (pR : zPR M) (pC : zPC M) (ha : 0 ≤ a.toInt ∧ a.toInt ≤ 500) (u0 : (zI M 337 2).toInt < 12) (hQ : ∀ (M' : zM) (v : Int32), zSk zMm M' → zIv mLo mHi M' → zFr [(336, 336, some 6), (336, 336, some 7), (336, 336, some 8), (337, 337, none)] M M' → zJ M' 351 = zJ M 351 → zUp M M' → zPR M' → zPC M' → ((zI M 336 6).toInt ≤ (zI M' 336 6).toInt) → ((v.toInt = 1 ∧ (zI M' 336 7).toInt = (zI M 336 7).toInt) ∨ (v.toInt = 0 ∧ 0 ≤ (zI M' 336 7).toInt)) → 0 ≤ v.toInt → v.toInt ≤ 1 → Q (some (.int v)) M') : zCall X l 4 0 0 248 [.ref 336, .int a] M Q := by
  have ga := zrg a
  refine zs_in (by decide) mf248 (Nat.le_of_ble_eq_true rfl) ?_
  show zGo X l 4 0 0 248 0 [(0, .ref 336), (1, .int a)] [] M _
  refine zs_aload_n (pc := 0) t248_0 rfl ?_
  refine zs_get (pc := 1) t248_1 (by decide) (zk1 (hs.k fk_zMm_336)) (hs.p rfl fv_zMm_336_0) ?_
  refine zs_iconst (pc := 4) t248_4 (v := 2) (by decide) ?_
  have w1 := ibA2 hI
  refine zs_iald (pc := 5) t248_5 (j := 2) (by decide) (zk1 (hs.k fk_zMm_337)) li2 (zk2 (hs.k fk_zMm_337) (by decide)) rfl ?_
  refine zs_istore_n (pc := 6) t248_6 (ls' := [(2, .int (zI M 337 2)), (0, .ref 336), (1, .int a)]) (zml mf248 (by decide)) rfl ?_
  refine zs_sipush (pc := 7) t248_7 (v := 270) (by decide) ?_
  refine zs_iconst (pc := 10) t248_10 (v := 3) (by decide) ?_
  refine zs_iload_n (pc := 11) t248_11 rfl ?_
  obtain ⟨w2v, w2⟩ : ∃ v, (3 : Int32) * (zI M 337 2) = v := ⟨_, rfl⟩
  have w2g : w2v.toInt = 3 * (zI M 337 2).toInt := by rw [← w2]; exact zmulc li3 rfl (by omega) (by omega)
  refine zs_imul (pc := 12) t248_12 (c := w2v) w2 ?_
  obtain ⟨w3v, w3e, w3⟩ := ziadd (a := (270 : Int32)) (b := w2v) li270 w2g (by omega) (by omega)
  refine zs_iadd (pc := 13) t248_13 (c := w3v) w3e ?_
  refine zs_istore_n (pc := 14) t248_14 (ls' := [(3, .int w3v), (2, .int (zI M 337 2)), (0, .ref 336), (1, .int a)]) (zml mf248 (by decide)) rfl ?_
  refine zs_aload_n (pc := 15) t248_15 rfl ?_
  refine zs_iload_n (pc := 16) t248_16 rfl ?_
  refine zs_sipush (pc := 17) t248_17 (v := -9999) (by decide) ?_
  refine zs_sipush (pc := 20) t248_20 (v := 9999) (by decide) ?_
  refine zs_bipush (pc := 23) t248_23 (v := 44) (by decide) ?_
  have w4 : w3v.toInt = (270 + (3 * (zI M 337 2).toInt)) := w3
  have w5 : (-9999 : Int32).toInt = (-9999) := lin9999
  have w6 : (9999 : Int32).toInt = 9999 := li9999
  have w7 : (44 : Int32).toInt = 44 := li44
  have w8 := ibA1 hI
  have w9 : (zI M 337 1).toInt = (zI M 337 1).toInt := (congrArg Int32.toInt rfl).trans rfl
  have w10 := ibA0 hI
  have w11 : (zI M 337 0).toInt = (zI M 337 0).toInt := (congrArg Int32.toInt rfl).trans rfl
  have w12 := ib336_6 hI
  have w13 : (zI M 336 6).toInt = (zI M 336 6).toInt := (congrArg Int32.toInt rfl).trans rfl
  have w14 : (zI M 337 1).toInt = (zI M 337 1).toInt := (congrArg Int32.toInt rfl).trans rfl
  have w15 : (zI M 337 0).toInt = (zI M 337 0).toInt := (congrArg Int32.toInt rfl).trans rfl
  have w16 : (zI M 337 2).toInt = (zI M 337 2).toInt := (congrArg Int32.toInt rfl).trans rfl
  have w17 := ib336_7 hI
  have w18 : (zI M 336 7).toInt = (zI M 336 7).toInt := (congrArg Int32.toInt rfl).trans rfl
  have w20 : (-9999 : Int32).toInt = (-9999) := lin9999
  have w21 : (9999 : Int32).toInt = 9999 := li9999
  have w22 : w3v.toInt = (270 + (3 * (zI M 337 2).toInt)) := w3
  have w19 := aN (p := w3v.toInt.toNat) (by omega)
  refine zs_invV (pc := 25) (k := 336) (as' := [.int w3v, .int (-9999 : Int32), .int (9999 : Int32), .int (44 : Int32)]) (st := []) t248_25 mf242 rfl rfl (Or.inl ⟨by decide, (zk1 (hs.k fk_zMm_336))⟩) ⟨by decide, by decide, Nat.le_of_ble_eq_true rfl, Nat.le_of_ble_eq_true rfl⟩ (K242 hs hI pR pC ⟨by omega, by omega⟩ ⟨by decide, by decide⟩ (by omega) (by omega) (by rw [w19.1, w19.2]; exact ⟨by omega, by omega⟩) ?_) (fun _ _ q => q)
  intro w23M w23v w23s w23I w23F w23J w23U w23PR w23PC w23t0 w23t1 w23t2 w23t3 w23t4 w23x0 w23x1 w23a w23b
  have w24 := ib336_6 w23I
  have w25 := ibA1 w23I
  have w26 := ibA0 w23I
  have w27 := ibA2 w23I
  have w28 := ib336_7 w23I
  show zGo X l 4 0 0 248 28 [(3, .int w3v), (2, .int (zI M 337 2)), (0, .ref 336), (1, .int a)] [.int w23v] w23M _
  by_cases w29 : w23v.toInt = 0
  · refine zs_if_eqT (pc := 28) t248_28 rfl (by omega) ?_
    refine zs_iconst (pc := 57) t248_57 (v := 0) (by decide) ?_
    have w30 : (zI w23M 336 6).toInt = (zI w23M 336 6).toInt := (congrArg Int32.toInt rfl).trans rfl
    have w31 : (zI w23M 336 7).toInt = (zI w23M 336 7).toInt := (congrArg Int32.toInt rfl).trans rfl
    have w32 := li0
    exact zs_iret (pc := 58) t248_58 mr248 (by decide) (hQ _ _ w23s w23I ((zFr.refl).trans (w23F.mono rfl)) w23J ((zUp.refl).trans w23U) w23PR w23PC (by omega) (by omega) (by decide) (by decide))
  · refine zs_if_eqF (pc := 28) t248_28 rfl (by omega) ?_
    refine zs_aload_n (pc := 31) t248_31 rfl ?_
    refine zs_iload_n (pc := 32) t248_32 rfl ?_
    refine zs_iconst (pc := 33) t248_33 (v := 1) (by decide) ?_
    obtain ⟨w33v, w33e, w33⟩ := ziadd (a := w3v) (b := (1 : Int32)) w3 li1 (by omega) (by omega)
    refine zs_iadd (pc := 34) t248_34 (c := w33v) w33e ?_
    refine zs_bipush (pc := 35) t248_35 (v := -50) (by decide) ?_
    refine zs_bipush (pc := 37) t248_37 (v := 50) (by decide) ?_
    refine zs_bipush (pc := 39) t248_39 (v := 44) (by decide) ?_
    have w34 : w33v.toInt = ((270 + (3 * (zI M 337 2).toInt)) + 1) := w33
    have w35 : (-50 : Int32).toInt = (-50) := lin50
    have w36 : (50 : Int32).toInt = 50 := li50
    have w37 : (44 : Int32).toInt = 44 := li44
    have w38 : (zI w23M 337 1).toInt = (zI w23M 337 1).toInt := (congrArg Int32.toInt rfl).trans rfl
    have w39 : (zI w23M 337 0).toInt = (zI w23M 337 0).toInt := (congrArg Int32.toInt rfl).trans rfl
    have w40 : (zI w23M 336 6).toInt = (zI w23M 336 6).toInt := (congrArg Int32.toInt rfl).trans rfl
    have w41 : (zI w23M 337 1).toInt = (zI w23M 337 1).toInt := (congrArg Int32.toInt rfl).trans rfl
    have w42 : (zI w23M 337 0).toInt = (zI w23M 337 0).toInt := (congrArg Int32.toInt rfl).trans rfl
    have w43 : (zI w23M 337 2).toInt = (zI w23M 337 2).toInt := (congrArg Int32.toInt rfl).trans rfl
    have w44 : (zI w23M 336 7).toInt = (zI w23M 336 7).toInt := (congrArg Int32.toInt rfl).trans rfl
    have w46 : (-50 : Int32).toInt = (-50) := lin50
    have w47 : (50 : Int32).toInt = 50 := li50
    have w48 : w33v.toInt = ((270 + (3 * (zI M 337 2).toInt)) + 1) := w33
    have w45 := aN (p := w33v.toInt.toNat) (by omega)
    refine zs_invV (pc := 41) (k := 336) (as' := [.int w33v, .int (-50 : Int32), .int (50 : Int32), .int (44 : Int32)]) (st := []) t248_41 mf242 rfl rfl (Or.inl ⟨by decide, (zk1 (w23s.k fk_zMm_336))⟩) ⟨by decide, by decide, Nat.le_of_ble_eq_true rfl, Nat.le_of_ble_eq_true rfl⟩ (K242 w23s w23I w23PR w23PC ⟨by omega, by omega⟩ ⟨by decide, by decide⟩ (by omega) (by omega) (by rw [w45.1, w45.2]; exact ⟨by omega, by omega⟩) ?_) (fun _ _ q => q)
    intro w49M w49v w49s w49I w49F w49J w49U w49PR w49PC w49t0 w49t1 w49t2 w49t3 w49t4 w49x0 w49x1 w49a w49b
    have w50 := ib336_6 w49I
    have w51 := ibA1 w49I
    have w52 := ibA0 w49I
    have w53 := ibA2 w49I
    have w54 := ib336_7 w49I
    show zGo X l 4 0 0 248 44 [(3, .int w3v), (2, .int (zI M 337 2)), (0, .ref 336), (1, .int a)] [.int w49v] w49M _
    by_cases w55 : w49v.toInt = 0
    · refine zs_if_eqT (pc := 44) t248_44 rfl (by omega) ?_
      refine zs_iconst (pc := 57) t248_57 (v := 0) (by decide) ?_
      have w56 : (zI w49M 336 6).toInt = (zI w49M 336 6).toInt := (congrArg Int32.toInt rfl).trans rfl
      have w57 : (zI w49M 336 7).toInt = (zI w49M 336 7).toInt := (congrArg Int32.toInt rfl).trans rfl
      have w58 := li0
      exact zs_iret (pc := 58) t248_58 mr248 (by decide) (hQ _ _ w49s w49I (((zFr.refl).trans (w23F.mono rfl)).trans (w49F.mono rfl)) (w49J.trans w23J) (((zUp.refl).trans w23U).trans w49U) w49PR w49PC (by omega) (by omega) (by decide) (by decide))
    · refine zs_if_eqF (pc := 44) t248_44 rfl (by omega) ?_
      refine zs_aload_n (pc := 47) t248_47 rfl ?_
      refine zs_bipush (pc := 48) t248_48 (v := -5) (by decide) ?_
      refine zs_iconst (pc := 50) t248_50 (v := 5) (by decide) ?_
      have w59 : (-5 : Int32).toInt = (-5) := lin5
      have w60 : (5 : Int32).toInt = 5 := li5
      have w61 : (zI w49M 336 6).toInt = (zI w49M 336 6).toInt := (congrArg Int32.toInt rfl).trans rfl
      have w62 : (zI w49M 336 7).toInt = (zI w49M 336 7).toInt := (congrArg Int32.toInt rfl).trans rfl
      refine zs_invV (pc := 51) (k := 336) (as' := [.int (-5 : Int32), .int (5 : Int32)]) (st := []) t248_51 mf243 rfl rfl (Or.inl ⟨by decide, (zk1 (w49s.k fk_zMm_336))⟩) ⟨by decide, by decide, Nat.le_of_ble_eq_true rfl, Nat.le_of_ble_eq_true rfl⟩ (K243 w49s w49I ?_) (fun _ _ q => q)
      intro w63M w63v w63s w63I w63F w63J w63t0 w63t1 w63t2 w63a w63b
      have w64 := ib336_6 w63I
      have w65 := ib336_7 w63I
      have w66 := zrg (zI w63M 336 8)
      show zGo X l 4 0 0 248 54 [(3, .int w3v), (2, .int (zI M 337 2)), (0, .ref 336), (1, .int a)] [.int w63v] w63M _
      by_cases w67 : w63v.toInt ≠ 0
      · refine zs_if_neT (pc := 54) t248_54 rfl (by omega) ?_
        refine zs_aload_n (pc := 59) t248_59 rfl ?_
        refine zs_get (pc := 60) t248_60 (by decide) (zk1 (w63s.k fk_zMm_336)) (w63s.p rfl fv_zMm_336_0) ?_
        refine zs_iload_n (pc := 63) t248_63 rfl ?_
        refine zs_iconst (pc := 64) t248_64 (v := 2) (by decide) ?_
        obtain ⟨w68v, w68e, w68⟩ := ziadd (a := w3v) (b := (2 : Int32)) w3 li2 (by omega) (by omega)
        refine zs_iadd (pc := 65) t248_65 (c := w68v) w68e ?_
        refine zs_aload_n (pc := 66) t248_66 rfl ?_
        refine zs_get (pc := 67) t248_67 (by decide) (zk1 (w63s.k fk_zMm_336)) (zfvi rfl rfl) ?_
        obtain ⟨w69n, w69⟩ : ∃ n : Nat, (zI M 337 2).toInt = (n : Int) := ⟨((zI M 337 2).toInt).toNat, by omega⟩
        have w70a := aN (p := (272 + 3 * w69n)) (by omega)
        have w70 : zIv mLo mHi (zsI w63M 337 (272 + 3 * w69n) (zI w63M 336 8)) := zIv.putA w63I (by omega) (by rw [w70a.1, w70a.2]; exact zrg (zI w63M 336 8))
        have w71 : (zI w63M 337 0).toInt = (zI w49M 337 0).toInt := (congrArg Int32.toInt ((w63F 337 0 rfl).trans rfl)).trans rfl
        have w72 : (zI w63M 337 1).toInt = (zI w49M 337 1).toInt := (congrArg Int32.toInt ((w63F 337 1 rfl).trans rfl)).trans rfl
        have w73 : zPR (zsI w63M 337 (272 + 3 * w69n) (zI w63M 336 8)) := zPR.put (zPR.fr w49PR (w63F.eq rfl)) (by omega) (by omega) (by omega) (by omega)
        have w74 : zPC (zsI w63M 337 (272 + 3 * w69n) (zI w63M 336 8)) := zPC.put (zPC.fr w49PC (w63F.eq rfl)) (by omega) (by omega)
        refine zs_iast (pc := 70) t248_70 (j := (272 + 3 * w69n)) (by decide) (zk1 (w63s.k fk_zMm_337)) (show w68v.toInt = (((272 + 3 * w69n) : Nat) : Int) by omega) (zk2 (w63s.k fk_zMm_337) (by omega)) ?_
        refine zs_iconst (pc := 71) t248_71 (v := 0) (by decide) ?_
        refine zs_istore (pc := 72) t248_72 (ls' := [(4, .int (0 : Int32)), (3, .int w3v), (2, .int (zI M 337 2)), (0, .ref 336), (1, .int a)]) (zml mf248 (by decide)) rfl ?_
        have w75L : ∀ (m : Nat) (w75x4 : Int32) (w75M : zM), (0 ≤ w75x4.toInt ∧ w75x4.toInt ≤ 8) → zSk zMm w75M → zIv mLo mHi w75M → zFr [(337, 337, none)] (zsI w63M 337 (272 + 3 * w69n) (zI w63M 336 8)) w75M → zJ w75M 351 = zJ (zsI w63M 337 (272 + 3 * w69n) (zI w63M 336 8)) 351 → zUp (zsI w63M 337 (272 + 3 * w69n) (zI w63M 336 8)) w75M → zPR w75M → zPC w75M → ((zI w75M 337 0).toInt = (zI (zsI w63M 337 (272 + 3 * w69n) (zI w63M 336 8)) 337 0).toInt) → ((zI w75M 337 2).toInt = (zI (zsI w63M 337 (272 + 3 * w69n) (zI w63M 336 8)) 337 2).toInt) → 8 - w75x4.toInt ≤ (m : Int) → zGo X l 4 0 0 248 74 [(0, .ref 336), (1, .int a), (2, .int (zI M 337 2)), (3, .int w3v), (4, .int w75x4)] [] w75M Q := by
          intro m
          induction m using Nat.strongRecOn with
          | ind w75m w75ih =>
            intro w75x4 w75M w75b4 w75s w75I w75F w75J w75U w75PR w75PC w75r0 w75r1 w75q
            have w76 := ibA0 w75I
            have w77 : (zI (zsI w63M 337 (272 + 3 * w69n) (zI w63M 336 8)) 337 0).toInt = (zI w49M 337 0).toInt := (congrArg Int32.toInt ((zIoj (by omega)).trans ((w63F 337 0 rfl).trans rfl))).trans rfl
            have w78 := ibA2 w75I
            have w79 : (zI (zsI w63M 337 (272 + 3 * w69n) (zI w63M 336 8)) 337 2).toInt = (zI w49M 337 2).toInt := (congrArg Int32.toInt ((zIoj (by omega)).trans ((w63F 337 2 rfl).trans rfl))).trans rfl
            refine zs_iload (pc := 74) t248_74 rfl ?_
            refine zs_aload_n (pc := 76) t248_76 rfl ?_
            refine zs_get (pc := 77) t248_77 (by decide) (zk1 (w75s.k fk_zMm_336)) (w75s.p rfl fv_zMm_336_0) ?_
            refine zs_iconst (pc := 80) t248_80 (v := 0) (by decide) ?_
            refine zs_iald (pc := 81) t248_81 (j := 0) (by decide) (zk1 (w75s.k fk_zMm_337)) li0 (zk2 (w75s.k fk_zMm_337) (by decide)) rfl ?_
            by_cases w80 : (zI w75M 337 0).toInt ≤ w75x4.toInt
            · refine zs_icmp_geT (pc := 82) t248_82 rfl rfl (by omega) ?_
              refine zs_aload_n (pc := 175) t248_175 rfl ?_
              refine zs_get (pc := 176) t248_176 (by decide) (zk1 (w75s.k fk_zMm_336)) (w75s.p rfl fv_zMm_336_0) ?_
              refine zs_iconst (pc := 179) t248_179 (v := 2) (by decide) ?_
              refine zs_dup2 (pc := 180) t248_180 ⟨rfl, rfl⟩ ?_
              refine zs_iald (pc := 181) t248_181 (j := 2) (by decide) (zk1 (w75s.k fk_zMm_337)) li2 (zk2 (w75s.k fk_zMm_337) (by decide)) rfl ?_
              refine zs_iconst (pc := 182) t248_182 (v := 1) (by decide) ?_
              obtain ⟨w81v, w81e, w81⟩ := ziadd (a := (zI w75M 337 2)) (b := (1 : Int32)) rfl li1 (by omega) (by omega)
              refine zs_iadd (pc := 183) t248_183 (c := w81v) w81e ?_
              have w82 : zIv mLo mHi (zsI w75M 337 2 w81v) := zIv.putA w75I (by decide) (show 0 ≤ w81v.toInt ∧ w81v.toInt ≤ 12 from ⟨by omega, by omega⟩)
              have w83 : (zI w75M 337 0).toInt = (zI w75M 337 0).toInt := (congrArg Int32.toInt rfl).trans rfl
              have w84 := ibA1 w75I
              have w85 : (zI w75M 337 1).toInt = (zI w75M 337 1).toInt := (congrArg Int32.toInt rfl).trans rfl
              have w86 : zPR (zsI w75M 337 2 w81v) := zPR.put w75PR (by omega) (by omega) (by omega) (by omega)
              have w87 : zPC (zsI w75M 337 2 w81v) := zPC.put w75PC (by decide) (by decide)
              refine zs_iast (pc := 184) t248_184 (j := 2) (by decide) (zk1 (w75s.k fk_zMm_337)) li2 (zk2 (w75s.k fk_zMm_337) (by decide)) ?_
              refine zs_aload_n (pc := 185) t248_185 rfl ?_
              refine zs_bipush (pc := 186) t248_186 (v := 59) (by decide) ?_
              have w88 : (59 : Int32).toInt = 59 := li59
              have w89 : (zI (zsI w75M 337 2 w81v) 336 6).toInt = (zI w63M 336 6).toInt := (congrArg Int32.toInt ((zIo (by decide)).trans ((w75F 336 6 rfl).trans ((zIo (by decide)).trans rfl)))).trans rfl
              have w90 : (zI (zsI w75M 337 2 w81v) 336 7).toInt = (zI w63M 336 7).toInt := (congrArg Int32.toInt ((zIo (by decide)).trans ((w75F 336 7 rfl).trans ((zIo (by decide)).trans rfl)))).trans rfl
              refine zs_invV (pc := 188) (k := 336) (as' := [.int (59 : Int32)]) (st := []) t248_188 mf246 rfl rfl (Or.inl ⟨by decide, (zk1 (w75s.k fk_zMm_336))⟩) ⟨by decide, by decide, Nat.le_of_ble_eq_true rfl, Nat.le_of_ble_eq_true rfl⟩ (K246 w75s w82 ⟨by decide, by decide⟩ ?_) (fun _ _ q => q)
              intro w91M w91v w91s w91I w91F w91J w91t0 w91t1 w91a w91b
              have w92 := ib336_6 w91I
              have w93 := ib336_7 w91I
              show zGo X l 4 0 0 248 191 [(0, .ref 336), (1, .int a), (2, .int (zI M 337 2)), (3, .int w3v), (4, .int w75x4)] [.int w91v] w91M _
              have w94 : (zI w91M 336 6).toInt = (zI w91M 336 6).toInt := (congrArg Int32.toInt rfl).trans rfl
              have w95 : (zI w91M 336 7).toInt = (zI w91M 336 7).toInt := (congrArg Int32.toInt rfl).trans rfl
              exact zs_iret (pc := 191) t248_191 mr248 (zfb01 (by omega)) (hQ _ _ w91s w91I ((((((((zFr.refl).trans (w23F.mono rfl)).trans (w49F.mono rfl)).trans (w63F.mono rfl)).put rfl).trans (w75F.mono rfl)).put rfl).trans (w91F.mono rfl)) (w91J.trans (w75J.trans (w63J.trans (w49J.trans w23J)))) ((((((((zUp.refl).trans w23U).trans w49U).trans (zUp.fr w63F rfl)).put (Or.inr (by omega))).trans w75U).put (Or.inr (by decide))).trans (zUp.fr w91F rfl)) (zPR.fr w86 (w91F.eq rfl)) (zPC.fr w87 (w91F.eq rfl)) (by omega) (by omega) (by omega) (by omega))
            · refine zs_icmp_geF (pc := 82) t248_82 rfl rfl (by omega) ?_
              refine zs_aload_n (pc := 85) t248_85 rfl ?_
              refine zs_get (pc := 86) t248_86 (by decide) (zk1 (w75s.k fk_zMm_336)) (w75s.p rfl fv_zMm_336_0) ?_
              refine zs_iload_n (pc := 89) t248_89 rfl ?_
              have w96 := zrg (zI w75M 337 (270 + 3 * w69n))
              refine zs_iald (pc := 90) t248_90 (j := (270 + 3 * w69n)) (by decide) (zk1 (w75s.k fk_zMm_337)) (show w3v.toInt = (((270 + 3 * w69n) : Nat) : Int) by omega) (zk2 (w75s.k fk_zMm_337) (by omega)) rfl ?_
              refine zs_aload_n (pc := 91) t248_91 rfl ?_
              refine zs_iload (pc := 92) t248_92 rfl ?_
              refine zs_aload_n (pc := 94) t248_94 rfl ?_
              refine zs_get (pc := 95) t248_95 (by decide) (zk1 (w75s.k fk_zMm_336)) (w75s.p rfl fv_zMm_336_0) ?_
              refine zs_iload_n (pc := 98) t248_98 rfl ?_
              refine zs_iconst (pc := 99) t248_99 (v := 1) (by decide) ?_
              obtain ⟨w97v, w97e, w97⟩ := ziadd (a := w3v) (b := (1 : Int32)) w3 li1 (by omega) (by omega)
              refine zs_iadd (pc := 100) t248_100 (c := w97v) w97e ?_
              have w98 := zrg (zI w75M 337 (271 + 3 * w69n))
              refine zs_iald (pc := 101) t248_101 (j := (271 + 3 * w69n)) (by decide) (zk1 (w75s.k fk_zMm_337)) (show w97v.toInt = (((271 + 3 * w69n) : Nat) : Int) by omega) (zk2 (w75s.k fk_zMm_337) (by omega)) rfl ?_
              refine zs_aload_n (pc := 102) t248_102 rfl ?_
              refine zs_get (pc := 103) t248_103 (by decide) (zk1 (w75s.k fk_zMm_336)) (w75s.p rfl fv_zMm_336_0) ?_
              refine zs_iload_n (pc := 106) t248_106 rfl ?_
              refine zs_iconst (pc := 107) t248_107 (v := 2) (by decide) ?_
              obtain ⟨w99v, w99e, w99⟩ := ziadd (a := w3v) (b := (2 : Int32)) w3 li2 (by omega) (by omega)
              refine zs_iadd (pc := 108) t248_108 (c := w99v) w99e ?_
              have w100 := zrg (zI w75M 337 (272 + 3 * w69n))
              refine zs_iald (pc := 109) t248_109 (j := (272 + 3 * w69n)) (by decide) (zk1 (w75s.k fk_zMm_337)) (show w99v.toInt = (((272 + 3 * w69n) : Nat) : Int) by omega) (zk2 (w75s.k fk_zMm_337) (by omega)) rfl ?_
              refine zs_invV (pc := 110) (k := 336) (as' := [.int w75x4, .int (zI w75M 337 (271 + 3 * w69n)), .int (zI w75M 337 (272 + 3 * w69n))]) (st := [.int (zI w75M 337 (270 + 3 * w69n))]) t248_110 mf249 rfl rfl (Or.inl ⟨by decide, (zk1 (w75s.k fk_zMm_336))⟩) ⟨by decide, by decide, Nat.le_of_ble_eq_true rfl, Nat.le_of_ble_eq_true rfl⟩ (K249 w75s w75I ⟨by omega, by omega⟩ ?_) (fun _ _ q => q)
              have w101 := zrg (zlift w75M w75x4 (zI w75M 337 (271 + 3 * w69n)) (zI w75M 337 (272 + 3 * w69n)))
              show zGo X l 4 0 0 248 113 [(0, .ref 336), (1, .int a), (2, .int (zI M 337 2)), (3, .int w3v), (4, .int w75x4)] [.int (zlift w75M w75x4 (zI w75M 337 (271 + 3 * w69n)) (zI w75M 337 (272 + 3 * w69n))), .int (zI w75M 337 (270 + 3 * w69n))] w75M _
              obtain ⟨w102v, w102⟩ : ∃ v, v = (zI w75M 337 (270 + 3 * w69n)) + (zlift w75M w75x4 (zI w75M 337 (271 + 3 * w69n)) (zI w75M 337 (272 + 3 * w69n))) := ⟨_, rfl⟩
              have w102g := zrg w102v
              refine zs_iadd (pc := 113) t248_113 (c := w102v) w102.symm ?_
              refine zs_istore (pc := 114) t248_114 (ls' := [(5, .int w102v), (0, .ref 336), (1, .int a), (2, .int (zI M 337 2)), (3, .int w3v), (4, .int w75x4)]) (zml mf248 (by decide)) rfl ?_
              refine zs_iload (pc := 116) t248_116 rfl ?_
              refine zs_i2l (pc := 118) t248_118 rfl ?_
              refine zs_ldc2_w (pc := 119) t248_119 (v := -9999) (by decide) ?_
              refine zs_ldc2_w (pc := 122) t248_122 (v := 9999) (by decide) ?_
              by_cases w103 : (-9999) ≤ w102v.toInt ∧ w102v.toInt ≤ 9999
              · refine zs_invS (pc := 125) (as := [.long w102v.toInt64, .long (-9999 : Int64), .long (9999 : Int64)]) (st := []) t248_125 (by decide) mf228 rfl rfl ⟨by decide, by decide, Nat.le_of_ble_eq_true rfl, Nat.le_of_ble_eq_true rfl⟩ (K228T (zi2l rfl) lln9999 ll9999 (by omega) ?_) (fun _ _ q => q)
                show zGo X l 4 0 0 248 128 [(5, .int w102v), (0, .ref 336), (1, .int a), (2, .int (zI M 337 2)), (3, .int w3v), (4, .int w75x4)] [.int (1 : Int32)] w75M _
                refine zs_if_neT (pc := 128) t248_128 li1 (by decide) ?_
                refine zs_aload_n (pc := 134) t248_134 rfl ?_
                refine zs_get (pc := 135) t248_135 (by decide) (zk1 (w75s.k fk_zMm_336)) (w75s.p rfl fv_zMm_336_0) ?_
                refine zs_iconst (pc := 138) t248_138 (v := 1) (by decide) ?_
                have w104 := ibA1 w75I
                refine zs_iald (pc := 139) t248_139 (j := 1) (by decide) (zk1 (w75s.k fk_zMm_337)) li1 (zk2 (w75s.k fk_zMm_337) (by decide)) rfl ?_
                refine zs_bipush (pc := 140) t248_140 (v := 60) (by decide) ?_
                by_cases w105 : (zI w75M 337 1).toInt ≠ 60
                · refine zs_icmp_neT (pc := 142) t248_142 rfl li60 (by omega) ?_
                  refine zs_aload_n (pc := 151) t248_151 rfl ?_
                  refine zs_iload (pc := 152) t248_152 rfl ?_
                  refine zs_iload (pc := 154) t248_154 rfl ?_
                  refine zs_aload_n (pc := 156) t248_156 rfl ?_
                  refine zs_iload (pc := 157) t248_157 rfl ?_
                  refine zs_invV (pc := 159) (k := 336) (as' := [.int w75x4]) (st := [.int w102v, .int w75x4, .ref 336]) t248_159 mf241 rfl rfl (Or.inl ⟨by decide, (zk1 (w75s.k fk_zMm_336))⟩) ⟨by decide, by decide, Nat.le_of_ble_eq_true rfl, Nat.le_of_ble_eq_true rfl⟩ (zs_in (by decide) mf241 (Nat.le_of_ble_eq_true rfl) ?_) (fun _ _ q => q)
                  show zGo X l 0 0 0 241 0 [(0, .ref 336), (1, .int w75x4)] [] w75M _
                  refine zs_aload_n (pc := 0) t241_0 rfl ?_
                  refine zs_get (pc := 1) t241_1 (by decide) (zk1 (w75s.k fk_zMm_336)) (w75s.p rfl fv_zMm_336_0) ?_
                  refine zs_bipush (pc := 4) t241_4 (v := 14) (by decide) ?_
                  refine zs_iconst (pc := 6) t241_6 (v := 2) (by decide) ?_
                  refine zs_iload_n (pc := 7) t241_7 rfl ?_
                  obtain ⟨w106v, w106⟩ : ∃ v, (2 : Int32) * w75x4 = v := ⟨_, rfl⟩
                  have w106g : w106v.toInt = 2 * w75x4.toInt := by rw [← w106]; exact zmulc li2 rfl (by omega) (by omega)
                  refine zs_imul (pc := 8) t241_8 (c := w106v) w106 ?_
                  obtain ⟨w107v, w107e, w107⟩ := ziadd (a := (14 : Int32)) (b := w106v) li14 w106g (by omega) (by omega)
                  refine zs_iadd (pc := 9) t241_9 (c := w107v) w107e ?_
                  obtain ⟨w108n, w108⟩ : ∃ n : Nat, w75x4.toInt = (n : Int) := ⟨(w75x4.toInt).toNat, by omega⟩
                  have w109 := ibX (j := (14 + 2 * w108n)) w75I (by omega) (by omega) (by omega)
                  refine zs_iald (pc := 10) t241_10 (j := (14 + 2 * w108n)) (by decide) (zk1 (w75s.k fk_zMm_337)) (show w107v.toInt = (((14 + 2 * w108n) : Nat) : Int) by omega) (zk2 (w75s.k fk_zMm_337) (by omega)) rfl ?_
                  refine zs_iret (pc := 11) t241_11 mr241 rfl ?_
                  show zGo X l 4 0 0 248 162 [(5, .int w102v), (0, .ref 336), (1, .int a), (2, .int (zI M 337 2)), (3, .int w3v), (4, .int w75x4)] [.int (zI w75M 337 (14 + 2 * w108n)), .int w102v, .int w75x4, .ref 336] w75M _
                  refine zs_bipush (pc := 162) t248_162 (v := 10) (by decide) ?_
                  obtain ⟨w110v, w110⟩ : ∃ v, (zI w75M 337 (14 + 2 * w108n)) / (10 : Int32) = v := ⟨_, rfl⟩
                  have w110g : w110v.toInt = (zI w75M 337 (14 + 2 * w108n)).toInt / 10 := by rw [← w110]; exact zdivp rfl li10 (by omega) (by decide)
                  refine zs_idiv (pc := 164) t248_164 (by decide) (c := w110v) w110 ?_
                  refine zs_iload_n (pc := 165) t248_165 rfl ?_
                  have w111 : (zI w75M 337 1).toInt = (zI w75M 337 1).toInt := (congrArg Int32.toInt rfl).trans rfl
                  have w112 : (zI w75M 337 0).toInt = (zI w75M 337 0).toInt := (congrArg Int32.toInt rfl).trans rfl
                  have w113 : (zI w75M 337 1).toInt = (zI w75M 337 1).toInt := (congrArg Int32.toInt rfl).trans rfl
                  have w114 : (zI w75M 337 0).toInt = (zI w75M 337 0).toInt := (congrArg Int32.toInt rfl).trans rfl
                  have w115 : (zI w75M 337 2).toInt = (zI w75M 337 2).toInt := (congrArg Int32.toInt rfl).trans rfl
                  refine zs_invV (pc := 166) (k := 336) (as' := [.int w75x4, .int w102v, .int w110v, .int (zI M 337 2)]) (st := []) t248_166 mf252 rfl rfl (Or.inl ⟨by decide, (zk1 (w75s.k fk_zMm_336))⟩) ⟨by decide, by decide, Nat.le_of_ble_eq_true rfl, Nat.le_of_ble_eq_true rfl⟩ (K252 w75s w75I w75PR w75PC ⟨by omega, by omega⟩ (by omega) (by omega) ?_) (fun _ _ q => q)
                  intro w116M w116s w116I w116F w116J w116U w116PR w116PC w116t0 w116t1 w116t2
                  have w117 := ibA1 w116I
                  have w118 := ibA0 w116I
                  have w119 := ibA2 w116I
                  show zGo X l 4 0 0 248 169 [(5, .int w102v), (0, .ref 336), (1, .int a), (2, .int (zI M 337 2)), (3, .int w3v), (4, .int w75x4)] [] w116M _
                  obtain ⟨w120v, w120e, w120⟩ := ziadd (a := w75x4) (b := Int32.ofInt 1) rfl (show (Int32.ofInt 1).toInt = 1 by decide) (by omega) (by omega)
                  refine zs_iinc (pc := 169) t248_169 (ls' := [(4, .int w120v), (5, .int w102v), (0, .ref 336), (1, .int a), (2, .int (zI M 337 2)), (3, .int w3v)]) (zml mf248 (by decide)) rfl (c := w120v) w120e rfl ?_
                  refine zs_goto (pc := 172) t248_172 ?_
                  refine zGo.locals (ls' := [(0, .ref 336), (1, .int a), (2, .int (zI M 337 2)), (3, .int w3v), (4, .int w120v)]) (by simp) ?_
                  have w121 := w120
                  have w122 : (zI w116M 337 0).toInt = (zI w116M 337 0).toInt := (congrArg Int32.toInt rfl).trans rfl
                  have w123 : (zI w116M 337 2).toInt = (zI w116M 337 2).toInt := (congrArg Int32.toInt rfl).trans rfl
                  exact w75ih (w75m - 1) (by omega) w120v w116M ⟨by omega, by omega⟩ w116s w116I (((zFr.refl).trans (w75F.mono rfl)).trans (w116F.mono rfl)) (w116J.trans w75J) (((zUp.refl).trans w75U).trans w116U) w116PR w116PC (by omega) (by omega) (by omega)
                · refine zs_icmp_neF (pc := 142) t248_142 rfl li60 (by omega) ?_
                  refine zs_aload_n (pc := 145) t248_145 rfl ?_
                  refine zs_iload_n (pc := 146) t248_146 rfl ?_
                  refine zs_invV (pc := 147) (k := 336) (as' := [.int a]) (st := []) t248_147 mf239 rfl rfl (Or.inl ⟨by decide, (zk1 (w75s.k fk_zMm_336))⟩) ⟨by decide, by decide, Nat.le_of_ble_eq_true rfl, Nat.le_of_ble_eq_true rfl⟩ (zs_in (by decide) mf239 (Nat.le_of_ble_eq_true rfl) ?_) (fun _ _ q => q)
                  show zGo X l 0 0 0 239 0 [(0, .ref 336), (1, .int a)] [] w75M _
                  refine zs_aload_n (pc := 0) t239_0 rfl ?_
                  refine zs_iload_n (pc := 1) t239_1 rfl ?_
                  have w124 : zIv mLo mHi (zsI w75M 336 7 a) := zIv.put w75I (show (-1) ≤ a.toInt ∧ a.toInt ≤ 500 from ⟨by omega, by omega⟩)
                  refine zs_putI (pc := 2) t239_2 (zk1 (w75s.k fk_zMm_336)) rfl ?_
                  refine zs_iconst (pc := 5) t239_5 (v := 0) (by decide) ?_
                  refine zs_iret (pc := 6) t239_6 mr239 (by decide) ?_
                  show zGo X l 4 0 0 248 150 [(5, .int w102v), (0, .ref 336), (1, .int a), (2, .int (zI M 337 2)), (3, .int w3v), (4, .int w75x4)] [.int (0 : Int32)] (zsI w75M 336 7 a) _
                  have w125 : (zI (zsI w75M 336 7 a) 336 6).toInt = (zI w63M 336 6).toInt := (congrArg Int32.toInt ((zIoj (by decide)).trans ((w75F 336 6 rfl).trans ((zIo (by decide)).trans rfl)))).trans rfl
                  have w126 : (zI (zsI w75M 336 7 a) 336 7).toInt = a.toInt := (congrArg Int32.toInt zIs).trans rfl
                  have w127 := li0
                  exact zs_iret (pc := 150) t248_150 mr248 (by decide) (hQ _ _ w75s w124 (((((((zFr.refl).trans (w23F.mono rfl)).trans (w49F.mono rfl)).trans (w63F.mono rfl)).put rfl).trans (w75F.mono rfl)).put rfl) (w75J.trans (w63J.trans (w49J.trans w23J))) (((((((zUp.refl).trans w23U).trans w49U).trans (zUp.fr w63F rfl)).put (Or.inr (by omega))).trans w75U).put (Or.inl (by decide))) (zPR.fr (M' := (zsI w75M 336 7 a)) w75PR (zEq.put rfl)) (zPC.fr (M' := (zsI w75M 336 7 a)) w75PC (zEq.put rfl)) (by omega) (by omega) (by decide) (by decide))
              · refine zs_invS (pc := 125) (as := [.long w102v.toInt64, .long (-9999 : Int64), .long (9999 : Int64)]) (st := []) t248_125 (by decide) mf228 rfl rfl ⟨by decide, by decide, Nat.le_of_ble_eq_true rfl, Nat.le_of_ble_eq_true rfl⟩ (K228F (zi2l rfl) lln9999 ll9999 (by omega) ?_) (fun _ _ q => q)
                show zGo X l 4 0 0 248 128 [(5, .int w102v), (0, .ref 336), (1, .int a), (2, .int (zI M 337 2)), (3, .int w3v), (4, .int w75x4)] [.int (0 : Int32)] w75M _
                refine zs_if_neF (pc := 128) t248_128 li0 (by decide) ?_
                refine zs_goto (pc := 131) t248_131 ?_
                obtain ⟨w128v, w128e, w128⟩ := ziadd (a := w75x4) (b := Int32.ofInt 1) rfl (show (Int32.ofInt 1).toInt = 1 by decide) (by omega) (by omega)
                refine zs_iinc (pc := 169) t248_169 (ls' := [(4, .int w128v), (5, .int w102v), (0, .ref 336), (1, .int a), (2, .int (zI M 337 2)), (3, .int w3v)]) (zml mf248 (by decide)) rfl (c := w128v) w128e rfl ?_
                refine zs_goto (pc := 172) t248_172 ?_
                refine zGo.locals (ls' := [(0, .ref 336), (1, .int a), (2, .int (zI M 337 2)), (3, .int w3v), (4, .int w128v)]) (by simp) ?_
                have w129 := w128
                have w130 : (zI w75M 337 0).toInt = (zI w75M 337 0).toInt := (congrArg Int32.toInt rfl).trans rfl
                have w131 : (zI w75M 337 2).toInt = (zI w75M 337 2).toInt := (congrArg Int32.toInt rfl).trans rfl
                exact w75ih (w75m - 1) (by omega) w128v w75M ⟨by omega, by omega⟩ w75s w75I ((zFr.refl).trans (w75F.mono rfl)) w75J ((zUp.refl).trans w75U) w75PR w75PC (by omega) (by omega) (by omega)
        refine zGo.locals (ls' := [(0, .ref 336), (1, .int a), (2, .int (zI M 337 2)), (3, .int w3v), (4, .int (0 : Int32))]) (by simp) ?_
        have w132 := li0
        have w133 : (zI (zsI w63M 337 (272 + 3 * w69n) (zI w63M 336 8)) 337 0).toInt = (zI w49M 337 0).toInt := (congrArg Int32.toInt ((zIoj (by omega)).trans ((w63F 337 0 rfl).trans rfl))).trans rfl
        have w134 : (zI (zsI w63M 337 (272 + 3 * w69n) (zI w63M 336 8)) 337 2).toInt = (zI w49M 337 2).toInt := (congrArg Int32.toInt ((zIoj (by omega)).trans ((w63F 337 2 rfl).trans rfl))).trans rfl
        exact w75L ((8 - 0 : Int).toNat) (0 : Int32) (zsI w63M 337 (272 + 3 * w69n) (zI w63M 336 8)) ⟨by decide, by decide⟩ w63s w70 zFr.refl rfl zUp.refl w73 w74 (by omega) (by omega) (by omega)
      · refine zs_if_neF (pc := 54) t248_54 rfl (by omega) ?_
        refine zs_iconst (pc := 57) t248_57 (v := 0) (by decide) ?_
        have w135 : (zI w63M 336 6).toInt = (zI w63M 336 6).toInt := (congrArg Int32.toInt rfl).trans rfl
        have w136 : (zI w63M 336 7).toInt = (zI w63M 336 7).toInt := (congrArg Int32.toInt rfl).trans rfl
        have w137 := li0
        exact zs_iret (pc := 58) t248_58 mr248 (by decide) (hQ _ _ w63s w63I ((((zFr.refl).trans (w23F.mono rfl)).trans (w49F.mono rfl)).trans (w63F.mono rfl)) (w63J.trans (w49J.trans w23J)) ((((zUp.refl).trans w23U).trans w49U).trans (zUp.fr w63F rfl)) (zPR.fr w49PR (w63F.eq rfl)) (zPC.fr w49PC (w63F.eq rfl)) (by omega) (by omega) (by decide) (by decide))
