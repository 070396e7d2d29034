theorem R230_0 {X : zX} {l : Launch} {M : zM} {Q : Option Value → zM → Prop} (hs : zSk zMm M) (hI : zIv mLo mHi M) {F : Nat → Int} {H : Nat → Nat → Int} {n : Int} (pR : zPR M) (pC : zPC M) (x0 : zRw M 0 F) (x1 : zHM M H n) (hQ : ∀ M', zSk zMm M' → zIv mLo mHi M' → zFr [(337, 337, none), (336, 336, some 1), (336, 336, some 3)] M M' → zJ M' 351 = zJ M 351 → zPR M' → zPC M' → zPF M' → ((zI M' 337 0).toInt = (zI M 337 0).toInt) → ((zI M' 337 1).toInt = (zI M 337 1).toInt) → ((zI M' 337 2).toInt = (zI M 337 2).toInt) → ((zI M' 336 3).toInt = 0) → (zHM M' (pushH F H) (nP n)) → (∀ r : Nat, r < 3 ∨ r = 11 → ∀ G, zRw M r G → zRw M' r G) → Q none M') : zCall X l 1 0 0 230 [.ref 336, .int (0 : Int32)] M Q := by
  refine zs_in (by decide) mf230 (Nat.le_of_ble_eq_true rfl) ?_
  show zGo X l 1 0 0 230 0 [(0, .ref 336), (1, .int (0 : Int32))] [] M _
  have w1 := ib336_1 hI
  have w2 : (zI M 336 1).toInt = (zI M 336 1).toInt := (congrArg Int32.toInt rfl).trans rfl
  have g1 := x1.1
  refine zs_aload_n (pc := 0) t230_0 rfl ?_
  refine zs_get (pc := 1) t230_1 (by decide) (zk1 (hs.k fk_zMm_336)) (zfvi rfl rfl) ?_
  refine zs_bipush (pc := 4) t230_4 (v := 8) (by decide) ?_
  by_cases w3 : (zI M 336 1).toInt ≠ 8
  · refine zs_icmp_neT (pc := 6) t230_6 rfl li8 (by omega) ?_
    refine zs_aload_n (pc := 45) t230_45 rfl ?_
    refine zs_iload_n (pc := 46) t230_46 rfl ?_
    refine zs_iconst (pc := 47) t230_47 (v := 3) (by decide) ?_
    refine zs_aload_n (pc := 48) t230_48 rfl ?_
    refine zs_get (pc := 49) t230_49 (by decide) (zk1 (hs.k fk_zMm_336)) (zfvi rfl rfl) ?_
    obtain ⟨w4v, w4e, w4⟩ := ziadd (a := (3 : Int32)) (b := (zI M 336 1)) li3 rfl (by omega) (by omega)
    refine zs_iadd (pc := 52) t230_52 (c := w4v) w4e ?_
    obtain ⟨w5n, w5⟩ : ∃ n : Nat, (zI M 336 1).toInt = (n : Int) := ⟨((zI M 336 1).toInt).toNat, by omega⟩
    have w6k : zRk (zrow M 0) := (zRk0 hI pR pC)
    refine zs_invV (pc := 53) (k := 336) (as' := [.int (0 : Int32), .int w4v]) (st := []) t230_53 mf226 rfl rfl (Or.inl ⟨by decide, (zk1 (hs.k fk_zMm_336))⟩) ⟨by decide, by decide, Nat.le_of_ble_eq_true rfl, Nat.le_of_ble_eq_true rfl⟩ (K226 (na := 0) (nb := (3 + w5n)) hs hI (by decide) (by omega) (by omega) (by omega) (by omega) w6k ?_) (fun _ _ q => q)
    intro w6M w6s w6I w6F w6J w6c
    have w6R : zPR w6M := zPR.cp pR hI w6k w6c (w6F.eq rfl)
    have w6C : zPC w6M := zPC.cp pC hI pR w6k w6c
    have w7 := ibA0 hI
    have w6r0 : zI w6M 337 0 = (zI M 337 0) := (w6c.1 0 (Or.inl (by omega))).trans rfl
    have w8 := ibA1 hI
    have w6r1 : zI w6M 337 1 = (zI M 337 1) := (w6c.1 1 (Or.inl (by omega))).trans rfl
    have w9 := ibA2 hI
    have w6r2 : zI w6M 337 2 = (zI M 337 2) := (w6c.1 2 (Or.inl (by omega))).trans rfl
    show zGo X l 1 0 0 230 56 [(0, .ref 336), (1, .int (0 : Int32))] [] w6M _
    refine zs_aload_n (pc := 56) t230_56 rfl ?_
    refine zs_dup (pc := 57) t230_57 rfl ?_
    refine zs_get (pc := 58) t230_58 (by decide) (zk1 (w6s.k fk_zMm_336)) (zfvi rfl ((w6F 336 1 rfl).trans rfl)) ?_
    refine zs_iconst (pc := 61) t230_61 (v := 1) (by decide) ?_
    obtain ⟨w10v, w10e, w10⟩ := ziadd (a := (zI M 336 1)) (b := (1 : Int32)) rfl li1 (by omega) (by omega)
    refine zs_iadd (pc := 62) t230_62 (c := w10v) w10e ?_
    have w11 : zIv mLo mHi (zsI w6M 336 1 w10v) := zIv.put w6I (show 0 ≤ w10v.toInt ∧ w10v.toInt ≤ 8 from ⟨by omega, by omega⟩)
    have w12 : (zI w6M 336 1).toInt = (zI M 336 1).toInt := (congrArg Int32.toInt ((w6F 336 1 rfl).trans rfl)).trans rfl
    have w13 : w10v.toInt = ((zI M 336 1).toInt + 1) := w10
    have w14 : zPR (zsI w6M 336 1 w10v) := zPR.more (n := w5n) w6R (by omega) (by omega) (zCp.k w6c w6k (Or.inl (by omega)))
    refine zs_putI (pc := 63) t230_63 (zk1 (w6s.k fk_zMm_336)) rfl ?_
    refine zs_aload_n (pc := 66) t230_66 rfl ?_
    refine zs_iconst (pc := 67) t230_67 (v := 0) (by decide) ?_
    have w15 : zIv mLo mHi (zsI (zsI w6M 336 1 w10v) 336 3 (0 : Int32)) := zIv.put w11 (show 0 ≤ (0 : Int32).toInt ∧ (0 : Int32).toInt ≤ 1 from ⟨by decide, by decide⟩)
    have w16 : zPF (zsI (zsI w6M 336 1 w10v) 336 3 (0 : Int32)) := zPF.off
    refine zs_putI (pc := 68) t230_68 (zk1 (w6s.k fk_zMm_336)) (by decide) ?_
    have w17 : (zI (zsI (zsI w6M 336 1 w10v) 336 3 (0 : Int32)) 337 1).toInt = (zI M 337 1).toInt := (congrArg Int32.toInt ((zIo (by decide)).trans ((zIo (by decide)).trans w6r1))).trans rfl
    have w18 : (zI (zsI (zsI w6M 336 1 w10v) 336 3 (0 : Int32)) 336 3).toInt = 0 := (congrArg Int32.toInt zIs).trans li0
    have w19 : (zI (zsI (zsI w6M 336 1 w10v) 336 3 (0 : Int32)) 337 2).toInt = (zI M 337 2).toInt := (congrArg Int32.toInt ((zIo (by decide)).trans ((zIo (by decide)).trans w6r2))).trans rfl
    have w20 : (zI (zsI (zsI w6M 336 1 w10v) 336 3 (0 : Int32)) 337 0).toInt = (zI M 337 0).toInt := (congrArg Int32.toInt ((zIo (by decide)).trans ((zIo (by decide)).trans w6r0))).trans rfl
    have w21 : (zI (zsI (zsI w6M 336 1 w10v) 336 3 (0 : Int32)) 336 1).toInt = ((zI M 336 1).toInt + 1) := (congrArg Int32.toInt ((zIoj (by decide)).trans zIs)).trans w10
    have g2 := nP.e (n := n)
    exact zs_vret (pc := 71) t230_71 mr230 (hQ _ w6s w15 ((((zFr.refl).trans (w6F.mono rfl)).put rfl).put rfl) w6J (zPR.fr (M' := (zsI (zsI w6M 336 1 w10v) 336 3 (0 : Int32))) w14 (zEq.put rfl)) (zPC.fr (M' := (zsI (zsI w6M 336 1 w10v) 336 3 (0 : Int32))) (zPC.fr (M' := (zsI w6M 336 1 w10v)) w6C (zEq.put rfl)) (zEq.put rfl)) w16 (by omega) (by omega) (by omega) (by omega) (zHM.push (d := w5n) x1 (by omega) (by omega) (by omega) (zRw.frR (zRw.cp w6c x0) (by omega) (fun j hj => ((zIo (by decide)).trans (zIo (by decide))))) (fun r h1 h2 G z => (zRw.frR (zRw.cpo w6c z (by omega)) (by omega) (fun j hj => ((zIo (by decide)).trans (zIo (by decide))))))) (fun r hr G z => (zRw.frA (zRw.cpo w6c z (by omega)) (fun j => ((zIo (by decide)).trans (zIo (by decide)))))))
  · refine zs_icmp_neF (pc := 6) t230_6 rfl li8 (by omega) ?_
    refine zs_iconst (pc := 9) t230_9 (v := 1) (by decide) ?_
    refine zs_istore_n (pc := 10) t230_10 (ls' := [(2, .int (1 : Int32)), (0, .ref 336), (1, .int (0 : Int32))]) (zml mf230 (by decide)) rfl ?_
    have w22L : ∀ (m : Nat) (w22x2 : Int32) (w22M : zM), (1 ≤ w22x2.toInt ∧ w22x2.toInt ≤ 8) → zSk zMm w22M → zIv mLo mHi w22M → zFr [(337, 337, none)] M w22M → zJ w22M 351 = zJ M 351 → zPR w22M → zPC w22M → ((zI w22M 336 1).toInt = 8) → ((zI w22M 337 0).toInt = (zI M 337 0).toInt) → ((zI w22M 337 1).toInt = (zI M 337 1).toInt) → ((zI w22M 337 2).toInt = (zI M 337 2).toInt) → (∀ k : Nat, (k : Int) = w22x2.toInt → zSh w22M H k) → (∀ r : Nat, r < 3 ∨ r = 11 → ∀ G, zRw M r G → zRw w22M r G) → 8 - w22x2.toInt ≤ (m : Int) → zGo X l 1 0 0 230 11 [(0, .ref 336), (1, .int (0 : Int32)), (2, .int w22x2)] [] w22M Q := by
      intro m
      induction m using Nat.strongRecOn with
      | ind w22m w22ih =>
        intro w22x2 w22M w22b2 w22s w22I w22F w22J w22PR w22PC w22r0 w22r1 w22r2 w22r3 w22t0 w22t1 w22q
        have w23 := ibA0 w22I
        have w24 := ibA0 hI
        have w25 : (zI M 337 0).toInt = (zI M 337 0).toInt := (congrArg Int32.toInt rfl).trans rfl
        have w26 := ibA1 w22I
        have w27 := ibA1 hI
        have w28 : (zI M 337 1).toInt = (zI M 337 1).toInt := (congrArg Int32.toInt rfl).trans rfl
        have w29 := ibA2 w22I
        have w30 := ibA2 hI
        have w31 : (zI M 337 2).toInt = (zI M 337 2).toInt := (congrArg Int32.toInt rfl).trans rfl
        refine zs_iload_n (pc := 11) t230_11 rfl ?_
        refine zs_bipush (pc := 12) t230_12 (v := 8) (by decide) ?_
        by_cases w32 : 8 ≤ w22x2.toInt
        · refine zs_icmp_geT (pc := 14) t230_14 rfl li8 (by omega) ?_
          refine zs_aload_n (pc := 35) t230_35 rfl ?_
          refine zs_dup (pc := 36) t230_36 rfl ?_
          refine zs_get (pc := 37) t230_37 (by decide) (zk1 (w22s.k fk_zMm_336)) (zfvi rfl ((w22F 336 1 rfl).trans rfl)) ?_
          refine zs_iconst (pc := 40) t230_40 (v := 1) (by decide) ?_
          obtain ⟨w33v, w33e, w33⟩ := zisub (a := (zI M 336 1)) (b := (1 : Int32)) rfl li1 (by omega) (by omega)
          refine zs_isub (pc := 41) t230_41 (c := w33v) w33e ?_
          have w34 : zIv mLo mHi (zsI w22M 336 1 w33v) := zIv.put w22I (show 0 ≤ w33v.toInt ∧ w33v.toInt ≤ 8 from ⟨by omega, by omega⟩)
          have w35 : (zI w22M 336 1).toInt = (zI M 336 1).toInt := (congrArg Int32.toInt ((w22F 336 1 rfl).trans rfl)).trans rfl
          have w36 : w33v.toInt = ((zI M 336 1).toInt - 1) := w33
          have w37 : zPR (zsI w22M 336 1 w33v) := zPR.less w22PR (by omega)
          refine zs_putI (pc := 42) t230_42 (zk1 (w22s.k fk_zMm_336)) rfl ?_
          refine zs_aload_n (pc := 45) t230_45 rfl ?_
          refine zs_iload_n (pc := 46) t230_46 rfl ?_
          refine zs_iconst (pc := 47) t230_47 (v := 3) (by decide) ?_
          refine zs_aload_n (pc := 48) t230_48 rfl ?_
          refine zs_get (pc := 49) t230_49 (by decide) (zk1 (w22s.k fk_zMm_336)) (zfvi rfl zIs) ?_
          obtain ⟨w38v, w38e, w38⟩ := ziadd (a := (3 : Int32)) (b := w33v) li3 w33 (by omega) (by omega)
          refine zs_iadd (pc := 52) t230_52 (c := w38v) w38e ?_
          obtain ⟨w39n, w39⟩ : ∃ n : Nat, (zI M 336 1).toInt = (n : Int) := ⟨((zI M 336 1).toInt).toNat, by omega⟩
          have w40k : zRk (zrow (zsI w22M 336 1 w33v) 0) := (zRk0 w34 w37 (zPC.fr (M' := (zsI w22M 336 1 w33v)) w22PC (zEq.put rfl)))
          refine zs_invV (pc := 53) (k := 336) (as' := [.int (0 : Int32), .int w38v]) (st := []) t230_53 mf226 rfl rfl (Or.inl ⟨by decide, (zk1 (w22s.k fk_zMm_336))⟩) ⟨by decide, by decide, Nat.le_of_ble_eq_true rfl, Nat.le_of_ble_eq_true rfl⟩ (K226 (na := 0) (nb := (2 + w39n)) w22s w34 (by decide) (by omega) (by omega) (by omega) (by omega) w40k ?_) (fun _ _ q => q)
          intro w40M w40s w40I w40F w40J w40c
          have w40R : zPR w40M := zPR.cp w37 w34 w40k w40c (w40F.eq rfl)
          have w40C : zPC w40M := zPC.cp (zPC.fr (M' := (zsI w22M 336 1 w33v)) w22PC (zEq.put rfl)) w34 w37 w40k w40c
          have w40r0 : zI w40M 337 0 = (zI w22M 337 0) := (w40c.1 0 (Or.inl (by omega))).trans ((zIo (by decide)).trans rfl)
          have w40r1 : zI w40M 337 1 = (zI w22M 337 1) := (w40c.1 1 (Or.inl (by omega))).trans ((zIo (by decide)).trans rfl)
          have w40r2 : zI w40M 337 2 = (zI w22M 337 2) := (w40c.1 2 (Or.inl (by omega))).trans ((zIo (by decide)).trans rfl)
          show zGo X l 1 0 0 230 56 [(0, .ref 336), (1, .int (0 : Int32)), (2, .int w22x2)] [] w40M _
          refine zs_aload_n (pc := 56) t230_56 rfl ?_
          refine zs_dup (pc := 57) t230_57 rfl ?_
          refine zs_get (pc := 58) t230_58 (by decide) (zk1 (w40s.k fk_zMm_336)) (zfvi rfl ((w40F 336 1 rfl).trans zIs)) ?_
          refine zs_iconst (pc := 61) t230_61 (v := 1) (by decide) ?_
          obtain ⟨w41v, w41e, w41⟩ := ziadd (a := w33v) (b := (1 : Int32)) w33 li1 (by omega) (by omega)
          refine zs_iadd (pc := 62) t230_62 (c := w41v) w41e ?_
          have w42 : zIv mLo mHi (zsI w40M 336 1 w41v) := zIv.put w40I (show 0 ≤ w41v.toInt ∧ w41v.toInt ≤ 8 from ⟨by omega, by omega⟩)
          have w43 : (zI w40M 336 1).toInt = ((zI M 336 1).toInt - 1) := (congrArg Int32.toInt ((w40F 336 1 rfl).trans zIs)).trans w33
          have w44 : w41v.toInt = (((zI M 336 1).toInt - 1) + 1) := w41
          have w45 : zPR (zsI w40M 336 1 w41v) := zPR.more (n := (w39n - 1)) w40R (by omega) (by omega) (zCp.k w40c w40k (Or.inl (by omega)))
          refine zs_putI (pc := 63) t230_63 (zk1 (w40s.k fk_zMm_336)) rfl ?_
          refine zs_aload_n (pc := 66) t230_66 rfl ?_
          refine zs_iconst (pc := 67) t230_67 (v := 0) (by decide) ?_
          have w46 : zIv mLo mHi (zsI (zsI w40M 336 1 w41v) 336 3 (0 : Int32)) := zIv.put w42 (show 0 ≤ (0 : Int32).toInt ∧ (0 : Int32).toInt ≤ 1 from ⟨by decide, by decide⟩)
          have w47 : zPF (zsI (zsI w40M 336 1 w41v) 336 3 (0 : Int32)) := zPF.off
          refine zs_putI (pc := 68) t230_68 (zk1 (w40s.k fk_zMm_336)) (by decide) ?_
          have w48 : (zI (zsI (zsI w40M 336 1 w41v) 336 3 (0 : Int32)) 337 1).toInt = (zI w22M 337 1).toInt := (congrArg Int32.toInt ((zIo (by decide)).trans ((zIo (by decide)).trans w40r1))).trans rfl
          have w49 : (zI (zsI (zsI w40M 336 1 w41v) 336 3 (0 : Int32)) 336 3).toInt = 0 := (congrArg Int32.toInt zIs).trans li0
          have w50 : (zI (zsI (zsI w40M 336 1 w41v) 336 3 (0 : Int32)) 337 2).toInt = (zI w22M 337 2).toInt := (congrArg Int32.toInt ((zIo (by decide)).trans ((zIo (by decide)).trans w40r2))).trans rfl
          have w51 : (zI (zsI (zsI w40M 336 1 w41v) 336 3 (0 : Int32)) 337 0).toInt = (zI w22M 337 0).toInt := (congrArg Int32.toInt ((zIo (by decide)).trans ((zIo (by decide)).trans w40r0))).trans rfl
          have w52 : (zI (zsI (zsI w40M 336 1 w41v) 336 3 (0 : Int32)) 336 1).toInt = (((zI M 336 1).toInt - 1) + 1) := (congrArg Int32.toInt ((zIoj (by decide)).trans zIs)).trans w41
          have g2 := nP.e (n := n)
          exact zs_vret (pc := 71) t230_71 mr230 (hQ _ w40s w46 ((((((zFr.refl).trans (w22F.mono rfl)).put rfl).trans (w40F.mono rfl)).put rfl).put rfl) (w40J.trans w22J) (zPR.fr (M' := (zsI (zsI w40M 336 1 w41v) 336 3 (0 : Int32))) w45 (zEq.put rfl)) (zPC.fr (M' := (zsI (zsI w40M 336 1 w41v) 336 3 (0 : Int32))) (zPC.fr (M' := (zsI w40M 336 1 w41v)) w40C (zEq.put rfl)) (zEq.put rfl)) w47 (by omega) (by omega) (by omega) (by omega) (zHM.push8 (k := w22x2.toInt.toNat) (w22t0 w22x2.toInt.toNat (by omega)) (by omega) (by omega) (by omega) (zRw.cast (by omega) (zRw.frR (zRw.cp w40c (zRw.fr' (w22t1 0 (by decide) _ x0) (fun j hj => (zIo (by decide))))) (by omega) (fun j hj => ((zIo (by decide)).trans (zIo (by decide)))))) (fun r h1 h2 G z => (zRw.frR (zRw.cpo w40c (zRw.frR z (by omega) (fun j hj => (zIo (by decide)))) (by omega)) (by omega) (fun j hj => ((zIo (by decide)).trans (zIo (by decide))))))) (fun r hr G z => (zRw.frA (zRw.cpo w40c (zRw.frA (w22t1 r hr G z) (fun j => (zIo (by decide)))) (by omega)) (fun j => ((zIo (by decide)).trans (zIo (by decide)))))))
        · refine zs_icmp_geF (pc := 14) t230_14 rfl li8 (by omega) ?_
          refine zs_aload_n (pc := 17) t230_17 rfl ?_
          refine zs_iconst (pc := 18) t230_18 (v := 3) (by decide) ?_
          refine zs_iload_n (pc := 19) t230_19 rfl ?_
          obtain ⟨w53v, w53e, w53⟩ := ziadd (a := (3 : Int32)) (b := w22x2) li3 rfl (by omega) (by omega)
          refine zs_iadd (pc := 20) t230_20 (c := w53v) w53e ?_
          refine zs_iconst (pc := 21) t230_21 (v := 3) (by decide) ?_
          refine zs_iload_n (pc := 22) t230_22 rfl ?_
          obtain ⟨w54v, w54e, w54⟩ := ziadd (a := (3 : Int32)) (b := w22x2) li3 rfl (by omega) (by omega)
          refine zs_iadd (pc := 23) t230_23 (c := w54v) w54e ?_
          refine zs_iconst (pc := 24) t230_24 (v := 1) (by decide) ?_
          obtain ⟨w55v, w55e, w55⟩ := zisub (a := w54v) (b := (1 : Int32)) w54 li1 (by omega) (by omega)
          refine zs_isub (pc := 25) t230_25 (c := w55v) w55e ?_
          obtain ⟨w56n, w56⟩ : ∃ n : Nat, w22x2.toInt = (n : Int) := ⟨(w22x2.toInt).toNat, by omega⟩
          have w57 : (zI w22M 336 1).toInt = (zI M 336 1).toInt := (congrArg Int32.toInt ((w22F 336 1 rfl).trans rfl)).trans rfl
          have w58k : zRk (zrow w22M (3 + w56n)) := (w22PR.2.2 w56n (by omega))
          refine zs_invV (pc := 26) (k := 336) (as' := [.int w53v, .int w55v]) (st := []) t230_26 mf226 rfl rfl (Or.inl ⟨by decide, (zk1 (w22s.k fk_zMm_336))⟩) ⟨by decide, by decide, Nat.le_of_ble_eq_true rfl, Nat.le_of_ble_eq_true rfl⟩ (K226 (na := (3 + w56n)) (nb := (2 + w56n)) w22s w22I (by omega) (by omega) (by omega) (by omega) (by omega) w58k ?_) (fun _ _ q => q)
          intro w58M w58s w58I w58F w58J w58c
          have w58R : zPR w58M := zPR.cp w22PR w22I w58k w58c (w58F.eq rfl)
          have w58C : zPC w58M := zPC.cp w22PC w22I w22PR w58k w58c
          have w58r0 : zI w58M 337 0 = (zI w22M 337 0) := (w58c.1 0 (Or.inl (by omega))).trans rfl
          have w58r1 : zI w58M 337 1 = (zI w22M 337 1) := (w58c.1 1 (Or.inl (by omega))).trans rfl
          have w58r2 : zI w58M 337 2 = (zI w22M 337 2) := (w58c.1 2 (Or.inl (by omega))).trans rfl
          show zGo X l 1 0 0 230 29 [(0, .ref 336), (1, .int (0 : Int32)), (2, .int w22x2)] [] w58M _
          obtain ⟨w59v, w59e, w59⟩ := ziadd (a := w22x2) (b := Int32.ofInt 1) rfl (show (Int32.ofInt 1).toInt = 1 by decide) (by omega) (by omega)
          refine zs_iinc (pc := 29) t230_29 (ls' := [(2, .int w59v), (0, .ref 336), (1, .int (0 : Int32))]) (zml mf230 (by decide)) rfl (c := w59v) w59e rfl ?_
          refine zs_goto (pc := 32) t230_32 ?_
          refine zGo.locals (ls' := [(0, .ref 336), (1, .int (0 : Int32)), (2, .int w59v)]) (by simp) ?_
          have w60 := w59
          have w61 : (zI w58M 336 1).toInt = (zI M 336 1).toInt := (congrArg Int32.toInt ((w58F 336 1 rfl).trans ((w22F 336 1 rfl).trans rfl))).trans rfl
          have w62 : (zI w58M 337 0).toInt = (zI w22M 337 0).toInt := (congrArg Int32.toInt w58r0).trans rfl
          have w63 : (zI w58M 337 1).toInt = (zI w22M 337 1).toInt := (congrArg Int32.toInt w58r1).trans rfl
          have w64 : (zI w58M 337 2).toInt = (zI w22M 337 2).toInt := (congrArg Int32.toInt w58r2).trans rfl
          exact w22ih (w22m - 1) (by omega) w59v w58M ⟨by omega, by omega⟩ w58s w58I (((zFr.refl).trans (w22F.mono rfl)).trans (w58F.mono rfl)) (w58J.trans w22J) w58R w58C (by omega) (by omega) (by omega) (by omega) (fun k hk => zSh.step (k := w56n) (w22t0 w56n (by omega)) (by omega) (by omega) (by rw [show 3 + w56n = (3 + w56n) by omega, show 2 + w56n = (2 + w56n) by omega]; exact w58c) (by omega)) (fun r hr G z => (zRw.cpo w58c (w22t1 r hr G z) (by omega))) (by omega)
    refine zGo.locals (ls' := [(0, .ref 336), (1, .int (0 : Int32)), (2, .int (1 : Int32))]) (by simp) ?_
    have w65 := li1
    have w66 : (zI M 336 1).toInt = (zI M 336 1).toInt := (congrArg Int32.toInt rfl).trans rfl
    have w67 : (zI M 337 0).toInt = (zI M 337 0).toInt := (congrArg Int32.toInt rfl).trans rfl
    have w68 : (zI M 337 1).toInt = (zI M 337 1).toInt := (congrArg Int32.toInt rfl).trans rfl
    have w69 : (zI M 337 2).toInt = (zI M 337 2).toInt := (congrArg Int32.toInt rfl).trans rfl
    exact w22L ((8 - 1 : Int).toNat) (1 : Int32) M ⟨by decide, by decide⟩ hs hI zFr.refl rfl pR pC (by omega) (by omega) (by omega) (by omega) (fun k hk => zSh.of x1 (by omega) (by omega)) (fun r hr G z => z) (by omega)
theorem R230_11 {X : zX} {l : Launch} {M : zM} {Q : Option Value → zM → Prop} (hs : zSk zMm M) (hI : zIv mLo mHi M) {F : Nat → Int} {H : Nat → Nat → Int} {n : Int} (pR : zPR M) (pC : zPC M) (pA : zPA M) (x0 : zRw M 11 F) (x1 : zHM M H n) (hQ : ∀ M', zSk zMm M' → zIv mLo mHi M' → zFr [(337, 337, none), (336, 336, some 1), (336, 336, some 3)] M M' → zJ M' 351 = zJ M 351 → zPR M' → zPC M' → zPF M' → ((zI M' 337 0).toInt = (zI M 337 0).toInt) → ((zI M' 337 1).toInt = (zI M 337 1).toInt) → ((zI M' 337 2).toInt = (zI M 337 2).toInt) → ((zI M' 336 3).toInt = 0) → (zHM M' (pushH F H) (nP n)) → (∀ r : Nat, r < 3 ∨ r = 11 → ∀ G, zRw M r G → zRw M' r G) → Q none M') : zCall X l 1 0 0 230 [.ref 336, .int (11 : Int32)] M Q := by
  refine zs_in (by decide) mf230 (Nat.le_of_ble_eq_true rfl) ?_
  show zGo X l 1 0 0 230 0 [(0, .ref 336), (1, .int (11 : Int32))] [] M _
  have w1 := ib336_1 hI
  have w2 : (zI M 336 1).toInt = (zI M 336 1).toInt := (congrArg Int32.toInt rfl).trans rfl
  have g1 := x1.1
  refine zs_aload_n (pc := 0) t230_0 rfl ?_
  refine zs_get (pc := 1) t230_1 (by decide) (zk1 (hs.k fk_zMm_336)) (zfvi rfl rfl) ?_
  refine zs_bipush (pc := 4) t230_4 (v := 8) (by decide) ?_
  by_cases w3 : (zI M 336 1).toInt ≠ 8
  · refine zs_icmp_neT (pc := 6) t230_6 rfl li8 (by omega) ?_
    refine zs_aload_n (pc := 45) t230_45 rfl ?_
    refine zs_iload_n (pc := 46) t230_46 rfl ?_
    refine zs_iconst (pc := 47) t230_47 (v := 3) (by decide) ?_
    refine zs_aload_n (pc := 48) t230_48 rfl ?_
    refine zs_get (pc := 49) t230_49 (by decide) (zk1 (hs.k fk_zMm_336)) (zfvi rfl rfl) ?_
    obtain ⟨w4v, w4e, w4⟩ := ziadd (a := (3 : Int32)) (b := (zI M 336 1)) li3 rfl (by omega) (by omega)
    refine zs_iadd (pc := 52) t230_52 (c := w4v) w4e ?_
    obtain ⟨w5n, w5⟩ : ∃ n : Nat, (zI M 336 1).toInt = (n : Int) := ⟨((zI M 336 1).toInt).toNat, by omega⟩
    have w6k : zRk (zrow M 11) := pA
    refine zs_invV (pc := 53) (k := 336) (as' := [.int (11 : Int32), .int w4v]) (st := []) t230_53 mf226 rfl rfl (Or.inl ⟨by decide, (zk1 (hs.k fk_zMm_336))⟩) ⟨by decide, by decide, Nat.le_of_ble_eq_true rfl, Nat.le_of_ble_eq_true rfl⟩ (K226 (na := 11) (nb := (3 + w5n)) hs hI (by decide) (by omega) (by omega) (by omega) (by omega) w6k ?_) (fun _ _ q => q)
    intro w6M w6s w6I w6F w6J w6c
    have w6R : zPR w6M := zPR.cp pR hI w6k w6c (w6F.eq rfl)
    have w6C : zPC w6M := zPC.cp pC hI pR w6k w6c
    have w6A : zPA w6M := zPA.cp w6k w6c (Or.inr pA)
    have w7 := ibA0 hI
    have w6r0 : zI w6M 337 0 = (zI M 337 0) := (w6c.1 0 (Or.inl (by omega))).trans rfl
    have w8 := ibA1 hI
    have w6r1 : zI w6M 337 1 = (zI M 337 1) := (w6c.1 1 (Or.inl (by omega))).trans rfl
    have w9 := ibA2 hI
    have w6r2 : zI w6M 337 2 = (zI M 337 2) := (w6c.1 2 (Or.inl (by omega))).trans rfl
    show zGo X l 1 0 0 230 56 [(0, .ref 336), (1, .int (11 : Int32))] [] w6M _
    refine zs_aload_n (pc := 56) t230_56 rfl ?_
    refine zs_dup (pc := 57) t230_57 rfl ?_
    refine zs_get (pc := 58) t230_58 (by decide) (zk1 (w6s.k fk_zMm_336)) (zfvi rfl ((w6F 336 1 rfl).trans rfl)) ?_
    refine zs_iconst (pc := 61) t230_61 (v := 1) (by decide) ?_
    obtain ⟨w10v, w10e, w10⟩ := ziadd (a := (zI M 336 1)) (b := (1 : Int32)) rfl li1 (by omega) (by omega)
    refine zs_iadd (pc := 62) t230_62 (c := w10v) w10e ?_
    have w11 : zIv mLo mHi (zsI w6M 336 1 w10v) := zIv.put w6I (show 0 ≤ w10v.toInt ∧ w10v.toInt ≤ 8 from ⟨by omega, by omega⟩)
    have w12 : (zI w6M 336 1).toInt = (zI M 336 1).toInt := (congrArg Int32.toInt ((w6F 336 1 rfl).trans rfl)).trans rfl
    have w13 : w10v.toInt = ((zI M 336 1).toInt + 1) := w10
    have w14 : zPR (zsI w6M 336 1 w10v) := zPR.more (n := w5n) w6R (by omega) (by omega) (zCp.k w6c w6k (Or.inl (by omega)))
    refine zs_putI (pc := 63) t230_63 (zk1 (w6s.k fk_zMm_336)) rfl ?_
    refine zs_aload_n (pc := 66) t230_66 rfl ?_
    refine zs_iconst (pc := 67) t230_67 (v := 0) (by decide) ?_
    have w15 : zIv mLo mHi (zsI (zsI w6M 336 1 w10v) 336 3 (0 : Int32)) := zIv.put w11 (show 0 ≤ (0 : Int32).toInt ∧ (0 : Int32).toInt ≤ 1 from ⟨by decide, by decide⟩)
    have w16 : zPF (zsI (zsI w6M 336 1 w10v) 336 3 (0 : Int32)) := zPF.off
    refine zs_putI (pc := 68) t230_68 (zk1 (w6s.k fk_zMm_336)) (by decide) ?_
    have w17 : (zI (zsI (zsI w6M 336 1 w10v) 336 3 (0 : Int32)) 337 1).toInt = (zI M 337 1).toInt := (congrArg Int32.toInt ((zIo (by decide)).trans ((zIo (by decide)).trans w6r1))).trans rfl
    have w18 : (zI (zsI (zsI w6M 336 1 w10v) 336 3 (0 : Int32)) 336 3).toInt = 0 := (congrArg Int32.toInt zIs).trans li0
    have w19 : (zI (zsI (zsI w6M 336 1 w10v) 336 3 (0 : Int32)) 337 2).toInt = (zI M 337 2).toInt := (congrArg Int32.toInt ((zIo (by decide)).trans ((zIo (by decide)).trans w6r2))).trans rfl
    have w20 : (zI (zsI (zsI w6M 336 1 w10v) 336 3 (0 : Int32)) 337 0).toInt = (zI M 337 0).toInt := (congrArg Int32.toInt ((zIo (by decide)).trans ((zIo (by decide)).trans w6r0))).trans rfl
    have w21 : (zI (zsI (zsI w6M 336 1 w10v) 336 3 (0 : Int32)) 336 1).toInt = ((zI M 336 1).toInt + 1) := (congrArg Int32.toInt ((zIoj (by decide)).trans zIs)).trans w10
    have g2 := nP.e (n := n)
    exact zs_vret (pc := 71) t230_71 mr230 (hQ _ w6s w15 ((((zFr.refl).trans (w6F.mono rfl)).put rfl).put rfl) w6J (zPR.fr (M' := (zsI (zsI w6M 336 1 w10v) 336 3 (0 : Int32))) w14 (zEq.put rfl)) (zPC.fr (M' := (zsI (zsI w6M 336 1 w10v) 336 3 (0 : Int32))) (zPC.fr (M' := (zsI w6M 336 1 w10v)) w6C (zEq.put rfl)) (zEq.put rfl)) w16 (by omega) (by omega) (by omega) (by omega) (zHM.push (d := w5n) x1 (by omega) (by omega) (by omega) (zRw.frR (zRw.cp w6c x0) (by omega) (fun j hj => ((zIo (by decide)).trans (zIo (by decide))))) (fun r h1 h2 G z => (zRw.frR (zRw.cpo w6c z (by omega)) (by omega) (fun j hj => ((zIo (by decide)).trans (zIo (by decide))))))) (fun r hr G z => (zRw.frA (zRw.cpo w6c z (by omega)) (fun j => ((zIo (by decide)).trans (zIo (by decide)))))))
  · refine zs_icmp_neF (pc := 6) t230_6 rfl li8 (by omega) ?_
    refine zs_iconst (pc := 9) t230_9 (v := 1) (by decide) ?_
    refine zs_istore_n (pc := 10) t230_10 (ls' := [(2, .int (1 : Int32)), (0, .ref 336), (1, .int (11 : Int32))]) (zml mf230 (by decide)) rfl ?_
    have w22L : ∀ (m : Nat) (w22x2 : Int32) (w22M : zM), (1 ≤ w22x2.toInt ∧ w22x2.toInt ≤ 8) → zSk zMm w22M → zIv mLo mHi w22M → zFr [(337, 337, none)] M w22M → zJ w22M 351 = zJ M 351 → zPR w22M → zPC w22M → zPA w22M → ((zI w22M 336 1).toInt = 8) → ((zI w22M 337 0).toInt = (zI M 337 0).toInt) → ((zI w22M 337 1).toInt = (zI M 337 1).toInt) → ((zI w22M 337 2).toInt = (zI M 337 2).toInt) → (∀ k : Nat, (k : Int) = w22x2.toInt → zSh w22M H k) → (∀ r : Nat, r < 3 ∨ r = 11 → ∀ G, zRw M r G → zRw w22M r G) → 8 - w22x2.toInt ≤ (m : Int) → zGo X l 1 0 0 230 11 [(0, .ref 336), (1, .int (11 : Int32)), (2, .int w22x2)] [] w22M Q := by
      intro m
      induction m using Nat.strongRecOn with
      | ind w22m w22ih =>
        intro w22x2 w22M w22b2 w22s w22I w22F w22J w22PR w22PC w22PA w22r0 w22r1 w22r2 w22r3 w22t0 w22t1 w22q
        have w23 := ibA0 w22I
        have w24 := ibA0 hI
        have w25 : (zI M 337 0).toInt = (zI M 337 0).toInt := (congrArg Int32.toInt rfl).trans rfl
        have w26 := ibA1 w22I
        have w27 := ibA1 hI
        have w28 : (zI M 337 1).toInt = (zI M 337 1).toInt := (congrArg Int32.toInt rfl).trans rfl
        have w29 := ibA2 w22I
        have w30 := ibA2 hI
        have w31 : (zI M 337 2).toInt = (zI M 337 2).toInt := (congrArg Int32.toInt rfl).trans rfl
        refine zs_iload_n (pc := 11) t230_11 rfl ?_
        refine zs_bipush (pc := 12) t230_12 (v := 8) (by decide) ?_
        by_cases w32 : 8 ≤ w22x2.toInt
        · refine zs_icmp_geT (pc := 14) t230_14 rfl li8 (by omega) ?_
          refine zs_aload_n (pc := 35) t230_35 rfl ?_
          refine zs_dup (pc := 36) t230_36 rfl ?_
          refine zs_get (pc := 37) t230_37 (by decide) (zk1 (w22s.k fk_zMm_336)) (zfvi rfl ((w22F 336 1 rfl).trans rfl)) ?_
          refine zs_iconst (pc := 40) t230_40 (v := 1) (by decide) ?_
          obtain ⟨w33v, w33e, w33⟩ := zisub (a := (zI M 336 1)) (b := (1 : Int32)) rfl li1 (by omega) (by omega)
          refine zs_isub (pc := 41) t230_41 (c := w33v) w33e ?_
          have w34 : zIv mLo mHi (zsI w22M 336 1 w33v) := zIv.put w22I (show 0 ≤ w33v.toInt ∧ w33v.toInt ≤ 8 from ⟨by omega, by omega⟩)
          have w35 : (zI w22M 336 1).toInt = (zI M 336 1).toInt := (congrArg Int32.toInt ((w22F 336 1 rfl).trans rfl)).trans rfl
          have w36 : w33v.toInt = ((zI M 336 1).toInt - 1) := w33
          have w37 : zPR (zsI w22M 336 1 w33v) := zPR.less w22PR (by omega)
          refine zs_putI (pc := 42) t230_42 (zk1 (w22s.k fk_zMm_336)) rfl ?_
          refine zs_aload_n (pc := 45) t230_45 rfl ?_
          refine zs_iload_n (pc := 46) t230_46 rfl ?_
          refine zs_iconst (pc := 47) t230_47 (v := 3) (by decide) ?_
          refine zs_aload_n (pc := 48) t230_48 rfl ?_
          refine zs_get (pc := 49) t230_49 (by decide) (zk1 (w22s.k fk_zMm_336)) (zfvi rfl zIs) ?_
          obtain ⟨w38v, w38e, w38⟩ := ziadd (a := (3 : Int32)) (b := w33v) li3 w33 (by omega) (by omega)
          refine zs_iadd (pc := 52) t230_52 (c := w38v) w38e ?_
          obtain ⟨w39n, w39⟩ : ∃ n : Nat, (zI M 336 1).toInt = (n : Int) := ⟨((zI M 336 1).toInt).toNat, by omega⟩
          have w40k : zRk (zrow (zsI w22M 336 1 w33v) 11) := (zPA.fr (M' := (zsI w22M 336 1 w33v)) w22PA (zEq.put rfl))
          refine zs_invV (pc := 53) (k := 336) (as' := [.int (11 : Int32), .int w38v]) (st := []) t230_53 mf226 rfl rfl (Or.inl ⟨by decide, (zk1 (w22s.k fk_zMm_336))⟩) ⟨by decide, by decide, Nat.le_of_ble_eq_true rfl, Nat.le_of_ble_eq_true rfl⟩ (K226 (na := 11) (nb := (2 + w39n)) w22s w34 (by decide) (by omega) (by omega) (by omega) (by omega) w40k ?_) (fun _ _ q => q)
          intro w40M w40s w40I w40F w40J w40c
          have w40R : zPR w40M := zPR.cp w37 w34 w40k w40c (w40F.eq rfl)
          have w40C : zPC w40M := zPC.cp (zPC.fr (M' := (zsI w22M 336 1 w33v)) w22PC (zEq.put rfl)) w34 w37 w40k w40c
          have w40A : zPA w40M := zPA.cp w40k w40c (Or.inr (zPA.fr (M' := (zsI w22M 336 1 w33v)) w22PA (zEq.put rfl)))
          have w40r0 : zI w40M 337 0 = (zI w22M 337 0) := (w40c.1 0 (Or.inl (by omega))).trans ((zIo (by decide)).trans rfl)
          have w40r1 : zI w40M 337 1 = (zI w22M 337 1) := (w40c.1 1 (Or.inl (by omega))).trans ((zIo (by decide)).trans rfl)
          have w40r2 : zI w40M 337 2 = (zI w22M 337 2) := (w40c.1 2 (Or.inl (by omega))).trans ((zIo (by decide)).trans rfl)
          show zGo X l 1 0 0 230 56 [(0, .ref 336), (1, .int (11 : Int32)), (2, .int w22x2)] [] w40M _
          refine zs_aload_n (pc := 56) t230_56 rfl ?_
          refine zs_dup (pc := 57) t230_57 rfl ?_
          refine zs_get (pc := 58) t230_58 (by decide) (zk1 (w40s.k fk_zMm_336)) (zfvi rfl ((w40F 336 1 rfl).trans zIs)) ?_
          refine zs_iconst (pc := 61) t230_61 (v := 1) (by decide) ?_
          obtain ⟨w41v, w41e, w41⟩ := ziadd (a := w33v) (b := (1 : Int32)) w33 li1 (by omega) (by omega)
          refine zs_iadd (pc := 62) t230_62 (c := w41v) w41e ?_
          have w42 : zIv mLo mHi (zsI w40M 336 1 w41v) := zIv.put w40I (show 0 ≤ w41v.toInt ∧ w41v.toInt ≤ 8 from ⟨by omega, by omega⟩)
          have w43 : (zI w40M 336 1).toInt = ((zI M 336 1).toInt - 1) := (congrArg Int32.toInt ((w40F 336 1 rfl).trans zIs)).trans w33
          have w44 : w41v.toInt = (((zI M 336 1).toInt - 1) + 1) := w41
          have w45 : zPR (zsI w40M 336 1 w41v) := zPR.more (n := (w39n - 1)) w40R (by omega) (by omega) (zCp.k w40c w40k (Or.inl (by omega)))
          refine zs_putI (pc := 63) t230_63 (zk1 (w40s.k fk_zMm_336)) rfl ?_
          refine zs_aload_n (pc := 66) t230_66 rfl ?_
          refine zs_iconst (pc := 67) t230_67 (v := 0) (by decide) ?_
          have w46 : zIv mLo mHi (zsI (zsI w40M 336 1 w41v) 336 3 (0 : Int32)) := zIv.put w42 (show 0 ≤ (0 : Int32).toInt ∧ (0 : Int32).toInt ≤ 1 from ⟨by decide, by decide⟩)
          have w47 : zPF (zsI (zsI w40M 336 1 w41v) 336 3 (0 : Int32)) := zPF.off
          refine zs_putI (pc := 68) t230_68 (zk1 (w40s.k fk_zMm_336)) (by decide) ?_
          have w48 : (zI (zsI (zsI w40M 336 1 w41v) 336 3 (0 : Int32)) 337 1).toInt = (zI w22M 337 1).toInt := (congrArg Int32.toInt ((zIo (by decide)).trans ((zIo (by decide)).trans w40r1))).trans rfl
          have w49 : (zI (zsI (zsI w40M 336 1 w41v) 336 3 (0 : Int32)) 336 3).toInt = 0 := (congrArg Int32.toInt zIs).trans li0
          have w50 : (zI (zsI (zsI w40M 336 1 w41v) 336 3 (0 : Int32)) 337 2).toInt = (zI w22M 337 2).toInt := (congrArg Int32.toInt ((zIo (by decide)).trans ((zIo (by decide)).trans w40r2))).trans rfl
          have w51 : (zI (zsI (zsI w40M 336 1 w41v) 336 3 (0 : Int32)) 337 0).toInt = (zI w22M 337 0).toInt := (congrArg Int32.toInt ((zIo (by decide)).trans ((zIo (by decide)).trans w40r0))).trans rfl
          have w52 : (zI (zsI (zsI w40M 336 1 w41v) 336 3 (0 : Int32)) 336 1).toInt = (((zI M 336 1).toInt - 1) + 1) := (congrArg Int32.toInt ((zIoj (by decide)).trans zIs)).trans w41
          have g2 := nP.e (n := n)
          exact zs_vret (pc := 71) t230_71 mr230 (hQ _ w40s w46 ((((((zFr.refl).trans (w22F.mono rfl)).put rfl).trans (w40F.mono rfl)).put rfl).put rfl) (w40J.trans w22J) (zPR.fr (M' := (zsI (zsI w40M 336 1 w41v) 336 3 (0 : Int32))) w45 (zEq.put rfl)) (zPC.fr (M' := (zsI (zsI w40M 336 1 w41v) 336 3 (0 : Int32))) (zPC.fr (M' := (zsI w40M 336 1 w41v)) w40C (zEq.put rfl)) (zEq.put rfl)) w47 (by omega) (by omega) (by omega) (by omega) (zHM.push8 (k := w22x2.toInt.toNat) (w22t0 w22x2.toInt.toNat (by omega)) (by omega) (by omega) (by omega) (zRw.cast (by omega) (zRw.frR (zRw.cp w40c (zRw.frR (w22t1 11 (by decide) _ x0) (by decide) (fun j hj => (zIo (by decide))))) (by omega) (fun j hj => ((zIo (by decide)).trans (zIo (by decide)))))) (fun r h1 h2 G z => (zRw.frR (zRw.cpo w40c (zRw.frR z (by omega) (fun j hj => (zIo (by decide)))) (by omega)) (by omega) (fun j hj => ((zIo (by decide)).trans (zIo (by decide))))))) (fun r hr G z => (zRw.frA (zRw.cpo w40c (zRw.frA (w22t1 r hr G z) (fun j => (zIo (by decide)))) (by omega)) (fun j => ((zIo (by decide)).trans (zIo (by decide)))))))
        · refine zs_icmp_geF (pc := 14) t230_14 rfl li8 (by omega) ?_
          refine zs_aload_n (pc := 17) t230_17 rfl ?_
          refine zs_iconst (pc := 18) t230_18 (v := 3) (by decide) ?_
          refine zs_iload_n (pc := 19) t230_19 rfl ?_
          obtain ⟨w53v, w53e, w53⟩ := ziadd (a := (3 : Int32)) (b := w22x2) li3 rfl (by omega) (by omega)
          refine zs_iadd (pc := 20) t230_20 (c := w53v) w53e ?_
          refine zs_iconst (pc := 21) t230_21 (v := 3) (by decide) ?_
          refine zs_iload_n (pc := 22) t230_22 rfl ?_
          obtain ⟨w54v, w54e, w54⟩ := ziadd (a := (3 : Int32)) (b := w22x2) li3 rfl (by omega) (by omega)
          refine zs_iadd (pc := 23) t230_23 (c := w54v) w54e ?_
          refine zs_iconst (pc := 24) t230_24 (v := 1) (by decide) ?_
          obtain ⟨w55v, w55e, w55⟩ := zisub (a := w54v) (b := (1 : Int32)) w54 li1 (by omega) (by omega)
          refine zs_isub (pc := 25) t230_25 (c := w55v) w55e ?_
          obtain ⟨w56n, w56⟩ : ∃ n : Nat, w22x2.toInt = (n : Int) := ⟨(w22x2.toInt).toNat, by omega⟩
          have w57 : (zI w22M 336 1).toInt = (zI M 336 1).toInt := (congrArg Int32.toInt ((w22F 336 1 rfl).trans rfl)).trans rfl
          have w58k : zRk (zrow w22M (3 + w56n)) := (w22PR.2.2 w56n (by omega))
          refine zs_invV (pc := 26) (k := 336) (as' := [.int w53v, .int w55v]) (st := []) t230_26 mf226 rfl rfl (Or.inl ⟨by decide, (zk1 (w22s.k fk_zMm_336))⟩) ⟨by decide, by decide, Nat.le_of_ble_eq_true rfl, Nat.le_of_ble_eq_true rfl⟩ (K226 (na := (3 + w56n)) (nb := (2 + w56n)) w22s w22I (by omega) (by omega) (by omega) (by omega) (by omega) w58k ?_) (fun _ _ q => q)
          intro w58M w58s w58I w58F w58J w58c
          have w58R : zPR w58M := zPR.cp w22PR w22I w58k w58c (w58F.eq rfl)
          have w58C : zPC w58M := zPC.cp w22PC w22I w22PR w58k w58c
          have w58A : zPA w58M := zPA.cp w58k w58c (Or.inr w22PA)
          have w58r0 : zI w58M 337 0 = (zI w22M 337 0) := (w58c.1 0 (Or.inl (by omega))).trans rfl
          have w58r1 : zI w58M 337 1 = (zI w22M 337 1) := (w58c.1 1 (Or.inl (by omega))).trans rfl
          have w58r2 : zI w58M 337 2 = (zI w22M 337 2) := (w58c.1 2 (Or.inl (by omega))).trans rfl
          show zGo X l 1 0 0 230 29 [(0, .ref 336), (1, .int (11 : Int32)), (2, .int w22x2)] [] w58M _
          obtain ⟨w59v, w59e, w59⟩ := ziadd (a := w22x2) (b := Int32.ofInt 1) rfl (show (Int32.ofInt 1).toInt = 1 by decide) (by omega) (by omega)
          refine zs_iinc (pc := 29) t230_29 (ls' := [(2, .int w59v), (0, .ref 336), (1, .int (11 : Int32))]) (zml mf230 (by decide)) rfl (c := w59v) w59e rfl ?_
          refine zs_goto (pc := 32) t230_32 ?_
          refine zGo.locals (ls' := [(0, .ref 336), (1, .int (11 : Int32)), (2, .int w59v)]) (by simp) ?_
          have w60 := w59
          have w61 : (zI w58M 336 1).toInt = (zI M 336 1).toInt := (congrArg Int32.toInt ((w58F 336 1 rfl).trans ((w22F 336 1 rfl).trans rfl))).trans rfl
          have w62 : (zI w58M 337 0).toInt = (zI w22M 337 0).toInt := (congrArg Int32.toInt w58r0).trans rfl
          have w63 : (zI w58M 337 1).toInt = (zI w22M 337 1).toInt := (congrArg Int32.toInt w58r1).trans rfl
          have w64 : (zI w58M 337 2).toInt = (zI w22M 337 2).toInt := (congrArg Int32.toInt w58r2).trans rfl
          exact w22ih (w22m - 1) (by omega) w59v w58M ⟨by omega, by omega⟩ w58s w58I (((zFr.refl).trans (w22F.mono rfl)).trans (w58F.mono rfl)) (w58J.trans w22J) w58R w58C w58A (by omega) (by omega) (by omega) (by omega) (fun k hk => zSh.step (k := w56n) (w22t0 w56n (by omega)) (by omega) (by omega) (by rw [show 3 + w56n = (3 + w56n) by omega, show 2 + w56n = (2 + w56n) by omega]; exact w58c) (by omega)) (fun r hr G z => (zRw.cpo w58c (w22t1 r hr G z) (by omega))) (by omega)
    refine zGo.locals (ls' := [(0, .ref 336), (1, .int (11 : Int32)), (2, .int (1 : Int32))]) (by simp) ?_
    have w65 := li1
    have w66 : (zI M 336 1).toInt = (zI M 336 1).toInt := (congrArg Int32.toInt rfl).trans rfl
    have w67 : (zI M 337 0).toInt = (zI M 337 0).toInt := (congrArg Int32.toInt rfl).trans rfl
    have w68 : (zI M 337 1).toInt = (zI M 337 1).toInt := (congrArg Int32.toInt rfl).trans rfl
    have w69 : (zI M 337 2).toInt = (zI M 337 2).toInt := (congrArg Int32.toInt rfl).trans rfl
    exact w22L ((8 - 1 : Int).toNat) (1 : Int32) M ⟨by decide, by decide⟩ hs hI zFr.refl rfl pR pC pA (by omega) (by omega) (by omega) (by omega) (fun k hk => zSh.of x1 (by omega) (by omega)) (fun r hr G z => z) (by omega)
theorem R334 {X : zX} {l : Launch} {M : zM} {Q : Option Value → zM → Prop} {a : Int32} (hs : zSk zMm M) (hI : zIv mLo mHi M) {F : Nat → Int} {H : Nat → Nat → Int} {n : Int} {K : Nat → Nat → Int} {T : Nat → Int} (pR : zPR M) (pC : zPC M) (pF : zPF M) (x0 : zRw M 0 F) (x1 : zHM M H n) (x2 : zKM M K T) (x3 : zWF F) (hQ : ∀ (M' : zM) (v : Int32), zSk zMm M' → zIv mLo mHi M' → zFr [(337, 337, none), (336, 336, some 1), (336, 336, some 3)] M M' → zJ M' 351 = zJ M 351 → zPR M' → zPC M' → zPF M' → ((zI M' 336 3).toInt = 0 ∨ (v.toInt = -1 ∧ (zI M' 336 3).toInt = (zI M 336 3).toInt)) → ((v.toInt = -1 ∧ (a.toInt < 2 ∨ 8 < a.toInt) ∧ zSM M' F H n K T) ∨ (2 ≤ a.toInt ∧ a.toInt ≤ 8 ∧ v.toInt = F 8 ∧ zSM M' (uS F 8 a.toInt) (pushH F H) (nP n) K T)) → Q (some (.int v)) M') : zCall X l 2 0 0 334 [.ref 336, .int a] M Q := by
  have ga := zrg a
  refine zs_in (by decide) mf334 (Nat.le_of_ble_eq_true rfl) ?_
  show zGo X l 2 0 0 334 0 [(0, .ref 336), (1, .int a)] [] M _
  have f1 := x3.1
  have f3 := x3.2.2.2
  have w1 := ibA0 hI
  have w2 : (zI M 337 0).toInt = (zI M 337 0).toInt := (congrArg Int32.toInt rfl).trans rfl
  have e0 : (zI M 337 0).toInt = F 0 := x0.at (by decide) (by decide) (by decide)
  have w3 := ibA1 hI
  have w4 : (zI M 337 1).toInt = (zI M 337 1).toInt := (congrArg Int32.toInt rfl).trans rfl
  have e1 : (zI M 337 1).toInt = F 1 := x0.at (by decide) (by decide) (by decide)
  have w5 := ibA2 hI
  have w6 : (zI M 337 2).toInt = (zI M 337 2).toInt := (congrArg Int32.toInt rfl).trans rfl
  have e2 : (zI M 337 2).toInt = F 2 := x0.at (by decide) (by decide) (by decide)
  refine zs_iload_n (pc := 0) t334_0 rfl ?_
  refine zs_i2l (pc := 1) t334_1 rfl ?_
  refine zs_ldc2_w (pc := 2) t334_2 (v := 2) (by decide) ?_
  refine zs_ldc2_w (pc := 5) t334_5 (v := 8) (by decide) ?_
  by_cases w7 : 2 ≤ a.toInt ∧ a.toInt ≤ 8
  · refine zs_invS (pc := 8) (as := [.long a.toInt64, .long (2 : Int64), .long (8 : Int64)]) (st := []) t334_8 (by decide) mf228 rfl rfl ⟨by decide, by decide, Nat.le_of_ble_eq_true rfl, Nat.le_of_ble_eq_true rfl⟩ (K228T (zi2l rfl) ll2 ll8 (by omega) ?_) (fun _ _ q => q)
    show zGo X l 2 0 0 334 11 [(0, .ref 336), (1, .int a)] [.int (1 : Int32)] M _
    refine zs_if_neT (pc := 11) t334_11 li1 (by decide) ?_
    refine zs_aload_n (pc := 16) t334_16 rfl ?_
    refine zs_iconst (pc := 17) t334_17 (v := 0) (by decide) ?_
    have w8 : (zI M 337 1).toInt = (zI M 337 1).toInt := (congrArg Int32.toInt rfl).trans rfl
    have w9 : (zI M 337 2).toInt = (zI M 337 2).toInt := (congrArg Int32.toInt rfl).trans rfl
    have w10 : (zI M 337 0).toInt = (zI M 337 0).toInt := (congrArg Int32.toInt rfl).trans rfl
    refine zs_invV (pc := 18) (k := 336) (as' := [.int (0 : Int32)]) (st := []) t334_18 mf230 rfl rfl (Or.inl ⟨by decide, (zk1 (hs.k fk_zMm_336))⟩) ⟨by decide, by decide, Nat.le_of_ble_eq_true rfl, Nat.le_of_ble_eq_true rfl⟩ (R230_0 hs hI pR pC x0 x1 ?_) (fun _ _ q => q)
    intro w11M w11s w11I w11F w11J w11PR w11PC w11PF w11t0 w11t1 w11t2 w11t3 w11x0 w11x1
    have w12 := ibA1 w11I
    have w13 := ib336_3 w11I
    have w14 := ibA2 w11I
    have w15 := ibA0 w11I
    have w11r0 := w11x1 0 (by decide) _ x0
    show zGo X l 2 0 0 334 21 [(0, .ref 336), (1, .int a)] [] w11M _
    refine zs_aload_n (pc := 21) t334_21 rfl ?_
    refine zs_get (pc := 22) t334_22 (by decide) (zk1 (w11s.k fk_zMm_336)) (w11s.p rfl fv_zMm_336_0) ?_
    refine zs_bipush (pc := 25) t334_25 (v := 8) (by decide) ?_
    have w16 := ibA8 w11I
    have w17 : (zI w11M 337 8).toInt = F 8 := w11r0.at (by decide) (by decide) (by decide)
    refine zs_iald (pc := 27) t334_27 (j := 8) (by decide) (zk1 (w11s.k fk_zMm_337)) li8 (zk2 (w11s.k fk_zMm_337) (by decide)) rfl ?_
    refine zs_istore_n (pc := 28) t334_28 (ls' := [(2, .int (zI w11M 337 8)), (0, .ref 336), (1, .int a)]) (zml mf334 (by decide)) rfl ?_
    refine zs_aload_n (pc := 29) t334_29 rfl ?_
    refine zs_get (pc := 30) t334_30 (by decide) (zk1 (w11s.k fk_zMm_336)) (w11s.p rfl fv_zMm_336_0) ?_
    refine zs_bipush (pc := 33) t334_33 (v := 8) (by decide) ?_
    refine zs_iload_n (pc := 35) t334_35 rfl ?_
    have w18 : zIv mLo mHi (zsI w11M 337 8 a) := zIv.putA w11I (by decide) (show 2 ≤ a.toInt ∧ a.toInt ≤ 8 from ⟨by omega, by omega⟩)
    have w19 : (zI w11M 337 0).toInt = (zI w11M 337 0).toInt := (congrArg Int32.toInt rfl).trans rfl
    have w20 : (zI w11M 337 1).toInt = (zI w11M 337 1).toInt := (congrArg Int32.toInt rfl).trans rfl
    have w21 : zPR (zsI w11M 337 8 a) := zPR.put w11PR (by omega) (by omega) (by omega) (by omega)
    have w22 : zPC (zsI w11M 337 8 a) := zPC.put w11PC (by decide) (by decide)
    have w23 : zRw (zsI w11M 337 8 a) 0 (uS F 8 a.toInt) := zRw.put w11r0 rfl
    refine zs_iast (pc := 36) t334_36 (j := 8) (by decide) (zk1 (w11s.k fk_zMm_337)) li8 (zk2 (w11s.k fk_zMm_337) (by decide)) ?_
    refine zs_iload_n (pc := 37) t334_37 rfl ?_
    have w24 : (zI (zsI w11M 337 8 a) 336 3).toInt = (zI w11M 336 3).toInt := (congrArg Int32.toInt ((zIo (by decide)).trans rfl)).trans rfl
    have f5 : (zI M 337 8).toInt = F 8 := x0.at (by decide) (by decide) (by decide)
    exact zs_iret (pc := 38) t334_38 mr334 rfl (hQ _ _ w11s w18 (((zFr.refl).trans (w11F.mono rfl)).put rfl) w11J w21 w22 (zPF.fr (M' := (zsI w11M 337 8 a)) w11PF (zEq.put rfl) rfl) (by omega) (Or.inr ⟨by omega, by omega, by omega, w23, (zHM.fr w11x0 (fun j hj => (zIoj (by omega))) (zIo (by decide))), (zKM.fr (zKM.rows x2 (fun r h1 h2 G z => w11x1 r (Or.inl (by omega)) G z) (fun k => w11F 338 k rfl)) (fun j hj => (zIoj (by omega))) (fun k => (zIo (by decide))))⟩))
  · refine zs_invS (pc := 8) (as := [.long a.toInt64, .long (2 : Int64), .long (8 : Int64)]) (st := []) t334_8 (by decide) mf228 rfl rfl ⟨by decide, by decide, Nat.le_of_ble_eq_true rfl, Nat.le_of_ble_eq_true rfl⟩ (K228F (zi2l rfl) ll2 ll8 (by omega) ?_) (fun _ _ q => q)
    show zGo X l 2 0 0 334 11 [(0, .ref 336), (1, .int a)] [.int (0 : Int32)] M _
    refine zs_if_neF (pc := 11) t334_11 li0 (by decide) ?_
    refine zs_iconst (pc := 14) t334_14 (v := -1) (by decide) ?_
    have w25 := ib336_3 hI
    have w26 : (zI M 336 3).toInt = (zI M 336 3).toInt := (congrArg Int32.toInt rfl).trans rfl
    have w27 := lin1
    exact zs_iret (pc := 15) t334_15 mr334 (by decide) (hQ _ _ hs hI (zFr.refl) rfl pR pC pF (by omega) (Or.inl ⟨by decide, by omega, x0, x1, x2⟩))
theorem R333 {X : zX} {l : Launch} {M : zM} {Q : Option Value → zM → Prop} {a : Int32} (hs : zSk zMm M) (hI : zIv mLo mHi M) {F : Nat → Int} {H : Nat → Nat → Int} {n : Int} {K : Nat → Nat → Int} {T : Nat → Int} (pR : zPR M) (pC : zPC M) (pF : zPF M) (x0 : zRw M 0 F) (x1 : zHM M H n) (x2 : zKM M K T) (x3 : zWF F) (hQ : ∀ (M' : zM) (v : Int32), zSk zMm M' → zIv mLo mHi M' → zFr [(337, 337, none), (336, 336, some 1), (336, 336, some 3)] M M' → zJ M' 351 = zJ M 351 → zPR M' → zPC M' → zPF M' → ((zI M' 336 3).toInt = 0 ∨ (v.toInt = -1 ∧ (zI M' 336 3).toInt = (zI M 336 3).toInt)) → ((v.toInt = -1 ∧ (a.toInt < 0 ∨ F 0 ≤ a.toInt) ∧ zSM M' F H n K T) ∨ (0 ≤ a.toInt ∧ a.toInt < F 0 ∧ v.toInt = 1 - F (15 + 2 * a.toInt.toNat) ∧ zSM M' (uS F (15 + 2 * a.toInt.toNat) v.toInt) (pushH F H) (nP n) K T)) → Q (some (.int v)) M') : zCall X l 2 0 0 333 [.ref 336, .int a] M Q := by
  have ga := zrg a
  refine zs_in (by decide) mf333 (Nat.le_of_ble_eq_true rfl) ?_
  show zGo X l 2 0 0 333 0 [(0, .ref 336), (1, .int a)] [] M _
  have f1 := x3.1
  have f3 := x3.2.2.2
  have w1 := ibA0 hI
  have w2 : (zI M 337 0).toInt = (zI M 337 0).toInt := (congrArg Int32.toInt rfl).trans rfl
  have e0 : (zI M 337 0).toInt = F 0 := x0.at (by decide) (by decide) (by decide)
  have w3 := ibA1 hI
  have w4 : (zI M 337 1).toInt = (zI M 337 1).toInt := (congrArg Int32.toInt rfl).trans rfl
  have e1 : (zI M 337 1).toInt = F 1 := x0.at (by decide) (by decide) (by decide)
  have w5 := ibA2 hI
  have w6 : (zI M 337 2).toInt = (zI M 337 2).toInt := (congrArg Int32.toInt rfl).trans rfl
  have e2 : (zI M 337 2).toInt = F 2 := x0.at (by decide) (by decide) (by decide)
  refine zs_aload_n (pc := 0) t333_0 rfl ?_
  refine zs_iload_n (pc := 1) t333_1 rfl ?_
  refine zs_invV (pc := 2) (k := 336) (as' := [.int a]) (st := []) t333_2 mf306 rfl rfl (Or.inl ⟨by decide, (zk1 (hs.k fk_zMm_336))⟩) ⟨by decide, by decide, Nat.le_of_ble_eq_true rfl, Nat.le_of_ble_eq_true rfl⟩ (zs_in (by decide) mf306 (Nat.le_of_ble_eq_true rfl) ?_) (fun _ _ q => q)
  show zGo X l 1 0 0 306 0 [(0, .ref 336), (1, .int a)] [] M _
  refine zs_iload_n (pc := 0) t306_0 rfl ?_
  refine zs_i2l (pc := 1) t306_1 rfl ?_
  refine zs_lconst (pc := 2) t306_2 (v := 0) (by decide) ?_
  refine zs_aload_n (pc := 3) t306_3 rfl ?_
  refine zs_get (pc := 4) t306_4 (by decide) (zk1 (hs.k fk_zMm_336)) (hs.p rfl fv_zMm_336_0) ?_
  refine zs_iconst (pc := 7) t306_7 (v := 0) (by decide) ?_
  have w7 : (zI M 337 0).toInt = F 0 := x0.at (by decide) (by decide) (by decide)
  refine zs_iald (pc := 8) t306_8 (j := 0) (by decide) (zk1 (hs.k fk_zMm_337)) li0 (zk2 (hs.k fk_zMm_337) (by decide)) rfl ?_
  refine zs_iconst (pc := 9) t306_9 (v := 1) (by decide) ?_
  obtain ⟨w8v, w8e, w8⟩ := zisub (a := (zI M 337 0)) (b := (1 : Int32)) rfl li1 (by omega) (by omega)
  refine zs_isub (pc := 10) t306_10 (c := w8v) w8e ?_
  refine zs_i2l (pc := 11) t306_11 rfl ?_
  by_cases w9 : 0 ≤ a.toInt ∧ a.toInt ≤ ((zI M 337 0).toInt - 1)
  · refine zs_invS (pc := 12) (as := [.long a.toInt64, .long (0 : Int64), .long w8v.toInt64]) (st := []) t306_12 (by decide) mf228 rfl rfl ⟨by decide, by decide, Nat.le_of_ble_eq_true rfl, Nat.le_of_ble_eq_true rfl⟩ (K228T (zi2l rfl) ll0 (zi2l w8) (by omega) ?_) (fun _ _ q => q)
    show zGo X l 1 0 0 306 15 [(0, .ref 336), (1, .int a)] [.int (1 : Int32)] M _
    refine zs_iret (pc := 15) t306_15 mr306 (by decide) ?_
    show zGo X l 2 0 0 333 5 [(0, .ref 336), (1, .int a)] [.int (1 : Int32)] M _
    refine zs_if_neT (pc := 5) t333_5 li1 (by decide) ?_
    refine zs_aload_n (pc := 10) t333_10 rfl ?_
    refine zs_iconst (pc := 11) t333_11 (v := 0) (by decide) ?_
    have w10 : (zI M 337 1).toInt = (zI M 337 1).toInt := (congrArg Int32.toInt rfl).trans rfl
    have w11 : (zI M 337 2).toInt = (zI M 337 2).toInt := (congrArg Int32.toInt rfl).trans rfl
    have w12 : (zI M 337 0).toInt = (zI M 337 0).toInt := (congrArg Int32.toInt rfl).trans rfl
    refine zs_invV (pc := 12) (k := 336) (as' := [.int (0 : Int32)]) (st := []) t333_12 mf230 rfl rfl (Or.inl ⟨by decide, (zk1 (hs.k fk_zMm_336))⟩) ⟨by decide, by decide, Nat.le_of_ble_eq_true rfl, Nat.le_of_ble_eq_true rfl⟩ (R230_0 hs hI pR pC x0 x1 ?_) (fun _ _ q => q)
    intro w13M w13s w13I w13F w13J w13PR w13PC w13PF w13t0 w13t1 w13t2 w13t3 w13x0 w13x1
    have w14 := ibA1 w13I
    have w15 := ib336_3 w13I
    have w16 := ibA2 w13I
    have w17 := ibA0 w13I
    have w13r0 := w13x1 0 (by decide) _ x0
    show zGo X l 2 0 0 333 15 [(0, .ref 336), (1, .int a)] [] w13M _
    refine zs_aload_n (pc := 15) t333_15 rfl ?_
    refine zs_get (pc := 16) t333_16 (by decide) (zk1 (w13s.k fk_zMm_336)) (w13s.p rfl fv_zMm_336_0) ?_
    refine zs_bipush (pc := 19) t333_19 (v := 14) (by decide) ?_
    refine zs_iconst (pc := 21) t333_21 (v := 2) (by decide) ?_
    refine zs_iload_n (pc := 22) t333_22 rfl ?_
    obtain ⟨w18v, w18⟩ : ∃ v, (2 : Int32) * a = v := ⟨_, rfl⟩
    have w18g : w18v.toInt = 2 * a.toInt := by rw [← w18]; exact zmulc li2 rfl (by omega) (by omega)
    refine zs_imul (pc := 23) t333_23 (c := w18v) w18 ?_
    obtain ⟨w19v, w19e, w19⟩ := ziadd (a := (14 : Int32)) (b := w18v) li14 w18g (by omega) (by omega)
    refine zs_iadd (pc := 24) t333_24 (c := w19v) w19e ?_
    refine zs_iconst (pc := 25) t333_25 (v := 1) (by decide) ?_
    obtain ⟨w20v, w20e, w20⟩ := ziadd (a := w19v) (b := (1 : Int32)) w19 li1 (by omega) (by omega)
    refine zs_iadd (pc := 26) t333_26 (c := w20v) w20e ?_
    refine zs_dup2 (pc := 27) t333_27 ⟨rfl, rfl⟩ ?_
    obtain ⟨w21n, w21⟩ : ∃ n : Nat, a.toInt = (n : Int) := ⟨(a.toInt).toNat, by omega⟩
    have w22 := zrg (zI w13M 337 (15 + 2 * w21n))
    have w23 : (zI w13M 337 (15 + 2 * w21n)).toInt = F (15 + 2 * w21n) := w13r0.at (by omega) (by omega) (by omega)
    have w24 := x3.2.1 w21n (by omega)
    refine zs_iald (pc := 28) t333_28 (j := (15 + 2 * w21n)) (by decide) (zk1 (w13s.k fk_zMm_337)) (show w20v.toInt = (((15 + 2 * w21n) : Nat) : Int) by omega) (zk2 (w13s.k fk_zMm_337) (by omega)) rfl ?_
    refine zs_iconst (pc := 29) t333_29 (v := 1) (by decide) ?_
    obtain ⟨w25v, w25⟩ : ∃ v, (zI w13M 337 (15 + 2 * w21n)) ^^^ (1 : Int32) = v := ⟨_, rfl⟩
    have w25g := zrg w25v
    refine zs_ixor (pc := 30) t333_30 (c := w25v) w25 ?_
    have w26a := aN (p := (15 + 2 * w21n)) (by omega)
    have w26 : zIv mLo mHi (zsI w13M 337 (15 + 2 * w21n) w25v) := zIv.putA w13I (by omega) (by rw [w26a.1, w26a.2]; exact zrg w25v)
    have w27 : (zI w13M 337 0).toInt = (zI w13M 337 0).toInt := (congrArg Int32.toInt rfl).trans rfl
    have w28 : (zI w13M 337 1).toInt = (zI w13M 337 1).toInt := (congrArg Int32.toInt rfl).trans rfl
    have w29 : zPR (zsI w13M 337 (15 + 2 * w21n) w25v) := zPR.put w13PR (by omega) (by omega) (by omega) (by omega)
    have w30 : zPC (zsI w13M 337 (15 + 2 * w21n) w25v) := zPC.put w13PC (by omega) (by omega)
    have w31 : zRw (zsI w13M 337 (15 + 2 * w21n) w25v) 0 (uS F (15 + 2 * w21n) w25v.toInt) := zRw.put w13r0 rfl
    refine zs_iast (pc := 31) t333_31 (j := (15 + 2 * w21n)) (by decide) (zk1 (w13s.k fk_zMm_337)) (show w20v.toInt = (((15 + 2 * w21n) : Nat) : Int) by omega) (zk2 (w13s.k fk_zMm_337) (by omega)) ?_
    refine zs_aload_n (pc := 32) t333_32 rfl ?_
    refine zs_get (pc := 33) t333_33 (by decide) (zk1 (w13s.k fk_zMm_336)) (w13s.p rfl fv_zMm_336_0) ?_
    refine zs_bipush (pc := 36) t333_36 (v := 14) (by decide) ?_
    refine zs_iconst (pc := 38) t333_38 (v := 2) (by decide) ?_
    refine zs_iload_n (pc := 39) t333_39 rfl ?_
    obtain ⟨w32v, w32⟩ : ∃ v, (2 : Int32) * a = v := ⟨_, rfl⟩
    have w32g : w32v.toInt = 2 * a.toInt := by rw [← w32]; exact zmulc li2 rfl (by omega) (by omega)
    refine zs_imul (pc := 40) t333_40 (c := w32v) w32 ?_
    obtain ⟨w33v, w33e, w33⟩ := ziadd (a := (14 : Int32)) (b := w32v) li14 w32g (by omega) (by omega)
    refine zs_iadd (pc := 41) t333_41 (c := w33v) w33e ?_
    refine zs_iconst (pc := 42) t333_42 (v := 1) (by decide) ?_
    obtain ⟨w34v, w34e, w34⟩ := ziadd (a := w33v) (b := (1 : Int32)) w33 li1 (by omega) (by omega)
    refine zs_iadd (pc := 43) t333_43 (c := w34v) w34e ?_
    refine zs_iald (pc := 44) t333_44 (j := (15 + 2 * w21n)) (by decide) (zk1 (w13s.k fk_zMm_337)) (show w34v.toInt = (((15 + 2 * w21n) : Nat) : Int) by omega) (zk2 (w13s.k fk_zMm_337) (by omega)) zIs ?_
    have w35 : (zI (zsI w13M 337 (15 + 2 * w21n) w25v) 336 3).toInt = (zI w13M 336 3).toInt := (congrArg Int32.toInt ((zIo (by decide)).trans rfl)).trans rfl
    have w36 := zxor1 (by omega) w25
    exact zs_iret (pc := 45) t333_45 mr333 rfl (hQ _ _ w13s w26 (((zFr.refl).trans (w13F.mono rfl)).put rfl) w13J w29 w30 (zPF.fr (M' := (zsI w13M 337 (15 + 2 * w21n) w25v)) w13PF (zEq.put rfl) rfl) (by omega) (Or.inr ⟨by omega, by omega, by rw [show a.toInt.toNat = w21n by omega]; omega, by rw [show a.toInt.toNat = w21n by omega]; exact ⟨w31, (zHM.fr w13x0 (fun j hj => (zIoj (by omega))) (zIo (by decide))), (zKM.fr (zKM.rows x2 (fun r h1 h2 G z => w13x1 r (Or.inl (by omega)) G z) (fun k => w13F 338 k rfl)) (fun j hj => (zIoj (by omega))) (fun k => (zIo (by decide))))⟩⟩))
  · refine zs_invS (pc := 12) (as := [.long a.toInt64, .long (0 : Int64), .long w8v.toInt64]) (st := []) t306_12 (by decide) mf228 rfl rfl ⟨by decide, by decide, Nat.le_of_ble_eq_true rfl, Nat.le_of_ble_eq_true rfl⟩ (K228F (zi2l rfl) ll0 (zi2l w8) (by omega) ?_) (fun _ _ q => q)
    show zGo X l 1 0 0 306 15 [(0, .ref 336), (1, .int a)] [.int (0 : Int32)] M _
    refine zs_iret (pc := 15) t306_15 mr306 (by decide) ?_
    show zGo X l 2 0 0 333 5 [(0, .ref 336), (1, .int a)] [.int (0 : Int32)] M _
    refine zs_if_neF (pc := 5) t333_5 li0 (by decide) ?_
    refine zs_iconst (pc := 8) t333_8 (v := -1) (by decide) ?_
    have w37 := ib336_3 hI
    have w38 : (zI M 336 3).toInt = (zI M 336 3).toInt := (congrArg Int32.toInt rfl).trans rfl
    have w39 := lin1
    exact zs_iret (pc := 9) t333_9 mr333 (by decide) (hQ _ _ hs hI (zFr.refl) rfl pR pC pF (by omega) (Or.inl ⟨by decide, by omega, x0, x1, x2⟩))
theorem R252 {X : zX} {l : Launch} {M : zM} {Q : Option Value → zM → Prop} {a b c d : Int32} (hs : zSk zMm M) (hI : zIv mLo mHi M) {F : Nat → Int} (pR : zPR M) (pC : zPC M) (ha : 0 ≤ a.toInt ∧ a.toInt ≤ 7) (u0 : (zI M 337 1).toInt < 60) (u1 : a.toInt < (zI M 337 0).toInt) (x0 : zRw M 0 F) (hQ : ∀ M', zSk zMm M' → zIv mLo mHi M' → zFr [(337, 337, none)] M M' → zJ M' 351 = zJ M 351 → zUp M M' → zPR M' → zPC M' → ((zI M' 337 0).toInt = (zI M 337 0).toInt) → ((zI M' 337 1).toInt = (zI M 337 1).toInt + 1) → ((zI M' 337 2).toInt = (zI M 337 2).toInt) → (zRw M' 0 (pHit F a.toInt b.toInt c.toInt d.toInt)) → Q none M') : zCall X l 0 0 0 252 [.ref 336, .int a, .int b, .int c, .int d] M Q := by
  have ga := zrg a
  have gb := zrg b
  have gc := zrg c
  have gd := zrg d
  refine zs_in (by decide) mf252 (Nat.le_of_ble_eq_true rfl) ?_
  show zGo X l 0 0 0 252 0 [(0, .ref 336), (1, .int a), (2, .int b), (3, .int c), (4, .int d)] [] M _
  have w1 := ibA0 hI
  have w2 : (zI M 337 0).toInt = (zI M 337 0).toInt := (congrArg Int32.toInt rfl).trans rfl
  have e0 : (zI M 337 0).toInt = F 0 := x0.at (by decide) (by decide) (by decide)
  have w3 := ibA1 hI
  have w4 : (zI M 337 1).toInt = (zI M 337 1).toInt := (congrArg Int32.toInt rfl).trans rfl
  have e1 : (zI M 337 1).toInt = F 1 := x0.at (by decide) (by decide) (by decide)
  have w5 := ibA2 hI
  have w6 : (zI M 337 2).toInt = (zI M 337 2).toInt := (congrArg Int32.toInt rfl).trans rfl
  have e2 : (zI M 337 2).toInt = F 2 := x0.at (by decide) (by decide) (by decide)
  refine zs_bipush (pc := 0) t252_0 (v := 30) (by decide) ?_
  refine zs_iconst (pc := 2) t252_2 (v := 4) (by decide) ?_
  refine zs_aload_n (pc := 3) t252_3 rfl ?_
  refine zs_get (pc := 4) t252_4 (by decide) (zk1 (hs.k fk_zMm_336)) (hs.p rfl fv_zMm_336_0) ?_
  refine zs_iconst (pc := 7) t252_7 (v := 1) (by decide) ?_
  have w7 : (zI M 337 1).toInt = F 1 := x0.at (by decide) (by decide) (by decide)
  refine zs_iald (pc := 8) t252_8 (j := 1) (by decide) (zk1 (hs.k fk_zMm_337)) li1 (zk2 (hs.k fk_zMm_337) (by decide)) rfl ?_
  obtain ⟨w8v, w8⟩ : ∃ v, (4 : Int32) * (zI M 337 1) = v := ⟨_, rfl⟩
  have w8g : w8v.toInt = 4 * (zI M 337 1).toInt := by rw [← w8]; exact zmulc li4 rfl (by omega) (by omega)
  refine zs_imul (pc := 9) t252_9 (c := w8v) w8 ?_
  obtain ⟨w9v, w9e, w9⟩ := ziadd (a := (30 : Int32)) (b := w8v) li30 w8g (by omega) (by omega)
  refine zs_iadd (pc := 10) t252_10 (c := w9v) w9e ?_
  refine zs_istore (pc := 11) t252_11 (ls' := [(5, .int w9v), (0, .ref 336), (1, .int a), (2, .int b), (3, .int c), (4, .int d)]) (zml mf252 (by decide)) rfl ?_
  refine zs_aload_n (pc := 13) t252_13 rfl ?_
  refine zs_get (pc := 14) t252_14 (by decide) (zk1 (hs.k fk_zMm_336)) (hs.p rfl fv_zMm_336_0) ?_
  refine zs_iload (pc := 17) t252_17 rfl ?_
  refine zs_iload_n (pc := 19) t252_19 rfl ?_
  obtain ⟨w10n, w10⟩ : ∃ n : Nat, (zI M 337 1).toInt = (n : Int) := ⟨((zI M 337 1).toInt).toNat, by omega⟩
  have w11a := aL (p := (30 + 4 * w10n)) (by omega) (by omega) (by omega)
  have w11 : zIv mLo mHi (zsI M 337 (30 + 4 * w10n) a) := zIv.putA hI (by omega) (by rw [w11a.1, w11a.2]; exact ⟨by omega, by omega⟩)
  have w12 : (zI M 337 0).toInt = (zI M 337 0).toInt := (congrArg Int32.toInt rfl).trans rfl
  have w13 : (zI M 337 1).toInt = (zI M 337 1).toInt := (congrArg Int32.toInt rfl).trans rfl
  have w14 : zPR (zsI M 337 (30 + 4 * w10n) a) := zPR.put pR (by omega) (by omega) (by omega) (by omega)
  have w15 : zPC (zsI M 337 (30 + 4 * w10n) a) := zPC.put pC (by omega) (by omega)
  have w16 : zRw (zsI M 337 (30 + 4 * w10n) a) 0 (uS F (30 + 4 * w10n) a.toInt) := zRw.put x0 rfl
  refine zs_iast (pc := 20) t252_20 (j := (30 + 4 * w10n)) (by decide) (zk1 (hs.k fk_zMm_337)) (show w9v.toInt = (((30 + 4 * w10n) : Nat) : Int) by omega) (zk2 (hs.k fk_zMm_337) (by omega)) ?_
  refine zs_aload_n (pc := 21) t252_21 rfl ?_
  refine zs_get (pc := 22) t252_22 (by decide) (zk1 (hs.k fk_zMm_336)) (hs.p rfl fv_zMm_336_0) ?_
  refine zs_iload (pc := 25) t252_25 rfl ?_
  refine zs_iconst (pc := 27) t252_27 (v := 1) (by decide) ?_
  obtain ⟨w17v, w17e, w17⟩ := ziadd (a := w9v) (b := (1 : Int32)) w9 li1 (by omega) (by omega)
  refine zs_iadd (pc := 28) t252_28 (c := w17v) w17e ?_
  refine zs_iload_n (pc := 29) t252_29 rfl ?_
  have w18a := aN (p := (31 + 4 * w10n)) (by omega)
  have w18 : zIv mLo mHi (zsI (zsI M 337 (30 + 4 * w10n) a) 337 (31 + 4 * w10n) b) := zIv.putA w11 (by omega) (by rw [w18a.1, w18a.2]; exact zrg b)
  have w19 : (zI (zsI M 337 (30 + 4 * w10n) a) 337 0).toInt = (zI M 337 0).toInt := (congrArg Int32.toInt ((zIoj (by omega)).trans rfl)).trans rfl
  have w20 : (zI (zsI M 337 (30 + 4 * w10n) a) 337 1).toInt = (zI M 337 1).toInt := (congrArg Int32.toInt ((zIoj (by omega)).trans rfl)).trans rfl
  have w21 : zPR (zsI (zsI M 337 (30 + 4 * w10n) a) 337 (31 + 4 * w10n) b) := zPR.put w14 (by omega) (by omega) (by omega) (by omega)
  have w22 : zPC (zsI (zsI M 337 (30 + 4 * w10n) a) 337 (31 + 4 * w10n) b) := zPC.put w15 (by omega) (by omega)
  have w23 : zRw (zsI (zsI M 337 (30 + 4 * w10n) a) 337 (31 + 4 * w10n) b) 0 (uS (uS F (30 + 4 * w10n) a.toInt) (31 + 4 * w10n) b.toInt) := zRw.put w16 rfl
  refine zs_iast (pc := 30) t252_30 (j := (31 + 4 * w10n)) (by decide) (zk1 (hs.k fk_zMm_337)) (show w17v.toInt = (((31 + 4 * w10n) : Nat) : Int) by omega) (zk2 (hs.k fk_zMm_337) (by omega)) ?_
  refine zs_aload_n (pc := 31) t252_31 rfl ?_
  refine zs_get (pc := 32) t252_32 (by decide) (zk1 (hs.k fk_zMm_336)) (hs.p rfl fv_zMm_336_0) ?_
  refine zs_iload (pc := 35) t252_35 rfl ?_
  refine zs_iconst (pc := 37) t252_37 (v := 2) (by decide) ?_
  obtain ⟨w24v, w24e, w24⟩ := ziadd (a := w9v) (b := (2 : Int32)) w9 li2 (by omega) (by omega)
  refine zs_iadd (pc := 38) t252_38 (c := w24v) w24e ?_
  refine zs_iload_n (pc := 39) t252_39 rfl ?_
  have w25a := aN (p := (32 + 4 * w10n)) (by omega)
  have w25 : zIv mLo mHi (zsI (zsI (zsI M 337 (30 + 4 * w10n) a) 337 (31 + 4 * w10n) b) 337 (32 + 4 * w10n) c) := zIv.putA w18 (by omega) (by rw [w25a.1, w25a.2]; exact zrg c)
  have w26 : (zI (zsI (zsI M 337 (30 + 4 * w10n) a) 337 (31 + 4 * w10n) b) 337 0).toInt = (zI M 337 0).toInt := (congrArg Int32.toInt ((zIoj (by omega)).trans ((zIoj (by omega)).trans rfl))).trans rfl
  have w27 : (zI (zsI (zsI M 337 (30 + 4 * w10n) a) 337 (31 + 4 * w10n) b) 337 1).toInt = (zI M 337 1).toInt := (congrArg Int32.toInt ((zIoj (by omega)).trans ((zIoj (by omega)).trans rfl))).trans rfl
  have w28 : zPR (zsI (zsI (zsI M 337 (30 + 4 * w10n) a) 337 (31 + 4 * w10n) b) 337 (32 + 4 * w10n) c) := zPR.put w21 (by omega) (by omega) (by omega) (by omega)
  have w29 : zPC (zsI (zsI (zsI M 337 (30 + 4 * w10n) a) 337 (31 + 4 * w10n) b) 337 (32 + 4 * w10n) c) := zPC.put w22 (by omega) (by omega)
  have w30 : zRw (zsI (zsI (zsI M 337 (30 + 4 * w10n) a) 337 (31 + 4 * w10n) b) 337 (32 + 4 * w10n) c) 0 (uS (uS (uS F (30 + 4 * w10n) a.toInt) (31 + 4 * w10n) b.toInt) (32 + 4 * w10n) c.toInt) := zRw.put w23 rfl
  refine zs_iast (pc := 40) t252_40 (j := (32 + 4 * w10n)) (by decide) (zk1 (hs.k fk_zMm_337)) (show w24v.toInt = (((32 + 4 * w10n) : Nat) : Int) by omega) (zk2 (hs.k fk_zMm_337) (by omega)) ?_
  refine zs_aload_n (pc := 41) t252_41 rfl ?_
  refine zs_get (pc := 42) t252_42 (by decide) (zk1 (hs.k fk_zMm_336)) (hs.p rfl fv_zMm_336_0) ?_
  refine zs_iload (pc := 45) t252_45 rfl ?_
  refine zs_iconst (pc := 47) t252_47 (v := 3) (by decide) ?_
  obtain ⟨w31v, w31e, w31⟩ := ziadd (a := w9v) (b := (3 : Int32)) w9 li3 (by omega) (by omega)
  refine zs_iadd (pc := 48) t252_48 (c := w31v) w31e ?_
  refine zs_iload (pc := 49) t252_49 rfl ?_
  have w32a := aN (p := (33 + 4 * w10n)) (by omega)
  have w32 : zIv mLo mHi (zsI (zsI (zsI (zsI M 337 (30 + 4 * w10n) a) 337 (31 + 4 * w10n) b) 337 (32 + 4 * w10n) c) 337 (33 + 4 * w10n) d) := zIv.putA w25 (by omega) (by rw [w32a.1, w32a.2]; exact zrg d)
  have w33 : (zI (zsI (zsI (zsI M 337 (30 + 4 * w10n) a) 337 (31 + 4 * w10n) b) 337 (32 + 4 * w10n) c) 337 0).toInt = (zI M 337 0).toInt := (congrArg Int32.toInt ((zIoj (by omega)).trans ((zIoj (by omega)).trans ((zIoj (by omega)).trans rfl)))).trans rfl
  have w34 : (zI (zsI (zsI (zsI M 337 (30 + 4 * w10n) a) 337 (31 + 4 * w10n) b) 337 (32 + 4 * w10n) c) 337 1).toInt = (zI M 337 1).toInt := (congrArg Int32.toInt ((zIoj (by omega)).trans ((zIoj (by omega)).trans ((zIoj (by omega)).trans rfl)))).trans rfl
  have w35 : zPR (zsI (zsI (zsI (zsI M 337 (30 + 4 * w10n) a) 337 (31 + 4 * w10n) b) 337 (32 + 4 * w10n) c) 337 (33 + 4 * w10n) d) := zPR.put w28 (by omega) (by omega) (by omega) (by omega)
  have w36 : zPC (zsI (zsI (zsI (zsI M 337 (30 + 4 * w10n) a) 337 (31 + 4 * w10n) b) 337 (32 + 4 * w10n) c) 337 (33 + 4 * w10n) d) := zPC.put w29 (by omega) (by omega)
  have w37 : zRw (zsI (zsI (zsI (zsI M 337 (30 + 4 * w10n) a) 337 (31 + 4 * w10n) b) 337 (32 + 4 * w10n) c) 337 (33 + 4 * w10n) d) 0 (uS (uS (uS (uS F (30 + 4 * w10n) a.toInt) (31 + 4 * w10n) b.toInt) (32 + 4 * w10n) c.toInt) (33 + 4 * w10n) d.toInt) := zRw.put w30 rfl
  refine zs_iast (pc := 51) t252_51 (j := (33 + 4 * w10n)) (by decide) (zk1 (hs.k fk_zMm_337)) (show w31v.toInt = (((33 + 4 * w10n) : Nat) : Int) by omega) (zk2 (hs.k fk_zMm_337) (by omega)) ?_
  refine zs_aload_n (pc := 52) t252_52 rfl ?_
  refine zs_get (pc := 53) t252_53 (by decide) (zk1 (hs.k fk_zMm_336)) (hs.p rfl fv_zMm_336_0) ?_
  refine zs_iconst (pc := 56) t252_56 (v := 1) (by decide) ?_
  refine zs_dup2 (pc := 57) t252_57 ⟨rfl, rfl⟩ ?_
  have w38 : (zI M 337 1).toInt = F 1 := x0.at (by decide) (by decide) (by decide)
  refine zs_iald (pc := 58) t252_58 (j := 1) (by decide) (zk1 (hs.k fk_zMm_337)) li1 (zk2 (hs.k fk_zMm_337) (by decide)) ((zIoj (by omega)).trans ((zIoj (by omega)).trans ((zIoj (by omega)).trans ((zIoj (by omega)).trans rfl)))) ?_
  refine zs_iconst (pc := 59) t252_59 (v := 1) (by decide) ?_
  obtain ⟨w39v, w39e, w39⟩ := ziadd (a := (zI M 337 1)) (b := (1 : Int32)) rfl li1 (by omega) (by omega)
  refine zs_iadd (pc := 60) t252_60 (c := w39v) w39e ?_
  have w40 : zIv mLo mHi (zsI (zsI (zsI (zsI (zsI M 337 (30 + 4 * w10n) a) 337 (31 + 4 * w10n) b) 337 (32 + 4 * w10n) c) 337 (33 + 4 * w10n) d) 337 1 w39v) := zIv.putA w32 (by decide) (show 0 ≤ w39v.toInt ∧ w39v.toInt ≤ 60 from ⟨by omega, by omega⟩)
  have w41 : (zI (zsI (zsI (zsI (zsI M 337 (30 + 4 * w10n) a) 337 (31 + 4 * w10n) b) 337 (32 + 4 * w10n) c) 337 (33 + 4 * w10n) d) 337 1).toInt = (zI M 337 1).toInt := (congrArg Int32.toInt ((zIoj (by omega)).trans ((zIoj (by omega)).trans ((zIoj (by omega)).trans ((zIoj (by omega)).trans rfl))))).trans rfl
  have w42 : (zI (zsI (zsI (zsI (zsI M 337 (30 + 4 * w10n) a) 337 (31 + 4 * w10n) b) 337 (32 + 4 * w10n) c) 337 (33 + 4 * w10n) d) 337 0).toInt = (zI M 337 0).toInt := (congrArg Int32.toInt ((zIoj (by omega)).trans ((zIoj (by omega)).trans ((zIoj (by omega)).trans ((zIoj (by omega)).trans rfl))))).trans rfl
  have w43 : w39v.toInt = ((zI M 337 1).toInt + 1) := w39
  have w44 : zPR (zsI (zsI (zsI (zsI (zsI M 337 (30 + 4 * w10n) a) 337 (31 + 4 * w10n) b) 337 (32 + 4 * w10n) c) 337 (33 + 4 * w10n) d) 337 1 w39v) := zPR.hit (n := w10n) w35 (by omega) (by omega) (by rw [show zI (zsI (zsI (zsI (zsI M 337 (30 + 4 * w10n) a) 337 (31 + 4 * w10n) b) 337 (32 + 4 * w10n) c) 337 (33 + 4 * w10n) d) 337 (30 + 4 * w10n) = a from ((zIoj (by omega)).trans ((zIoj (by omega)).trans ((zIoj (by omega)).trans zIs)))]; omega)
  have w45 : zPC (zsI (zsI (zsI (zsI (zsI M 337 (30 + 4 * w10n) a) 337 (31 + 4 * w10n) b) 337 (32 + 4 * w10n) c) 337 (33 + 4 * w10n) d) 337 1 w39v) := zPC.put w36 (by decide) (by decide)
  have w46 : zRw (zsI (zsI (zsI (zsI (zsI M 337 (30 + 4 * w10n) a) 337 (31 + 4 * w10n) b) 337 (32 + 4 * w10n) c) 337 (33 + 4 * w10n) d) 337 1 w39v) 0 (uS (uS (uS (uS (uS F (30 + 4 * w10n) a.toInt) (31 + 4 * w10n) b.toInt) (32 + 4 * w10n) c.toInt) (33 + 4 * w10n) d.toInt) 1 (F 1 + 1)) := zRw.put w37 (by omega)
  refine zs_iast (pc := 61) t252_61 (j := 1) (by decide) (zk1 (hs.k fk_zMm_337)) li1 (zk2 (hs.k fk_zMm_337) (by decide)) ?_
  have w47 : (zI (zsI (zsI (zsI (zsI (zsI M 337 (30 + 4 * w10n) a) 337 (31 + 4 * w10n) b) 337 (32 + 4 * w10n) c) 337 (33 + 4 * w10n) d) 337 1 w39v) 337 1).toInt = ((zI M 337 1).toInt + 1) := (congrArg Int32.toInt zIs).trans w39
  have w48 : (zI (zsI (zsI (zsI (zsI (zsI M 337 (30 + 4 * w10n) a) 337 (31 + 4 * w10n) b) 337 (32 + 4 * w10n) c) 337 (33 + 4 * w10n) d) 337 1 w39v) 337 2).toInt = (zI M 337 2).toInt := (congrArg Int32.toInt ((zIoj (by decide)).trans ((zIoj (by omega)).trans ((zIoj (by omega)).trans ((zIoj (by omega)).trans ((zIoj (by omega)).trans rfl)))))).trans rfl
  have w49 : (zI (zsI (zsI (zsI (zsI (zsI M 337 (30 + 4 * w10n) a) 337 (31 + 4 * w10n) b) 337 (32 + 4 * w10n) c) 337 (33 + 4 * w10n) d) 337 1 w39v) 337 0).toInt = (zI M 337 0).toInt := (congrArg Int32.toInt ((zIoj (by decide)).trans ((zIoj (by omega)).trans ((zIoj (by omega)).trans ((zIoj (by omega)).trans ((zIoj (by omega)).trans rfl)))))).trans rfl
  exact zs_vret (pc := 62) t252_62 mr252 (hQ _ hs w40 ((((((zFr.refl).put rfl).put rfl).put rfl).put rfl).put rfl) rfl ((((((zUp.refl).put (Or.inr (by omega))).put (Or.inr (by omega))).put (Or.inr (by omega))).put (Or.inr (by omega))).put (Or.inr (by decide))) w44 w45 (by omega) (by omega) (by omega) (by unfold pHit; rw [show (F 1).toNat = w10n by omega]; exact w46))
theorem R331 {X : zX} {l : Launch} {M : zM} {Q : Option Value → zM → Prop} {a b c : Int32} (hs : zSk zMm M) (hI : zIv mLo mHi M) {F : Nat → Int} {H : Nat → Nat → Int} {n : Int} {K : Nat → Nat → Int} {T : Nat → Int} (pR : zPR M) (pC : zPC M) (pF : zPF M) (x0 : zRw M 0 F) (x1 : zHM M H n) (x2 : zKM M K T) (x3 : zWF F) (hQ : ∀ (M' : zM) (v : Int32), zSk zMm M' → zIv mLo mHi M' → zFr [(337, 337, none), (336, 336, some 1), (336, 336, some 3)] M M' → zJ M' 351 = zJ M 351 → zPR M' → zPC M' → zPF M' → ((zI M' 336 3).toInt = 0 ∨ (v.toInt = -1 ∧ (zI M' 336 3).toInt = (zI M 336 3).toInt)) → ((v.toInt = -1 ∧ (a.toInt < 0 ∨ F 0 ≤ a.toInt ∨ b.toInt < -9999 ∨ 9999 < b.toInt ∨ c.toInt < 0 ∨ 999 < c.toInt ∨ 60 ≤ F 1) ∧ zSM M' F H n K T) ∨ ((0 ≤ a.toInt ∧ a.toInt < F 0 ∧ -9999 ≤ b.toInt ∧ b.toInt ≤ 9999 ∧ 0 ≤ c.toInt ∧ c.toInt ≤ 999 ∧ F 1 < 60) ∧ v.toInt = F 1 ∧ zSM M' (pHit F a.toInt b.toInt c.toInt (-2)) (pushH F H) (nP n) K T)) → Q (some (.int v)) M') : zCall X l 2 0 0 331 [.ref 336, .int a, .int b, .int c] M Q := by
  have ga := zrg a
  have gb := zrg b
  have gc := zrg c
  refine zs_in (by decide) mf331 (Nat.le_of_ble_eq_true rfl) ?_
  show zGo X l 2 0 0 331 0 [(0, .ref 336), (1, .int a), (2, .int b), (3, .int c)] [] M _
  have f1 := x3.1
  have f3 := x3.2.2.2
  have w1 := ibA0 hI
  have w2 : (zI M 337 0).toInt = (zI M 337 0).toInt := (congrArg Int32.toInt rfl).trans rfl
  have e0 : (zI M 337 0).toInt = F 0 := x0.at (by decide) (by decide) (by decide)
  have w3 := ibA1 hI
  have w4 : (zI M 337 1).toInt = (zI M 337 1).toInt := (congrArg Int32.toInt rfl).trans rfl
  have e1 : (zI M 337 1).toInt = F 1 := x0.at (by decide) (by decide) (by decide)
  have w5 := ibA2 hI
  have w6 : (zI M 337 2).toInt = (zI M 337 2).toInt := (congrArg Int32.toInt rfl).trans rfl
  have e2 : (zI M 337 2).toInt = F 2 := x0.at (by decide) (by decide) (by decide)
  refine zs_aload_n (pc := 0) t331_0 rfl ?_
  refine zs_iload_n (pc := 1) t331_1 rfl ?_
  refine zs_invV (pc := 2) (k := 336) (as' := [.int a]) (st := []) t331_2 mf306 rfl rfl (Or.inl ⟨by decide, (zk1 (hs.k fk_zMm_336))⟩) ⟨by decide, by decide, Nat.le_of_ble_eq_true rfl, Nat.le_of_ble_eq_true rfl⟩ (zs_in (by decide) mf306 (Nat.le_of_ble_eq_true rfl) ?_) (fun _ _ q => q)
  show zGo X l 1 0 0 306 0 [(0, .ref 336), (1, .int a)] [] M _
  refine zs_iload_n (pc := 0) t306_0 rfl ?_
  refine zs_i2l (pc := 1) t306_1 rfl ?_
  refine zs_lconst (pc := 2) t306_2 (v := 0) (by decide) ?_
  refine zs_aload_n (pc := 3) t306_3 rfl ?_
  refine zs_get (pc := 4) t306_4 (by decide) (zk1 (hs.k fk_zMm_336)) (hs.p rfl fv_zMm_336_0) ?_
  refine zs_iconst (pc := 7) t306_7 (v := 0) (by decide) ?_
  have w7 : (zI M 337 0).toInt = F 0 := x0.at (by decide) (by decide) (by decide)
  refine zs_iald (pc := 8) t306_8 (j := 0) (by decide) (zk1 (hs.k fk_zMm_337)) li0 (zk2 (hs.k fk_zMm_337) (by decide)) rfl ?_
  refine zs_iconst (pc := 9) t306_9 (v := 1) (by decide) ?_
  obtain ⟨w8v, w8e, w8⟩ := zisub (a := (zI M 337 0)) (b := (1 : Int32)) rfl li1 (by omega) (by omega)
  refine zs_isub (pc := 10) t306_10 (c := w8v) w8e ?_
  refine zs_i2l (pc := 11) t306_11 rfl ?_
  by_cases w9 : 0 ≤ a.toInt ∧ a.toInt ≤ ((zI M 337 0).toInt - 1)
  · refine zs_invS (pc := 12) (as := [.long a.toInt64, .long (0 : Int64), .long w8v.toInt64]) (st := []) t306_12 (by decide) mf228 rfl rfl ⟨by decide, by decide, Nat.le_of_ble_eq_true rfl, Nat.le_of_ble_eq_true rfl⟩ (K228T (zi2l rfl) ll0 (zi2l w8) (by omega) ?_) (fun _ _ q => q)
    show zGo X l 1 0 0 306 15 [(0, .ref 336), (1, .int a)] [.int (1 : Int32)] M _
    refine zs_iret (pc := 15) t306_15 mr306 (by decide) ?_
    show zGo X l 2 0 0 331 5 [(0, .ref 336), (1, .int a), (2, .int b), (3, .int c)] [.int (1 : Int32)] M _
    refine zs_if_eqF (pc := 5) t331_5 li1 (by decide) ?_
    refine zs_iload_n (pc := 8) t331_8 rfl ?_
    refine zs_i2l (pc := 9) t331_9 rfl ?_
    refine zs_ldc2_w (pc := 10) t331_10 (v := -9999) (by decide) ?_
    refine zs_ldc2_w (pc := 13) t331_13 (v := 9999) (by decide) ?_
    by_cases w10 : (-9999) ≤ b.toInt ∧ b.toInt ≤ 9999
    · refine zs_invS (pc := 16) (as := [.long b.toInt64, .long (-9999 : Int64), .long (9999 : Int64)]) (st := []) t331_16 (by decide) mf228 rfl rfl ⟨by decide, by decide, Nat.le_of_ble_eq_true rfl, Nat.le_of_ble_eq_true rfl⟩ (K228T (zi2l rfl) lln9999 ll9999 (by omega) ?_) (fun _ _ q => q)
      show zGo X l 2 0 0 331 19 [(0, .ref 336), (1, .int a), (2, .int b), (3, .int c)] [.int (1 : Int32)] M _
      refine zs_if_eqF (pc := 19) t331_19 li1 (by decide) ?_
      refine zs_iload_n (pc := 22) t331_22 rfl ?_
      refine zs_i2l (pc := 23) t331_23 rfl ?_
      refine zs_lconst (pc := 24) t331_24 (v := 0) (by decide) ?_
      refine zs_ldc2_w (pc := 25) t331_25 (v := 999) (by decide) ?_
      by_cases w11 : 0 ≤ c.toInt ∧ c.toInt ≤ 999
      · refine zs_invS (pc := 28) (as := [.long c.toInt64, .long (0 : Int64), .long (999 : Int64)]) (st := []) t331_28 (by decide) mf228 rfl rfl ⟨by decide, by decide, Nat.le_of_ble_eq_true rfl, Nat.le_of_ble_eq_true rfl⟩ (K228T (zi2l rfl) ll0 ll999 (by omega) ?_) (fun _ _ q => q)
        show zGo X l 2 0 0 331 31 [(0, .ref 336), (1, .int a), (2, .int b), (3, .int c)] [.int (1 : Int32)] M _
        refine zs_if_eqF (pc := 31) t331_31 li1 (by decide) ?_
        refine zs_aload_n (pc := 34) t331_34 rfl ?_
        refine zs_get (pc := 35) t331_35 (by decide) (zk1 (hs.k fk_zMm_336)) (hs.p rfl fv_zMm_336_0) ?_
        refine zs_iconst (pc := 38) t331_38 (v := 1) (by decide) ?_
        have w12 : (zI M 337 1).toInt = F 1 := x0.at (by decide) (by decide) (by decide)
        refine zs_iald (pc := 39) t331_39 (j := 1) (by decide) (zk1 (hs.k fk_zMm_337)) li1 (zk2 (hs.k fk_zMm_337) (by decide)) rfl ?_
        refine zs_bipush (pc := 40) t331_40 (v := 60) (by decide) ?_
        by_cases w13 : (zI M 337 1).toInt ≠ 60
        · refine zs_icmp_neT (pc := 42) t331_42 rfl li60 (by omega) ?_
          refine zs_aload_n (pc := 47) t331_47 rfl ?_
          refine zs_iconst (pc := 48) t331_48 (v := 0) (by decide) ?_
          have w14 : (zI M 337 1).toInt = (zI M 337 1).toInt := (congrArg Int32.toInt rfl).trans rfl
          have w15 : (zI M 337 2).toInt = (zI M 337 2).toInt := (congrArg Int32.toInt rfl).trans rfl
          have w16 : (zI M 337 0).toInt = (zI M 337 0).toInt := (congrArg Int32.toInt rfl).trans rfl
          refine zs_invV (pc := 49) (k := 336) (as' := [.int (0 : Int32)]) (st := []) t331_49 mf230 rfl rfl (Or.inl ⟨by decide, (zk1 (hs.k fk_zMm_336))⟩) ⟨by decide, by decide, Nat.le_of_ble_eq_true rfl, Nat.le_of_ble_eq_true rfl⟩ (R230_0 hs hI pR pC x0 x1 ?_) (fun _ _ q => q)
          intro w17M w17s w17I w17F w17J w17PR w17PC w17PF w17t0 w17t1 w17t2 w17t3 w17x0 w17x1
          have w18 := ibA1 w17I
          have w19 := ib336_3 w17I
          have w20 := ibA2 w17I
          have w21 := ibA0 w17I
          have w17r0 := w17x1 0 (by decide) _ x0
          show zGo X l 2 0 0 331 52 [(0, .ref 336), (1, .int a), (2, .int b), (3, .int c)] [] w17M _
          refine zs_aload_n (pc := 52) t331_52 rfl ?_
          refine zs_iload_n (pc := 53) t331_53 rfl ?_
          refine zs_iload_n (pc := 54) t331_54 rfl ?_
          refine zs_iload_n (pc := 55) t331_55 rfl ?_
          refine zs_bipush (pc := 56) t331_56 (v := -2) (by decide) ?_
          have w22 : (-2 : Int32).toInt = (-2) := lin2
          have w23 : (zI w17M 337 1).toInt = (zI w17M 337 1).toInt := (congrArg Int32.toInt rfl).trans rfl
          have w24 : (zI w17M 337 0).toInt = (zI w17M 337 0).toInt := (congrArg Int32.toInt rfl).trans rfl
          have w25 : (zI w17M 337 1).toInt = (zI w17M 337 1).toInt := (congrArg Int32.toInt rfl).trans rfl
          have w26 : (zI w17M 337 2).toInt = (zI w17M 337 2).toInt := (congrArg Int32.toInt rfl).trans rfl
          have w27 : (zI w17M 337 0).toInt = (zI w17M 337 0).toInt := (congrArg Int32.toInt rfl).trans rfl
          refine zs_invV (pc := 58) (k := 336) (as' := [.int a, .int b, .int c, .int (-2 : Int32)]) (st := []) t331_58 mf252 rfl rfl (Or.inl ⟨by decide, (zk1 (w17s.k fk_zMm_336))⟩) ⟨by decide, by decide, Nat.le_of_ble_eq_true rfl, Nat.le_of_ble_eq_true rfl⟩ (R252 w17s w17I w17PR w17PC ⟨by omega, by omega⟩ (by omega) (by omega) w17r0 ?_) (fun _ _ q => q)
          intro w28M w28s w28I w28F w28J w28U w28PR w28PC w28t0 w28t1 w28t2 w28x0
          have w29 := ibA1 w28I
          have w30 := ibA2 w28I
          have w31 := ibA0 w28I
          show zGo X l 2 0 0 331 61 [(0, .ref 336), (1, .int a), (2, .int b), (3, .int c)] [] w28M _
          refine zs_aload_n (pc := 61) t331_61 rfl ?_
          refine zs_get (pc := 62) t331_62 (by decide) (zk1 (w28s.k fk_zMm_336)) (w28s.p rfl fv_zMm_336_0) ?_
          refine zs_iconst (pc := 65) t331_65 (v := 1) (by decide) ?_
          refine zs_iald (pc := 66) t331_66 (j := 1) (by decide) (zk1 (w28s.k fk_zMm_337)) li1 (zk2 (w28s.k fk_zMm_337) (by decide)) rfl ?_
          refine zs_iconst (pc := 67) t331_67 (v := 1) (by decide) ?_
          obtain ⟨w32v, w32e, w32⟩ := zisub (a := (zI w28M 337 1)) (b := (1 : Int32)) rfl li1 (by omega) (by omega)
          refine zs_isub (pc := 68) t331_68 (c := w32v) w32e ?_
          have w33 : (zI w28M 336 3).toInt = (zI w17M 336 3).toInt := (congrArg Int32.toInt ((w28F 336 3 rfl).trans rfl)).trans rfl
          have w34 := w32
          have w35 : w32v.toInt = ((zI w28M 337 1).toInt - 1) := w32
          exact zs_iret (pc := 69) t331_69 mr331 rfl (hQ _ _ w28s w28I (((zFr.refl).trans (w17F.mono rfl)).trans (w28F.mono rfl)) (w28J.trans w17J) w28PR w28PC (zPF.fr w17PF (w28F.eq rfl) w28J) (by omega) (Or.inr ⟨⟨by omega, by omega, by omega, by omega, by omega, by omega, by omega⟩, by omega, w28x0, (zHM.fr w17x0 (fun j hj => (w28U j hj)) (w28F 336 1 rfl)), (zKM.fr (zKM.rows x2 (fun r h1 h2 G z => w17x1 r (Or.inl (by omega)) G z) (fun k => w17F 338 k rfl)) (fun j hj => (w28U j hj)) (fun k => (w28F 338 k rfl)))⟩))
        · refine zs_icmp_neF (pc := 42) t331_42 rfl li60 (by omega) ?_
          refine zs_iconst (pc := 45) t331_45 (v := -1) (by decide) ?_
          have w36 := ib336_3 hI
          have w37 : (zI M 336 3).toInt = (zI M 336 3).toInt := (congrArg Int32.toInt rfl).trans rfl
          have w38 := lin1
          exact zs_iret (pc := 46) t331_46 mr331 (by decide) (hQ _ _ hs hI (zFr.refl) rfl pR pC pF (by omega) (Or.inl ⟨by decide, by omega, x0, x1, x2⟩))
      · refine zs_invS (pc := 28) (as := [.long c.toInt64, .long (0 : Int64), .long (999 : Int64)]) (st := []) t331_28 (by decide) mf228 rfl rfl ⟨by decide, by decide, Nat.le_of_ble_eq_true rfl, Nat.le_of_ble_eq_true rfl⟩ (K228F (zi2l rfl) ll0 ll999 (by omega) ?_) (fun _ _ q => q)
        show zGo X l 2 0 0 331 31 [(0, .ref 336), (1, .int a), (2, .int b), (3, .int c)] [.int (0 : Int32)] M _
        refine zs_if_eqT (pc := 31) t331_31 li0 (by decide) ?_
        refine zs_iconst (pc := 45) t331_45 (v := -1) (by decide) ?_
        have w39 := ib336_3 hI
        have w40 : (zI M 336 3).toInt = (zI M 336 3).toInt := (congrArg Int32.toInt rfl).trans rfl
        have w41 := lin1
        exact zs_iret (pc := 46) t331_46 mr331 (by decide) (hQ _ _ hs hI (zFr.refl) rfl pR pC pF (by omega) (Or.inl ⟨by decide, by omega, x0, x1, x2⟩))
    · refine zs_invS (pc := 16) (as := [.long b.toInt64, .long (-9999 : Int64), .long (9999 : Int64)]) (st := []) t331_16 (by decide) mf228 rfl rfl ⟨by decide, by decide, Nat.le_of_ble_eq_true rfl, Nat.le_of_ble_eq_true rfl⟩ (K228F (zi2l rfl) lln9999 ll9999 (by omega) ?_) (fun _ _ q => q)
      show zGo X l 2 0 0 331 19 [(0, .ref 336), (1, .int a), (2, .int b), (3, .int c)] [.int (0 : Int32)] M _
      refine zs_if_eqT (pc := 19) t331_19 li0 (by decide) ?_
      refine zs_iconst (pc := 45) t331_45 (v := -1) (by decide) ?_
      have w42 := ib336_3 hI
      have w43 : (zI M 336 3).toInt = (zI M 336 3).toInt := (congrArg Int32.toInt rfl).trans rfl
      have w44 := lin1
      exact zs_iret (pc := 46) t331_46 mr331 (by decide) (hQ _ _ hs hI (zFr.refl) rfl pR pC pF (by omega) (Or.inl ⟨by decide, by omega, x0, x1, x2⟩))
  · refine zs_invS (pc := 12) (as := [.long a.toInt64, .long (0 : Int64), .long w8v.toInt64]) (st := []) t306_12 (by decide) mf228 rfl rfl ⟨by decide, by decide, Nat.le_of_ble_eq_true rfl, Nat.le_of_ble_eq_true rfl⟩ (K228F (zi2l rfl) ll0 (zi2l w8) (by omega) ?_) (fun _ _ q => q)
    show zGo X l 1 0 0 306 15 [(0, .ref 336), (1, .int a)] [.int (0 : Int32)] M _
    refine zs_iret (pc := 15) t306_15 mr306 (by decide) ?_
    show zGo X l 2 0 0 331 5 [(0, .ref 336), (1, .int a), (2, .int b), (3, .int c)] [.int (0 : Int32)] M _
    refine zs_if_eqT (pc := 5) t331_5 li0 (by decide) ?_
    refine zs_iconst (pc := 45) t331_45 (v := -1) (by decide) ?_
    have w45 := ib336_3 hI
    have w46 : (zI M 336 3).toInt = (zI M 336 3).toInt := (congrArg Int32.toInt rfl).trans rfl
    have w47 := lin1
    exact zs_iret (pc := 46) t331_46 mr331 (by decide) (hQ _ _ hs hI (zFr.refl) rfl pR pC pF (by omega) (Or.inl ⟨by decide, by omega, x0, x1, x2⟩))
theorem R271 {X : zX} {l : Launch} {M : zM} {Q : Option Value → zM → Prop} {a b : Int32} (hs : zSk zMm M) (hI : zIv mLo mHi M) {F : Nat → Int} (ha : 0 ≤ a.toInt ∧ a.toInt ≤ 59) (u0 : a.toInt < (zI M 337 1).toInt) (x0 : zRw M 0 F) (x1 : zWF F) (hQ : ∀ v : Int32, (∀ h : Nat, (h : Int) = a.toInt → (h : Int) < F 1 → (v.toInt = 1 ∧ zctb F h = true ∧ F (30 + 4 * h) ≠ b.toInt) ∨ (v.toInt = 0 ∧ (zctb F h = false ∨ F (30 + 4 * h) = b.toInt))) → 0 ≤ v.toInt → v.toInt ≤ 1 → Q (some (.int v)) M) : zCall X l 1 0 0 271 [.ref 336, .int a, .int b] M Q := by
  have ga := zrg a
  have gb := zrg b
  refine zs_in (by decide) mf271 (Nat.le_of_ble_eq_true rfl) ?_
  show zGo X l 1 0 0 271 0 [(0, .ref 336), (1, .int a), (2, .int b)] [] M _
  have f1 := x1.1
  have f3 := x1.2.2.2
  have w1 := ibA0 hI
  have w2 : (zI M 337 0).toInt = (zI M 337 0).toInt := (congrArg Int32.toInt rfl).trans rfl
  have e0 : (zI M 337 0).toInt = F 0 := x0.at (by decide) (by decide) (by decide)
  have w3 := ibA1 hI
  have w4 : (zI M 337 1).toInt = (zI M 337 1).toInt := (congrArg Int32.toInt rfl).trans rfl
  have e1 : (zI M 337 1).toInt = F 1 := x0.at (by decide) (by decide) (by decide)
  have w5 := ibA2 hI
  have w6 : (zI M 337 2).toInt = (zI M 337 2).toInt := (congrArg Int32.toInt rfl).trans rfl
  have e2 : (zI M 337 2).toInt = F 2 := x0.at (by decide) (by decide) (by decide)
  refine zs_aload_n (pc := 0) t271_0 rfl ?_
  refine zs_iload_n (pc := 1) t271_1 rfl ?_
  refine zs_iconst (pc := 2) t271_2 (v := 0) (by decide) ?_
  refine zs_invV (pc := 3) (k := 336) (as' := [.int a, .int (0 : Int32)]) (st := []) t271_3 mf272 rfl rfl (Or.inl ⟨by decide, (zk1 (hs.k fk_zMm_336))⟩) ⟨by decide, by decide, Nat.le_of_ble_eq_true rfl, Nat.le_of_ble_eq_true rfl⟩ (zs_in (by decide) mf272 (Nat.le_of_ble_eq_true rfl) ?_) (fun _ _ q => q)
  show zGo X l 0 0 0 272 0 [(0, .ref 336), (1, .int a), (2, .int (0 : Int32))] [] M _
  refine zs_aload_n (pc := 0) t272_0 rfl ?_
  refine zs_get (pc := 1) t272_1 (by decide) (zk1 (hs.k fk_zMm_336)) (hs.p rfl fv_zMm_336_0) ?_
  refine zs_bipush (pc := 4) t272_4 (v := 30) (by decide) ?_
  refine zs_iconst (pc := 6) t272_6 (v := 4) (by decide) ?_
  refine zs_iload_n (pc := 7) t272_7 rfl ?_
  obtain ⟨w7v, w7⟩ : ∃ v, (4 : Int32) * a = v := ⟨_, rfl⟩
  have w7g : w7v.toInt = 4 * a.toInt := by rw [← w7]; exact zmulc li4 rfl (by omega) (by omega)
  refine zs_imul (pc := 8) t272_8 (c := w7v) w7 ?_
  obtain ⟨w8v, w8e, w8⟩ := ziadd (a := (30 : Int32)) (b := w7v) li30 w7g (by omega) (by omega)
  refine zs_iadd (pc := 9) t272_9 (c := w8v) w8e ?_
  refine zs_iload_n (pc := 10) t272_10 rfl ?_
  obtain ⟨w9v, w9e, w9⟩ := ziadd (a := w8v) (b := (0 : Int32)) w8 li0 (by omega) (by omega)
  refine zs_iadd (pc := 11) t272_11 (c := w9v) w9e ?_
  obtain ⟨w10n, w10⟩ : ∃ n : Nat, a.toInt = (n : Int) := ⟨(a.toInt).toNat, by omega⟩
  have w11 := ibL (j := (30 + 4 * w10n)) hI (by omega) (by omega) (by omega)
  have w12 : (zI M 337 (30 + 4 * w10n)).toInt = F (30 + 4 * w10n) := x0.at (by omega) (by omega) (by omega)
  have w13 := x1.2.2.1 w10n (by omega)
  refine zs_iald (pc := 12) t272_12 (j := (30 + 4 * w10n)) (by decide) (zk1 (hs.k fk_zMm_337)) (show w9v.toInt = (((30 + 4 * w10n) : Nat) : Int) by omega) (zk2 (hs.k fk_zMm_337) (by omega)) rfl ?_
  refine zs_iret (pc := 13) t272_13 mr272 rfl ?_
  show zGo X l 1 0 0 271 6 [(0, .ref 336), (1, .int a), (2, .int b)] [.int (zI M 337 (30 + 4 * w10n))] M _
  refine zs_istore_n (pc := 6) t271_6 (ls' := [(3, .int (zI M 337 (30 + 4 * w10n))), (0, .ref 336), (1, .int a), (2, .int b)]) (zml mf271 (by decide)) rfl ?_
  refine zs_iload_n (pc := 7) t271_7 rfl ?_
  refine zs_iload_n (pc := 8) t271_8 rfl ?_
  by_cases w14 : (zI M 337 (30 + 4 * w10n)).toInt = b.toInt
  · refine zs_icmp_eqT (pc := 9) t271_9 rfl rfl (by omega) ?_
    refine zs_iconst (pc := 53) t271_53 (v := 0) (by decide) ?_
    obtain ⟨w15n, w15⟩ : ∃ n : Nat, (zI M 337 (30 + 4 * w10n)).toInt = (n : Int) := ⟨((zI M 337 (30 + 4 * w10n)).toInt).toNat, by omega⟩
    exact zs_iret (pc := 54) t271_54 mr271 (by decide) (hQ _ (fun h h1 h2 => by obtain rfl : w10n = h := (by omega); exact Or.inr ⟨by decide, by first | exact Or.inr (by omega) | exact Or.inl (zctb.n (l := w15n) (by omega) (by omega))⟩) (by decide) (by decide))
  · refine zs_icmp_eqF (pc := 9) t271_9 rfl rfl (by omega) ?_
    refine zs_aload_n (pc := 12) t271_12 rfl ?_
    refine zs_iload_n (pc := 13) t271_13 rfl ?_
    refine zs_invV (pc := 14) (k := 336) (as' := [.int (zI M 337 (30 + 4 * w10n))]) (st := []) t271_14 mf273 rfl rfl (Or.inl ⟨by decide, (zk1 (hs.k fk_zMm_336))⟩) ⟨by decide, by decide, Nat.le_of_ble_eq_true rfl, Nat.le_of_ble_eq_true rfl⟩ (zs_in (by decide) mf273 (Nat.le_of_ble_eq_true rfl) ?_) (fun _ _ q => q)
    show zGo X l 0 0 0 273 0 [(0, .ref 336), (1, .int (zI M 337 (30 + 4 * w10n)))] [] M _
    refine zs_aload_n (pc := 0) t273_0 rfl ?_
    refine zs_get (pc := 1) t273_1 (by decide) (zk1 (hs.k fk_zMm_336)) (hs.p rfl fv_zMm_336_0) ?_
    refine zs_bipush (pc := 4) t273_4 (v := 14) (by decide) ?_
    refine zs_iconst (pc := 6) t273_6 (v := 2) (by decide) ?_
    refine zs_iload_n (pc := 7) t273_7 rfl ?_
    obtain ⟨w16v, w16⟩ : ∃ v, (2 : Int32) * (zI M 337 (30 + 4 * w10n)) = v := ⟨_, rfl⟩
    have w16g : w16v.toInt = 2 * (zI M 337 (30 + 4 * w10n)).toInt := by rw [← w16]; exact zmulc li2 rfl (by omega) (by omega)
    refine zs_imul (pc := 8) t273_8 (c := w16v) w16 ?_
    obtain ⟨w17v, w17e, w17⟩ := ziadd (a := (14 : Int32)) (b := w16v) li14 w16g (by omega) (by omega)
    refine zs_iadd (pc := 9) t273_9 (c := w17v) w17e ?_
    refine zs_iconst (pc := 10) t273_10 (v := 1) (by decide) ?_
    obtain ⟨w18v, w18e, w18⟩ := ziadd (a := w17v) (b := (1 : Int32)) w17 li1 (by omega) (by omega)
    refine zs_iadd (pc := 11) t273_11 (c := w18v) w18e ?_
    obtain ⟨w19n, w19⟩ : ∃ n : Nat, (zI M 337 (30 + 4 * w10n)).toInt = (n : Int) := ⟨((zI M 337 (30 + 4 * w10n)).toInt).toNat, by omega⟩
    have w20 := zrg (zI M 337 (15 + 2 * w19n))
    have w21 : (zI M 337 (15 + 2 * w19n)).toInt = F (15 + 2 * w19n) := x0.at (by omega) (by omega) (by omega)
    have w22 := x1.2.1 w19n (by omega)
    refine zs_iald (pc := 12) t273_12 (j := (15 + 2 * w19n)) (by decide) (zk1 (hs.k fk_zMm_337)) (show w18v.toInt = (((15 + 2 * w19n) : Nat) : Int) by omega) (zk2 (hs.k fk_zMm_337) (by omega)) rfl ?_
    refine zs_iconst (pc := 13) t273_13 (v := 1) (by decide) ?_
    by_cases w23 : (zI M 337 (15 + 2 * w19n)).toInt ≠ 1
    · refine zs_icmp_neT (pc := 14) t273_14 rfl li1 (by omega) ?_
      refine zs_iconst (pc := 21) t273_21 (v := 0) (by decide) ?_
      refine zs_iret (pc := 22) t273_22 mr273 (by decide) ?_
      show zGo X l 1 0 0 271 17 [(3, .int (zI M 337 (30 + 4 * w10n))), (0, .ref 336), (1, .int a), (2, .int b)] [.int (0 : Int32)] M _
      refine zs_if_eqT (pc := 17) t271_17 li0 (by decide) ?_
      refine zs_iconst (pc := 53) t271_53 (v := 0) (by decide) ?_
      exact zs_iret (pc := 54) t271_54 mr271 (by decide) (hQ _ (fun h h1 h2 => by obtain rfl : w10n = h := (by omega); exact Or.inr ⟨by decide, by first | exact Or.inr (by omega) | exact Or.inl (zctb.n (l := w19n) (by omega) (by omega))⟩) (by decide) (by decide))
    · refine zs_icmp_neF (pc := 14) t273_14 rfl li1 (by omega) ?_
      refine zs_iconst (pc := 17) t273_17 (v := 1) (by decide) ?_
      refine zs_goto (pc := 18) t273_18 ?_
      refine zs_iret (pc := 22) t273_22 mr273 (by decide) ?_
      show zGo X l 1 0 0 271 17 [(3, .int (zI M 337 (30 + 4 * w10n))), (0, .ref 336), (1, .int a), (2, .int b)] [.int (1 : Int32)] M _
      refine zs_if_eqF (pc := 17) t271_17 li1 (by decide) ?_
      refine zs_aload_n (pc := 20) t271_20 rfl ?_
      refine zs_iload_n (pc := 21) t271_21 rfl ?_
      refine zs_iconst (pc := 22) t271_22 (v := 2) (by decide) ?_
      refine zs_invV (pc := 23) (k := 336) (as' := [.int a, .int (2 : Int32)]) (st := []) t271_23 mf272 rfl rfl (Or.inl ⟨by decide, (zk1 (hs.k fk_zMm_336))⟩) ⟨by decide, by decide, Nat.le_of_ble_eq_true rfl, Nat.le_of_ble_eq_true rfl⟩ (zs_in (by decide) mf272 (Nat.le_of_ble_eq_true rfl) ?_) (fun _ _ q => q)
      show zGo X l 0 0 0 272 0 [(0, .ref 336), (1, .int a), (2, .int (2 : Int32))] [] M _
      refine zs_aload_n (pc := 0) t272_0 rfl ?_
      refine zs_get (pc := 1) t272_1 (by decide) (zk1 (hs.k fk_zMm_336)) (hs.p rfl fv_zMm_336_0) ?_
      refine zs_bipush (pc := 4) t272_4 (v := 30) (by decide) ?_
      refine zs_iconst (pc := 6) t272_6 (v := 4) (by decide) ?_
      refine zs_iload_n (pc := 7) t272_7 rfl ?_
      obtain ⟨w24v, w24⟩ : ∃ v, (4 : Int32) * a = v := ⟨_, rfl⟩
      have w24g : w24v.toInt = 4 * a.toInt := by rw [← w24]; exact zmulc li4 rfl (by omega) (by omega)
      refine zs_imul (pc := 8) t272_8 (c := w24v) w24 ?_
      obtain ⟨w25v, w25e, w25⟩ := ziadd (a := (30 : Int32)) (b := w24v) li30 w24g (by omega) (by omega)
      refine zs_iadd (pc := 9) t272_9 (c := w25v) w25e ?_
      refine zs_iload_n (pc := 10) t272_10 rfl ?_
      obtain ⟨w26v, w26e, w26⟩ := ziadd (a := w25v) (b := (2 : Int32)) w25 li2 (by omega) (by omega)
      refine zs_iadd (pc := 11) t272_11 (c := w26v) w26e ?_
      have w27 := zrg (zI M 337 (32 + 4 * w10n))
      have w28 : (zI M 337 (32 + 4 * w10n)).toInt = F (32 + 4 * w10n) := x0.at (by omega) (by omega) (by omega)
      have w29 := x1.2.2.1 w10n (by omega)
      refine zs_iald (pc := 12) t272_12 (j := (32 + 4 * w10n)) (by decide) (zk1 (hs.k fk_zMm_337)) (show w26v.toInt = (((32 + 4 * w10n) : Nat) : Int) by omega) (zk2 (hs.k fk_zMm_337) (by omega)) rfl ?_
      refine zs_iret (pc := 13) t272_13 mr272 rfl ?_
      show zGo X l 1 0 0 271 26 [(3, .int (zI M 337 (30 + 4 * w10n))), (0, .ref 336), (1, .int a), (2, .int b)] [.int (zI M 337 (32 + 4 * w10n))] M _
      refine zs_i2l (pc := 26) t271_26 rfl ?_
      refine zs_aload_n (pc := 27) t271_27 rfl ?_
      refine zs_get (pc := 28) t271_28 (by decide) (zk1 (hs.k fk_zMm_336)) (hs.p rfl fv_zMm_336_0) ?_
      refine zs_bipush (pc := 31) t271_31 (v := 10) (by decide) ?_
      have w30 := ibA10 hI
      have w31 : (zI M 337 10).toInt = F 10 := x0.at (by decide) (by decide) (by decide)
      refine zs_iald (pc := 33) t271_33 (j := 10) (by decide) (zk1 (hs.k fk_zMm_337)) li10 (zk2 (hs.k fk_zMm_337) (by decide)) rfl ?_
      refine zs_i2l (pc := 34) t271_34 rfl ?_
      refine zs_aload_n (pc := 35) t271_35 rfl ?_
      refine zs_get (pc := 36) t271_36 (by decide) (zk1 (hs.k fk_zMm_336)) (hs.p rfl fv_zMm_336_0) ?_
      refine zs_bipush (pc := 39) t271_39 (v := 11) (by decide) ?_
      have w32 := ibA11 hI
      have w33 : (zI M 337 11).toInt = F 11 := x0.at (by decide) (by decide) (by decide)
      refine zs_iald (pc := 41) t271_41 (j := 11) (by decide) (zk1 (hs.k fk_zMm_337)) li11 (zk2 (hs.k fk_zMm_337) (by decide)) rfl ?_
      refine zs_i2l (pc := 42) t271_42 rfl ?_
      by_cases w34 : (zI M 337 10).toInt ≤ (zI M 337 (32 + 4 * w10n)).toInt ∧ (zI M 337 (32 + 4 * w10n)).toInt ≤ (zI M 337 11).toInt
      · refine zs_invS (pc := 43) (as := [.long (zI M 337 (32 + 4 * w10n)).toInt64, .long (zI M 337 10).toInt64, .long (zI M 337 11).toInt64]) (st := []) t271_43 (by decide) mf228 rfl rfl ⟨by decide, by decide, Nat.le_of_ble_eq_true rfl, Nat.le_of_ble_eq_true rfl⟩ (K228T (zi2l rfl) (zi2l rfl) (zi2l rfl) (by omega) ?_) (fun _ _ q => q)
        show zGo X l 1 0 0 271 46 [(3, .int (zI M 337 (30 + 4 * w10n))), (0, .ref 336), (1, .int a), (2, .int b)] [.int (1 : Int32)] M _
        refine zs_if_eqF (pc := 46) t271_46 li1 (by decide) ?_
        refine zs_iconst (pc := 49) t271_49 (v := 1) (by decide) ?_
        refine zs_goto (pc := 50) t271_50 ?_
        exact zs_iret (pc := 54) t271_54 mr271 (by decide) (hQ _ (fun h h1 h2 => by obtain rfl : w10n = h := (by omega); exact Or.inl ⟨by decide, zctb.y (l := w19n) (by omega) (by omega) (by omega) (by omega), by omega⟩) (by decide) (by decide))
      · refine zs_invS (pc := 43) (as := [.long (zI M 337 (32 + 4 * w10n)).toInt64, .long (zI M 337 10).toInt64, .long (zI M 337 11).toInt64]) (st := []) t271_43 (by decide) mf228 rfl rfl ⟨by decide, by decide, Nat.le_of_ble_eq_true rfl, Nat.le_of_ble_eq_true rfl⟩ (K228F (zi2l rfl) (zi2l rfl) (zi2l rfl) (by omega) ?_) (fun _ _ q => q)
        show zGo X l 1 0 0 271 46 [(3, .int (zI M 337 (30 + 4 * w10n))), (0, .ref 336), (1, .int a), (2, .int b)] [.int (0 : Int32)] M _
        refine zs_if_eqT (pc := 46) t271_46 li0 (by decide) ?_
        refine zs_iconst (pc := 53) t271_53 (v := 0) (by decide) ?_
        exact zs_iret (pc := 54) t271_54 mr271 (by decide) (hQ _ (fun h h1 h2 => by obtain rfl : w10n = h := (by omega); exact Or.inr ⟨by decide, by first | exact Or.inr (by omega) | exact Or.inl (zctb.n (l := w19n) (by omega) (by omega))⟩) (by decide) (by decide))
theorem R290n {X : zX} {l : Launch} {M : zM} {Q : Option Value → zM → Prop} (hs : zSk zMm M) (hI : zIv mLo mHi M) {F : Nat → Int} (x0 : zRw M 0 F) (x1 : zWF F) (hQ : ∀ v : Int32, (v.toInt = pct (zctb F) (F 1).toNat) → Q (some (.int v)) M) : zCall X l 2 0 0 290 [.ref 336, .int (-1 : Int32)] M Q := by
  refine zs_in (by decide) mf290 (Nat.le_of_ble_eq_true rfl) ?_
  show zGo X l 2 0 0 290 0 [(0, .ref 336), (1, .int (-1 : Int32))] [] M _
  have f1 := x1.1
  have f3 := x1.2.2.2
  have w1 := ibA0 hI
  have w2 : (zI M 337 0).toInt = (zI M 337 0).toInt := (congrArg Int32.toInt rfl).trans rfl
  have e0 : (zI M 337 0).toInt = F 0 := x0.at (by decide) (by decide) (by decide)
  have w3 := ibA1 hI
  have w4 : (zI M 337 1).toInt = (zI M 337 1).toInt := (congrArg Int32.toInt rfl).trans rfl
  have e1 : (zI M 337 1).toInt = F 1 := x0.at (by decide) (by decide) (by decide)
  have w5 := ibA2 hI
  have w6 : (zI M 337 2).toInt = (zI M 337 2).toInt := (congrArg Int32.toInt rfl).trans rfl
  have e2 : (zI M 337 2).toInt = F 2 := x0.at (by decide) (by decide) (by decide)
  refine zs_iconst (pc := 0) t290_0 (v := 0) (by decide) ?_
  refine zs_istore_n (pc := 1) t290_1 (ls' := [(2, .int (0 : Int32)), (0, .ref 336), (1, .int (-1 : Int32))]) (zml mf290 (by decide)) rfl ?_
  refine zs_iconst (pc := 2) t290_2 (v := 0) (by decide) ?_
  refine zs_istore_n (pc := 3) t290_3 (ls' := [(3, .int (0 : Int32)), (2, .int (0 : Int32)), (0, .ref 336), (1, .int (-1 : Int32))]) (zml mf290 (by decide)) rfl ?_
  have w7L : ∀ (m : Nat) (w7x2 : Int32) (w7x3 : Int32), (0 ≤ w7x2.toInt ∧ w7x2.toInt ≤ 60) → (0 ≤ w7x3.toInt ∧ w7x3.toInt ≤ 60) → (w7x2.toInt ≤ w7x3.toInt) → (w7x3.toInt ≤ F 1) → (∀ k : Nat, (k : Int) = w7x3.toInt → w7x2.toInt = pct (zctb F) k) → 60 - w7x3.toInt ≤ (m : Int) → zGo X l 2 0 0 290 4 [(0, .ref 336), (1, .int (-1 : Int32)), (2, .int w7x2), (3, .int w7x3)] [] M Q := by
    intro m
    induction m using Nat.strongRecOn with
    | ind w7m w7ih =>
      intro w7x2 w7x3 w7b2 w7b3 w7r0 w7r1 w7t0 w7q
      refine zs_iload_n (pc := 4) t290_4 rfl ?_
      refine zs_aload_n (pc := 5) t290_5 rfl ?_
      refine zs_get (pc := 6) t290_6 (by decide) (zk1 (hs.k fk_zMm_336)) (hs.p rfl fv_zMm_336_0) ?_
      refine zs_iconst (pc := 9) t290_9 (v := 1) (by decide) ?_
      have w8 : (zI M 337 1).toInt = F 1 := x0.at (by decide) (by decide) (by decide)
      refine zs_iald (pc := 10) t290_10 (j := 1) (by decide) (zk1 (hs.k fk_zMm_337)) li1 (zk2 (hs.k fk_zMm_337) (by decide)) rfl ?_
      by_cases w9 : (zI M 337 1).toInt ≤ w7x3.toInt
      · refine zs_icmp_geT (pc := 11) t290_11 rfl rfl (by omega) ?_
        refine zs_iload_n (pc := 52) t290_52 rfl ?_
        exact zs_iret (pc := 53) t290_53 mr290 rfl (hQ _ (by have q := w7t0 (F 1).toNat (by omega); omega))
      · refine zs_icmp_geF (pc := 11) t290_11 rfl rfl (by omega) ?_
        refine zs_iload_n (pc := 14) t290_14 rfl ?_
        refine zs_aload_n (pc := 15) t290_15 rfl ?_
        refine zs_iload_n (pc := 16) t290_16 rfl ?_
        refine zs_iconst (pc := 17) t290_17 (v := -1) (by decide) ?_
        have w10 : (-1 : Int32).toInt = (-1) := lin1
        have w11 : (zI M 337 1).toInt = (zI M 337 1).toInt := (congrArg Int32.toInt rfl).trans rfl
        refine zs_invV (pc := 18) (k := 336) (as' := [.int w7x3, .int (-1 : Int32)]) (st := [.int w7x2]) t290_18 mf271 rfl rfl (Or.inl ⟨by decide, (zk1 (hs.k fk_zMm_336))⟩) ⟨by decide, by decide, Nat.le_of_ble_eq_true rfl, Nat.le_of_ble_eq_true rfl⟩ (R271 hs hI ⟨by omega, by omega⟩ (by omega) x0 x1 ?_) (fun _ _ q => q)
        intro w12v w12x0 w12a w12b
        show zGo X l 2 0 0 290 21 [(0, .ref 336), (1, .int (-1 : Int32)), (2, .int w7x2), (3, .int w7x3)] [.int w12v, .int w7x2] M _
        by_cases w13 : w12v.toInt = 0
        · refine zs_if_eqT (pc := 21) t290_21 rfl (by omega) ?_
          refine zs_iconst (pc := 43) t290_43 (v := 0) (by decide) ?_
          obtain ⟨w14v, w14e, w14⟩ := ziadd (a := w7x2) (b := (0 : Int32)) rfl li0 (by omega) (by omega)
          refine zs_iadd (pc := 44) t290_44 (c := w14v) w14e ?_
          refine zs_istore_n (pc := 45) t290_45 (ls' := [(2, .int w14v), (0, .ref 336), (1, .int (-1 : Int32)), (3, .int w7x3)]) (zml mf290 (by decide)) rfl ?_
          obtain ⟨w15v, w15e, w15⟩ := ziadd (a := w7x3) (b := Int32.ofInt 1) rfl (show (Int32.ofInt 1).toInt = 1 by decide) (by omega) (by omega)
          refine zs_iinc (pc := 46) t290_46 (ls' := [(3, .int w15v), (2, .int w14v), (0, .ref 336), (1, .int (-1 : Int32))]) (zml mf290 (by decide)) rfl (c := w15v) w15e rfl ?_
          refine zs_goto (pc := 49) t290_49 ?_
          refine zGo.locals (ls' := [(0, .ref 336), (1, .int (-1 : Int32)), (2, .int w14v), (3, .int w15v)]) (by simp) ?_
          have w16 := w14
          have w17 := w15
          obtain ⟨w18n, w18⟩ : ∃ n : Nat, w7x3.toInt = (n : Int) := ⟨(w7x3.toInt).toNat, by omega⟩
          have w19 : w14v.toInt = (w7x2.toInt + 0) := w14
          exact w7ih (w7m - 1) (by omega) w14v w15v ⟨by omega, by omega⟩ ⟨by omega, by omega⟩ (by omega) (by omega) (fun k hk => by obtain rfl : k = w18n + 1 := (by omega); have hw := x1.2.2.1 w18n (by omega); rcases (w12x0 w18n (by omega) (by omega)) with ⟨q1, q2, q3⟩ | ⟨q1, q2⟩ <;> first | exact absurd q1 (by omega) | exact pct.up (n := w18n) (fun k hk => w7t0 k (by omega)) q2 (by omega) rfl | exact pct.no (n := w18n) (fun k hk => w7t0 k (by omega)) (q2.resolve_right (by omega)) (by omega) rfl) (by omega)
        · refine zs_if_eqF (pc := 21) t290_21 rfl (by omega) ?_
          refine zs_iload_n (pc := 24) t290_24 rfl ?_
          refine zs_iconst (pc := 25) t290_25 (v := -1) (by decide) ?_
          refine zs_icmp_eqT (pc := 26) t290_26 lin1 lin1 (by decide) ?_
          refine zs_iconst (pc := 39) t290_39 (v := 1) (by decide) ?_
          refine zs_goto (pc := 40) t290_40 ?_
          obtain ⟨w20v, w20e, w20⟩ := ziadd (a := w7x2) (b := (1 : Int32)) rfl li1 (by omega) (by omega)
          refine zs_iadd (pc := 44) t290_44 (c := w20v) w20e ?_
          refine zs_istore_n (pc := 45) t290_45 (ls' := [(2, .int w20v), (0, .ref 336), (1, .int (-1 : Int32)), (3, .int w7x3)]) (zml mf290 (by decide)) rfl ?_
          obtain ⟨w21v, w21e, w21⟩ := ziadd (a := w7x3) (b := Int32.ofInt 1) rfl (show (Int32.ofInt 1).toInt = 1 by decide) (by omega) (by omega)
          refine zs_iinc (pc := 46) t290_46 (ls' := [(3, .int w21v), (2, .int w20v), (0, .ref 336), (1, .int (-1 : Int32))]) (zml mf290 (by decide)) rfl (c := w21v) w21e rfl ?_
          refine zs_goto (pc := 49) t290_49 ?_
          refine zGo.locals (ls' := [(0, .ref 336), (1, .int (-1 : Int32)), (2, .int w20v), (3, .int w21v)]) (by simp) ?_
          have w22 := w20
          have w23 := w21
          obtain ⟨w24n, w24⟩ : ∃ n : Nat, w7x3.toInt = (n : Int) := ⟨(w7x3.toInt).toNat, by omega⟩
          have w25 : w20v.toInt = (w7x2.toInt + 1) := w20
          exact w7ih (w7m - 1) (by omega) w20v w21v ⟨by omega, by omega⟩ ⟨by omega, by omega⟩ (by omega) (by omega) (fun k hk => by obtain rfl : k = w24n + 1 := (by omega); have hw := x1.2.2.1 w24n (by omega); rcases (w12x0 w24n (by omega) (by omega)) with ⟨q1, q2, q3⟩ | ⟨q1, q2⟩ <;> first | exact absurd q1 (by omega) | exact pct.up (n := w24n) (fun k hk => w7t0 k (by omega)) q2 (by omega) rfl | exact pct.no (n := w24n) (fun k hk => w7t0 k (by omega)) (q2.resolve_right (by omega)) (by omega) rfl) (by omega)
  refine zGo.locals (ls' := [(0, .ref 336), (1, .int (-1 : Int32)), (2, .int (0 : Int32)), (3, .int (0 : Int32))]) (by simp) ?_
  have w26 := li0
  have w27 := li0
  exact w7L ((60 - 0 : Int).toNat) (0 : Int32) (0 : Int32) ⟨by decide, by decide⟩ ⟨by decide, by decide⟩ (by omega) (by omega) (fun k hk => by obtain rfl : k = 0 := (by omega); rfl) (by omega)
