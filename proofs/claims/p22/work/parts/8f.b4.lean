set_option maxHeartbeats 8000000 in
theorem P204 {X : zX} {l : Launch} {M : zM} {Q : Option Value → zM → Prop} {a b : Int32} (hs : zSk zMc M) (hI : zIv cLo cHi M) {F : Nat → Int} (u0 : (zI M 166 10).toInt ≤ 1600000000) (u1 : 0 ≤ (zI M 166 10).toInt) (u2 : (zI M 242 10).toInt ≤ 1600000000) (u3 : 0 ≤ (zI M 242 10).toInt) (x0 : zSo M 7 F) (x1 : zWF F) (x2 : zKnA M F) (x3 : zSp M 166 174) (x4 : zSp M 242 250) (hQ : ∀ (M' : zM) (v : Int32), zSk zMc M' → zIv cLo cHi M' → zFr [(164, 165, none), (166, 178, none), (180, 180, none), (181, 240, none), (317, 324, none)] M M' → ((zI M' 166 10).toInt ≤ (zI M 166 10).toInt + 20000) → ((zI M 166 10).toInt ≤ (zI M' 166 10).toInt) → ((zI M' 242 10).toInt ≤ (zI M 242 10).toInt + 20000) → ((zI M 242 10).toInt ≤ (zI M' 242 10).toInt) → (zKnA M' F) → (zSp M' 166 174) → (zSp M' 242 250) → Q (some (.int v)) M') : zCall X l 6 0 0 204 [.ref 6, .int a, .int b] M Q := by
  have ga := zrg a
  have gb := zrg b
  refine zs_in (by decide) mf204 (Nat.le_of_ble_eq_true rfl) ?_
  show zGo X l 6 0 0 204 0 [(0, .ref 6), (1, .int a), (2, .int b)] [] M _
  have f0 := x0.1
  have w1 := ib7_0 hI
  have w2 : (zI M 7 0).toInt = (zI M 7 0).toInt := (congrArg Int32.toInt rfl).trans rfl
  have w3 := ib7_3 hI
  have w4 : (zI M 7 3).toInt = (zI M 7 3).toInt := (congrArg Int32.toInt rfl).trans rfl
  have w5 := ib7_8 hI
  have w6 : (zI M 7 8).toInt = (zI M 7 8).toInt := (congrArg Int32.toInt rfl).trans rfl
  have f1 := x1.1
  have f3 := x1.2.2.2
  have f2 := (show (zI M 7 0).toInt = F 0 ∧ (zI M 7 3).toInt = F 1 ∧ (zI M 7 8).toInt = F 2 from ⟨x0.1.1, x0.1.2.1, x0.1.2.2.1⟩)
  refine zs_aload_n (pc := 0) t204_0 rfl ?_
  refine zs_get (pc := 1) t204_1 (by decide) (zk1 (hs.k fk_zMc_6)) (hs.p rfl fv_zMc_6_6) ?_
  refine zs_aload_n (pc := 4) t204_4 rfl ?_
  refine zs_get (pc := 5) t204_5 (by decide) (zk1 (hs.k fk_zMc_6)) (hs.p rfl fv_zMc_6_0) ?_
  have w7 := zrg (zI M 166 10)
  have w8 : (zI M 166 10).toInt = (zI M 166 10).toInt := (congrArg Int32.toInt rfl).trans rfl
  have w9 : (zI M 166 10).toInt = (zI M 166 10).toInt := (congrArg Int32.toInt rfl).trans rfl
  refine zs_invV (pc := 8) (k := 164) (as' := [.ref 7]) (st := []) t204_8 mf105 rfl rfl (Or.inl ⟨by decide, (zk1 (hs.k fk_zMc_164))⟩) ⟨by decide, by decide, Nat.le_of_ble_eq_true rfl, Nat.le_of_ble_eq_true rfl⟩ (V105 hs hI (by omega) (by omega) x0 x1 x2 x3 ?_) (fun _ _ q => q)
  intro w10M w10s w10I w10F w10t0 w10t1 w10x0 w10x1 w10x2
  have w11 := zrg (zI w10M 166 10)
  show zGo X l 6 0 0 204 11 [(0, .ref 6), (1, .int a), (2, .int b)] [.ref 164] w10M _
  refine zs_iload_n (pc := 11) t204_11 rfl ?_
  refine zs_invV (pc := 12) (k := 164) (as' := [.int a]) (st := []) t204_12 mf163 rfl rfl (Or.inl ⟨by decide, (zk1 (w10s.k fk_zMc_164))⟩) ⟨by decide, by decide, Nat.le_of_ble_eq_true rfl, Nat.le_of_ble_eq_true rfl⟩ (zs_in (by decide) mf163 (Nat.le_of_ble_eq_true rfl) ?_) (fun _ _ q => q)
  show zGo X l 1 0 0 163 0 [(0, .ref 164), (1, .int a)] [] w10M _
  refine zs_iload_n (pc := 0) t163_0 rfl ?_
  refine zs_aload_n (pc := 1) t163_1 rfl ?_
  have w12 := ib164_4 w10I
  refine zs_get (pc := 2) t163_2 (by decide) (zk1 (w10s.k fk_zMc_164)) (zfvi rfl rfl) ?_
  by_cases w13 : (zI w10M 164 4).toInt ≤ a.toInt
  · refine zs_icmp_geT (pc := 5) t163_5 rfl rfl (by omega) ?_
    refine zs_aconst_null (pc := 19) t163_19 ?_
    refine zs_aret0 (pc := 20) t163_20 (by rw [mr163]; rfl) ?_
    show zGo X l 6 0 0 204 15 [(0, .ref 6), (1, .int a), (2, .int b)] [.null] w10M _
    refine zs_astore_n0 (pc := 15) t204_15 (ls' := [(3, .null), (0, .ref 6), (1, .int a), (2, .int b)]) (zml mf204 (by decide)) rfl ?_
    refine zs_aload_n0 (pc := 16) t204_16 rfl ?_
    refine zs_ifnullT (pc := 17) t204_17 ?_
    refine zs_iconst (pc := 31) t204_31 (v := -1) (by decide) ?_
    have w14 : (zI w10M 166 10).toInt = (zI w10M 166 10).toInt := (congrArg Int32.toInt rfl).trans rfl
    have w15 := zrg (zI M 242 10)
    have w16 : (zI w10M 242 10).toInt = (zI M 242 10).toInt := (congrArg Int32.toInt ((w10F 242 10 rfl).trans rfl)).trans rfl
    have w17 := lin1
    exact zs_iret (pc := 32) t204_32 mr204 (by decide) (hQ _ _ w10s w10I ((zFr.refl).trans (w10F.mono rfl)) (by omega) (by omega) (by omega) (by omega) (fun _ => w10x0) w10x1 (zSp.fr x4 (fun j => (w10F 250 j rfl)) (w10F 242 10 rfl)))
  · refine zs_icmp_geF (pc := 5) t163_5 rfl rfl (by omega) ?_
    refine zs_aload_n (pc := 8) t163_8 rfl ?_
    refine zs_get (pc := 9) t163_9 (by decide) (zk1 (w10s.k fk_zMc_164)) (w10s.p rfl fv_zMc_164_1) ?_
    refine zs_iload_n (pc := 12) t163_12 rfl ?_
    refine zs_invV (pc := 13) (k := 165) (as' := [.int a]) (st := []) t163_13 mf126 rfl rfl (Or.inl ⟨by decide, (zk1 (w10s.k fk_zMc_165))⟩) ⟨by decide, by decide, Nat.le_of_ble_eq_true rfl, Nat.le_of_ble_eq_true rfl⟩ (zs_in (by decide) mf126 (Nat.le_of_ble_eq_true rfl) ?_) (fun _ _ q => q)
    show zGo X l 0 0 0 126 0 [(0, .ref 165), (1, .int a)] [] w10M _
    refine zs_iload_n (pc := 0) t126_0 rfl ?_
    by_cases w18 : a.toInt < 0
    · refine zs_if_ltT (pc := 1) t126_1 rfl (by omega) ?_
      refine zs_aconst_null (pc := 21) t126_21 ?_
      refine zs_aret0 (pc := 22) t126_22 (by rw [mr126]; rfl) ?_
      show zGo X l 1 0 0 163 16 [(0, .ref 164), (1, .int a)] [.null] w10M _
      refine zs_goto (pc := 16) t163_16 ?_
      refine zs_aret0 (pc := 20) t163_20 (by rw [mr163]; rfl) ?_
      show zGo X l 6 0 0 204 15 [(0, .ref 6), (1, .int a), (2, .int b)] [.null] w10M _
      refine zs_astore_n0 (pc := 15) t204_15 (ls' := [(3, .null), (0, .ref 6), (1, .int a), (2, .int b)]) (zml mf204 (by decide)) rfl ?_
      refine zs_aload_n0 (pc := 16) t204_16 rfl ?_
      refine zs_ifnullT (pc := 17) t204_17 ?_
      refine zs_iconst (pc := 31) t204_31 (v := -1) (by decide) ?_
      have w19 : (zI w10M 166 10).toInt = (zI w10M 166 10).toInt := (congrArg Int32.toInt rfl).trans rfl
      have w20 : (zI w10M 242 10).toInt = (zI M 242 10).toInt := (congrArg Int32.toInt ((w10F 242 10 rfl).trans rfl)).trans rfl
      have w21 := lin1
      exact zs_iret (pc := 32) t204_32 mr204 (by decide) (hQ _ _ w10s w10I ((zFr.refl).trans (w10F.mono rfl)) (by omega) (by omega) (by omega) (by omega) (fun _ => w10x0) w10x1 (zSp.fr x4 (fun j => (w10F 250 j rfl)) (w10F 242 10 rfl)))
    · refine zs_if_ltF (pc := 1) t126_1 rfl (by omega) ?_
      refine zs_iload_n (pc := 4) t126_4 rfl ?_
      refine zs_aload_n (pc := 5) t126_5 rfl ?_
      have w22 := ib165_2 w10I
      refine zs_get (pc := 6) t126_6 (by decide) (zk1 (w10s.k fk_zMc_165)) (zfvi rfl rfl) ?_
      by_cases w23 : (zI w10M 165 2).toInt ≤ a.toInt
      · refine zs_icmp_geT (pc := 9) t126_9 rfl rfl (by omega) ?_
        refine zs_aconst_null (pc := 21) t126_21 ?_
        refine zs_aret0 (pc := 22) t126_22 (by rw [mr126]; rfl) ?_
        show zGo X l 1 0 0 163 16 [(0, .ref 164), (1, .int a)] [.null] w10M _
        refine zs_goto (pc := 16) t163_16 ?_
        refine zs_aret0 (pc := 20) t163_20 (by rw [mr163]; rfl) ?_
        show zGo X l 6 0 0 204 15 [(0, .ref 6), (1, .int a), (2, .int b)] [.null] w10M _
        refine zs_astore_n0 (pc := 15) t204_15 (ls' := [(3, .null), (0, .ref 6), (1, .int a), (2, .int b)]) (zml mf204 (by decide)) rfl ?_
        refine zs_aload_n0 (pc := 16) t204_16 rfl ?_
        refine zs_ifnullT (pc := 17) t204_17 ?_
        refine zs_iconst (pc := 31) t204_31 (v := -1) (by decide) ?_
        have w24 : (zI w10M 166 10).toInt = (zI w10M 166 10).toInt := (congrArg Int32.toInt rfl).trans rfl
        have w25 : (zI w10M 242 10).toInt = (zI M 242 10).toInt := (congrArg Int32.toInt ((w10F 242 10 rfl).trans rfl)).trans rfl
        have w26 := lin1
        exact zs_iret (pc := 32) t204_32 mr204 (by decide) (hQ _ _ w10s w10I ((zFr.refl).trans (w10F.mono rfl)) (by omega) (by omega) (by omega) (by omega) (fun _ => w10x0) w10x1 (zSp.fr x4 (fun j => (w10F 250 j rfl)) (w10F 242 10 rfl)))
      · refine zs_icmp_geF (pc := 9) t126_9 rfl rfl (by omega) ?_
        refine zs_aload_n (pc := 12) t126_12 rfl ?_
        refine zs_get (pc := 13) t126_13 (by decide) (zk1 (w10s.k fk_zMc_165)) (w10s.p rfl fv_zMc_165_1) ?_
        refine zs_iload_n (pc := 16) t126_16 rfl ?_
        obtain ⟨w27n, w27⟩ : ∃ n : Nat, a.toInt = (n : Int) := ⟨(a.toInt).toNat, by omega⟩
        have w28 : w27n < 20 := by omega
        refine zs_aald (pc := 17) t126_17 (j := w27n) (Or.inr (zk1 (w10s.k fk_zMc_179))) (show a.toInt = ((w27n : Nat) : Int) by omega) (zk2 (w10s.k fk_zMc_179) (by omega)) (w10s.a (fpT181 w27n w28)) ?_
        refine zs_goto (pc := 18) t126_18 ?_
        refine zs_aret (pc := 22) t126_22 (by rw [mr126]; rfl) ?_
        show zGo X l 1 0 0 163 16 [(0, .ref 164), (1, .int a)] [.ref (181 + 3 * w27n)] w10M _
        refine zs_goto (pc := 16) t163_16 ?_
        refine zs_aret (pc := 20) t163_20 (by rw [mr163]; rfl) ?_
        show zGo X l 6 0 0 204 15 [(0, .ref 6), (1, .int a), (2, .int b)] [.ref (181 + 3 * w27n)] w10M _
        refine zs_astore_n (pc := 15) t204_15 (ls' := [(3, .ref (181 + 3 * w27n)), (0, .ref 6), (1, .int a), (2, .int b)]) (zml mf204 (by decide)) rfl ?_
        refine zs_aload_n (pc := 16) t204_16 rfl ?_
        refine zs_ifnullF (pc := 17) t204_17 ?_
        refine zs_aload_n (pc := 20) t204_20 rfl ?_
        refine zs_get (pc := 21) t204_21 (by decide) (zk1 (w10s.k fk_zMc_6)) (w10s.p rfl fv_zMc_6_0) ?_
        refine zs_iload_n (pc := 24) t204_24 rfl ?_
        refine zs_invV (pc := 25) (k := 7) (as' := [.int b]) (st := []) t204_25 mf41 rfl rfl (Or.inl ⟨by decide, (zk1 (w10s.k fk_zMc_7))⟩) ⟨by decide, by decide, Nat.le_of_ble_eq_true rfl, Nat.le_of_ble_eq_true rfl⟩ (zs_in (by decide) mf41 (Nat.le_of_ble_eq_true rfl) ?_) (fun _ _ q => q)
        show zGo X l 0 0 0 41 0 [(0, .ref 7), (1, .int b)] [] w10M _
        refine zs_iload_n (pc := 0) t41_0 rfl ?_
        by_cases w29 : b.toInt < 0
        · refine zs_if_ltT (pc := 1) t41_1 rfl (by omega) ?_
          refine zs_iconst (pc := 16) t41_16 (v := 0) (by decide) ?_
          refine zs_iret (pc := 17) t41_17 mr41 (by decide) ?_
          show zGo X l 6 0 0 204 28 [(3, .ref (181 + 3 * w27n)), (0, .ref 6), (1, .int a), (2, .int b)] [.int (0 : Int32)] w10M _
          refine zs_if_neF (pc := 28) t204_28 li0 (by decide) ?_
          refine zs_iconst (pc := 31) t204_31 (v := -1) (by decide) ?_
          have w30 : (zI w10M 166 10).toInt = (zI w10M 166 10).toInt := (congrArg Int32.toInt rfl).trans rfl
          have w31 : (zI w10M 242 10).toInt = (zI M 242 10).toInt := (congrArg Int32.toInt ((w10F 242 10 rfl).trans rfl)).trans rfl
          have w32 := lin1
          exact zs_iret (pc := 32) t204_32 mr204 (by decide) (hQ _ _ w10s w10I ((zFr.refl).trans (w10F.mono rfl)) (by omega) (by omega) (by omega) (by omega) (fun _ => w10x0) w10x1 (zSp.fr x4 (fun j => (w10F 250 j rfl)) (w10F 242 10 rfl)))
        · refine zs_if_ltF (pc := 1) t41_1 rfl (by omega) ?_
          refine zs_iload_n (pc := 4) t41_4 rfl ?_
          refine zs_aload_n (pc := 5) t41_5 rfl ?_
          refine zs_get (pc := 6) t41_6 (by decide) (zk1 (w10s.k fk_zMc_7)) (zfvi rfl ((w10F 7 0 rfl).trans rfl)) ?_
          by_cases w33 : (zI M 7 0).toInt ≤ b.toInt
          · refine zs_icmp_geT (pc := 9) t41_9 rfl rfl (by omega) ?_
            refine zs_iconst (pc := 16) t41_16 (v := 0) (by decide) ?_
            refine zs_iret (pc := 17) t41_17 mr41 (by decide) ?_
            show zGo X l 6 0 0 204 28 [(3, .ref (181 + 3 * w27n)), (0, .ref 6), (1, .int a), (2, .int b)] [.int (0 : Int32)] w10M _
            refine zs_if_neF (pc := 28) t204_28 li0 (by decide) ?_
            refine zs_iconst (pc := 31) t204_31 (v := -1) (by decide) ?_
            have w34 : (zI w10M 166 10).toInt = (zI w10M 166 10).toInt := (congrArg Int32.toInt rfl).trans rfl
            have w35 : (zI w10M 242 10).toInt = (zI M 242 10).toInt := (congrArg Int32.toInt ((w10F 242 10 rfl).trans rfl)).trans rfl
            have w36 := lin1
            exact zs_iret (pc := 32) t204_32 mr204 (by decide) (hQ _ _ w10s w10I ((zFr.refl).trans (w10F.mono rfl)) (by omega) (by omega) (by omega) (by omega) (fun _ => w10x0) w10x1 (zSp.fr x4 (fun j => (w10F 250 j rfl)) (w10F 242 10 rfl)))
          · refine zs_icmp_geF (pc := 9) t41_9 rfl rfl (by omega) ?_
            refine zs_iconst (pc := 12) t41_12 (v := 1) (by decide) ?_
            refine zs_goto (pc := 13) t41_13 ?_
            refine zs_iret (pc := 17) t41_17 mr41 (by decide) ?_
            show zGo X l 6 0 0 204 28 [(3, .ref (181 + 3 * w27n)), (0, .ref 6), (1, .int a), (2, .int b)] [.int (1 : Int32)] w10M _
            refine zs_if_neT (pc := 28) t204_28 li1 (by decide) ?_
            refine zs_aload_n (pc := 33) t204_33 rfl ?_
            refine zs_aload_n (pc := 34) t204_34 rfl ?_
            refine zs_get (pc := 35) t204_35 (by decide) (zk1 (w10s.k fk_zMc_6)) (w10s.p rfl fv_zMc_6_0) ?_
            refine zs_iload_n (pc := 38) t204_38 rfl ?_
            refine zs_invV (pc := 39) (k := (181 + 3 * w27n)) (as' := [.ref 7, .int b]) (st := []) t204_39 mf202 rfl rfl (Or.inl ⟨by decide, (zk1 (w10s.k (fT181_0 w27n w28)))⟩) ⟨by decide, by decide, Nat.le_of_ble_eq_true rfl, Nat.le_of_ble_eq_true rfl⟩ (zs_in (by decide) mf202 (Nat.le_of_ble_eq_true rfl) ?_) (fun _ _ q => q)
            show zGo X l 2 0 0 202 0 [(0, .ref (181 + 3 * w27n)), (1, .ref 7), (2, .int b)] [] w10M _
            refine zs_aload_n (pc := 0) t202_0 rfl ?_
            refine zs_iload_n (pc := 1) t202_1 rfl ?_
            refine zs_invV (pc := 2) (k := 7) (as' := [.int b]) (st := []) t202_2 mf41 rfl rfl (Or.inl ⟨by decide, (zk1 (w10s.k fk_zMc_7))⟩) ⟨by decide, by decide, Nat.le_of_ble_eq_true rfl, Nat.le_of_ble_eq_true rfl⟩ (zs_in (by decide) mf41 (Nat.le_of_ble_eq_true rfl) ?_) (fun _ _ q => q)
            show zGo X l 0 0 0 41 0 [(0, .ref 7), (1, .int b)] [] w10M _
            refine zs_iload_n (pc := 0) t41_0 rfl ?_
            refine zs_if_ltF (pc := 1) t41_1 rfl (by omega) ?_
            refine zs_iload_n (pc := 4) t41_4 rfl ?_
            refine zs_aload_n (pc := 5) t41_5 rfl ?_
            refine zs_get (pc := 6) t41_6 (by decide) (zk1 (w10s.k fk_zMc_7)) (zfvi rfl ((w10F 7 0 rfl).trans rfl)) ?_
            by_cases w37 : (zI M 7 0).toInt ≤ b.toInt
            · refine zs_icmp_geT (pc := 9) t41_9 rfl rfl (by omega) ?_
              refine zs_iconst (pc := 16) t41_16 (v := 0) (by decide) ?_
              refine zs_iret (pc := 17) t41_17 mr41 (by decide) ?_
              show zGo X l 2 0 0 202 5 [(0, .ref (181 + 3 * w27n)), (1, .ref 7), (2, .int b)] [.int (0 : Int32)] w10M _
              refine zs_if_neF (pc := 5) t202_5 li0 (by decide) ?_
              refine zs_iconst (pc := 8) t202_8 (v := 0) (by decide) ?_
              refine zs_iret (pc := 9) t202_9 mr202 (by decide) ?_
              show zGo X l 6 0 0 204 42 [(3, .ref (181 + 3 * w27n)), (0, .ref 6), (1, .int a), (2, .int b)] [.int (0 : Int32)] w10M _
              refine zs_istore (pc := 42) t204_42 (ls' := [(4, .int (0 : Int32)), (3, .ref (181 + 3 * w27n)), (0, .ref 6), (1, .int a), (2, .int b)]) (zml mf204 (by decide)) rfl ?_
              refine zs_bipush (pc := 44) t204_44 (v := -2) (by decide) ?_
              refine zs_istore (pc := 46) t204_46 (ls' := [(5, .int (-2 : Int32)), (4, .int (0 : Int32)), (3, .ref (181 + 3 * w27n)), (0, .ref 6), (1, .int a), (2, .int b)]) (zml mf204 (by decide)) rfl ?_
              refine zs_iconst (pc := 48) t204_48 (v := 0) (by decide) ?_
              refine zs_istore (pc := 49) t204_49 (ls' := [(6, .int (0 : Int32)), (5, .int (-2 : Int32)), (4, .int (0 : Int32)), (3, .ref (181 + 3 * w27n)), (0, .ref 6), (1, .int a), (2, .int b)]) (zml mf204 (by decide)) rfl ?_
              refine zs_iconst (pc := 51) t204_51 (v := 0) (by decide) ?_
              refine zs_istore (pc := 52) t204_52 (ls' := [(7, .int (0 : Int32)), (6, .int (0 : Int32)), (5, .int (-2 : Int32)), (4, .int (0 : Int32)), (3, .ref (181 + 3 * w27n)), (0, .ref 6), (1, .int a), (2, .int b)]) (zml mf204 (by decide)) rfl ?_
              have w38L : ∀ (m : Nat) (w38x5 : Int32) (w38x6 : Int32) (w38x7 : Int32), (0 ≤ w38x7.toInt ∧ w38x7.toInt ≤ 60) → 60 - w38x7.toInt ≤ (m : Int) → zGo X l 6 0 0 204 54 [(0, .ref 6), (1, .int a), (2, .int b), (3, .ref (181 + 3 * w27n)), (4, .int (0 : Int32)), (5, .int w38x5), (6, .int w38x6), (7, .int w38x7)] [] w10M Q := by
                intro m
                induction m using Nat.strongRecOn with
                | ind w38m w38ih =>
                  intro w38x5 w38x6 w38x7 w38b7 w38q
                  have w38g5 := zrg w38x5
                  have w38g6 := zrg w38x6
                  refine zs_iload (pc := 54) t204_54 rfl ?_
                  refine zs_aload_n (pc := 56) t204_56 rfl ?_
                  refine zs_get (pc := 57) t204_57 (by decide) (zk1 (w10s.k fk_zMc_6)) (w10s.p rfl fv_zMc_6_0) ?_
                  refine zs_get (pc := 60) t204_60 (by decide) (zk1 (w10s.k fk_zMc_7)) (zfvi rfl ((w10F 7 3 rfl).trans rfl)) ?_
                  by_cases w39 : (zI M 7 3).toInt ≤ w38x7.toInt
                  · refine zs_icmp_geT (pc := 63) t204_63 rfl rfl (by omega) ?_
                    refine zs_iload (pc := 151) t204_151 rfl ?_
                    have w40 : (zI w10M 166 10).toInt = (zI w10M 166 10).toInt := (congrArg Int32.toInt rfl).trans rfl
                    have w41 : (zI w10M 242 10).toInt = (zI M 242 10).toInt := (congrArg Int32.toInt ((w10F 242 10 rfl).trans rfl)).trans rfl
                    exact zs_iret (pc := 153) t204_153 mr204 rfl (hQ _ _ w10s w10I ((zFr.refl).trans (w10F.mono rfl)) (by omega) (by omega) (by omega) (by omega) (fun _ => w10x0) w10x1 (zSp.fr x4 (fun j => (w10F 250 j rfl)) (w10F 242 10 rfl)))
                  · refine zs_icmp_geF (pc := 63) t204_63 rfl rfl (by omega) ?_
                    refine zs_aload_n (pc := 66) t204_66 rfl ?_
                    refine zs_get (pc := 67) t204_67 (by decide) (zk1 (w10s.k fk_zMc_6)) (w10s.p rfl fv_zMc_6_0) ?_
                    refine zs_get (pc := 70) t204_70 (by decide) (zk1 (w10s.k fk_zMc_7)) (w10s.p rfl fv_zMc_7_4) ?_
                    refine zs_iload (pc := 73) t204_73 rfl ?_
                    obtain ⟨w42n, w42⟩ : ∃ n : Nat, w38x7.toInt = (n : Int) := ⟨(w38x7.toInt).toNat, by omega⟩
                    have w43 := ib10 hI w42n
                    have w44 : (zI M 10 w42n).toInt = F (30 + 4 * w42n) ∧ (zI M 11 w42n).toInt = F (31 + 4 * w42n) ∧ (zI M 12 w42n).toInt = F (32 + 4 * w42n) ∧ (zI M 13 w42n).toInt = F (33 + 4 * w42n) := x0.2.2.1 w42n (by omega)
                    have w45 := x1.2.2.1 w42n (by omega)
                    refine zs_iald (pc := 75) t204_75 (j := w42n) (by decide) (zk1 (w10s.k fk_zMc_10)) (show w38x7.toInt = ((w42n : Nat) : Int) by omega) (zk2 (w10s.k fk_zMc_10) (by omega)) ((w10F 10 w42n rfl).trans rfl) ?_
                    refine zs_iload_n (pc := 76) t204_76 rfl ?_
                    by_cases w46 : (zI M 10 w42n).toInt ≠ b.toInt
                    · refine zs_icmp_neT (pc := 77) t204_77 rfl rfl (by omega) ?_
                      obtain ⟨w47v, w47e, w47⟩ := ziadd (a := w38x7) (b := Int32.ofInt 1) rfl (show (Int32.ofInt 1).toInt = 1 by decide) (by omega) (by omega)
                      refine zs_iinc (pc := 145) t204_145 (ls' := [(7, .int w47v), (0, .ref 6), (1, .int a), (2, .int b), (3, .ref (181 + 3 * w27n)), (4, .int (0 : Int32)), (5, .int w38x5), (6, .int w38x6)]) (zml mf204 (by decide)) rfl (c := w47v) w47e rfl ?_
                      refine zs_goto (pc := 148) t204_148 ?_
                      refine zGo.locals (ls' := [(0, .ref 6), (1, .int a), (2, .int b), (3, .ref (181 + 3 * w27n)), (4, .int (0 : Int32)), (5, .int w38x5), (6, .int w38x6), (7, .int w47v)]) (by simp) ?_
                      have w48 := w47
                      exact w38ih (w38m - 1) (by omega) w38x5 w38x6 w47v ⟨by omega, by omega⟩ (by omega)
                    · refine zs_icmp_neF (pc := 77) t204_77 rfl rfl (by omega) ?_
                      refine zs_aload_n (pc := 80) t204_80 rfl ?_
                      refine zs_get (pc := 81) t204_81 (by decide) (zk1 (w10s.k fk_zMc_6)) (w10s.p rfl fv_zMc_6_0) ?_
                      refine zs_iload (pc := 84) t204_84 rfl ?_
                      refine zs_invV (pc := 86) (k := 7) (as' := [.int w38x7]) (st := []) t204_86 mf93 rfl rfl (Or.inl ⟨by decide, (zk1 (w10s.k fk_zMc_7))⟩) ⟨by decide, by decide, Nat.le_of_ble_eq_true rfl, Nat.le_of_ble_eq_true rfl⟩ (X93_7 w10s w10I (zSo.fr x0 (zFr.eq w10F rfl)) x1 ?_) (fun _ _ q => q)
                      intro w49v w49x0 w49a w49b
                      show zGo X l 6 0 0 204 89 [(0, .ref 6), (1, .int a), (2, .int b), (3, .ref (181 + 3 * w27n)), (4, .int (0 : Int32)), (5, .int w38x5), (6, .int w38x6), (7, .int w38x7)] [.int w49v] w10M _
                      by_cases w50 : w49v.toInt = 0
                      · refine zs_if_eqT (pc := 89) t204_89 rfl (by omega) ?_
                        obtain ⟨w51v, w51e, w51⟩ := ziadd (a := w38x7) (b := Int32.ofInt 1) rfl (show (Int32.ofInt 1).toInt = 1 by decide) (by omega) (by omega)
                        refine zs_iinc (pc := 145) t204_145 (ls' := [(7, .int w51v), (0, .ref 6), (1, .int a), (2, .int b), (3, .ref (181 + 3 * w27n)), (4, .int (0 : Int32)), (5, .int w38x5), (6, .int w38x6)]) (zml mf204 (by decide)) rfl (c := w51v) w51e rfl ?_
                        refine zs_goto (pc := 148) t204_148 ?_
                        refine zGo.locals (ls' := [(0, .ref 6), (1, .int a), (2, .int b), (3, .ref (181 + 3 * w27n)), (4, .int (0 : Int32)), (5, .int w38x5), (6, .int w38x6), (7, .int w51v)]) (by simp) ?_
                        have w52 := w51
                        exact w38ih (w38m - 1) (by omega) w38x5 w38x6 w51v ⟨by omega, by omega⟩ (by omega)
                      · refine zs_if_eqF (pc := 89) t204_89 rfl (by omega) ?_
                        refine zs_aload_n (pc := 92) t204_92 rfl ?_
                        refine zs_get (pc := 93) t204_93 (by decide) (zk1 (w10s.k fk_zMc_6)) (w10s.p rfl fv_zMc_6_6) ?_
                        refine zs_iload (pc := 96) t204_96 rfl ?_
                        refine zs_invV (pc := 98) (k := 164) (as' := [.int w38x7]) (st := []) t204_98 mf142 rfl rfl (Or.inl ⟨by decide, (zk1 (w10s.k fk_zMc_164))⟩) ⟨by decide, by decide, Nat.le_of_ble_eq_true rfl, Nat.le_of_ble_eq_true rfl⟩ (zs_in (by decide) mf142 (Nat.le_of_ble_eq_true rfl) ?_) (fun _ _ q => q)
                        show zGo X l 0 0 0 142 0 [(0, .ref 164), (1, .int w38x7)] [] w10M _
                        refine zs_iload_n (pc := 0) t142_0 rfl ?_
                        refine zs_if_ltF (pc := 1) t142_1 rfl (by omega) ?_
                        refine zs_iload_n (pc := 4) t142_4 rfl ?_
                        refine zs_bipush (pc := 5) t142_5 (v := 60) (by decide) ?_
                        refine zs_icmp_geF (pc := 7) t142_7 rfl li60 (by omega) ?_
                        refine zs_aload_n (pc := 10) t142_10 rfl ?_
                        refine zs_get (pc := 11) t142_11 (by decide) (zk1 (w10s.k fk_zMc_164)) (w10s.p rfl fv_zMc_164_6) ?_
                        refine zs_iload_n (pc := 14) t142_14 rfl ?_
                        have w53 := zrg (zI w10M 317 w42n)
                        refine zs_iald (pc := 15) t142_15 (j := w42n) (by decide) (zk1 (w10s.k fk_zMc_317)) (show w38x7.toInt = ((w42n : Nat) : Int) by omega) (zk2 (w10s.k fk_zMc_317) (by omega)) rfl ?_
                        refine zs_goto (pc := 16) t142_16 ?_
                        refine zs_iret (pc := 21) t142_21 mr142 rfl ?_
                        show zGo X l 6 0 0 204 101 [(0, .ref 6), (1, .int a), (2, .int b), (3, .ref (181 + 3 * w27n)), (4, .int (0 : Int32)), (5, .int w38x5), (6, .int w38x6), (7, .int w38x7)] [.int (zI w10M 317 w42n)] w10M _
                        by_cases w54 : (zI w10M 317 w42n).toInt < 0
                        · refine zs_if_ltT (pc := 101) t204_101 rfl (by omega) ?_
                          refine zs_aload_n (pc := 107) t204_107 rfl ?_
                          refine zs_get (pc := 108) t204_108 (by decide) (zk1 (w10s.k fk_zMc_6)) (w10s.p rfl fv_zMc_6_0) ?_
                          refine zs_get (pc := 111) t204_111 (by decide) (zk1 (w10s.k fk_zMc_7)) (w10s.p rfl fv_zMc_7_5) ?_
                          refine zs_iload (pc := 114) t204_114 rfl ?_
                          have w55 := zrg (zI M 11 w42n)
                          have w56 : (zI M 10 w42n).toInt = F (30 + 4 * w42n) ∧ (zI M 11 w42n).toInt = F (31 + 4 * w42n) ∧ (zI M 12 w42n).toInt = F (32 + 4 * w42n) ∧ (zI M 13 w42n).toInt = F (33 + 4 * w42n) := x0.2.2.1 w42n (by omega)
                          have w57 := x1.2.2.1 w42n (by omega)
                          refine zs_iald (pc := 116) t204_116 (j := w42n) (by decide) (zk1 (w10s.k fk_zMc_11)) (show w38x7.toInt = ((w42n : Nat) : Int) by omega) (zk2 (w10s.k fk_zMc_11) (by omega)) ((w10F 11 w42n rfl).trans rfl) ?_
                          refine zs_iload (pc := 117) t204_117 rfl ?_
                          refine zs_isub (pc := 119) t204_119 (c := (zI M 11 w42n)) (zsub0 _) ?_
                          refine zs_invS (pc := 120) (as := [.int (zI M 11 w42n)]) (st := []) t204_120 (by decide) mf122 rfl rfl ⟨by decide, by decide, Nat.le_of_ble_eq_true rfl, Nat.le_of_ble_eq_true rfl⟩ (zs_in (by decide) mf122 (Nat.le_of_ble_eq_true rfl) ?_) (fun _ _ q => q)
                          show zGo X l 0 0 0 122 0 [(0, .int (zI M 11 w42n))] [] w10M _
                          refine zs_iload_n (pc := 0) t122_0 rfl ?_
                          by_cases w58 : 0 ≤ (zI M 11 w42n).toInt
                          · refine zs_if_geT (pc := 1) t122_1 rfl (by omega) ?_
                            refine zs_iload_n (pc := 9) t122_9 rfl ?_
                            refine zs_iret (pc := 10) t122_10 mr122 rfl ?_
                            show zGo X l 6 0 0 204 123 [(0, .ref 6), (1, .int a), (2, .int b), (3, .ref (181 + 3 * w27n)), (4, .int (0 : Int32)), (5, .int w38x5), (6, .int w38x6), (7, .int w38x7)] [.int (zI M 11 w42n)] w10M _
                            refine zs_istore (pc := 123) t204_123 (ls' := [(8, .int (zI M 11 w42n)), (0, .ref 6), (1, .int a), (2, .int b), (3, .ref (181 + 3 * w27n)), (4, .int (0 : Int32)), (5, .int w38x5), (6, .int w38x6), (7, .int w38x7)]) (zml mf204 (by decide)) rfl ?_
                            refine zs_iload (pc := 125) t204_125 rfl ?_
                            by_cases w59 : w38x5.toInt < 0
                            · refine zs_if_ltT (pc := 127) t204_127 rfl (by omega) ?_
                              refine zs_iload (pc := 137) t204_137 rfl ?_
                              refine zs_istore (pc := 139) t204_139 (ls' := [(5, .int w38x7), (8, .int (zI M 11 w42n)), (0, .ref 6), (1, .int a), (2, .int b), (3, .ref (181 + 3 * w27n)), (4, .int (0 : Int32)), (6, .int w38x6), (7, .int w38x7)]) (zml mf204 (by decide)) rfl ?_
                              refine zs_iload (pc := 141) t204_141 rfl ?_
                              refine zs_istore (pc := 143) t204_143 (ls' := [(6, .int (zI M 11 w42n)), (5, .int w38x7), (8, .int (zI M 11 w42n)), (0, .ref 6), (1, .int a), (2, .int b), (3, .ref (181 + 3 * w27n)), (4, .int (0 : Int32)), (7, .int w38x7)]) (zml mf204 (by decide)) rfl ?_
                              obtain ⟨w60v, w60e, w60⟩ := ziadd (a := w38x7) (b := Int32.ofInt 1) rfl (show (Int32.ofInt 1).toInt = 1 by decide) (by omega) (by omega)
                              refine zs_iinc (pc := 145) t204_145 (ls' := [(7, .int w60v), (6, .int (zI M 11 w42n)), (5, .int w38x7), (8, .int (zI M 11 w42n)), (0, .ref 6), (1, .int a), (2, .int b), (3, .ref (181 + 3 * w27n)), (4, .int (0 : Int32))]) (zml mf204 (by decide)) rfl (c := w60v) w60e rfl ?_
                              refine zs_goto (pc := 148) t204_148 ?_
                              refine zGo.locals (ls' := [(0, .ref 6), (1, .int a), (2, .int b), (3, .ref (181 + 3 * w27n)), (4, .int (0 : Int32)), (5, .int w38x7), (6, .int (zI M 11 w42n)), (7, .int w60v)]) (by simp) ?_
                              have w61 := w60
                              exact w38ih (w38m - 1) (by omega) w38x7 (zI M 11 w42n) w60v ⟨by omega, by omega⟩ (by omega)
                            · refine zs_if_ltF (pc := 127) t204_127 rfl (by omega) ?_
                              refine zs_iload (pc := 130) t204_130 rfl ?_
                              refine zs_iload (pc := 132) t204_132 rfl ?_
                              by_cases w62 : w38x6.toInt ≤ (zI M 11 w42n).toInt
                              · refine zs_icmp_geT (pc := 134) t204_134 rfl rfl (by omega) ?_
                                obtain ⟨w63v, w63e, w63⟩ := ziadd (a := w38x7) (b := Int32.ofInt 1) rfl (show (Int32.ofInt 1).toInt = 1 by decide) (by omega) (by omega)
                                refine zs_iinc (pc := 145) t204_145 (ls' := [(7, .int w63v), (8, .int (zI M 11 w42n)), (0, .ref 6), (1, .int a), (2, .int b), (3, .ref (181 + 3 * w27n)), (4, .int (0 : Int32)), (5, .int w38x5), (6, .int w38x6)]) (zml mf204 (by decide)) rfl (c := w63v) w63e rfl ?_
                                refine zs_goto (pc := 148) t204_148 ?_
                                refine zGo.locals (ls' := [(0, .ref 6), (1, .int a), (2, .int b), (3, .ref (181 + 3 * w27n)), (4, .int (0 : Int32)), (5, .int w38x5), (6, .int w38x6), (7, .int w63v)]) (by simp) ?_
                                have w64 := w63
                                exact w38ih (w38m - 1) (by omega) w38x5 w38x6 w63v ⟨by omega, by omega⟩ (by omega)
                              · refine zs_icmp_geF (pc := 134) t204_134 rfl rfl (by omega) ?_
                                refine zs_iload (pc := 137) t204_137 rfl ?_
                                refine zs_istore (pc := 139) t204_139 (ls' := [(5, .int w38x7), (8, .int (zI M 11 w42n)), (0, .ref 6), (1, .int a), (2, .int b), (3, .ref (181 + 3 * w27n)), (4, .int (0 : Int32)), (6, .int w38x6), (7, .int w38x7)]) (zml mf204 (by decide)) rfl ?_
                                refine zs_iload (pc := 141) t204_141 rfl ?_
                                refine zs_istore (pc := 143) t204_143 (ls' := [(6, .int (zI M 11 w42n)), (5, .int w38x7), (8, .int (zI M 11 w42n)), (0, .ref 6), (1, .int a), (2, .int b), (3, .ref (181 + 3 * w27n)), (4, .int (0 : Int32)), (7, .int w38x7)]) (zml mf204 (by decide)) rfl ?_
                                obtain ⟨w65v, w65e, w65⟩ := ziadd (a := w38x7) (b := Int32.ofInt 1) rfl (show (Int32.ofInt 1).toInt = 1 by decide) (by omega) (by omega)
                                refine zs_iinc (pc := 145) t204_145 (ls' := [(7, .int w65v), (6, .int (zI M 11 w42n)), (5, .int w38x7), (8, .int (zI M 11 w42n)), (0, .ref 6), (1, .int a), (2, .int b), (3, .ref (181 + 3 * w27n)), (4, .int (0 : Int32))]) (zml mf204 (by decide)) rfl (c := w65v) w65e rfl ?_
                                refine zs_goto (pc := 148) t204_148 ?_
                                refine zGo.locals (ls' := [(0, .ref 6), (1, .int a), (2, .int b), (3, .ref (181 + 3 * w27n)), (4, .int (0 : Int32)), (5, .int w38x7), (6, .int (zI M 11 w42n)), (7, .int w65v)]) (by simp) ?_
                                have w66 := w65
                                exact w38ih (w38m - 1) (by omega) w38x7 (zI M 11 w42n) w65v ⟨by omega, by omega⟩ (by omega)
                          · refine zs_if_geF (pc := 1) t122_1 rfl (by omega) ?_
                            refine zs_iload_n (pc := 4) t122_4 rfl ?_
                            obtain ⟨w67v, w67e⟩ : ∃ v, -(zI M 11 w42n) = v := ⟨_, rfl⟩
                            have w67 : w67v.toInt = -(zI M 11 w42n).toInt := by rw [← w67e]; exact zneg rfl (by omega)
                            refine zs_ineg (pc := 5) t122_5 (c := w67v) w67e ?_
                            refine zs_goto (pc := 6) t122_6 ?_
                            refine zs_iret (pc := 10) t122_10 mr122 rfl ?_
                            show zGo X l 6 0 0 204 123 [(0, .ref 6), (1, .int a), (2, .int b), (3, .ref (181 + 3 * w27n)), (4, .int (0 : Int32)), (5, .int w38x5), (6, .int w38x6), (7, .int w38x7)] [.int w67v] w10M _
                            refine zs_istore (pc := 123) t204_123 (ls' := [(8, .int w67v), (0, .ref 6), (1, .int a), (2, .int b), (3, .ref (181 + 3 * w27n)), (4, .int (0 : Int32)), (5, .int w38x5), (6, .int w38x6), (7, .int w38x7)]) (zml mf204 (by decide)) rfl ?_
                            refine zs_iload (pc := 125) t204_125 rfl ?_
                            by_cases w68 : w38x5.toInt < 0
                            · refine zs_if_ltT (pc := 127) t204_127 rfl (by omega) ?_
                              refine zs_iload (pc := 137) t204_137 rfl ?_
                              refine zs_istore (pc := 139) t204_139 (ls' := [(5, .int w38x7), (8, .int w67v), (0, .ref 6), (1, .int a), (2, .int b), (3, .ref (181 + 3 * w27n)), (4, .int (0 : Int32)), (6, .int w38x6), (7, .int w38x7)]) (zml mf204 (by decide)) rfl ?_
                              refine zs_iload (pc := 141) t204_141 rfl ?_
                              refine zs_istore (pc := 143) t204_143 (ls' := [(6, .int w67v), (5, .int w38x7), (8, .int w67v), (0, .ref 6), (1, .int a), (2, .int b), (3, .ref (181 + 3 * w27n)), (4, .int (0 : Int32)), (7, .int w38x7)]) (zml mf204 (by decide)) rfl ?_
                              obtain ⟨w69v, w69e, w69⟩ := ziadd (a := w38x7) (b := Int32.ofInt 1) rfl (show (Int32.ofInt 1).toInt = 1 by decide) (by omega) (by omega)
                              refine zs_iinc (pc := 145) t204_145 (ls' := [(7, .int w69v), (6, .int w67v), (5, .int w38x7), (8, .int w67v), (0, .ref 6), (1, .int a), (2, .int b), (3, .ref (181 + 3 * w27n)), (4, .int (0 : Int32))]) (zml mf204 (by decide)) rfl (c := w69v) w69e rfl ?_
                              refine zs_goto (pc := 148) t204_148 ?_
                              refine zGo.locals (ls' := [(0, .ref 6), (1, .int a), (2, .int b), (3, .ref (181 + 3 * w27n)), (4, .int (0 : Int32)), (5, .int w38x7), (6, .int w67v), (7, .int w69v)]) (by simp) ?_
                              have w70 := w67
                              have w71 := w69
                              exact w38ih (w38m - 1) (by omega) w38x7 w67v w69v ⟨by omega, by omega⟩ (by omega)
                            · refine zs_if_ltF (pc := 127) t204_127 rfl (by omega) ?_
                              refine zs_iload (pc := 130) t204_130 rfl ?_
                              refine zs_iload (pc := 132) t204_132 rfl ?_
                              by_cases w72 : w38x6.toInt ≤ (-(zI M 11 w42n).toInt)
                              · refine zs_icmp_geT (pc := 134) t204_134 w67 rfl (by omega) ?_
                                obtain ⟨w73v, w73e, w73⟩ := ziadd (a := w38x7) (b := Int32.ofInt 1) rfl (show (Int32.ofInt 1).toInt = 1 by decide) (by omega) (by omega)
                                refine zs_iinc (pc := 145) t204_145 (ls' := [(7, .int w73v), (8, .int w67v), (0, .ref 6), (1, .int a), (2, .int b), (3, .ref (181 + 3 * w27n)), (4, .int (0 : Int32)), (5, .int w38x5), (6, .int w38x6)]) (zml mf204 (by decide)) rfl (c := w73v) w73e rfl ?_
                                refine zs_goto (pc := 148) t204_148 ?_
                                refine zGo.locals (ls' := [(0, .ref 6), (1, .int a), (2, .int b), (3, .ref (181 + 3 * w27n)), (4, .int (0 : Int32)), (5, .int w38x5), (6, .int w38x6), (7, .int w73v)]) (by simp) ?_
                                have w74 := w73
                                exact w38ih (w38m - 1) (by omega) w38x5 w38x6 w73v ⟨by omega, by omega⟩ (by omega)
                              · refine zs_icmp_geF (pc := 134) t204_134 w67 rfl (by omega) ?_
                                refine zs_iload (pc := 137) t204_137 rfl ?_
                                refine zs_istore (pc := 139) t204_139 (ls' := [(5, .int w38x7), (8, .int w67v), (0, .ref 6), (1, .int a), (2, .int b), (3, .ref (181 + 3 * w27n)), (4, .int (0 : Int32)), (6, .int w38x6), (7, .int w38x7)]) (zml mf204 (by decide)) rfl ?_
                                refine zs_iload (pc := 141) t204_141 rfl ?_
                                refine zs_istore (pc := 143) t204_143 (ls' := [(6, .int w67v), (5, .int w38x7), (8, .int w67v), (0, .ref 6), (1, .int a), (2, .int b), (3, .ref (181 + 3 * w27n)), (4, .int (0 : Int32)), (7, .int w38x7)]) (zml mf204 (by decide)) rfl ?_
                                obtain ⟨w75v, w75e, w75⟩ := ziadd (a := w38x7) (b := Int32.ofInt 1) rfl (show (Int32.ofInt 1).toInt = 1 by decide) (by omega) (by omega)
                                refine zs_iinc (pc := 145) t204_145 (ls' := [(7, .int w75v), (6, .int w67v), (5, .int w38x7), (8, .int w67v), (0, .ref 6), (1, .int a), (2, .int b), (3, .ref (181 + 3 * w27n)), (4, .int (0 : Int32))]) (zml mf204 (by decide)) rfl (c := w75v) w75e rfl ?_
                                refine zs_goto (pc := 148) t204_148 ?_
                                refine zGo.locals (ls' := [(0, .ref 6), (1, .int a), (2, .int b), (3, .ref (181 + 3 * w27n)), (4, .int (0 : Int32)), (5, .int w38x7), (6, .int w67v), (7, .int w75v)]) (by simp) ?_
                                have w76 := w67
                                have w77 := w75
                                exact w38ih (w38m - 1) (by omega) w38x7 w67v w75v ⟨by omega, by omega⟩ (by omega)
                        · refine zs_if_ltF (pc := 101) t204_101 rfl (by omega) ?_
                          refine zs_goto (pc := 104) t204_104 ?_
                          obtain ⟨w78v, w78e, w78⟩ := ziadd (a := w38x7) (b := Int32.ofInt 1) rfl (show (Int32.ofInt 1).toInt = 1 by decide) (by omega) (by omega)
                          refine zs_iinc (pc := 145) t204_145 (ls' := [(7, .int w78v), (0, .ref 6), (1, .int a), (2, .int b), (3, .ref (181 + 3 * w27n)), (4, .int (0 : Int32)), (5, .int w38x5), (6, .int w38x6)]) (zml mf204 (by decide)) rfl (c := w78v) w78e rfl ?_
                          refine zs_goto (pc := 148) t204_148 ?_
                          refine zGo.locals (ls' := [(0, .ref 6), (1, .int a), (2, .int b), (3, .ref (181 + 3 * w27n)), (4, .int (0 : Int32)), (5, .int w38x5), (6, .int w38x6), (7, .int w78v)]) (by simp) ?_
                          have w79 := w78
                          exact w38ih (w38m - 1) (by omega) w38x5 w38x6 w78v ⟨by omega, by omega⟩ (by omega)
              refine zGo.locals (ls' := [(0, .ref 6), (1, .int a), (2, .int b), (3, .ref (181 + 3 * w27n)), (4, .int (0 : Int32)), (5, .int (-2 : Int32)), (6, .int (0 : Int32)), (7, .int (0 : Int32))]) (by simp) ?_
              have w80 := lin2
              have w81 := li0
              have w82 := li0
              exact w38L ((60 - 0 : Int).toNat) (-2 : Int32) (0 : Int32) (0 : Int32) ⟨by decide, by decide⟩ (by omega)
            · refine zs_icmp_geF (pc := 9) t41_9 rfl rfl (by omega) ?_
              refine zs_iconst (pc := 12) t41_12 (v := 1) (by decide) ?_
              refine zs_goto (pc := 13) t41_13 ?_
              refine zs_iret (pc := 17) t41_17 mr41 (by decide) ?_
              show zGo X l 2 0 0 202 5 [(0, .ref (181 + 3 * w27n)), (1, .ref 7), (2, .int b)] [.int (1 : Int32)] w10M _
              refine zs_if_neT (pc := 5) t202_5 li1 (by decide) ?_
              refine zs_aload_n (pc := 10) t202_10 rfl ?_
              have w83 := zrg64 (zJ w10M (181 + 3 * w27n) 9)
              refine zs_get (pc := 11) t202_11 (by decide) (zk1 (w10s.k (fT181_0 w27n w28))) (zfvj rfl) ?_
              refine zs_aload_n (pc := 14) t202_14 rfl ?_
              have w84 := zrg64 (zJ w10M (181 + 3 * w27n) 10)
              refine zs_get (pc := 15) t202_15 (by decide) (zk1 (w10s.k (fT181_0 w27n w28))) (zfvj rfl) ?_
              refine zs_aload_n (pc := 18) t202_18 rfl ?_
              refine zs_get (pc := 19) t202_19 (by decide) (zk1 (w10s.k fk_zMc_7)) (w10s.p rfl fv_zMc_7_1) ?_
              refine zs_iload_n (pc := 22) t202_22 rfl ?_
              obtain ⟨w85n, w85⟩ : ∃ n : Nat, b.toInt = (n : Int) := ⟨(b.toInt).toNat, by omega⟩
              have w86 := zrg (zI M 8 w85n)
              have w87 : (zI M 8 w85n).toInt = F (14 + 2 * w85n) ∧ (zI M 9 w85n).toInt = F (15 + 2 * w85n) := x0.2.1 w85n (by omega)
              have w88 := x1.2.1 w85n (by omega)
              refine zs_iald (pc := 23) t202_23 (j := w85n) (by decide) (zk1 (w10s.k fk_zMc_8)) (show b.toInt = ((w85n : Nat) : Int) by omega) (zk2 (w10s.k fk_zMc_8) (by omega)) ((w10F 8 w85n rfl).trans rfl) ?_
              refine zs_i2l (pc := 24) t202_24 rfl ?_
              obtain ⟨w89v, w89⟩ : ∃ v, (zJ w10M (181 + 3 * w27n) 10) * (zI M 8 w85n).toInt64 = v := ⟨_, rfl⟩
              have w89g := zrg64 w89v
              refine zs_lmul (pc := 25) t202_25 (c := w89v) w89 ?_
              obtain ⟨w90v, w90⟩ : ∃ v, (zJ w10M (181 + 3 * w27n) 9) + w89v = v := ⟨_, rfl⟩
              have w90g := zrg64 w90v
              refine zs_ladd (pc := 26) t202_26 (c := w90v) w90 ?_
              refine zs_lstore_n (pc := 27) t202_27 (ls' := [(3, .long w90v), (0, .ref (181 + 3 * w27n)), (1, .ref 7), (2, .int b)]) (zml mf202 (by decide)) rfl ?_
              refine zs_lload_n (pc := 28) t202_28 rfl ?_
              refine zs_lconst (pc := 29) t202_29 (v := 1) (by decide) ?_
              refine zs_aload_n (pc := 30) t202_30 rfl ?_
              have w91 := zrg64 (zJ w10M (181 + 3 * w27n) 8)
              refine zs_get (pc := 31) t202_31 (by decide) (zk1 (w10s.k (fT181_0 w27n w28))) (zfvj rfl) ?_
              have w92 : (1 : Int64).toInt = 1 := ll1
              refine zs_invS (pc := 34) (as := [.long (1 : Int64), .long (zJ w10M (181 + 3 * w27n) 8)]) (st := [.long w90v]) t202_34 (by decide) mf134 rfl rfl ⟨by decide, by decide, Nat.le_of_ble_eq_true rfl, Nat.le_of_ble_eq_true rfl⟩ (V134 w10s w10I ?_) (fun _ _ q => q)
              intro w93v w93x0
              have w93g := zrg64 w93v
              have w93g1 : 1 ≤ w93v.toInt := by rw [w93x0]; exact mxL.ge
              show zGo X l 2 0 0 202 37 [(3, .long w90v), (0, .ref (181 + 3 * w27n)), (1, .ref 7), (2, .int b)] [.long w93v, .long w90v] w10M _
              refine zs_invS (pc := 37) (as := [.long w90v, .long w93v]) (st := []) t202_37 (by decide) mf140 rfl rfl ⟨by decide, by decide, Nat.le_of_ble_eq_true rfl, Nat.le_of_ble_eq_true rfl⟩ (V140 w10s w10I ⟨by omega, by omega⟩ ?_) (fun _ _ q => q)
              intro w94v w94x0
              have w94g := zrg64 w94v
              show zGo X l 2 0 0 202 40 [(3, .long w90v), (0, .ref (181 + 3 * w27n)), (1, .ref 7), (2, .int b)] [.long w94v] w10M _
              obtain ⟨w95v, w95⟩ : ∃ v, w94v.toInt32 = v := ⟨_, rfl⟩
              have w95g := zrg w95v
              refine zs_l2i (pc := 40) t202_40 (c := w95v) w95 ?_
              refine zs_aload_n (pc := 41) t202_41 rfl ?_
              refine zs_iload_n (pc := 42) t202_42 rfl ?_
              refine zs_aload_n (pc := 43) t202_43 rfl ?_
              have w96 := ibT181_0_0 w10I w28
              refine zs_get (pc := 44) t202_44 (by decide) (zk1 (w10s.k (fT181_0 w27n w28))) (zfvi rfl rfl) ?_
              refine zs_invV (pc := 47) (k := 7) (as' := [.int b, .int (zI w10M (181 + 3 * w27n) 0)]) (st := [.int w95v]) t202_47 mf55 rfl rfl (Or.inl ⟨by decide, (zk1 (w10s.k fk_zMc_7))⟩) ⟨by decide, by decide, Nat.le_of_ble_eq_true rfl, Nat.le_of_ble_eq_true rfl⟩ (X55_7 w10s w10I (zSo.fr x0 (zFr.eq w10F rfl)) x1 ?_) (fun _ _ q => q)
              intro w97v w97x0
              have w97g := zrg w97v
              show zGo X l 2 0 0 202 50 [(3, .long w90v), (0, .ref (181 + 3 * w27n)), (1, .ref 7), (2, .int b)] [.int w97v, .int w95v] w10M _
              obtain ⟨w98v, w98⟩ : ∃ v, v = w95v + w97v := ⟨_, rfl⟩
              have w98g := zrg w98v
              refine zs_iadd (pc := 50) t202_50 (c := w98v) w98.symm ?_
              refine zs_iret (pc := 51) t202_51 mr202 rfl ?_
              show zGo X l 6 0 0 204 42 [(3, .ref (181 + 3 * w27n)), (0, .ref 6), (1, .int a), (2, .int b)] [.int w98v] w10M _
              refine zs_istore (pc := 42) t204_42 (ls' := [(4, .int w98v), (3, .ref (181 + 3 * w27n)), (0, .ref 6), (1, .int a), (2, .int b)]) (zml mf204 (by decide)) rfl ?_
              refine zs_bipush (pc := 44) t204_44 (v := -2) (by decide) ?_
              refine zs_istore (pc := 46) t204_46 (ls' := [(5, .int (-2 : Int32)), (4, .int w98v), (3, .ref (181 + 3 * w27n)), (0, .ref 6), (1, .int a), (2, .int b)]) (zml mf204 (by decide)) rfl ?_
              refine zs_iconst (pc := 48) t204_48 (v := 0) (by decide) ?_
              refine zs_istore (pc := 49) t204_49 (ls' := [(6, .int (0 : Int32)), (5, .int (-2 : Int32)), (4, .int w98v), (3, .ref (181 + 3 * w27n)), (0, .ref 6), (1, .int a), (2, .int b)]) (zml mf204 (by decide)) rfl ?_
              refine zs_iconst (pc := 51) t204_51 (v := 0) (by decide) ?_
              refine zs_istore (pc := 52) t204_52 (ls' := [(7, .int (0 : Int32)), (6, .int (0 : Int32)), (5, .int (-2 : Int32)), (4, .int w98v), (3, .ref (181 + 3 * w27n)), (0, .ref 6), (1, .int a), (2, .int b)]) (zml mf204 (by decide)) rfl ?_
              have w99L : ∀ (m : Nat) (w99x5 : Int32) (w99x6 : Int32) (w99x7 : Int32), (0 ≤ w99x7.toInt ∧ w99x7.toInt ≤ 60) → 60 - w99x7.toInt ≤ (m : Int) → zGo X l 6 0 0 204 54 [(0, .ref 6), (1, .int a), (2, .int b), (3, .ref (181 + 3 * w27n)), (4, .int w98v), (5, .int w99x5), (6, .int w99x6), (7, .int w99x7)] [] w10M Q := by
                intro m
                induction m using Nat.strongRecOn with
                | ind w99m w99ih =>
                  intro w99x5 w99x6 w99x7 w99b7 w99q
                  have w99g5 := zrg w99x5
                  have w99g6 := zrg w99x6
                  refine zs_iload (pc := 54) t204_54 rfl ?_
                  refine zs_aload_n (pc := 56) t204_56 rfl ?_
                  refine zs_get (pc := 57) t204_57 (by decide) (zk1 (w10s.k fk_zMc_6)) (w10s.p rfl fv_zMc_6_0) ?_
                  refine zs_get (pc := 60) t204_60 (by decide) (zk1 (w10s.k fk_zMc_7)) (zfvi rfl ((w10F 7 3 rfl).trans rfl)) ?_
                  by_cases w100 : (zI M 7 3).toInt ≤ w99x7.toInt
                  · refine zs_icmp_geT (pc := 63) t204_63 rfl rfl (by omega) ?_
                    refine zs_iload (pc := 151) t204_151 rfl ?_
                    have w101 : (zI w10M 166 10).toInt = (zI w10M 166 10).toInt := (congrArg Int32.toInt rfl).trans rfl
                    have w102 : (zI w10M 242 10).toInt = (zI M 242 10).toInt := (congrArg Int32.toInt ((w10F 242 10 rfl).trans rfl)).trans rfl
                    exact zs_iret (pc := 153) t204_153 mr204 rfl (hQ _ _ w10s w10I ((zFr.refl).trans (w10F.mono rfl)) (by omega) (by omega) (by omega) (by omega) (fun _ => w10x0) w10x1 (zSp.fr x4 (fun j => (w10F 250 j rfl)) (w10F 242 10 rfl)))
                  · refine zs_icmp_geF (pc := 63) t204_63 rfl rfl (by omega) ?_
                    refine zs_aload_n (pc := 66) t204_66 rfl ?_
                    refine zs_get (pc := 67) t204_67 (by decide) (zk1 (w10s.k fk_zMc_6)) (w10s.p rfl fv_zMc_6_0) ?_
                    refine zs_get (pc := 70) t204_70 (by decide) (zk1 (w10s.k fk_zMc_7)) (w10s.p rfl fv_zMc_7_4) ?_
                    refine zs_iload (pc := 73) t204_73 rfl ?_
                    obtain ⟨w103n, w103⟩ : ∃ n : Nat, w99x7.toInt = (n : Int) := ⟨(w99x7.toInt).toNat, by omega⟩
                    have w104 := ib10 hI w103n
                    have w105 : (zI M 10 w103n).toInt = F (30 + 4 * w103n) ∧ (zI M 11 w103n).toInt = F (31 + 4 * w103n) ∧ (zI M 12 w103n).toInt = F (32 + 4 * w103n) ∧ (zI M 13 w103n).toInt = F (33 + 4 * w103n) := x0.2.2.1 w103n (by omega)
                    have w106 := x1.2.2.1 w103n (by omega)
                    refine zs_iald (pc := 75) t204_75 (j := w103n) (by decide) (zk1 (w10s.k fk_zMc_10)) (show w99x7.toInt = ((w103n : Nat) : Int) by omega) (zk2 (w10s.k fk_zMc_10) (by omega)) ((w10F 10 w103n rfl).trans rfl) ?_
                    refine zs_iload_n (pc := 76) t204_76 rfl ?_
                    by_cases w107 : (zI M 10 w103n).toInt ≠ b.toInt
                    · refine zs_icmp_neT (pc := 77) t204_77 rfl rfl (by omega) ?_
                      obtain ⟨w108v, w108e, w108⟩ := ziadd (a := w99x7) (b := Int32.ofInt 1) rfl (show (Int32.ofInt 1).toInt = 1 by decide) (by omega) (by omega)
                      refine zs_iinc (pc := 145) t204_145 (ls' := [(7, .int w108v), (0, .ref 6), (1, .int a), (2, .int b), (3, .ref (181 + 3 * w27n)), (4, .int w98v), (5, .int w99x5), (6, .int w99x6)]) (zml mf204 (by decide)) rfl (c := w108v) w108e rfl ?_
                      refine zs_goto (pc := 148) t204_148 ?_
                      refine zGo.locals (ls' := [(0, .ref 6), (1, .int a), (2, .int b), (3, .ref (181 + 3 * w27n)), (4, .int w98v), (5, .int w99x5), (6, .int w99x6), (7, .int w108v)]) (by simp) ?_
                      have w109 := w108
                      exact w99ih (w99m - 1) (by omega) w99x5 w99x6 w108v ⟨by omega, by omega⟩ (by omega)
                    · refine zs_icmp_neF (pc := 77) t204_77 rfl rfl (by omega) ?_
                      refine zs_aload_n (pc := 80) t204_80 rfl ?_
                      refine zs_get (pc := 81) t204_81 (by decide) (zk1 (w10s.k fk_zMc_6)) (w10s.p rfl fv_zMc_6_0) ?_
                      refine zs_iload (pc := 84) t204_84 rfl ?_
                      refine zs_invV (pc := 86) (k := 7) (as' := [.int w99x7]) (st := []) t204_86 mf93 rfl rfl (Or.inl ⟨by decide, (zk1 (w10s.k fk_zMc_7))⟩) ⟨by decide, by decide, Nat.le_of_ble_eq_true rfl, Nat.le_of_ble_eq_true rfl⟩ (X93_7 w10s w10I (zSo.fr x0 (zFr.eq w10F rfl)) x1 ?_) (fun _ _ q => q)
                      intro w110v w110x0 w110a w110b
                      show zGo X l 6 0 0 204 89 [(0, .ref 6), (1, .int a), (2, .int b), (3, .ref (181 + 3 * w27n)), (4, .int w98v), (5, .int w99x5), (6, .int w99x6), (7, .int w99x7)] [.int w110v] w10M _
                      by_cases w111 : w110v.toInt = 0
                      · refine zs_if_eqT (pc := 89) t204_89 rfl (by omega) ?_
                        obtain ⟨w112v, w112e, w112⟩ := ziadd (a := w99x7) (b := Int32.ofInt 1) rfl (show (Int32.ofInt 1).toInt = 1 by decide) (by omega) (by omega)
                        refine zs_iinc (pc := 145) t204_145 (ls' := [(7, .int w112v), (0, .ref 6), (1, .int a), (2, .int b), (3, .ref (181 + 3 * w27n)), (4, .int w98v), (5, .int w99x5), (6, .int w99x6)]) (zml mf204 (by decide)) rfl (c := w112v) w112e rfl ?_
                        refine zs_goto (pc := 148) t204_148 ?_
                        refine zGo.locals (ls' := [(0, .ref 6), (1, .int a), (2, .int b), (3, .ref (181 + 3 * w27n)), (4, .int w98v), (5, .int w99x5), (6, .int w99x6), (7, .int w112v)]) (by simp) ?_
                        have w113 := w112
                        exact w99ih (w99m - 1) (by omega) w99x5 w99x6 w112v ⟨by omega, by omega⟩ (by omega)
                      · refine zs_if_eqF (pc := 89) t204_89 rfl (by omega) ?_
                        refine zs_aload_n (pc := 92) t204_92 rfl ?_
                        refine zs_get (pc := 93) t204_93 (by decide) (zk1 (w10s.k fk_zMc_6)) (w10s.p rfl fv_zMc_6_6) ?_
                        refine zs_iload (pc := 96) t204_96 rfl ?_
                        refine zs_invV (pc := 98) (k := 164) (as' := [.int w99x7]) (st := []) t204_98 mf142 rfl rfl (Or.inl ⟨by decide, (zk1 (w10s.k fk_zMc_164))⟩) ⟨by decide, by decide, Nat.le_of_ble_eq_true rfl, Nat.le_of_ble_eq_true rfl⟩ (zs_in (by decide) mf142 (Nat.le_of_ble_eq_true rfl) ?_) (fun _ _ q => q)
                        show zGo X l 0 0 0 142 0 [(0, .ref 164), (1, .int w99x7)] [] w10M _
                        refine zs_iload_n (pc := 0) t142_0 rfl ?_
                        refine zs_if_ltF (pc := 1) t142_1 rfl (by omega) ?_
                        refine zs_iload_n (pc := 4) t142_4 rfl ?_
                        refine zs_bipush (pc := 5) t142_5 (v := 60) (by decide) ?_
                        refine zs_icmp_geF (pc := 7) t142_7 rfl li60 (by omega) ?_
                        refine zs_aload_n (pc := 10) t142_10 rfl ?_
                        refine zs_get (pc := 11) t142_11 (by decide) (zk1 (w10s.k fk_zMc_164)) (w10s.p rfl fv_zMc_164_6) ?_
                        refine zs_iload_n (pc := 14) t142_14 rfl ?_
                        have w114 := zrg (zI w10M 317 w103n)
                        refine zs_iald (pc := 15) t142_15 (j := w103n) (by decide) (zk1 (w10s.k fk_zMc_317)) (show w99x7.toInt = ((w103n : Nat) : Int) by omega) (zk2 (w10s.k fk_zMc_317) (by omega)) rfl ?_
                        refine zs_goto (pc := 16) t142_16 ?_
                        refine zs_iret (pc := 21) t142_21 mr142 rfl ?_
                        show zGo X l 6 0 0 204 101 [(0, .ref 6), (1, .int a), (2, .int b), (3, .ref (181 + 3 * w27n)), (4, .int w98v), (5, .int w99x5), (6, .int w99x6), (7, .int w99x7)] [.int (zI w10M 317 w103n)] w10M _
                        by_cases w115 : (zI w10M 317 w103n).toInt < 0
                        · refine zs_if_ltT (pc := 101) t204_101 rfl (by omega) ?_
                          refine zs_aload_n (pc := 107) t204_107 rfl ?_
                          refine zs_get (pc := 108) t204_108 (by decide) (zk1 (w10s.k fk_zMc_6)) (w10s.p rfl fv_zMc_6_0) ?_
                          refine zs_get (pc := 111) t204_111 (by decide) (zk1 (w10s.k fk_zMc_7)) (w10s.p rfl fv_zMc_7_5) ?_
                          refine zs_iload (pc := 114) t204_114 rfl ?_
                          have w116 := zrg (zI M 11 w103n)
                          have w117 : (zI M 10 w103n).toInt = F (30 + 4 * w103n) ∧ (zI M 11 w103n).toInt = F (31 + 4 * w103n) ∧ (zI M 12 w103n).toInt = F (32 + 4 * w103n) ∧ (zI M 13 w103n).toInt = F (33 + 4 * w103n) := x0.2.2.1 w103n (by omega)
                          have w118 := x1.2.2.1 w103n (by omega)
                          refine zs_iald (pc := 116) t204_116 (j := w103n) (by decide) (zk1 (w10s.k fk_zMc_11)) (show w99x7.toInt = ((w103n : Nat) : Int) by omega) (zk2 (w10s.k fk_zMc_11) (by omega)) ((w10F 11 w103n rfl).trans rfl) ?_
                          refine zs_iload (pc := 117) t204_117 rfl ?_
                          obtain ⟨w119v, w119⟩ : ∃ v, v = (zI M 11 w103n) - w98v := ⟨_, rfl⟩
                          have w119g := zrg w119v
                          refine zs_isub (pc := 119) t204_119 (c := w119v) w119.symm ?_
                          refine zs_invS (pc := 120) (as := [.int w119v]) (st := []) t204_120 (by decide) mf122 rfl rfl ⟨by decide, by decide, Nat.le_of_ble_eq_true rfl, Nat.le_of_ble_eq_true rfl⟩ (zs_in (by decide) mf122 (Nat.le_of_ble_eq_true rfl) ?_) (fun _ _ q => q)
                          show zGo X l 0 0 0 122 0 [(0, .int w119v)] [] w10M _
                          refine zs_iload_n (pc := 0) t122_0 rfl ?_
                          by_cases w120 : 0 ≤ w119v.toInt
                          · refine zs_if_geT (pc := 1) t122_1 rfl (by omega) ?_
                            refine zs_iload_n (pc := 9) t122_9 rfl ?_
                            refine zs_iret (pc := 10) t122_10 mr122 rfl ?_
                            show zGo X l 6 0 0 204 123 [(0, .ref 6), (1, .int a), (2, .int b), (3, .ref (181 + 3 * w27n)), (4, .int w98v), (5, .int w99x5), (6, .int w99x6), (7, .int w99x7)] [.int w119v] w10M _
                            refine zs_istore (pc := 123) t204_123 (ls' := [(8, .int w119v), (0, .ref 6), (1, .int a), (2, .int b), (3, .ref (181 + 3 * w27n)), (4, .int w98v), (5, .int w99x5), (6, .int w99x6), (7, .int w99x7)]) (zml mf204 (by decide)) rfl ?_
                            refine zs_iload (pc := 125) t204_125 rfl ?_
                            by_cases w121 : w99x5.toInt < 0
                            · refine zs_if_ltT (pc := 127) t204_127 rfl (by omega) ?_
                              refine zs_iload (pc := 137) t204_137 rfl ?_
                              refine zs_istore (pc := 139) t204_139 (ls' := [(5, .int w99x7), (8, .int w119v), (0, .ref 6), (1, .int a), (2, .int b), (3, .ref (181 + 3 * w27n)), (4, .int w98v), (6, .int w99x6), (7, .int w99x7)]) (zml mf204 (by decide)) rfl ?_
                              refine zs_iload (pc := 141) t204_141 rfl ?_
                              refine zs_istore (pc := 143) t204_143 (ls' := [(6, .int w119v), (5, .int w99x7), (8, .int w119v), (0, .ref 6), (1, .int a), (2, .int b), (3, .ref (181 + 3 * w27n)), (4, .int w98v), (7, .int w99x7)]) (zml mf204 (by decide)) rfl ?_
                              obtain ⟨w122v, w122e, w122⟩ := ziadd (a := w99x7) (b := Int32.ofInt 1) rfl (show (Int32.ofInt 1).toInt = 1 by decide) (by omega) (by omega)
                              refine zs_iinc (pc := 145) t204_145 (ls' := [(7, .int w122v), (6, .int w119v), (5, .int w99x7), (8, .int w119v), (0, .ref 6), (1, .int a), (2, .int b), (3, .ref (181 + 3 * w27n)), (4, .int w98v)]) (zml mf204 (by decide)) rfl (c := w122v) w122e rfl ?_
                              refine zs_goto (pc := 148) t204_148 ?_
                              refine zGo.locals (ls' := [(0, .ref 6), (1, .int a), (2, .int b), (3, .ref (181 + 3 * w27n)), (4, .int w98v), (5, .int w99x7), (6, .int w119v), (7, .int w122v)]) (by simp) ?_
                              have w123 := w122
                              exact w99ih (w99m - 1) (by omega) w99x7 w119v w122v ⟨by omega, by omega⟩ (by omega)
                            · refine zs_if_ltF (pc := 127) t204_127 rfl (by omega) ?_
                              refine zs_iload (pc := 130) t204_130 rfl ?_
                              refine zs_iload (pc := 132) t204_132 rfl ?_
                              by_cases w124 : w99x6.toInt ≤ w119v.toInt
                              · refine zs_icmp_geT (pc := 134) t204_134 rfl rfl (by omega) ?_
                                obtain ⟨w125v, w125e, w125⟩ := ziadd (a := w99x7) (b := Int32.ofInt 1) rfl (show (Int32.ofInt 1).toInt = 1 by decide) (by omega) (by omega)
                                refine zs_iinc (pc := 145) t204_145 (ls' := [(7, .int w125v), (8, .int w119v), (0, .ref 6), (1, .int a), (2, .int b), (3, .ref (181 + 3 * w27n)), (4, .int w98v), (5, .int w99x5), (6, .int w99x6)]) (zml mf204 (by decide)) rfl (c := w125v) w125e rfl ?_
                                refine zs_goto (pc := 148) t204_148 ?_
                                refine zGo.locals (ls' := [(0, .ref 6), (1, .int a), (2, .int b), (3, .ref (181 + 3 * w27n)), (4, .int w98v), (5, .int w99x5), (6, .int w99x6), (7, .int w125v)]) (by simp) ?_
                                have w126 := w125
                                exact w99ih (w99m - 1) (by omega) w99x5 w99x6 w125v ⟨by omega, by omega⟩ (by omega)
                              · refine zs_icmp_geF (pc := 134) t204_134 rfl rfl (by omega) ?_
                                refine zs_iload (pc := 137) t204_137 rfl ?_
                                refine zs_istore (pc := 139) t204_139 (ls' := [(5, .int w99x7), (8, .int w119v), (0, .ref 6), (1, .int a), (2, .int b), (3, .ref (181 + 3 * w27n)), (4, .int w98v), (6, .int w99x6), (7, .int w99x7)]) (zml mf204 (by decide)) rfl ?_
                                refine zs_iload (pc := 141) t204_141 rfl ?_
                                refine zs_istore (pc := 143) t204_143 (ls' := [(6, .int w119v), (5, .int w99x7), (8, .int w119v), (0, .ref 6), (1, .int a), (2, .int b), (3, .ref (181 + 3 * w27n)), (4, .int w98v), (7, .int w99x7)]) (zml mf204 (by decide)) rfl ?_
                                obtain ⟨w127v, w127e, w127⟩ := ziadd (a := w99x7) (b := Int32.ofInt 1) rfl (show (Int32.ofInt 1).toInt = 1 by decide) (by omega) (by omega)
                                refine zs_iinc (pc := 145) t204_145 (ls' := [(7, .int w127v), (6, .int w119v), (5, .int w99x7), (8, .int w119v), (0, .ref 6), (1, .int a), (2, .int b), (3, .ref (181 + 3 * w27n)), (4, .int w98v)]) (zml mf204 (by decide)) rfl (c := w127v) w127e rfl ?_
                                refine zs_goto (pc := 148) t204_148 ?_
                                refine zGo.locals (ls' := [(0, .ref 6), (1, .int a), (2, .int b), (3, .ref (181 + 3 * w27n)), (4, .int w98v), (5, .int w99x7), (6, .int w119v), (7, .int w127v)]) (by simp) ?_
                                have w128 := w127
                                exact w99ih (w99m - 1) (by omega) w99x7 w119v w127v ⟨by omega, by omega⟩ (by omega)
                          · refine zs_if_geF (pc := 1) t122_1 rfl (by omega) ?_
                            refine zs_iload_n (pc := 4) t122_4 rfl ?_
                            obtain ⟨w129v, w129e⟩ : ∃ v, -w119v = v := ⟨_, rfl⟩
                            have w129 := zrg w129v
                            refine zs_ineg (pc := 5) t122_5 (c := w129v) w129e ?_
                            refine zs_goto (pc := 6) t122_6 ?_
                            refine zs_iret (pc := 10) t122_10 mr122 rfl ?_
                            show zGo X l 6 0 0 204 123 [(0, .ref 6), (1, .int a), (2, .int b), (3, .ref (181 + 3 * w27n)), (4, .int w98v), (5, .int w99x5), (6, .int w99x6), (7, .int w99x7)] [.int w129v] w10M _
                            refine zs_istore (pc := 123) t204_123 (ls' := [(8, .int w129v), (0, .ref 6), (1, .int a), (2, .int b), (3, .ref (181 + 3 * w27n)), (4, .int w98v), (5, .int w99x5), (6, .int w99x6), (7, .int w99x7)]) (zml mf204 (by decide)) rfl ?_
                            refine zs_iload (pc := 125) t204_125 rfl ?_
                            by_cases w130 : w99x5.toInt < 0
                            · refine zs_if_ltT (pc := 127) t204_127 rfl (by omega) ?_
                              refine zs_iload (pc := 137) t204_137 rfl ?_
                              refine zs_istore (pc := 139) t204_139 (ls' := [(5, .int w99x7), (8, .int w129v), (0, .ref 6), (1, .int a), (2, .int b), (3, .ref (181 + 3 * w27n)), (4, .int w98v), (6, .int w99x6), (7, .int w99x7)]) (zml mf204 (by decide)) rfl ?_
                              refine zs_iload (pc := 141) t204_141 rfl ?_
                              refine zs_istore (pc := 143) t204_143 (ls' := [(6, .int w129v), (5, .int w99x7), (8, .int w129v), (0, .ref 6), (1, .int a), (2, .int b), (3, .ref (181 + 3 * w27n)), (4, .int w98v), (7, .int w99x7)]) (zml mf204 (by decide)) rfl ?_
                              obtain ⟨w131v, w131e, w131⟩ := ziadd (a := w99x7) (b := Int32.ofInt 1) rfl (show (Int32.ofInt 1).toInt = 1 by decide) (by omega) (by omega)
                              refine zs_iinc (pc := 145) t204_145 (ls' := [(7, .int w131v), (6, .int w129v), (5, .int w99x7), (8, .int w129v), (0, .ref 6), (1, .int a), (2, .int b), (3, .ref (181 + 3 * w27n)), (4, .int w98v)]) (zml mf204 (by decide)) rfl (c := w131v) w131e rfl ?_
                              refine zs_goto (pc := 148) t204_148 ?_
                              refine zGo.locals (ls' := [(0, .ref 6), (1, .int a), (2, .int b), (3, .ref (181 + 3 * w27n)), (4, .int w98v), (5, .int w99x7), (6, .int w129v), (7, .int w131v)]) (by simp) ?_
                              have w132 := w131
                              exact w99ih (w99m - 1) (by omega) w99x7 w129v w131v ⟨by omega, by omega⟩ (by omega)
                            · refine zs_if_ltF (pc := 127) t204_127 rfl (by omega) ?_
                              refine zs_iload (pc := 130) t204_130 rfl ?_
                              refine zs_iload (pc := 132) t204_132 rfl ?_
                              by_cases w133 : w99x6.toInt ≤ w129v.toInt
                              · refine zs_icmp_geT (pc := 134) t204_134 rfl rfl (by omega) ?_
                                obtain ⟨w134v, w134e, w134⟩ := ziadd (a := w99x7) (b := Int32.ofInt 1) rfl (show (Int32.ofInt 1).toInt = 1 by decide) (by omega) (by omega)
                                refine zs_iinc (pc := 145) t204_145 (ls' := [(7, .int w134v), (8, .int w129v), (0, .ref 6), (1, .int a), (2, .int b), (3, .ref (181 + 3 * w27n)), (4, .int w98v), (5, .int w99x5), (6, .int w99x6)]) (zml mf204 (by decide)) rfl (c := w134v) w134e rfl ?_
                                refine zs_goto (pc := 148) t204_148 ?_
                                refine zGo.locals (ls' := [(0, .ref 6), (1, .int a), (2, .int b), (3, .ref (181 + 3 * w27n)), (4, .int w98v), (5, .int w99x5), (6, .int w99x6), (7, .int w134v)]) (by simp) ?_
                                have w135 := w134
                                exact w99ih (w99m - 1) (by omega) w99x5 w99x6 w134v ⟨by omega, by omega⟩ (by omega)
                              · refine zs_icmp_geF (pc := 134) t204_134 rfl rfl (by omega) ?_
                                refine zs_iload (pc := 137) t204_137 rfl ?_
                                refine zs_istore (pc := 139) t204_139 (ls' := [(5, .int w99x7), (8, .int w129v), (0, .ref 6), (1, .int a), (2, .int b), (3, .ref (181 + 3 * w27n)), (4, .int w98v), (6, .int w99x6), (7, .int w99x7)]) (zml mf204 (by decide)) rfl ?_
                                refine zs_iload (pc := 141) t204_141 rfl ?_
                                refine zs_istore (pc := 143) t204_143 (ls' := [(6, .int w129v), (5, .int w99x7), (8, .int w129v), (0, .ref 6), (1, .int a), (2, .int b), (3, .ref (181 + 3 * w27n)), (4, .int w98v), (7, .int w99x7)]) (zml mf204 (by decide)) rfl ?_
                                obtain ⟨w136v, w136e, w136⟩ := ziadd (a := w99x7) (b := Int32.ofInt 1) rfl (show (Int32.ofInt 1).toInt = 1 by decide) (by omega) (by omega)
                                refine zs_iinc (pc := 145) t204_145 (ls' := [(7, .int w136v), (6, .int w129v), (5, .int w99x7), (8, .int w129v), (0, .ref 6), (1, .int a), (2, .int b), (3, .ref (181 + 3 * w27n)), (4, .int w98v)]) (zml mf204 (by decide)) rfl (c := w136v) w136e rfl ?_
                                refine zs_goto (pc := 148) t204_148 ?_
                                refine zGo.locals (ls' := [(0, .ref 6), (1, .int a), (2, .int b), (3, .ref (181 + 3 * w27n)), (4, .int w98v), (5, .int w99x7), (6, .int w129v), (7, .int w136v)]) (by simp) ?_
                                have w137 := w136
                                exact w99ih (w99m - 1) (by omega) w99x7 w129v w136v ⟨by omega, by omega⟩ (by omega)
                        · refine zs_if_ltF (pc := 101) t204_101 rfl (by omega) ?_
                          refine zs_goto (pc := 104) t204_104 ?_
                          obtain ⟨w138v, w138e, w138⟩ := ziadd (a := w99x7) (b := Int32.ofInt 1) rfl (show (Int32.ofInt 1).toInt = 1 by decide) (by omega) (by omega)
                          refine zs_iinc (pc := 145) t204_145 (ls' := [(7, .int w138v), (0, .ref 6), (1, .int a), (2, .int b), (3, .ref (181 + 3 * w27n)), (4, .int w98v), (5, .int w99x5), (6, .int w99x6)]) (zml mf204 (by decide)) rfl (c := w138v) w138e rfl ?_
                          refine zs_goto (pc := 148) t204_148 ?_
                          refine zGo.locals (ls' := [(0, .ref 6), (1, .int a), (2, .int b), (3, .ref (181 + 3 * w27n)), (4, .int w98v), (5, .int w99x5), (6, .int w99x6), (7, .int w138v)]) (by simp) ?_
                          have w139 := w138
                          exact w99ih (w99m - 1) (by omega) w99x5 w99x6 w138v ⟨by omega, by omega⟩ (by omega)
              refine zGo.locals (ls' := [(0, .ref 6), (1, .int a), (2, .int b), (3, .ref (181 + 3 * w27n)), (4, .int w98v), (5, .int (-2 : Int32)), (6, .int (0 : Int32)), (7, .int (0 : Int32))]) (by simp) ?_
              have w140 := lin2
              have w141 := li0
              have w142 := li0
              exact w99L ((60 - 0 : Int).toNat) (-2 : Int32) (0 : Int32) (0 : Int32) ⟨by decide, by decide⟩ (by omega)
set_option maxHeartbeats 8000000 in
theorem P205 {X : zX} {l : Launch} {M : zM} {Q : Option Value → zM → Prop} {a b : Int32} (hs : zSk zMc M) (hI : zIv cLo cHi M) {F : Nat → Int} (u0 : (zI M 166 10).toInt ≤ 1600000000) (u1 : 0 ≤ (zI M 166 10).toInt) (u2 : (zI M 242 10).toInt ≤ 1600000000) (u3 : 0 ≤ (zI M 242 10).toInt) (x0 : zSo M 7 F) (x1 : zWF F) (x2 : zKnA M F) (x3 : zSp M 166 174) (x4 : zSp M 242 250) (hQ : ∀ (M' : zM) (v : Int32), zSk zMc M' → zIv cLo cHi M' → zFr [(164, 165, none), (166, 178, none), (180, 180, none), (181, 240, none), (317, 324, none)] M M' → ((zI M' 166 10).toInt ≤ (zI M 166 10).toInt + 20000) → ((zI M 166 10).toInt ≤ (zI M' 166 10).toInt) → ((zI M' 242 10).toInt ≤ (zI M 242 10).toInt + 20000) → ((zI M 242 10).toInt ≤ (zI M' 242 10).toInt) → (zKnA M' F) → (zSp M' 166 174) → (zSp M' 242 250) → Q (some (.int v)) M') : zCall X l 6 0 0 205 [.ref 6, .int a, .int b] M Q := by
  have ga := zrg a
  have gb := zrg b
  refine zs_in (by decide) mf205 (Nat.le_of_ble_eq_true rfl) ?_
  show zGo X l 6 0 0 205 0 [(0, .ref 6), (1, .int a), (2, .int b)] [] M _
  have f0 := x0.1
  have w1 := ib7_0 hI
  have w2 : (zI M 7 0).toInt = (zI M 7 0).toInt := (congrArg Int32.toInt rfl).trans rfl
  have w3 := ib7_3 hI
  have w4 : (zI M 7 3).toInt = (zI M 7 3).toInt := (congrArg Int32.toInt rfl).trans rfl
  have w5 := ib7_8 hI
  have w6 : (zI M 7 8).toInt = (zI M 7 8).toInt := (congrArg Int32.toInt rfl).trans rfl
  have f1 := x1.1
  have f3 := x1.2.2.2
  have f2 := (show (zI M 7 0).toInt = F 0 ∧ (zI M 7 3).toInt = F 1 ∧ (zI M 7 8).toInt = F 2 from ⟨x0.1.1, x0.1.2.1, x0.1.2.2.1⟩)
  refine zs_aload_n (pc := 0) t205_0 rfl ?_
  refine zs_get (pc := 1) t205_1 (by decide) (zk1 (hs.k fk_zMc_6)) (hs.p rfl fv_zMc_6_0) ?_
  refine zs_iload_n (pc := 4) t205_4 rfl ?_
  refine zs_invV (pc := 5) (k := 7) (as' := [.int a]) (st := []) t205_5 mf41 rfl rfl (Or.inl ⟨by decide, (zk1 (hs.k fk_zMc_7))⟩) ⟨by decide, by decide, Nat.le_of_ble_eq_true rfl, Nat.le_of_ble_eq_true rfl⟩ (zs_in (by decide) mf41 (Nat.le_of_ble_eq_true rfl) ?_) (fun _ _ q => q)
  show zGo X l 0 0 0 41 0 [(0, .ref 7), (1, .int a)] [] M _
  refine zs_iload_n (pc := 0) t41_0 rfl ?_
  by_cases w7 : a.toInt < 0
  · refine zs_if_ltT (pc := 1) t41_1 rfl (by omega) ?_
    refine zs_iconst (pc := 16) t41_16 (v := 0) (by decide) ?_
    refine zs_iret (pc := 17) t41_17 mr41 (by decide) ?_
    show zGo X l 6 0 0 205 8 [(0, .ref 6), (1, .int a), (2, .int b)] [.int (0 : Int32)] M _
    refine zs_if_eqT (pc := 8) t205_8 li0 (by decide) ?_
    refine zs_ldc (pc := 20) t205_20 (v := -100000) rfl (by decide) ?_
    have w8 := zrg (zI M 166 10)
    have w9 : (zI M 166 10).toInt = (zI M 166 10).toInt := (congrArg Int32.toInt rfl).trans rfl
    have w10 := zrg (zI M 242 10)
    have w11 : (zI M 242 10).toInt = (zI M 242 10).toInt := (congrArg Int32.toInt rfl).trans rfl
    have w12 := lin100000
    exact zs_iret (pc := 22) t205_22 mr205 (by decide) (hQ _ _ hs hI (zFr.refl) (by omega) (by omega) (by omega) (by omega) x2 x3 x4)
  · refine zs_if_ltF (pc := 1) t41_1 rfl (by omega) ?_
    refine zs_iload_n (pc := 4) t41_4 rfl ?_
    refine zs_aload_n (pc := 5) t41_5 rfl ?_
    refine zs_get (pc := 6) t41_6 (by decide) (zk1 (hs.k fk_zMc_7)) (zfvi rfl rfl) ?_
    by_cases w13 : (zI M 7 0).toInt ≤ a.toInt
    · refine zs_icmp_geT (pc := 9) t41_9 rfl rfl (by omega) ?_
      refine zs_iconst (pc := 16) t41_16 (v := 0) (by decide) ?_
      refine zs_iret (pc := 17) t41_17 mr41 (by decide) ?_
      show zGo X l 6 0 0 205 8 [(0, .ref 6), (1, .int a), (2, .int b)] [.int (0 : Int32)] M _
      refine zs_if_eqT (pc := 8) t205_8 li0 (by decide) ?_
      refine zs_ldc (pc := 20) t205_20 (v := -100000) rfl (by decide) ?_
      have w14 := zrg (zI M 166 10)
      have w15 : (zI M 166 10).toInt = (zI M 166 10).toInt := (congrArg Int32.toInt rfl).trans rfl
      have w16 := zrg (zI M 242 10)
      have w17 : (zI M 242 10).toInt = (zI M 242 10).toInt := (congrArg Int32.toInt rfl).trans rfl
      have w18 := lin100000
      exact zs_iret (pc := 22) t205_22 mr205 (by decide) (hQ _ _ hs hI (zFr.refl) (by omega) (by omega) (by omega) (by omega) x2 x3 x4)
    · refine zs_icmp_geF (pc := 9) t41_9 rfl rfl (by omega) ?_
      refine zs_iconst (pc := 12) t41_12 (v := 1) (by decide) ?_
      refine zs_goto (pc := 13) t41_13 ?_
      refine zs_iret (pc := 17) t41_17 mr41 (by decide) ?_
      show zGo X l 6 0 0 205 8 [(0, .ref 6), (1, .int a), (2, .int b)] [.int (1 : Int32)] M _
      refine zs_if_eqF (pc := 8) t205_8 li1 (by decide) ?_
      refine zs_iload_n (pc := 11) t205_11 rfl ?_
      refine zs_iconst (pc := 12) t205_12 (v := 0) (by decide) ?_
      refine zs_iconst (pc := 13) t205_13 (v := 1) (by decide) ?_
      refine zs_invS (pc := 14) (as := [.int b, .int (0 : Int32), .int (1 : Int32)]) (st := []) t205_14 (by decide) mf39 rfl rfl ⟨by decide, by decide, Nat.le_of_ble_eq_true rfl, Nat.le_of_ble_eq_true rfl⟩ (zs_in (by decide) mf39 (Nat.le_of_ble_eq_true rfl) ?_) (fun _ _ q => q)
      show zGo X l 0 0 0 39 0 [(0, .int b), (1, .int (0 : Int32)), (2, .int (1 : Int32))] [] M _
      refine zs_iload_n (pc := 0) t39_0 rfl ?_
      refine zs_iload_n (pc := 1) t39_1 rfl ?_
      by_cases w19 : b.toInt < 0
      · refine zs_icmp_ltT (pc := 2) t39_2 rfl li0 (by omega) ?_
        refine zs_iconst (pc := 14) t39_14 (v := 0) (by decide) ?_
        refine zs_iret (pc := 15) t39_15 mr39 (by decide) ?_
        show zGo X l 6 0 0 205 17 [(0, .ref 6), (1, .int a), (2, .int b)] [.int (0 : Int32)] M _
        refine zs_if_neF (pc := 17) t205_17 li0 (by decide) ?_
        refine zs_ldc (pc := 20) t205_20 (v := -100000) rfl (by decide) ?_
        have w20 := zrg (zI M 166 10)
        have w21 : (zI M 166 10).toInt = (zI M 166 10).toInt := (congrArg Int32.toInt rfl).trans rfl
        have w22 := zrg (zI M 242 10)
        have w23 : (zI M 242 10).toInt = (zI M 242 10).toInt := (congrArg Int32.toInt rfl).trans rfl
        have w24 := lin100000
        exact zs_iret (pc := 22) t205_22 mr205 (by decide) (hQ _ _ hs hI (zFr.refl) (by omega) (by omega) (by omega) (by omega) x2 x3 x4)
      · refine zs_icmp_ltF (pc := 2) t39_2 rfl li0 (by omega) ?_
        refine zs_iload_n (pc := 5) t39_5 rfl ?_
        refine zs_iload_n (pc := 6) t39_6 rfl ?_
        by_cases w25 : 1 < b.toInt
        · refine zs_icmp_gtT (pc := 7) t39_7 rfl li1 (by omega) ?_
          refine zs_iconst (pc := 14) t39_14 (v := 0) (by decide) ?_
          refine zs_iret (pc := 15) t39_15 mr39 (by decide) ?_
          show zGo X l 6 0 0 205 17 [(0, .ref 6), (1, .int a), (2, .int b)] [.int (0 : Int32)] M _
          refine zs_if_neF (pc := 17) t205_17 li0 (by decide) ?_
          refine zs_ldc (pc := 20) t205_20 (v := -100000) rfl (by decide) ?_
          have w26 := zrg (zI M 166 10)
          have w27 : (zI M 166 10).toInt = (zI M 166 10).toInt := (congrArg Int32.toInt rfl).trans rfl
          have w28 := zrg (zI M 242 10)
          have w29 : (zI M 242 10).toInt = (zI M 242 10).toInt := (congrArg Int32.toInt rfl).trans rfl
          have w30 := lin100000
          exact zs_iret (pc := 22) t205_22 mr205 (by decide) (hQ _ _ hs hI (zFr.refl) (by omega) (by omega) (by omega) (by omega) x2 x3 x4)
        · refine zs_icmp_gtF (pc := 7) t39_7 rfl li1 (by omega) ?_
          refine zs_iconst (pc := 10) t39_10 (v := 1) (by decide) ?_
          refine zs_goto (pc := 11) t39_11 ?_
          refine zs_iret (pc := 15) t39_15 mr39 (by decide) ?_
          show zGo X l 6 0 0 205 17 [(0, .ref 6), (1, .int a), (2, .int b)] [.int (1 : Int32)] M _
          refine zs_if_neT (pc := 17) t205_17 li1 (by decide) ?_
          refine zs_iconst (pc := 23) t205_23 (v := 0) (by decide) ?_
          refine zs_istore_n (pc := 24) t205_24 (ls' := [(3, .int (0 : Int32)), (0, .ref 6), (1, .int a), (2, .int b)]) (zml mf205 (by decide)) rfl ?_
          refine zs_iconst (pc := 25) t205_25 (v := 0) (by decide) ?_
          refine zs_istore (pc := 26) t205_26 (ls' := [(4, .int (0 : Int32)), (3, .int (0 : Int32)), (0, .ref 6), (1, .int a), (2, .int b)]) (zml mf205 (by decide)) rfl ?_
          refine zs_aload_n (pc := 28) t205_28 rfl ?_
          refine zs_get (pc := 29) t205_29 (by decide) (zk1 (hs.k fk_zMc_6)) (hs.p rfl fv_zMc_6_6) ?_
          refine zs_aload_n (pc := 32) t205_32 rfl ?_
          refine zs_get (pc := 33) t205_33 (by decide) (zk1 (hs.k fk_zMc_6)) (hs.p rfl fv_zMc_6_0) ?_
          have w31 := zrg (zI M 166 10)
          have w32 : (zI M 166 10).toInt = (zI M 166 10).toInt := (congrArg Int32.toInt rfl).trans rfl
          have w33 : (zI M 166 10).toInt = (zI M 166 10).toInt := (congrArg Int32.toInt rfl).trans rfl
          refine zs_invV (pc := 36) (k := 164) (as' := [.ref 7]) (st := []) t205_36 mf105 rfl rfl (Or.inl ⟨by decide, (zk1 (hs.k fk_zMc_164))⟩) ⟨by decide, by decide, Nat.le_of_ble_eq_true rfl, Nat.le_of_ble_eq_true rfl⟩ (V105 hs hI (by omega) (by omega) x0 x1 x2 x3 ?_) (fun _ _ q => q)
          intro w34M w34s w34I w34F w34t0 w34t1 w34x0 w34x1 w34x2
          have w35 := zrg (zI w34M 166 10)
          show zGo X l 6 0 0 205 39 [(4, .int (0 : Int32)), (3, .int (0 : Int32)), (0, .ref 6), (1, .int a), (2, .int b)] [.ref 164] w34M _
          refine zs_invV (pc := 39) (k := 164) (as' := []) (st := []) t205_39 mf144 rfl rfl (Or.inl ⟨by decide, (zk1 (w34s.k fk_zMc_164))⟩) ⟨by decide, by decide, Nat.le_of_ble_eq_true rfl, Nat.le_of_ble_eq_true rfl⟩ (zs_in (by decide) mf144 (Nat.le_of_ble_eq_true rfl) ?_) (fun _ _ q => q)
          show zGo X l 0 0 0 144 0 [(0, .ref 164)] [] w34M _
          refine zs_aload_n (pc := 0) t144_0 rfl ?_
          have w36 := ib164_4 w34I
          refine zs_get (pc := 1) t144_1 (by decide) (zk1 (w34s.k fk_zMc_164)) (zfvi rfl rfl) ?_
          refine zs_iret (pc := 4) t144_4 mr144 rfl ?_
          show zGo X l 6 0 0 205 42 [(4, .int (0 : Int32)), (3, .int (0 : Int32)), (0, .ref 6), (1, .int a), (2, .int b)] [.int (zI w34M 164 4)] w34M _
          refine zs_istore (pc := 42) t205_42 (ls' := [(5, .int (zI w34M 164 4)), (4, .int (0 : Int32)), (3, .int (0 : Int32)), (0, .ref 6), (1, .int a), (2, .int b)]) (zml mf205 (by decide)) rfl ?_
          refine zs_iconst (pc := 44) t205_44 (v := 0) (by decide) ?_
          refine zs_istore (pc := 45) t205_45 (ls' := [(6, .int (0 : Int32)), (5, .int (zI w34M 164 4)), (4, .int (0 : Int32)), (3, .int (0 : Int32)), (0, .ref 6), (1, .int a), (2, .int b)]) (zml mf205 (by decide)) rfl ?_
          have w37L : ∀ (m : Nat) (w37x3 : Int32) (w37x4 : Int32) (w37x6 : Int32), (0 ≤ w37x6.toInt ∧ w37x6.toInt ≤ 20) → 20 - w37x6.toInt ≤ (m : Int) → zGo X l 6 0 0 205 47 [(0, .ref 6), (1, .int a), (2, .int b), (3, .int w37x3), (4, .int w37x4), (5, .int (zI w34M 164 4)), (6, .int w37x6)] [] w34M Q := by
            intro m
            induction m using Nat.strongRecOn with
            | ind w37m w37ih =>
              intro w37x3 w37x4 w37x6 w37b6 w37q
              have w37g3 := zrg w37x3
              have w37g4 := zrg w37x4
              refine zs_iload (pc := 47) t205_47 rfl ?_
              refine zs_iload (pc := 49) t205_49 rfl ?_
              by_cases w38 : (zI w34M 164 4).toInt ≤ w37x6.toInt
              · refine zs_icmp_geT (pc := 51) t205_51 rfl rfl (by omega) ?_
                refine zs_iload_n (pc := 120) t205_120 rfl ?_
                refine zs_iconst (pc := 121) t205_121 (v := 1) (by decide) ?_
                by_cases w39 : b.toInt ≠ 1
                · refine zs_icmp_neT (pc := 122) t205_122 rfl li1 (by omega) ?_
                  refine zs_iload_n (pc := 127) t205_127 rfl ?_
                  by_cases w40 : w37x3.toInt ≠ 0
                  · refine zs_if_neT (pc := 128) t205_128 rfl (by omega) ?_
                    refine zs_iload (pc := 135) t205_135 rfl ?_
                    refine zs_iload_n (pc := 137) t205_137 rfl ?_
                    refine zs_invS (pc := 138) (as := [.int w37x4, .int w37x3]) (st := []) t205_138 (by decide) mf54 rfl rfl ⟨by decide, by decide, Nat.le_of_ble_eq_true rfl, Nat.le_of_ble_eq_true rfl⟩ (zs_in (by decide) mf54 (Nat.le_of_ble_eq_true rfl) ?_) (fun _ _ q => q)
                    show zGo X l 0 0 0 54 0 [(0, .int w37x4), (1, .int w37x3)] [] w34M _
                    refine zs_iload_n (pc := 0) t54_0 rfl ?_
                    refine zs_iload_n (pc := 1) t54_1 rfl ?_
                    obtain ⟨w41v, w41⟩ : ∃ v, w37x4 / w37x3 = v := ⟨_, rfl⟩
                    have w41g := zrg w41v
                    refine zs_idiv (pc := 2) t54_2 (znz rfl (by omega)) (c := w41v) w41 ?_
                    refine zs_istore_n (pc := 3) t54_3 (ls' := [(2, .int w41v), (0, .int w37x4), (1, .int w37x3)]) (zml mf54 (by decide)) rfl ?_
                    refine zs_iload_n (pc := 4) t54_4 rfl ?_
                    refine zs_iload_n (pc := 5) t54_5 rfl ?_
                    obtain ⟨w42v, w42⟩ : ∃ v, w37x4 ^^^ w37x3 = v := ⟨_, rfl⟩
                    have w42g := zrg w42v
                    refine zs_ixor (pc := 6) t54_6 (c := w42v) w42 ?_
                    by_cases w43 : 0 ≤ w42v.toInt
                    · refine zs_if_geT (pc := 7) t54_7 rfl (by omega) ?_
                      refine zs_iload_n (pc := 21) t54_21 rfl ?_
                      refine zs_iret (pc := 22) t54_22 mr54 rfl ?_
                      show zGo X l 6 0 0 205 141 [(0, .ref 6), (1, .int a), (2, .int b), (3, .int w37x3), (4, .int w37x4), (5, .int (zI w34M 164 4)), (6, .int w37x6)] [.int w41v] w34M _
                      have w44 : (zI w34M 166 10).toInt = (zI w34M 166 10).toInt := (congrArg Int32.toInt rfl).trans rfl
                      have w45 := zrg (zI M 242 10)
                      have w46 : (zI w34M 242 10).toInt = (zI M 242 10).toInt := (congrArg Int32.toInt ((w34F 242 10 rfl).trans rfl)).trans rfl
                      exact zs_iret (pc := 141) t205_141 mr205 rfl (hQ _ _ w34s w34I ((zFr.refl).trans (w34F.mono rfl)) (by omega) (by omega) (by omega) (by omega) (fun _ => w34x0) w34x1 (zSp.fr x4 (fun j => (w34F 250 j rfl)) (w34F 242 10 rfl)))
                    · refine zs_if_geF (pc := 7) t54_7 rfl (by omega) ?_
                      refine zs_iload_n (pc := 10) t54_10 rfl ?_
                      refine zs_iload_n (pc := 11) t54_11 rfl ?_
                      obtain ⟨w47v, w47⟩ : ∃ v, w41v * w37x3 = v := ⟨_, rfl⟩
                      have w47g := zrg w47v
                      refine zs_imul (pc := 12) t54_12 (c := w47v) w47 ?_
                      refine zs_iload_n (pc := 13) t54_13 rfl ?_
                      by_cases w48 : w47v.toInt = w37x4.toInt
                      · refine zs_icmp_eqT (pc := 14) t54_14 rfl rfl (by omega) ?_
                        refine zs_iload_n (pc := 21) t54_21 rfl ?_
                        refine zs_iret (pc := 22) t54_22 mr54 rfl ?_
                        show zGo X l 6 0 0 205 141 [(0, .ref 6), (1, .int a), (2, .int b), (3, .int w37x3), (4, .int w37x4), (5, .int (zI w34M 164 4)), (6, .int w37x6)] [.int w41v] w34M _
                        have w49 : (zI w34M 166 10).toInt = (zI w34M 166 10).toInt := (congrArg Int32.toInt rfl).trans rfl
                        have w50 : (zI w34M 242 10).toInt = (zI M 242 10).toInt := (congrArg Int32.toInt ((w34F 242 10 rfl).trans rfl)).trans rfl
                        exact zs_iret (pc := 141) t205_141 mr205 rfl (hQ _ _ w34s w34I ((zFr.refl).trans (w34F.mono rfl)) (by omega) (by omega) (by omega) (by omega) (fun _ => w34x0) w34x1 (zSp.fr x4 (fun j => (w34F 250 j rfl)) (w34F 242 10 rfl)))
                      · refine zs_icmp_eqF (pc := 14) t54_14 rfl rfl (by omega) ?_
                        refine zs_iload_n (pc := 17) t54_17 rfl ?_
                        refine zs_iconst (pc := 18) t54_18 (v := 1) (by decide) ?_
                        obtain ⟨w51v, w51⟩ : ∃ v, v = w41v - (1 : Int32) := ⟨_, rfl⟩
                        have w51g := zrg w51v
                        refine zs_isub (pc := 19) t54_19 (c := w51v) w51.symm ?_
                        refine zs_iret (pc := 20) t54_20 mr54 rfl ?_
                        show zGo X l 6 0 0 205 141 [(0, .ref 6), (1, .int a), (2, .int b), (3, .int w37x3), (4, .int w37x4), (5, .int (zI w34M 164 4)), (6, .int w37x6)] [.int w51v] w34M _
                        have w52 : (zI w34M 166 10).toInt = (zI w34M 166 10).toInt := (congrArg Int32.toInt rfl).trans rfl
                        have w53 : (zI w34M 242 10).toInt = (zI M 242 10).toInt := (congrArg Int32.toInt ((w34F 242 10 rfl).trans rfl)).trans rfl
                        exact zs_iret (pc := 141) t205_141 mr205 rfl (hQ _ _ w34s w34I ((zFr.refl).trans (w34F.mono rfl)) (by omega) (by omega) (by omega) (by omega) (fun _ => w34x0) w34x1 (zSp.fr x4 (fun j => (w34F 250 j rfl)) (w34F 242 10 rfl)))
                  · refine zs_if_neF (pc := 128) t205_128 rfl (by omega) ?_
                    refine zs_iconst (pc := 131) t205_131 (v := 0) (by decide) ?_
                    refine zs_goto (pc := 132) t205_132 ?_
                    have w54 : (zI w34M 166 10).toInt = (zI w34M 166 10).toInt := (congrArg Int32.toInt rfl).trans rfl
                    have w55 : (zI w34M 242 10).toInt = (zI M 242 10).toInt := (congrArg Int32.toInt ((w34F 242 10 rfl).trans rfl)).trans rfl
                    have w56 := li0
                    exact zs_iret (pc := 141) t205_141 mr205 (by decide) (hQ _ _ w34s w34I ((zFr.refl).trans (w34F.mono rfl)) (by omega) (by omega) (by omega) (by omega) (fun _ => w34x0) w34x1 (zSp.fr x4 (fun j => (w34F 250 j rfl)) (w34F 242 10 rfl)))
                · refine zs_icmp_neF (pc := 122) t205_122 rfl li1 (by omega) ?_
                  refine zs_iload_n (pc := 125) t205_125 rfl ?_
                  have w57 : (zI w34M 166 10).toInt = (zI w34M 166 10).toInt := (congrArg Int32.toInt rfl).trans rfl
                  have w58 : (zI w34M 242 10).toInt = (zI M 242 10).toInt := (congrArg Int32.toInt ((w34F 242 10 rfl).trans rfl)).trans rfl
                  exact zs_iret (pc := 126) t205_126 mr205 rfl (hQ _ _ w34s w34I ((zFr.refl).trans (w34F.mono rfl)) (by omega) (by omega) (by omega) (by omega) (fun _ => w34x0) w34x1 (zSp.fr x4 (fun j => (w34F 250 j rfl)) (w34F 242 10 rfl)))
              · refine zs_icmp_geF (pc := 51) t205_51 rfl rfl (by omega) ?_
                refine zs_aload_n (pc := 54) t205_54 rfl ?_
                refine zs_get (pc := 55) t205_55 (by decide) (zk1 (w34s.k fk_zMc_6)) (w34s.p rfl fv_zMc_6_6) ?_
                refine zs_iload (pc := 58) t205_58 rfl ?_
                refine zs_invV (pc := 60) (k := 164) (as' := [.int w37x6]) (st := []) t205_60 mf163 rfl rfl (Or.inl ⟨by decide, (zk1 (w34s.k fk_zMc_164))⟩) ⟨by decide, by decide, Nat.le_of_ble_eq_true rfl, Nat.le_of_ble_eq_true rfl⟩ (zs_in (by decide) mf163 (Nat.le_of_ble_eq_true rfl) ?_) (fun _ _ q => q)
                show zGo X l 1 0 0 163 0 [(0, .ref 164), (1, .int w37x6)] [] w34M _
                refine zs_iload_n (pc := 0) t163_0 rfl ?_
                refine zs_aload_n (pc := 1) t163_1 rfl ?_
                refine zs_get (pc := 2) t163_2 (by decide) (zk1 (w34s.k fk_zMc_164)) (zfvi rfl rfl) ?_
                by_cases w59 : (zI w34M 164 4).toInt ≤ w37x6.toInt
                · refine zs_icmp_geT (pc := 5) t163_5 rfl rfl (by omega) ?_
                  refine zs_aconst_null (pc := 19) t163_19 ?_
                  refine zs_aret0 (pc := 20) t163_20 (by rw [mr163]; rfl) ?_
                  show zGo X l 6 0 0 205 63 [(0, .ref 6), (1, .int a), (2, .int b), (3, .int w37x3), (4, .int w37x4), (5, .int (zI w34M 164 4)), (6, .int w37x6)] [.null] w34M _
                  refine zs_astore0 (pc := 63) t205_63 (ls' := [(7, .null), (0, .ref 6), (1, .int a), (2, .int b), (3, .int w37x3), (4, .int w37x4), (5, .int (zI w34M 164 4)), (6, .int w37x6)]) (zml mf205 (by decide)) rfl ?_
                  refine zs_aload0 (pc := 65) t205_65 rfl ?_
                  refine zs_ifnullT (pc := 67) t205_67 ?_
                  obtain ⟨w60v, w60e, w60⟩ := ziadd (a := w37x6) (b := Int32.ofInt 1) rfl (show (Int32.ofInt 1).toInt = 1 by decide) (by omega) (by omega)
                  refine zs_iinc (pc := 114) t205_114 (ls' := [(6, .int w60v), (7, .null), (0, .ref 6), (1, .int a), (2, .int b), (3, .int w37x3), (4, .int w37x4), (5, .int (zI w34M 164 4))]) (zml mf205 (by decide)) rfl (c := w60v) w60e rfl ?_
                  refine zs_goto (pc := 117) t205_117 ?_
                  refine zGo.locals (ls' := [(0, .ref 6), (1, .int a), (2, .int b), (3, .int w37x3), (4, .int w37x4), (5, .int (zI w34M 164 4)), (6, .int w60v)]) (by simp) ?_
                  have w61 := w60
                  exact w37ih (w37m - 1) (by omega) w37x3 w37x4 w60v ⟨by omega, by omega⟩ (by omega)
                · refine zs_icmp_geF (pc := 5) t163_5 rfl rfl (by omega) ?_
                  refine zs_aload_n (pc := 8) t163_8 rfl ?_
                  refine zs_get (pc := 9) t163_9 (by decide) (zk1 (w34s.k fk_zMc_164)) (w34s.p rfl fv_zMc_164_1) ?_
                  refine zs_iload_n (pc := 12) t163_12 rfl ?_
                  refine zs_invV (pc := 13) (k := 165) (as' := [.int w37x6]) (st := []) t163_13 mf126 rfl rfl (Or.inl ⟨by decide, (zk1 (w34s.k fk_zMc_165))⟩) ⟨by decide, by decide, Nat.le_of_ble_eq_true rfl, Nat.le_of_ble_eq_true rfl⟩ (zs_in (by decide) mf126 (Nat.le_of_ble_eq_true rfl) ?_) (fun _ _ q => q)
                  show zGo X l 0 0 0 126 0 [(0, .ref 165), (1, .int w37x6)] [] w34M _
                  refine zs_iload_n (pc := 0) t126_0 rfl ?_
                  refine zs_if_ltF (pc := 1) t126_1 rfl (by omega) ?_
                  refine zs_iload_n (pc := 4) t126_4 rfl ?_
                  refine zs_aload_n (pc := 5) t126_5 rfl ?_
                  have w62 := ib165_2 w34I
                  refine zs_get (pc := 6) t126_6 (by decide) (zk1 (w34s.k fk_zMc_165)) (zfvi rfl rfl) ?_
                  by_cases w63 : (zI w34M 165 2).toInt ≤ w37x6.toInt
                  · refine zs_icmp_geT (pc := 9) t126_9 rfl rfl (by omega) ?_
                    refine zs_aconst_null (pc := 21) t126_21 ?_
                    refine zs_aret0 (pc := 22) t126_22 (by rw [mr126]; rfl) ?_
                    show zGo X l 1 0 0 163 16 [(0, .ref 164), (1, .int w37x6)] [.null] w34M _
                    refine zs_goto (pc := 16) t163_16 ?_
                    refine zs_aret0 (pc := 20) t163_20 (by rw [mr163]; rfl) ?_
                    show zGo X l 6 0 0 205 63 [(0, .ref 6), (1, .int a), (2, .int b), (3, .int w37x3), (4, .int w37x4), (5, .int (zI w34M 164 4)), (6, .int w37x6)] [.null] w34M _
                    refine zs_astore0 (pc := 63) t205_63 (ls' := [(7, .null), (0, .ref 6), (1, .int a), (2, .int b), (3, .int w37x3), (4, .int w37x4), (5, .int (zI w34M 164 4)), (6, .int w37x6)]) (zml mf205 (by decide)) rfl ?_
                    refine zs_aload0 (pc := 65) t205_65 rfl ?_
                    refine zs_ifnullT (pc := 67) t205_67 ?_
                    obtain ⟨w64v, w64e, w64⟩ := ziadd (a := w37x6) (b := Int32.ofInt 1) rfl (show (Int32.ofInt 1).toInt = 1 by decide) (by omega) (by omega)
                    refine zs_iinc (pc := 114) t205_114 (ls' := [(6, .int w64v), (7, .null), (0, .ref 6), (1, .int a), (2, .int b), (3, .int w37x3), (4, .int w37x4), (5, .int (zI w34M 164 4))]) (zml mf205 (by decide)) rfl (c := w64v) w64e rfl ?_
                    refine zs_goto (pc := 117) t205_117 ?_
                    refine zGo.locals (ls' := [(0, .ref 6), (1, .int a), (2, .int b), (3, .int w37x3), (4, .int w37x4), (5, .int (zI w34M 164 4)), (6, .int w64v)]) (by simp) ?_
                    have w65 := w64
                    exact w37ih (w37m - 1) (by omega) w37x3 w37x4 w64v ⟨by omega, by omega⟩ (by omega)
                  · refine zs_icmp_geF (pc := 9) t126_9 rfl rfl (by omega) ?_
                    refine zs_aload_n (pc := 12) t126_12 rfl ?_
                    refine zs_get (pc := 13) t126_13 (by decide) (zk1 (w34s.k fk_zMc_165)) (w34s.p rfl fv_zMc_165_1) ?_
                    refine zs_iload_n (pc := 16) t126_16 rfl ?_
                    obtain ⟨w66n, w66⟩ : ∃ n : Nat, w37x6.toInt = (n : Int) := ⟨(w37x6.toInt).toNat, by omega⟩
                    have w67 : w66n < 20 := by omega
                    refine zs_aald (pc := 17) t126_17 (j := w66n) (Or.inr (zk1 (w34s.k fk_zMc_179))) (show w37x6.toInt = ((w66n : Nat) : Int) by omega) (zk2 (w34s.k fk_zMc_179) (by omega)) (w34s.a (fpT181 w66n w67)) ?_
                    refine zs_goto (pc := 18) t126_18 ?_
                    refine zs_aret (pc := 22) t126_22 (by rw [mr126]; rfl) ?_
                    show zGo X l 1 0 0 163 16 [(0, .ref 164), (1, .int w37x6)] [.ref (181 + 3 * w66n)] w34M _
                    refine zs_goto (pc := 16) t163_16 ?_
                    refine zs_aret (pc := 20) t163_20 (by rw [mr163]; rfl) ?_
                    show zGo X l 6 0 0 205 63 [(0, .ref 6), (1, .int a), (2, .int b), (3, .int w37x3), (4, .int w37x4), (5, .int (zI w34M 164 4)), (6, .int w37x6)] [.ref (181 + 3 * w66n)] w34M _
                    refine zs_astore (pc := 63) t205_63 (ls' := [(7, .ref (181 + 3 * w66n)), (0, .ref 6), (1, .int a), (2, .int b), (3, .int w37x3), (4, .int w37x4), (5, .int (zI w34M 164 4)), (6, .int w37x6)]) (zml mf205 (by decide)) rfl ?_
                    refine zs_aload (pc := 65) t205_65 rfl ?_
                    refine zs_ifnullF (pc := 67) t205_67 ?_
                    refine zs_aload (pc := 70) t205_70 rfl ?_
                    refine zs_get (pc := 72) t205_72 (by decide) (zk1 (w34s.k (fT181_0 w66n w67))) (w34s.p rfl (fvT181_6 w66n w67)) ?_
                    refine zs_iload_n (pc := 75) t205_75 rfl ?_
                    obtain ⟨w68n, w68⟩ : ∃ n : Nat, a.toInt = (n : Int) := ⟨(a.toInt).toNat, by omega⟩
                    have w69 := ibT181_1 w34I w67 w68n
                    refine zs_iald (pc := 76) t205_76 (j := w68n) (by omega) (zk1 (w34s.k (fT181_1 w66n w67))) (show a.toInt = ((w68n : Nat) : Int) by omega) (zk2 (w34s.k (fT181_1 w66n w67)) (by omega)) rfl ?_
                    by_cases w70 : (zI w34M (181 + 3 * w66n + 1) w68n).toInt < 0
                    · refine zs_if_ltT (pc := 77) t205_77 rfl (by omega) ?_
                      obtain ⟨w71v, w71e, w71⟩ := ziadd (a := w37x6) (b := Int32.ofInt 1) rfl (show (Int32.ofInt 1).toInt = 1 by decide) (by omega) (by omega)
                      refine zs_iinc (pc := 114) t205_114 (ls' := [(6, .int w71v), (7, .ref (181 + 3 * w66n)), (0, .ref 6), (1, .int a), (2, .int b), (3, .int w37x3), (4, .int w37x4), (5, .int (zI w34M 164 4))]) (zml mf205 (by decide)) rfl (c := w71v) w71e rfl ?_
                      refine zs_goto (pc := 117) t205_117 ?_
                      refine zGo.locals (ls' := [(0, .ref 6), (1, .int a), (2, .int b), (3, .int w37x3), (4, .int w37x4), (5, .int (zI w34M 164 4)), (6, .int w71v)]) (by simp) ?_
                      have w72 := w71
                      exact w37ih (w37m - 1) (by omega) w37x3 w37x4 w71v ⟨by omega, by omega⟩ (by omega)
                    · refine zs_if_ltF (pc := 77) t205_77 rfl (by omega) ?_
                      obtain ⟨w73v, w73e⟩ : ∃ v, w37x3 + Int32.ofInt 1 = v := ⟨_, rfl⟩
                      have w73 := zrg w73v
                      refine zs_iinc (pc := 80) t205_80 (ls' := [(3, .int w73v), (7, .ref (181 + 3 * w66n)), (0, .ref 6), (1, .int a), (2, .int b), (4, .int w37x4), (5, .int (zI w34M 164 4)), (6, .int w37x6)]) (zml mf205 (by decide)) rfl (c := w73v) w73e rfl ?_
                      refine zs_iload (pc := 83) t205_83 rfl ?_
                      refine zs_aload_n (pc := 85) t205_85 rfl ?_
                      refine zs_get (pc := 86) t205_86 (by decide) (zk1 (w34s.k fk_zMc_6)) (w34s.p rfl fv_zMc_6_0) ?_
                      refine zs_get (pc := 89) t205_89 (by decide) (zk1 (w34s.k fk_zMc_7)) (w34s.p rfl fv_zMc_7_5) ?_
                      refine zs_aload (pc := 92) t205_92 rfl ?_
                      refine zs_get (pc := 94) t205_94 (by decide) (zk1 (w34s.k (fT181_0 w66n w67))) (w34s.p rfl (fvT181_6 w66n w67)) ?_
                      refine zs_iload_n (pc := 97) t205_97 rfl ?_
                      refine zs_iald (pc := 98) t205_98 (j := w68n) (by omega) (zk1 (w34s.k (fT181_1 w66n w67))) (show a.toInt = ((w68n : Nat) : Int) by omega) (zk2 (w34s.k (fT181_1 w66n w67)) (by omega)) rfl ?_
                      obtain ⟨w74n, w74⟩ : ∃ n : Nat, (zI w34M (181 + 3 * w66n + 1) w68n).toInt = (n : Int) := ⟨((zI w34M (181 + 3 * w66n + 1) w68n).toInt).toNat, by omega⟩
                      have w75 := zrg (zI M 11 w74n)
                      refine zs_iald (pc := 99) t205_99 (j := w74n) (by decide) (zk1 (w34s.k fk_zMc_11)) (show (zI w34M (181 + 3 * w66n + 1) w68n).toInt = ((w74n : Nat) : Int) by omega) (zk2 (w34s.k fk_zMc_11) (by omega)) ((w34F 11 w74n rfl).trans rfl) ?_
                      refine zs_aload (pc := 100) t205_100 rfl ?_
                      refine zs_aload_n (pc := 102) t205_102 rfl ?_
                      refine zs_get (pc := 103) t205_103 (by decide) (zk1 (w34s.k fk_zMc_6)) (w34s.p rfl fv_zMc_6_0) ?_
                      refine zs_iload_n (pc := 106) t205_106 rfl ?_
                      refine zs_invV (pc := 107) (k := (181 + 3 * w66n)) (as' := [.ref 7, .int a]) (st := [.int (zI M 11 w74n), .int w37x4]) t205_107 mf202 rfl rfl (Or.inl ⟨by decide, (zk1 (w34s.k (fT181_0 w66n w67)))⟩) ⟨by decide, by decide, Nat.le_of_ble_eq_true rfl, Nat.le_of_ble_eq_true rfl⟩ (zs_in (by decide) mf202 (Nat.le_of_ble_eq_true rfl) ?_) (fun _ _ q => q)
                      show zGo X l 2 0 0 202 0 [(0, .ref (181 + 3 * w66n)), (1, .ref 7), (2, .int a)] [] w34M _
                      refine zs_aload_n (pc := 0) t202_0 rfl ?_
                      refine zs_iload_n (pc := 1) t202_1 rfl ?_
                      refine zs_invV (pc := 2) (k := 7) (as' := [.int a]) (st := []) t202_2 mf41 rfl rfl (Or.inl ⟨by decide, (zk1 (w34s.k fk_zMc_7))⟩) ⟨by decide, by decide, Nat.le_of_ble_eq_true rfl, Nat.le_of_ble_eq_true rfl⟩ (zs_in (by decide) mf41 (Nat.le_of_ble_eq_true rfl) ?_) (fun _ _ q => q)
                      show zGo X l 0 0 0 41 0 [(0, .ref 7), (1, .int a)] [] w34M _
                      refine zs_iload_n (pc := 0) t41_0 rfl ?_
                      refine zs_if_ltF (pc := 1) t41_1 rfl (by omega) ?_
                      refine zs_iload_n (pc := 4) t41_4 rfl ?_
                      refine zs_aload_n (pc := 5) t41_5 rfl ?_
                      refine zs_get (pc := 6) t41_6 (by decide) (zk1 (w34s.k fk_zMc_7)) (zfvi rfl ((w34F 7 0 rfl).trans rfl)) ?_
                      by_cases w76 : (zI M 7 0).toInt ≤ a.toInt
                      · refine zs_icmp_geT (pc := 9) t41_9 rfl rfl (by omega) ?_
                        refine zs_iconst (pc := 16) t41_16 (v := 0) (by decide) ?_
                        refine zs_iret (pc := 17) t41_17 mr41 (by decide) ?_
                        show zGo X l 2 0 0 202 5 [(0, .ref (181 + 3 * w66n)), (1, .ref 7), (2, .int a)] [.int (0 : Int32)] w34M _
                        refine zs_if_neF (pc := 5) t202_5 li0 (by decide) ?_
                        refine zs_iconst (pc := 8) t202_8 (v := 0) (by decide) ?_
                        refine zs_iret (pc := 9) t202_9 mr202 (by decide) ?_
                        show zGo X l 6 0 0 205 110 [(3, .int w73v), (7, .ref (181 + 3 * w66n)), (0, .ref 6), (1, .int a), (2, .int b), (4, .int w37x4), (5, .int (zI w34M 164 4)), (6, .int w37x6)] [.int (0 : Int32), .int (zI M 11 w74n), .int w37x4] w34M _
                        refine zs_isub (pc := 110) t205_110 (c := (zI M 11 w74n)) (zsub0 _) ?_
                        obtain ⟨w77v, w77⟩ : ∃ v, v = w37x4 + (zI M 11 w74n) := ⟨_, rfl⟩
                        have w77g := zrg w77v
                        refine zs_iadd (pc := 111) t205_111 (c := w77v) w77.symm ?_
                        refine zs_istore (pc := 112) t205_112 (ls' := [(4, .int w77v), (3, .int w73v), (7, .ref (181 + 3 * w66n)), (0, .ref 6), (1, .int a), (2, .int b), (5, .int (zI w34M 164 4)), (6, .int w37x6)]) (zml mf205 (by decide)) rfl ?_
                        obtain ⟨w78v, w78e, w78⟩ := ziadd (a := w37x6) (b := Int32.ofInt 1) rfl (show (Int32.ofInt 1).toInt = 1 by decide) (by omega) (by omega)
                        refine zs_iinc (pc := 114) t205_114 (ls' := [(6, .int w78v), (4, .int w77v), (3, .int w73v), (7, .ref (181 + 3 * w66n)), (0, .ref 6), (1, .int a), (2, .int b), (5, .int (zI w34M 164 4))]) (zml mf205 (by decide)) rfl (c := w78v) w78e rfl ?_
                        refine zs_goto (pc := 117) t205_117 ?_
                        refine zGo.locals (ls' := [(0, .ref 6), (1, .int a), (2, .int b), (3, .int w73v), (4, .int w77v), (5, .int (zI w34M 164 4)), (6, .int w78v)]) (by simp) ?_
                        have w79 := w78
                        exact w37ih (w37m - 1) (by omega) w73v w77v w78v ⟨by omega, by omega⟩ (by omega)
                      · refine zs_icmp_geF (pc := 9) t41_9 rfl rfl (by omega) ?_
                        refine zs_iconst (pc := 12) t41_12 (v := 1) (by decide) ?_
                        refine zs_goto (pc := 13) t41_13 ?_
                        refine zs_iret (pc := 17) t41_17 mr41 (by decide) ?_
                        show zGo X l 2 0 0 202 5 [(0, .ref (181 + 3 * w66n)), (1, .ref 7), (2, .int a)] [.int (1 : Int32)] w34M _
                        refine zs_if_neT (pc := 5) t202_5 li1 (by decide) ?_
                        refine zs_aload_n (pc := 10) t202_10 rfl ?_
                        have w80 := zrg64 (zJ w34M (181 + 3 * w66n) 9)
                        refine zs_get (pc := 11) t202_11 (by decide) (zk1 (w34s.k (fT181_0 w66n w67))) (zfvj rfl) ?_
                        refine zs_aload_n (pc := 14) t202_14 rfl ?_
                        have w81 := zrg64 (zJ w34M (181 + 3 * w66n) 10)
                        refine zs_get (pc := 15) t202_15 (by decide) (zk1 (w34s.k (fT181_0 w66n w67))) (zfvj rfl) ?_
                        refine zs_aload_n (pc := 18) t202_18 rfl ?_
                        refine zs_get (pc := 19) t202_19 (by decide) (zk1 (w34s.k fk_zMc_7)) (w34s.p rfl fv_zMc_7_1) ?_
                        refine zs_iload_n (pc := 22) t202_22 rfl ?_
                        have w82 := zrg (zI M 8 w68n)
                        have w83 : (zI M 8 w68n).toInt = F (14 + 2 * w68n) ∧ (zI M 9 w68n).toInt = F (15 + 2 * w68n) := x0.2.1 w68n (by omega)
                        have w84 := x1.2.1 w68n (by omega)
                        refine zs_iald (pc := 23) t202_23 (j := w68n) (by decide) (zk1 (w34s.k fk_zMc_8)) (show a.toInt = ((w68n : Nat) : Int) by omega) (zk2 (w34s.k fk_zMc_8) (by omega)) ((w34F 8 w68n rfl).trans rfl) ?_
                        refine zs_i2l (pc := 24) t202_24 rfl ?_
                        obtain ⟨w85v, w85⟩ : ∃ v, (zJ w34M (181 + 3 * w66n) 10) * (zI M 8 w68n).toInt64 = v := ⟨_, rfl⟩
                        have w85g := zrg64 w85v
                        refine zs_lmul (pc := 25) t202_25 (c := w85v) w85 ?_
                        obtain ⟨w86v, w86⟩ : ∃ v, (zJ w34M (181 + 3 * w66n) 9) + w85v = v := ⟨_, rfl⟩
                        have w86g := zrg64 w86v
                        refine zs_ladd (pc := 26) t202_26 (c := w86v) w86 ?_
                        refine zs_lstore_n (pc := 27) t202_27 (ls' := [(3, .long w86v), (0, .ref (181 + 3 * w66n)), (1, .ref 7), (2, .int a)]) (zml mf202 (by decide)) rfl ?_
                        refine zs_lload_n (pc := 28) t202_28 rfl ?_
                        refine zs_lconst (pc := 29) t202_29 (v := 1) (by decide) ?_
                        refine zs_aload_n (pc := 30) t202_30 rfl ?_
                        have w87 := zrg64 (zJ w34M (181 + 3 * w66n) 8)
                        refine zs_get (pc := 31) t202_31 (by decide) (zk1 (w34s.k (fT181_0 w66n w67))) (zfvj rfl) ?_
                        have w88 : (1 : Int64).toInt = 1 := ll1
                        refine zs_invS (pc := 34) (as := [.long (1 : Int64), .long (zJ w34M (181 + 3 * w66n) 8)]) (st := [.long w86v]) t202_34 (by decide) mf134 rfl rfl ⟨by decide, by decide, Nat.le_of_ble_eq_true rfl, Nat.le_of_ble_eq_true rfl⟩ (V134 w34s w34I ?_) (fun _ _ q => q)
                        intro w89v w89x0
                        have w89g := zrg64 w89v
                        have w89g1 : 1 ≤ w89v.toInt := by rw [w89x0]; exact mxL.ge
                        show zGo X l 2 0 0 202 37 [(3, .long w86v), (0, .ref (181 + 3 * w66n)), (1, .ref 7), (2, .int a)] [.long w89v, .long w86v] w34M _
                        refine zs_invS (pc := 37) (as := [.long w86v, .long w89v]) (st := []) t202_37 (by decide) mf140 rfl rfl ⟨by decide, by decide, Nat.le_of_ble_eq_true rfl, Nat.le_of_ble_eq_true rfl⟩ (V140 w34s w34I ⟨by omega, by omega⟩ ?_) (fun _ _ q => q)
                        intro w90v w90x0
                        have w90g := zrg64 w90v
                        show zGo X l 2 0 0 202 40 [(3, .long w86v), (0, .ref (181 + 3 * w66n)), (1, .ref 7), (2, .int a)] [.long w90v] w34M _
                        obtain ⟨w91v, w91⟩ : ∃ v, w90v.toInt32 = v := ⟨_, rfl⟩
                        have w91g := zrg w91v
                        refine zs_l2i (pc := 40) t202_40 (c := w91v) w91 ?_
                        refine zs_aload_n (pc := 41) t202_41 rfl ?_
                        refine zs_iload_n (pc := 42) t202_42 rfl ?_
                        refine zs_aload_n (pc := 43) t202_43 rfl ?_
                        have w92 := ibT181_0_0 w34I w67
                        refine zs_get (pc := 44) t202_44 (by decide) (zk1 (w34s.k (fT181_0 w66n w67))) (zfvi rfl rfl) ?_
                        refine zs_invV (pc := 47) (k := 7) (as' := [.int a, .int (zI w34M (181 + 3 * w66n) 0)]) (st := [.int w91v]) t202_47 mf55 rfl rfl (Or.inl ⟨by decide, (zk1 (w34s.k fk_zMc_7))⟩) ⟨by decide, by decide, Nat.le_of_ble_eq_true rfl, Nat.le_of_ble_eq_true rfl⟩ (X55_7 w34s w34I (zSo.fr x0 (zFr.eq w34F rfl)) x1 ?_) (fun _ _ q => q)
                        intro w93v w93x0
                        have w93g := zrg w93v
                        show zGo X l 2 0 0 202 50 [(3, .long w86v), (0, .ref (181 + 3 * w66n)), (1, .ref 7), (2, .int a)] [.int w93v, .int w91v] w34M _
                        obtain ⟨w94v, w94⟩ : ∃ v, v = w91v + w93v := ⟨_, rfl⟩
                        have w94g := zrg w94v
                        refine zs_iadd (pc := 50) t202_50 (c := w94v) w94.symm ?_
                        refine zs_iret (pc := 51) t202_51 mr202 rfl ?_
                        show zGo X l 6 0 0 205 110 [(3, .int w73v), (7, .ref (181 + 3 * w66n)), (0, .ref 6), (1, .int a), (2, .int b), (4, .int w37x4), (5, .int (zI w34M 164 4)), (6, .int w37x6)] [.int w94v, .int (zI M 11 w74n), .int w37x4] w34M _
                        obtain ⟨w95v, w95⟩ : ∃ v, v = (zI M 11 w74n) - w94v := ⟨_, rfl⟩
                        have w95g := zrg w95v
                        refine zs_isub (pc := 110) t205_110 (c := w95v) w95.symm ?_
                        obtain ⟨w96v, w96⟩ : ∃ v, v = w37x4 + w95v := ⟨_, rfl⟩
                        have w96g := zrg w96v
                        refine zs_iadd (pc := 111) t205_111 (c := w96v) w96.symm ?_
                        refine zs_istore (pc := 112) t205_112 (ls' := [(4, .int w96v), (3, .int w73v), (7, .ref (181 + 3 * w66n)), (0, .ref 6), (1, .int a), (2, .int b), (5, .int (zI w34M 164 4)), (6, .int w37x6)]) (zml mf205 (by decide)) rfl ?_
                        obtain ⟨w97v, w97e, w97⟩ := ziadd (a := w37x6) (b := Int32.ofInt 1) rfl (show (Int32.ofInt 1).toInt = 1 by decide) (by omega) (by omega)
                        refine zs_iinc (pc := 114) t205_114 (ls' := [(6, .int w97v), (4, .int w96v), (3, .int w73v), (7, .ref (181 + 3 * w66n)), (0, .ref 6), (1, .int a), (2, .int b), (5, .int (zI w34M 164 4))]) (zml mf205 (by decide)) rfl (c := w97v) w97e rfl ?_
                        refine zs_goto (pc := 117) t205_117 ?_
                        refine zGo.locals (ls' := [(0, .ref 6), (1, .int a), (2, .int b), (3, .int w73v), (4, .int w96v), (5, .int (zI w34M 164 4)), (6, .int w97v)]) (by simp) ?_
                        have w98 := w97
                        exact w37ih (w37m - 1) (by omega) w73v w96v w97v ⟨by omega, by omega⟩ (by omega)
          refine zGo.locals (ls' := [(0, .ref 6), (1, .int a), (2, .int b), (3, .int (0 : Int32)), (4, .int (0 : Int32)), (5, .int (zI w34M 164 4)), (6, .int (0 : Int32))]) (by simp) ?_
          have w99 := li0
          have w100 := li0
          have w101 := li0
          exact w37L ((20 - 0 : Int).toNat) (0 : Int32) (0 : Int32) (0 : Int32) ⟨by decide, by decide⟩ (by omega)
