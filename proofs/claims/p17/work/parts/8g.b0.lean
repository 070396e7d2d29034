theorem Z172 {X : zX} {l : Launch} {M : zM} {Q : Option Value → zM → Prop} {a b : Int32} (hs : zSk zMc M) (hI : zIv cLo cHi M) {F : Nat → Int} (u0 : (zI M 166 10).toInt ≤ 1600000000) (u1 : 0 ≤ (zI M 166 10).toInt) (u2 : (zI M 242 10).toInt ≤ 1600000000) (u3 : 0 ≤ (zI M 242 10).toInt) (x0 : zSo M 7 F) (x1 : zWF F) (x2 : zKnA M F) (x3 : zSp M 166 174) (x4 : zSp M 242 250) (hQ : ∀ (M' : zM) (v : Int32), zSk zMc M' → zIv cLo cHi M' → zFr [(164, 165, none), (166, 178, none), (180, 180, none), (181, 240, none), (317, 324, none)] M M' → ((zI M' 166 10).toInt ≤ (zI M 166 10).toInt + 20000) → ((zI M 166 10).toInt ≤ (zI M' 166 10).toInt) → ((zI M' 242 10).toInt ≤ (zI M 242 10).toInt + 20000) → ((zI M 242 10).toInt ≤ (zI M' 242 10).toInt) → (zKnA M' F) → (zSp M' 166 174) → (zSp M' 242 250) → (pOf F a.toInt b.toInt v.toInt) → Q (some (.int v)) M') : zCall X l 6 0 0 172 [.ref 6, .int a, .int b] M Q := by
  have ga := zrg a
  have gb := zrg b
  refine zs_in (by decide) mf172 (Nat.le_of_ble_eq_true rfl) ?_
  show zGo X l 6 0 0 172 0 [(0, .ref 6), (1, .int a), (2, .int b)] [] M _
  have f0 := x0.1
  have w1 := ib7_0 hI
  have w2 : (zI M 7 0).toInt = (zI M 7 0).toInt := (congrArg Int32.toInt rfl).trans rfl
  have w3 := ib7_3 hI
  have w4 : (zI M 7 3).toInt = (zI M 7 3).toInt := (congrArg Int32.toInt rfl).trans rfl
  have w5 := ib7_8 hI
  have w6 : (zI M 7 8).toInt = (zI M 7 8).toInt := (congrArg Int32.toInt rfl).trans rfl
  have f1 := x1.1
  have f3 := x1.2.2.2
  have f2 := (show (zI M 7 0).toInt = F 0 ∧ (zI M 7 3).toInt = F 1 ∧ (zI M 7 8).toInt = F 2 from ⟨x0.1.1, x0.1.2.1, x0.1.2.2.1⟩)
  refine zs_aload_n (pc := 0) t172_0 rfl ?_
  refine zs_get (pc := 1) t172_1 (by decide) (zk1 (hs.k fk_zMc_6)) (hs.p rfl fv_zMc_6_6) ?_
  refine zs_aload_n (pc := 4) t172_4 rfl ?_
  refine zs_get (pc := 5) t172_5 (by decide) (zk1 (hs.k fk_zMc_6)) (hs.p rfl fv_zMc_6_0) ?_
  have w7 := zrg (zI M 166 10)
  have w8 : (zI M 166 10).toInt = (zI M 166 10).toInt := (congrArg Int32.toInt rfl).trans rfl
  have w9 : (zI M 166 10).toInt = (zI M 166 10).toInt := (congrArg Int32.toInt rfl).trans rfl
  refine zs_invV (pc := 8) (k := 164) (as' := [.ref 7]) (st := []) t172_8 mf105 rfl rfl (Or.inl ⟨by decide, (zk1 (hs.k fk_zMc_164))⟩) ⟨by decide, by decide, Nat.le_of_ble_eq_true rfl, Nat.le_of_ble_eq_true rfl⟩ (V105 hs hI (by omega) (by omega) x0 x1 x2 x3 ?_) (fun _ _ q => q)
  intro w10M w10s w10I w10F w10t0 w10t1 w10x0 w10x1 w10x2
  have w11 := zrg (zI w10M 166 10)
  obtain ⟨w10m, w10τ, w10tk, w10m4, w10m20, w10mn, w10tr⟩ := zPicA.tk x1 w10x0
  show zGo X l 6 0 0 172 11 [(0, .ref 6), (1, .int a), (2, .int b)] [.ref 164] w10M _
  refine zs_iload_n (pc := 11) t172_11 rfl ?_
  refine zs_invV (pc := 12) (k := 164) (as' := [.int a]) (st := []) t172_12 mf163 rfl rfl (Or.inl ⟨by decide, (zk1 (w10s.k fk_zMc_164))⟩) ⟨by decide, by decide, Nat.le_of_ble_eq_true rfl, Nat.le_of_ble_eq_true rfl⟩ (zs_in (by decide) mf163 (Nat.le_of_ble_eq_true rfl) ?_) (fun _ _ q => q)
  show zGo X l 1 0 0 163 0 [(0, .ref 164), (1, .int a)] [] w10M _
  refine zs_iload_n (pc := 0) t163_0 rfl ?_
  refine zs_aload_n (pc := 1) t163_1 rfl ?_
  have w12 := ib164_4 w10I
  refine zs_get (pc := 2) t163_2 (by decide) (zk1 (w10s.k fk_zMc_164)) (zfvi rfl rfl) ?_
  by_cases w13 : (zI w10M 164 4).toInt ≤ a.toInt
  · refine zs_icmp_geT (pc := 5) t163_5 rfl rfl (by omega) ?_
    refine zs_aconst_null (pc := 19) t163_19 ?_
    refine zs_aret0 (pc := 20) t163_20 (by rw [mr163]; rfl) ?_
    show zGo X l 6 0 0 172 15 [(0, .ref 6), (1, .int a), (2, .int b)] [.null] w10M _
    refine zs_astore_n0 (pc := 15) t172_15 (ls' := [(3, .null), (0, .ref 6), (1, .int a), (2, .int b)]) (zml mf172 (by decide)) rfl ?_
    refine zs_aload_n0 (pc := 16) t172_16 rfl ?_
    refine zs_ifnullT (pc := 17) t172_17 ?_
    refine zs_iconst (pc := 31) t172_31 (v := -1) (by decide) ?_
    refine zs_goto (pc := 32) t172_32 ?_
    have w14 : (zI w10M 166 10).toInt = (zI w10M 166 10).toInt := (congrArg Int32.toInt rfl).trans rfl
    have w15 := zrg (zI M 242 10)
    have w16 : (zI w10M 242 10).toInt = (zI M 242 10).toInt := (congrArg Int32.toInt ((w10F 242 10 rfl).trans rfl)).trans rfl
    have w17 := lin1
    exact zs_iret (pc := 41) t172_41 mr172 (by decide) (hQ _ _ w10s w10I ((zFr.refl).trans (w10F.mono rfl)) (by omega) (by omega) (by omega) (by omega) (fun _ => w10x0) w10x1 (zSp.fr x4 (fun j => (w10F 250 j rfl)) (w10F 242 10 rfl)) ⟨_, _, w10tk, Or.inl ⟨by decide, by omega⟩⟩)
  · refine zs_icmp_geF (pc := 5) t163_5 rfl rfl (by omega) ?_
    refine zs_aload_n (pc := 8) t163_8 rfl ?_
    refine zs_get (pc := 9) t163_9 (by decide) (zk1 (w10s.k fk_zMc_164)) (w10s.p rfl fv_zMc_164_1) ?_
    refine zs_iload_n (pc := 12) t163_12 rfl ?_
    refine zs_invV (pc := 13) (k := 165) (as' := [.int a]) (st := []) t163_13 mf126 rfl rfl (Or.inl ⟨by decide, (zk1 (w10s.k fk_zMc_165))⟩) ⟨by decide, by decide, Nat.le_of_ble_eq_true rfl, Nat.le_of_ble_eq_true rfl⟩ (zs_in (by decide) mf126 (Nat.le_of_ble_eq_true rfl) ?_) (fun _ _ q => q)
    show zGo X l 0 0 0 126 0 [(0, .ref 165), (1, .int a)] [] w10M _
    refine zs_iload_n (pc := 0) t126_0 rfl ?_
    by_cases w18 : a.toInt < 0
    · refine zs_if_ltT (pc := 1) t126_1 rfl (by omega) ?_
      refine zs_aconst_null (pc := 21) t126_21 ?_
      refine zs_aret0 (pc := 22) t126_22 (by rw [mr126]; rfl) ?_
      show zGo X l 1 0 0 163 16 [(0, .ref 164), (1, .int a)] [.null] w10M _
      refine zs_goto (pc := 16) t163_16 ?_
      refine zs_aret0 (pc := 20) t163_20 (by rw [mr163]; rfl) ?_
      show zGo X l 6 0 0 172 15 [(0, .ref 6), (1, .int a), (2, .int b)] [.null] w10M _
      refine zs_astore_n0 (pc := 15) t172_15 (ls' := [(3, .null), (0, .ref 6), (1, .int a), (2, .int b)]) (zml mf172 (by decide)) rfl ?_
      refine zs_aload_n0 (pc := 16) t172_16 rfl ?_
      refine zs_ifnullT (pc := 17) t172_17 ?_
      refine zs_iconst (pc := 31) t172_31 (v := -1) (by decide) ?_
      refine zs_goto (pc := 32) t172_32 ?_
      have w19 : (zI w10M 166 10).toInt = (zI w10M 166 10).toInt := (congrArg Int32.toInt rfl).trans rfl
      have w20 : (zI w10M 242 10).toInt = (zI M 242 10).toInt := (congrArg Int32.toInt ((w10F 242 10 rfl).trans rfl)).trans rfl
      have w21 := lin1
      exact zs_iret (pc := 41) t172_41 mr172 (by decide) (hQ _ _ w10s w10I ((zFr.refl).trans (w10F.mono rfl)) (by omega) (by omega) (by omega) (by omega) (fun _ => w10x0) w10x1 (zSp.fr x4 (fun j => (w10F 250 j rfl)) (w10F 242 10 rfl)) ⟨_, _, w10tk, Or.inl ⟨by decide, by omega⟩⟩)
    · refine zs_if_ltF (pc := 1) t126_1 rfl (by omega) ?_
      refine zs_iload_n (pc := 4) t126_4 rfl ?_
      refine zs_aload_n (pc := 5) t126_5 rfl ?_
      have w22 := ib165_2 w10I
      refine zs_get (pc := 6) t126_6 (by decide) (zk1 (w10s.k fk_zMc_165)) (zfvi rfl rfl) ?_
      by_cases w23 : (zI w10M 165 2).toInt ≤ a.toInt
      · refine zs_icmp_geT (pc := 9) t126_9 rfl rfl (by omega) ?_
        refine zs_aconst_null (pc := 21) t126_21 ?_
        refine zs_aret0 (pc := 22) t126_22 (by rw [mr126]; rfl) ?_
        show zGo X l 1 0 0 163 16 [(0, .ref 164), (1, .int a)] [.null] w10M _
        refine zs_goto (pc := 16) t163_16 ?_
        refine zs_aret0 (pc := 20) t163_20 (by rw [mr163]; rfl) ?_
        show zGo X l 6 0 0 172 15 [(0, .ref 6), (1, .int a), (2, .int b)] [.null] w10M _
        refine zs_astore_n0 (pc := 15) t172_15 (ls' := [(3, .null), (0, .ref 6), (1, .int a), (2, .int b)]) (zml mf172 (by decide)) rfl ?_
        refine zs_aload_n0 (pc := 16) t172_16 rfl ?_
        refine zs_ifnullT (pc := 17) t172_17 ?_
        refine zs_iconst (pc := 31) t172_31 (v := -1) (by decide) ?_
        refine zs_goto (pc := 32) t172_32 ?_
        have w24 : (zI w10M 166 10).toInt = (zI w10M 166 10).toInt := (congrArg Int32.toInt rfl).trans rfl
        have w25 : (zI w10M 242 10).toInt = (zI M 242 10).toInt := (congrArg Int32.toInt ((w10F 242 10 rfl).trans rfl)).trans rfl
        have w26 := lin1
        exact zs_iret (pc := 41) t172_41 mr172 (by decide) (hQ _ _ w10s w10I ((zFr.refl).trans (w10F.mono rfl)) (by omega) (by omega) (by omega) (by omega) (fun _ => w10x0) w10x1 (zSp.fr x4 (fun j => (w10F 250 j rfl)) (w10F 242 10 rfl)) ⟨_, _, w10tk, Or.inl ⟨by decide, by omega⟩⟩)
      · refine zs_icmp_geF (pc := 9) t126_9 rfl rfl (by omega) ?_
        refine zs_aload_n (pc := 12) t126_12 rfl ?_
        refine zs_get (pc := 13) t126_13 (by decide) (zk1 (w10s.k fk_zMc_165)) (w10s.p rfl fv_zMc_165_1) ?_
        refine zs_iload_n (pc := 16) t126_16 rfl ?_
        obtain ⟨w27n, w27⟩ : ∃ n : Nat, a.toInt = (n : Int) := ⟨(a.toInt).toNat, by omega⟩
        have w28 : w27n < 20 := by omega
        refine zs_aald (pc := 17) t126_17 (j := w27n) (Or.inr (zk1 (w10s.k fk_zMc_179))) (show a.toInt = ((w27n : Nat) : Int) by omega) (zk2 (w10s.k fk_zMc_179) (by omega)) (w10s.a (fpT181 w27n w28)) ?_
        refine zs_goto (pc := 18) t126_18 ?_
        refine zs_aret (pc := 22) t126_22 (by rw [mr126]; rfl) ?_
        show zGo X l 1 0 0 163 16 [(0, .ref 164), (1, .int a)] [.ref (181 + 3 * w27n)] w10M _
        refine zs_goto (pc := 16) t163_16 ?_
        refine zs_aret (pc := 20) t163_20 (by rw [mr163]; rfl) ?_
        show zGo X l 6 0 0 172 15 [(0, .ref 6), (1, .int a), (2, .int b)] [.ref (181 + 3 * w27n)] w10M _
        refine zs_astore_n (pc := 15) t172_15 (ls' := [(3, .ref (181 + 3 * w27n)), (0, .ref 6), (1, .int a), (2, .int b)]) (zml mf172 (by decide)) rfl ?_
        refine zs_aload_n (pc := 16) t172_16 rfl ?_
        refine zs_ifnullF (pc := 17) t172_17 ?_
        refine zs_aload_n (pc := 20) t172_20 rfl ?_
        refine zs_get (pc := 21) t172_21 (by decide) (zk1 (w10s.k fk_zMc_6)) (w10s.p rfl fv_zMc_6_0) ?_
        refine zs_iload_n (pc := 24) t172_24 rfl ?_
        refine zs_invV (pc := 25) (k := 7) (as' := [.int b]) (st := []) t172_25 mf41 rfl rfl (Or.inl ⟨by decide, (zk1 (w10s.k fk_zMc_7))⟩) ⟨by decide, by decide, Nat.le_of_ble_eq_true rfl, Nat.le_of_ble_eq_true rfl⟩ (zs_in (by decide) mf41 (Nat.le_of_ble_eq_true rfl) ?_) (fun _ _ q => q)
        show zGo X l 0 0 0 41 0 [(0, .ref 7), (1, .int b)] [] w10M _
        refine zs_iload_n (pc := 0) t41_0 rfl ?_
        by_cases w29 : b.toInt < 0
        · refine zs_if_ltT (pc := 1) t41_1 rfl (by omega) ?_
          refine zs_iconst (pc := 16) t41_16 (v := 0) (by decide) ?_
          refine zs_iret (pc := 17) t41_17 mr41 (by decide) ?_
          show zGo X l 6 0 0 172 28 [(3, .ref (181 + 3 * w27n)), (0, .ref 6), (1, .int a), (2, .int b)] [.int (0 : Int32)] w10M _
          refine zs_if_neF (pc := 28) t172_28 li0 (by decide) ?_
          refine zs_iconst (pc := 31) t172_31 (v := -1) (by decide) ?_
          refine zs_goto (pc := 32) t172_32 ?_
          have w30 : (zI w10M 166 10).toInt = (zI w10M 166 10).toInt := (congrArg Int32.toInt rfl).trans rfl
          have w31 : (zI w10M 242 10).toInt = (zI M 242 10).toInt := (congrArg Int32.toInt ((w10F 242 10 rfl).trans rfl)).trans rfl
          have w32 := lin1
          exact zs_iret (pc := 41) t172_41 mr172 (by decide) (hQ _ _ w10s w10I ((zFr.refl).trans (w10F.mono rfl)) (by omega) (by omega) (by omega) (by omega) (fun _ => w10x0) w10x1 (zSp.fr x4 (fun j => (w10F 250 j rfl)) (w10F 242 10 rfl)) ⟨_, _, w10tk, Or.inl ⟨by decide, by omega⟩⟩)
        · refine zs_if_ltF (pc := 1) t41_1 rfl (by omega) ?_
          refine zs_iload_n (pc := 4) t41_4 rfl ?_
          refine zs_aload_n (pc := 5) t41_5 rfl ?_
          refine zs_get (pc := 6) t41_6 (by decide) (zk1 (w10s.k fk_zMc_7)) (zfvi rfl ((w10F 7 0 rfl).trans rfl)) ?_
          by_cases w33 : (zI M 7 0).toInt ≤ b.toInt
          · refine zs_icmp_geT (pc := 9) t41_9 rfl rfl (by omega) ?_
            refine zs_iconst (pc := 16) t41_16 (v := 0) (by decide) ?_
            refine zs_iret (pc := 17) t41_17 mr41 (by decide) ?_
            show zGo X l 6 0 0 172 28 [(3, .ref (181 + 3 * w27n)), (0, .ref 6), (1, .int a), (2, .int b)] [.int (0 : Int32)] w10M _
            refine zs_if_neF (pc := 28) t172_28 li0 (by decide) ?_
            refine zs_iconst (pc := 31) t172_31 (v := -1) (by decide) ?_
            refine zs_goto (pc := 32) t172_32 ?_
            have w34 : (zI w10M 166 10).toInt = (zI w10M 166 10).toInt := (congrArg Int32.toInt rfl).trans rfl
            have w35 : (zI w10M 242 10).toInt = (zI M 242 10).toInt := (congrArg Int32.toInt ((w10F 242 10 rfl).trans rfl)).trans rfl
            have w36 := lin1
            exact zs_iret (pc := 41) t172_41 mr172 (by decide) (hQ _ _ w10s w10I ((zFr.refl).trans (w10F.mono rfl)) (by omega) (by omega) (by omega) (by omega) (fun _ => w10x0) w10x1 (zSp.fr x4 (fun j => (w10F 250 j rfl)) (w10F 242 10 rfl)) ⟨_, _, w10tk, Or.inl ⟨by decide, by omega⟩⟩)
          · refine zs_icmp_geF (pc := 9) t41_9 rfl rfl (by omega) ?_
            refine zs_iconst (pc := 12) t41_12 (v := 1) (by decide) ?_
            refine zs_goto (pc := 13) t41_13 ?_
            refine zs_iret (pc := 17) t41_17 mr41 (by decide) ?_
            show zGo X l 6 0 0 172 28 [(3, .ref (181 + 3 * w27n)), (0, .ref 6), (1, .int a), (2, .int b)] [.int (1 : Int32)] w10M _
            refine zs_if_neT (pc := 28) t172_28 li1 (by decide) ?_
            refine zs_aload_n (pc := 35) t172_35 rfl ?_
            refine zs_get (pc := 36) t172_36 (by decide) (zk1 (w10s.k (fT181_0 w27n w28))) (w10s.p rfl (fvT181_6 w27n w28)) ?_
            refine zs_iload_n (pc := 39) t172_39 rfl ?_
            obtain ⟨w37n, w37⟩ : ∃ n : Nat, b.toInt = (n : Int) := ⟨(b.toInt).toNat, by omega⟩
            have w38 := ibT181_1 w10I w28 w37n
            refine zs_iald (pc := 40) t172_40 (j := w37n) (by omega) (zk1 (w10s.k (fT181_1 w27n w28))) (show b.toInt = ((w37n : Nat) : Int) by omega) (zk2 (w10s.k (fT181_1 w27n w28)) (by omega)) rfl ?_
            have w39 : (zI w10M 166 10).toInt = (zI w10M 166 10).toInt := (congrArg Int32.toInt rfl).trans rfl
            have w40 : (zI w10M 242 10).toInt = (zI M 242 10).toInt := (congrArg Int32.toInt ((w10F 242 10 rfl).trans rfl)).trans rfl
            exact zs_iret (pc := 41) t172_41 mr172 rfl (hQ _ _ w10s w10I ((zFr.refl).trans (w10F.mono rfl)) (by omega) (by omega) (by omega) (by omega) (fun _ => w10x0) w10x1 (zSp.fr x4 (fun j => (w10F 250 j rfl)) (w10F 242 10 rfl)) ⟨_, _, w10tk, Or.inr ⟨by omega, by omega, by omega, by omega, by rw [show a.toInt.toNat = w27n by omega, show b.toInt.toNat = w37n by omega]; exact (w10tr w27n (by omega)).2.2.2.2 w37n (by omega)⟩⟩)
theorem O97 {X : zX} {l : Launch} {M : zM} {Q : Option Value → zM → Prop} (hs : zSk zMc M) (hI : zIv cLo cHi M) {F : Nat → Int} (x0 : zSo M 7 F) (x1 : zWF F) (hQ : ∀ v : Int32, (v.toInt = (zI M 6 11).toInt) → Q (some (.int v)) M) : zCall X l 0 0 0 97 [.ref 6] M Q := by
  refine zs_in (by decide) mf97 (Nat.le_of_ble_eq_true rfl) ?_
  show zGo X l 0 0 0 97 0 [(0, .ref 6)] [] M _
  have f0 := x0.1
  have w1 := ib7_0 hI
  have w2 : (zI M 7 0).toInt = (zI M 7 0).toInt := (congrArg Int32.toInt rfl).trans rfl
  have w3 := ib7_3 hI
  have w4 : (zI M 7 3).toInt = (zI M 7 3).toInt := (congrArg Int32.toInt rfl).trans rfl
  have w5 := ib7_8 hI
  have w6 : (zI M 7 8).toInt = (zI M 7 8).toInt := (congrArg Int32.toInt rfl).trans rfl
  have f1 := x1.1
  have f3 := x1.2.2.2
  have f2 := (show (zI M 7 0).toInt = F 0 ∧ (zI M 7 3).toInt = F 1 ∧ (zI M 7 8).toInt = F 2 from ⟨x0.1.1, x0.1.2.1, x0.1.2.2.1⟩)
  refine zs_aload_n (pc := 0) t97_0 rfl ?_
  have w7 := zrg (zI M 6 11)
  refine zs_get (pc := 1) t97_1 (by decide) (zk1 (hs.k fk_zMc_6)) (zfvi rfl rfl) ?_
  exact zs_iret (pc := 4) t97_4 mr97 rfl (hQ _ (by omega))
