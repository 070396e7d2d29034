theorem T172_6 {X : zX} {l : Launch} {M : zM} {Q : Option Value → zM → Prop} {a b : Int32} (hs : zSk zMc M) (hI : zIv cLo cHi M) (hQ : ∀ (M' : zM) (v : Int32), zSk zMc M' → zIv cLo cHi M' → zFr [(161, 334, none)] M M' → (-2147483648) ≤ v.toInt → v.toInt ≤ 2147483647 → Q (some (.int v)) M') : zCall X l 6 0 0 172 [.ref 6, .int a, .int b] M Q := by
  have ga := zrg a
  have gb := zrg b
  refine zs_in (by decide) mf172 (Nat.le_of_ble_eq_true rfl) ?_
  show zGo X l 6 0 0 172 0 [(0, .ref 6), (1, .int a), (2, .int b)] [] M _
  refine zs_aload_n (pc := 0) t172_0 rfl ?_
  refine zs_get (pc := 1) t172_1 (by decide) (zk1 (hs.k fk_zMc_6)) (hs.p rfl fv_zMc_6_6) ?_
  refine zs_aload_n (pc := 4) t172_4 rfl ?_
  refine zs_get (pc := 5) t172_5 (by decide) (zk1 (hs.k fk_zMc_6)) (hs.p rfl fv_zMc_6_0) ?_
  refine zs_invV (pc := 8) (k := 164) (as' := [.ref 7]) (st := []) t172_8 mf105 rfl rfl (Or.inl ⟨by decide, (zk1 (hs.k fk_zMc_164))⟩) ⟨by decide, by decide, Nat.le_of_ble_eq_true rfl, Nat.le_of_ble_eq_true rfl⟩ (C105_164_7 hs hI ?_) (fun _ _ q => q)
  intro w1M w1s w1I w1F
  show zGo X l 6 0 0 172 11 [(0, .ref 6), (1, .int a), (2, .int b)] [.ref 164] w1M _
  refine zs_iload_n (pc := 11) t172_11 rfl ?_
  refine zs_invV (pc := 12) (k := 164) (as' := [.int a]) (st := []) t172_12 mf163 rfl rfl (Or.inl ⟨by decide, (zk1 (w1s.k fk_zMc_164))⟩) ⟨by decide, by decide, Nat.le_of_ble_eq_true rfl, Nat.le_of_ble_eq_true rfl⟩ (zs_in (by decide) mf163 (Nat.le_of_ble_eq_true rfl) ?_) (fun _ _ q => q)
  show zGo X l 1 0 0 163 0 [(0, .ref 164), (1, .int a)] [] w1M _
  refine zs_iload_n (pc := 0) t163_0 rfl ?_
  refine zs_aload_n (pc := 1) t163_1 rfl ?_
  have w2 := ib164_4 w1I
  refine zs_get (pc := 2) t163_2 (by decide) (zk1 (w1s.k fk_zMc_164)) (zfvi rfl rfl) ?_
  by_cases w3 : (zI w1M 164 4).toInt ≤ a.toInt
  · refine zs_icmp_geT (pc := 5) t163_5 rfl rfl (by omega) ?_
    refine zs_aconst_null (pc := 19) t163_19 ?_
    refine zs_aret0 (pc := 20) t163_20 (by rw [mr163]; rfl) ?_
    show zGo X l 6 0 0 172 15 [(0, .ref 6), (1, .int a), (2, .int b)] [.null] w1M _
    refine zs_astore_n0 (pc := 15) t172_15 (ls' := [(3, .null), (0, .ref 6), (1, .int a), (2, .int b)]) (zml mf172 (by decide)) rfl ?_
    refine zs_aload_n0 (pc := 16) t172_16 rfl ?_
    refine zs_ifnullT (pc := 17) t172_17 ?_
    refine zs_iconst (pc := 31) t172_31 (v := -1) (by decide) ?_
    refine zs_goto (pc := 32) t172_32 ?_
    exact zs_iret (pc := 41) t172_41 mr172 (by decide) (hQ _ _ w1s w1I ((zFr.refl).trans (w1F.mono rfl)) (zrg _).1 (zrg _).2)
  · refine zs_icmp_geF (pc := 5) t163_5 rfl rfl (by omega) ?_
    refine zs_aload_n (pc := 8) t163_8 rfl ?_
    refine zs_get (pc := 9) t163_9 (by decide) (zk1 (w1s.k fk_zMc_164)) (w1s.p rfl fv_zMc_164_1) ?_
    refine zs_iload_n (pc := 12) t163_12 rfl ?_
    refine zs_invV (pc := 13) (k := 165) (as' := [.int a]) (st := []) t163_13 mf126 rfl rfl (Or.inl ⟨by decide, (zk1 (w1s.k fk_zMc_165))⟩) ⟨by decide, by decide, Nat.le_of_ble_eq_true rfl, Nat.le_of_ble_eq_true rfl⟩ (zs_in (by decide) mf126 (Nat.le_of_ble_eq_true rfl) ?_) (fun _ _ q => q)
    show zGo X l 0 0 0 126 0 [(0, .ref 165), (1, .int a)] [] w1M _
    refine zs_iload_n (pc := 0) t126_0 rfl ?_
    by_cases w4 : a.toInt < 0
    · refine zs_if_ltT (pc := 1) t126_1 rfl (by omega) ?_
      refine zs_aconst_null (pc := 21) t126_21 ?_
      refine zs_aret0 (pc := 22) t126_22 (by rw [mr126]; rfl) ?_
      show zGo X l 1 0 0 163 16 [(0, .ref 164), (1, .int a)] [.null] w1M _
      refine zs_goto (pc := 16) t163_16 ?_
      refine zs_aret0 (pc := 20) t163_20 (by rw [mr163]; rfl) ?_
      show zGo X l 6 0 0 172 15 [(0, .ref 6), (1, .int a), (2, .int b)] [.null] w1M _
      refine zs_astore_n0 (pc := 15) t172_15 (ls' := [(3, .null), (0, .ref 6), (1, .int a), (2, .int b)]) (zml mf172 (by decide)) rfl ?_
      refine zs_aload_n0 (pc := 16) t172_16 rfl ?_
      refine zs_ifnullT (pc := 17) t172_17 ?_
      refine zs_iconst (pc := 31) t172_31 (v := -1) (by decide) ?_
      refine zs_goto (pc := 32) t172_32 ?_
      exact zs_iret (pc := 41) t172_41 mr172 (by decide) (hQ _ _ w1s w1I ((zFr.refl).trans (w1F.mono rfl)) (zrg _).1 (zrg _).2)
    · refine zs_if_ltF (pc := 1) t126_1 rfl (by omega) ?_
      refine zs_iload_n (pc := 4) t126_4 rfl ?_
      refine zs_aload_n (pc := 5) t126_5 rfl ?_
      have w5 := ib165_2 w1I
      refine zs_get (pc := 6) t126_6 (by decide) (zk1 (w1s.k fk_zMc_165)) (zfvi rfl rfl) ?_
      by_cases w6 : (zI w1M 165 2).toInt ≤ a.toInt
      · refine zs_icmp_geT (pc := 9) t126_9 rfl rfl (by omega) ?_
        refine zs_aconst_null (pc := 21) t126_21 ?_
        refine zs_aret0 (pc := 22) t126_22 (by rw [mr126]; rfl) ?_
        show zGo X l 1 0 0 163 16 [(0, .ref 164), (1, .int a)] [.null] w1M _
        refine zs_goto (pc := 16) t163_16 ?_
        refine zs_aret0 (pc := 20) t163_20 (by rw [mr163]; rfl) ?_
        show zGo X l 6 0 0 172 15 [(0, .ref 6), (1, .int a), (2, .int b)] [.null] w1M _
        refine zs_astore_n0 (pc := 15) t172_15 (ls' := [(3, .null), (0, .ref 6), (1, .int a), (2, .int b)]) (zml mf172 (by decide)) rfl ?_
        refine zs_aload_n0 (pc := 16) t172_16 rfl ?_
        refine zs_ifnullT (pc := 17) t172_17 ?_
        refine zs_iconst (pc := 31) t172_31 (v := -1) (by decide) ?_
        refine zs_goto (pc := 32) t172_32 ?_
        exact zs_iret (pc := 41) t172_41 mr172 (by decide) (hQ _ _ w1s w1I ((zFr.refl).trans (w1F.mono rfl)) (zrg _).1 (zrg _).2)
      · refine zs_icmp_geF (pc := 9) t126_9 rfl rfl (by omega) ?_
        refine zs_aload_n (pc := 12) t126_12 rfl ?_
        refine zs_get (pc := 13) t126_13 (by decide) (zk1 (w1s.k fk_zMc_165)) (w1s.p rfl fv_zMc_165_1) ?_
        refine zs_iload_n (pc := 16) t126_16 rfl ?_
        obtain ⟨w7n, w7⟩ : ∃ n : Nat, a.toInt = (n : Int) := ⟨a.toInt.toNat, by omega⟩
        have w8 : w7n < 20 := by omega
        refine zs_aald (pc := 17) t126_17 (j := w7n) (Or.inr (zk1 (w1s.k fk_zMc_179))) w7 (zk2 (w1s.k fk_zMc_179) (by omega)) (w1s.a (fpT181 w7n w8)) ?_
        refine zs_goto (pc := 18) t126_18 ?_
        refine zs_aret (pc := 22) t126_22 (by rw [mr126]; rfl) ?_
        show zGo X l 1 0 0 163 16 [(0, .ref 164), (1, .int a)] [.ref (181 + 3 * w7n)] w1M _
        refine zs_goto (pc := 16) t163_16 ?_
        refine zs_aret (pc := 20) t163_20 (by rw [mr163]; rfl) ?_
        show zGo X l 6 0 0 172 15 [(0, .ref 6), (1, .int a), (2, .int b)] [.ref (181 + 3 * w7n)] w1M _
        refine zs_astore_n (pc := 15) t172_15 (ls' := [(3, .ref (181 + 3 * w7n)), (0, .ref 6), (1, .int a), (2, .int b)]) (zml mf172 (by decide)) rfl ?_
        refine zs_aload_n (pc := 16) t172_16 rfl ?_
        refine zs_ifnullF (pc := 17) t172_17 ?_
        refine zs_aload_n (pc := 20) t172_20 rfl ?_
        refine zs_get (pc := 21) t172_21 (by decide) (zk1 (w1s.k fk_zMc_6)) (w1s.p rfl fv_zMc_6_0) ?_
        refine zs_iload_n (pc := 24) t172_24 rfl ?_
        refine zs_invV (pc := 25) (k := 7) (as' := [.int b]) (st := []) t172_25 mf41 rfl rfl (Or.inl ⟨by decide, (zk1 (w1s.k fk_zMc_7))⟩) ⟨by decide, by decide, Nat.le_of_ble_eq_true rfl, Nat.le_of_ble_eq_true rfl⟩ (zs_in (by decide) mf41 (Nat.le_of_ble_eq_true rfl) ?_) (fun _ _ q => q)
        show zGo X l 0 0 0 41 0 [(0, .ref 7), (1, .int b)] [] w1M _
        refine zs_iload_n (pc := 0) t41_0 rfl ?_
        by_cases w9 : b.toInt < 0
        · refine zs_if_ltT (pc := 1) t41_1 rfl (by omega) ?_
          refine zs_iconst (pc := 16) t41_16 (v := 0) (by decide) ?_
          refine zs_iret (pc := 17) t41_17 mr41 (by decide) ?_
          show zGo X l 6 0 0 172 28 [(3, .ref (181 + 3 * w7n)), (0, .ref 6), (1, .int a), (2, .int b)] [.int (0 : Int32)] w1M _
          refine zs_if_neF (pc := 28) t172_28 li0 (by decide) ?_
          refine zs_iconst (pc := 31) t172_31 (v := -1) (by decide) ?_
          refine zs_goto (pc := 32) t172_32 ?_
          exact zs_iret (pc := 41) t172_41 mr172 (by decide) (hQ _ _ w1s w1I ((zFr.refl).trans (w1F.mono rfl)) (zrg _).1 (zrg _).2)
        · refine zs_if_ltF (pc := 1) t41_1 rfl (by omega) ?_
          refine zs_iload_n (pc := 4) t41_4 rfl ?_
          refine zs_aload_n (pc := 5) t41_5 rfl ?_
          have w10 := ib7_0 hI
          refine zs_get (pc := 6) t41_6 (by decide) (zk1 (w1s.k fk_zMc_7)) (zfvi rfl ((w1F 7 0 rfl).trans rfl)) ?_
          by_cases w11 : (zI M 7 0).toInt ≤ b.toInt
          · refine zs_icmp_geT (pc := 9) t41_9 rfl rfl (by omega) ?_
            refine zs_iconst (pc := 16) t41_16 (v := 0) (by decide) ?_
            refine zs_iret (pc := 17) t41_17 mr41 (by decide) ?_
            show zGo X l 6 0 0 172 28 [(3, .ref (181 + 3 * w7n)), (0, .ref 6), (1, .int a), (2, .int b)] [.int (0 : Int32)] w1M _
            refine zs_if_neF (pc := 28) t172_28 li0 (by decide) ?_
            refine zs_iconst (pc := 31) t172_31 (v := -1) (by decide) ?_
            refine zs_goto (pc := 32) t172_32 ?_
            exact zs_iret (pc := 41) t172_41 mr172 (by decide) (hQ _ _ w1s w1I ((zFr.refl).trans (w1F.mono rfl)) (zrg _).1 (zrg _).2)
          · refine zs_icmp_geF (pc := 9) t41_9 rfl rfl (by omega) ?_
            refine zs_iconst (pc := 12) t41_12 (v := 1) (by decide) ?_
            refine zs_goto (pc := 13) t41_13 ?_
            refine zs_iret (pc := 17) t41_17 mr41 (by decide) ?_
            show zGo X l 6 0 0 172 28 [(3, .ref (181 + 3 * w7n)), (0, .ref 6), (1, .int a), (2, .int b)] [.int (1 : Int32)] w1M _
            refine zs_if_neT (pc := 28) t172_28 li1 (by decide) ?_
            refine zs_aload_n (pc := 35) t172_35 rfl ?_
            refine zs_get (pc := 36) t172_36 (by decide) (zk1 (w1s.k (fT181_0 w7n w8))) (w1s.p rfl (fvT181_6 w7n w8)) ?_
            refine zs_iload_n (pc := 39) t172_39 rfl ?_
            obtain ⟨w12n, w12⟩ : ∃ n : Nat, b.toInt = (n : Int) := ⟨b.toInt.toNat, by omega⟩
            have w13 := ibT181_1 w1I w8 w12n
            refine zs_iald (pc := 40) t172_40 (j := w12n) (by omega) (zk1 (w1s.k (fT181_1 w7n w8))) w12 (zk2 (w1s.k (fT181_1 w7n w8)) (by omega)) rfl ?_
            exact zs_iret (pc := 41) t172_41 mr172 rfl (hQ _ _ w1s w1I ((zFr.refl).trans (w1F.mono rfl)) (zrg _).1 (zrg _).2)
theorem T177_6 {X : zX} {l : Launch} {M : zM} {Q : Option Value → zM → Prop} {a b : Int32} (hs : zSk zMc M) (hI : zIv cLo cHi M) (hQ : ∀ (M' : zM) (v : Int32), zSk zMc M' → zIv cLo cHi M' → zFr [(161, 334, none)] M M' → (-2147483648) ≤ v.toInt → v.toInt ≤ 2147483647 → Q (some (.int v)) M') : zCall X l 6 0 0 177 [.ref 6, .int a, .int b] M Q := by
  have ga := zrg a
  have gb := zrg b
  refine zs_in (by decide) mf177 (Nat.le_of_ble_eq_true rfl) ?_
  show zGo X l 6 0 0 177 0 [(0, .ref 6), (1, .int a), (2, .int b)] [] M _
  refine zs_iload_n (pc := 0) t177_0 rfl ?_
  by_cases w1 : a.toInt < 0
  · refine zs_if_ltT (pc := 1) t177_1 rfl (by omega) ?_
    refine zs_ldc (pc := 22) t177_22 (v := -100000) rfl (by decide) ?_
    exact zs_iret (pc := 24) t177_24 mr177 (by decide) (hQ _ _ hs hI (zFr.refl) (zrg _).1 (zrg _).2)
  · refine zs_if_ltF (pc := 1) t177_1 rfl (by omega) ?_
    refine zs_iload_n (pc := 4) t177_4 rfl ?_
    refine zs_aload_n (pc := 5) t177_5 rfl ?_
    refine zs_get (pc := 6) t177_6 (by decide) (zk1 (hs.k fk_zMc_6)) (hs.p rfl fv_zMc_6_6) ?_
    refine zs_aload_n (pc := 9) t177_9 rfl ?_
    refine zs_get (pc := 10) t177_10 (by decide) (zk1 (hs.k fk_zMc_6)) (hs.p rfl fv_zMc_6_0) ?_
    refine zs_invV (pc := 13) (k := 164) (as' := [.ref 7]) (st := [.int a]) t177_13 mf105 rfl rfl (Or.inl ⟨by decide, (zk1 (hs.k fk_zMc_164))⟩) ⟨by decide, by decide, Nat.le_of_ble_eq_true rfl, Nat.le_of_ble_eq_true rfl⟩ (C105_164_7 hs hI ?_) (fun _ _ q => q)
    intro w2M w2s w2I w2F
    show zGo X l 6 0 0 177 16 [(0, .ref 6), (1, .int a), (2, .int b)] [.ref 164, .int a] w2M _
    refine zs_invV (pc := 16) (k := 164) (as' := []) (st := [.int a]) t177_16 mf152 rfl rfl (Or.inl ⟨by decide, (zk1 (w2s.k fk_zMc_164))⟩) ⟨by decide, by decide, Nat.le_of_ble_eq_true rfl, Nat.le_of_ble_eq_true rfl⟩ (zs_in (by decide) mf152 (Nat.le_of_ble_eq_true rfl) ?_) (fun _ _ q => q)
    show zGo X l 0 0 0 152 0 [(0, .ref 164)] [] w2M _
    refine zs_aload_n (pc := 0) t152_0 rfl ?_
    have w3 := ib164_9 w2I
    refine zs_get (pc := 1) t152_1 (by decide) (zk1 (w2s.k fk_zMc_164)) (zfvi rfl rfl) ?_
    refine zs_iret (pc := 4) t152_4 mr152 rfl ?_
    show zGo X l 6 0 0 177 19 [(0, .ref 6), (1, .int a), (2, .int b)] [.int (zI w2M 164 9), .int a] w2M _
    by_cases w4 : a.toInt < (zI w2M 164 9).toInt
    · refine zs_icmp_ltT (pc := 19) t177_19 rfl rfl (by omega) ?_
      refine zs_iload_n (pc := 25) t177_25 rfl ?_
      by_cases w5 : b.toInt = 0
      · refine zs_lsw (pc := 26) t177_26 (off := 26) ((rfl : b.toInt = b.toInt).trans w5) rfl (pc2 := 52) rfl ?_
        refine zs_aload_n (pc := 52) t177_52 rfl ?_
        refine zs_get (pc := 53) t177_53 (by decide) (zk1 (w2s.k fk_zMc_6)) (w2s.p rfl fv_zMc_6_6) ?_
        refine zs_iload_n (pc := 56) t177_56 rfl ?_
        refine zs_invV (pc := 57) (k := 164) (as' := [.int a]) (st := []) t177_57 mf178 rfl rfl (Or.inl ⟨by decide, (zk1 (w2s.k fk_zMc_164))⟩) ⟨by decide, by decide, Nat.le_of_ble_eq_true rfl, Nat.le_of_ble_eq_true rfl⟩ (zs_in (by decide) mf178 (Nat.le_of_ble_eq_true rfl) ?_) (fun _ _ q => q)
        show zGo X l 0 0 0 178 0 [(0, .ref 164), (1, .int a)] [] w2M _
        refine zs_iload_n (pc := 0) t178_0 rfl ?_
        refine zs_if_ltF (pc := 1) t178_1 rfl (by omega) ?_
        refine zs_iload_n (pc := 4) t178_4 rfl ?_
        refine zs_aload_n (pc := 5) t178_5 rfl ?_
        refine zs_get (pc := 6) t178_6 (by decide) (zk1 (w2s.k fk_zMc_164)) (zfvi rfl rfl) ?_
        by_cases w6 : (zI w2M 164 9).toInt ≤ a.toInt
        · refine zs_icmp_geT (pc := 9) t178_9 rfl rfl (by omega) ?_
          refine zs_iconst (pc := 21) t178_21 (v := 0) (by decide) ?_
          refine zs_iret (pc := 22) t178_22 mr178 (by decide) ?_
          show zGo X l 6 0 0 177 60 [(0, .ref 6), (1, .int a), (2, .int b)] [.int (0 : Int32)] w2M _
          exact zs_iret (pc := 60) t177_60 mr177 (by decide) (hQ _ _ w2s w2I ((zFr.refl).trans (w2F.mono rfl)) (zrg _).1 (zrg _).2)
        · refine zs_icmp_geF (pc := 9) t178_9 rfl rfl (by omega) ?_
          refine zs_aload_n (pc := 12) t178_12 rfl ?_
          refine zs_get (pc := 13) t178_13 (by decide) (zk1 (w2s.k fk_zMc_164)) (w2s.p rfl fv_zMc_164_11) ?_
          refine zs_iload_n (pc := 16) t178_16 rfl ?_
          obtain ⟨w7n, w7⟩ : ∃ n : Nat, a.toInt = (n : Int) := ⟨a.toInt.toNat, by omega⟩
          have w8 := ib321 w2I w7n
          refine zs_iald (pc := 17) t178_17 (j := w7n) (by decide) (zk1 (w2s.k fk_zMc_321)) w7 (zk2 (w2s.k fk_zMc_321) (by omega)) rfl ?_
          refine zs_goto (pc := 18) t178_18 ?_
          refine zs_iret (pc := 22) t178_22 mr178 rfl ?_
          show zGo X l 6 0 0 177 60 [(0, .ref 6), (1, .int a), (2, .int b)] [.int (zI w2M 321 w7n)] w2M _
          exact zs_iret (pc := 60) t177_60 mr177 rfl (hQ _ _ w2s w2I ((zFr.refl).trans (w2F.mono rfl)) (zrg _).1 (zrg _).2)
      by_cases w9 : b.toInt = 1
      · refine zs_lsw (pc := 26) t177_26 (off := 35) ((rfl : b.toInt = b.toInt).trans w9) rfl (pc2 := 61) rfl ?_
        refine zs_aload_n (pc := 61) t177_61 rfl ?_
        refine zs_get (pc := 62) t177_62 (by decide) (zk1 (w2s.k fk_zMc_6)) (w2s.p rfl fv_zMc_6_6) ?_
        refine zs_iload_n (pc := 65) t177_65 rfl ?_
        refine zs_invV (pc := 66) (k := 164) (as' := [.int a]) (st := []) t177_66 mf179 rfl rfl (Or.inl ⟨by decide, (zk1 (w2s.k fk_zMc_164))⟩) ⟨by decide, by decide, Nat.le_of_ble_eq_true rfl, Nat.le_of_ble_eq_true rfl⟩ (zs_in (by decide) mf179 (Nat.le_of_ble_eq_true rfl) ?_) (fun _ _ q => q)
        show zGo X l 1 0 0 179 0 [(0, .ref 164), (1, .int a)] [] w2M _
        refine zs_aload_n (pc := 0) t179_0 rfl ?_
        refine zs_iload_n (pc := 1) t179_1 rfl ?_
        refine zs_invV (pc := 2) (k := 164) (as' := [.int a]) (st := []) t179_2 mf178 rfl rfl (Or.inl ⟨by decide, (zk1 (w2s.k fk_zMc_164))⟩) ⟨by decide, by decide, Nat.le_of_ble_eq_true rfl, Nat.le_of_ble_eq_true rfl⟩ (zs_in (by decide) mf178 (Nat.le_of_ble_eq_true rfl) ?_) (fun _ _ q => q)
        show zGo X l 0 0 0 178 0 [(0, .ref 164), (1, .int a)] [] w2M _
        refine zs_iload_n (pc := 0) t178_0 rfl ?_
        refine zs_if_ltF (pc := 1) t178_1 rfl (by omega) ?_
        refine zs_iload_n (pc := 4) t178_4 rfl ?_
        refine zs_aload_n (pc := 5) t178_5 rfl ?_
        refine zs_get (pc := 6) t178_6 (by decide) (zk1 (w2s.k fk_zMc_164)) (zfvi rfl rfl) ?_
        by_cases w10 : (zI w2M 164 9).toInt ≤ a.toInt
        · refine zs_icmp_geT (pc := 9) t178_9 rfl rfl (by omega) ?_
          refine zs_iconst (pc := 21) t178_21 (v := 0) (by decide) ?_
          refine zs_iret (pc := 22) t178_22 mr178 (by decide) ?_
          show zGo X l 1 0 0 179 5 [(0, .ref 164), (1, .int a)] [.int (0 : Int32)] w2M _
          refine zs_istore_n (pc := 5) t179_5 (ls' := [(2, .int (0 : Int32)), (0, .ref 164), (1, .int a)]) (zml mf179 (by decide)) rfl ?_
          refine zs_iload_n (pc := 6) t179_6 rfl ?_
          refine zs_if_neF (pc := 7) t179_7 li0 (by decide) ?_
          refine zs_iconst (pc := 10) t179_10 (v := 0) (by decide) ?_
          refine zs_goto (pc := 11) t179_11 ?_
          refine zs_iret (pc := 24) t179_24 mr179 (by decide) ?_
          show zGo X l 6 0 0 177 69 [(0, .ref 6), (1, .int a), (2, .int b)] [.int (0 : Int32)] w2M _
          exact zs_iret (pc := 69) t177_69 mr177 (by decide) (hQ _ _ w2s w2I ((zFr.refl).trans (w2F.mono rfl)) (zrg _).1 (zrg _).2)
        · refine zs_icmp_geF (pc := 9) t178_9 rfl rfl (by omega) ?_
          refine zs_aload_n (pc := 12) t178_12 rfl ?_
          refine zs_get (pc := 13) t178_13 (by decide) (zk1 (w2s.k fk_zMc_164)) (w2s.p rfl fv_zMc_164_11) ?_
          refine zs_iload_n (pc := 16) t178_16 rfl ?_
          obtain ⟨w11n, w11⟩ : ∃ n : Nat, a.toInt = (n : Int) := ⟨a.toInt.toNat, by omega⟩
          have w12 := ib321 w2I w11n
          refine zs_iald (pc := 17) t178_17 (j := w11n) (by decide) (zk1 (w2s.k fk_zMc_321)) w11 (zk2 (w2s.k fk_zMc_321) (by omega)) rfl ?_
          refine zs_goto (pc := 18) t178_18 ?_
          refine zs_iret (pc := 22) t178_22 mr178 rfl ?_
          show zGo X l 1 0 0 179 5 [(0, .ref 164), (1, .int a)] [.int (zI w2M 321 w11n)] w2M _
          refine zs_istore_n (pc := 5) t179_5 (ls' := [(2, .int (zI w2M 321 w11n)), (0, .ref 164), (1, .int a)]) (zml mf179 (by decide)) rfl ?_
          refine zs_iload_n (pc := 6) t179_6 rfl ?_
          by_cases w13 : (zI w2M 321 w11n).toInt ≠ 0
          · refine zs_if_neT (pc := 7) t179_7 rfl (by omega) ?_
            refine zs_aload_n (pc := 14) t179_14 rfl ?_
            refine zs_get (pc := 15) t179_15 (by decide) (zk1 (w2s.k fk_zMc_164)) (w2s.p rfl fv_zMc_164_12) ?_
            refine zs_iload_n (pc := 18) t179_18 rfl ?_
            have w14 := ib322 w2I w11n
            refine zs_iald (pc := 19) t179_19 (j := w11n) (by decide) (zk1 (w2s.k fk_zMc_322)) w11 (zk2 (w2s.k fk_zMc_322) (by omega)) rfl ?_
            refine zs_iload_n (pc := 20) t179_20 rfl ?_
            refine zs_invS (pc := 21) (as := [.int (zI w2M 322 w11n), .int (zI w2M 321 w11n)]) (st := []) t179_21 (by decide) mf54 rfl rfl ⟨by decide, by decide, Nat.le_of_ble_eq_true rfl, Nat.le_of_ble_eq_true rfl⟩ (zs_in (by decide) mf54 (Nat.le_of_ble_eq_true rfl) ?_) (fun _ _ q => q)
            show zGo X l 0 0 0 54 0 [(0, .int (zI w2M 322 w11n)), (1, .int (zI w2M 321 w11n))] [] w2M _
            refine zs_iload_n (pc := 0) t54_0 rfl ?_
            refine zs_iload_n (pc := 1) t54_1 rfl ?_
            obtain ⟨w15v, w15⟩ : ∃ v, (zI w2M 322 w11n) / (zI w2M 321 w11n) = v := ⟨_, rfl⟩
            have w15g := zrg w15v
            refine zs_idiv (pc := 2) t54_2 (znz rfl (by omega)) (c := w15v) w15 ?_
            refine zs_istore_n (pc := 3) t54_3 (ls' := [(2, .int w15v), (0, .int (zI w2M 322 w11n)), (1, .int (zI w2M 321 w11n))]) (zml mf54 (by decide)) rfl ?_
            refine zs_iload_n (pc := 4) t54_4 rfl ?_
            refine zs_iload_n (pc := 5) t54_5 rfl ?_
            obtain ⟨w16v, w16⟩ : ∃ v, (zI w2M 322 w11n) ^^^ (zI w2M 321 w11n) = v := ⟨_, rfl⟩
            have w16g := zrg w16v
            refine zs_ixor (pc := 6) t54_6 (c := w16v) w16 ?_
            by_cases w17 : 0 ≤ w16v.toInt
            · refine zs_if_geT (pc := 7) t54_7 rfl (by omega) ?_
              refine zs_iload_n (pc := 21) t54_21 rfl ?_
              refine zs_iret (pc := 22) t54_22 mr54 rfl ?_
              show zGo X l 1 0 0 179 24 [(2, .int (zI w2M 321 w11n)), (0, .ref 164), (1, .int a)] [.int w15v] w2M _
              refine zs_iret (pc := 24) t179_24 mr179 rfl ?_
              show zGo X l 6 0 0 177 69 [(0, .ref 6), (1, .int a), (2, .int b)] [.int w15v] w2M _
              exact zs_iret (pc := 69) t177_69 mr177 rfl (hQ _ _ w2s w2I ((zFr.refl).trans (w2F.mono rfl)) (zrg _).1 (zrg _).2)
            · refine zs_if_geF (pc := 7) t54_7 rfl (by omega) ?_
              refine zs_iload_n (pc := 10) t54_10 rfl ?_
              refine zs_iload_n (pc := 11) t54_11 rfl ?_
              obtain ⟨w18v, w18⟩ : ∃ v, w15v * (zI w2M 321 w11n) = v := ⟨_, rfl⟩
              have w18g := zrg w18v
              refine zs_imul (pc := 12) t54_12 (c := w18v) w18 ?_
              refine zs_iload_n (pc := 13) t54_13 rfl ?_
              by_cases w19 : w18v.toInt = (zI w2M 322 w11n).toInt
              · refine zs_icmp_eqT (pc := 14) t54_14 rfl rfl (by omega) ?_
                refine zs_iload_n (pc := 21) t54_21 rfl ?_
                refine zs_iret (pc := 22) t54_22 mr54 rfl ?_
                show zGo X l 1 0 0 179 24 [(2, .int (zI w2M 321 w11n)), (0, .ref 164), (1, .int a)] [.int w15v] w2M _
                refine zs_iret (pc := 24) t179_24 mr179 rfl ?_
                show zGo X l 6 0 0 177 69 [(0, .ref 6), (1, .int a), (2, .int b)] [.int w15v] w2M _
                exact zs_iret (pc := 69) t177_69 mr177 rfl (hQ _ _ w2s w2I ((zFr.refl).trans (w2F.mono rfl)) (zrg _).1 (zrg _).2)
              · refine zs_icmp_eqF (pc := 14) t54_14 rfl rfl (by omega) ?_
                refine zs_iload_n (pc := 17) t54_17 rfl ?_
                refine zs_iconst (pc := 18) t54_18 (v := 1) (by decide) ?_
                obtain ⟨w20v, w20⟩ : ∃ v, v = w15v - (1 : Int32) := ⟨_, rfl⟩
                have w20g := zrg w20v
                refine zs_isub (pc := 19) t54_19 (c := w20v) w20.symm ?_
                refine zs_iret (pc := 20) t54_20 mr54 rfl ?_
                show zGo X l 1 0 0 179 24 [(2, .int (zI w2M 321 w11n)), (0, .ref 164), (1, .int a)] [.int w20v] w2M _
                refine zs_iret (pc := 24) t179_24 mr179 rfl ?_
                show zGo X l 6 0 0 177 69 [(0, .ref 6), (1, .int a), (2, .int b)] [.int w20v] w2M _
                exact zs_iret (pc := 69) t177_69 mr177 rfl (hQ _ _ w2s w2I ((zFr.refl).trans (w2F.mono rfl)) (zrg _).1 (zrg _).2)
          · refine zs_if_neF (pc := 7) t179_7 rfl (by omega) ?_
            refine zs_iconst (pc := 10) t179_10 (v := 0) (by decide) ?_
            refine zs_goto (pc := 11) t179_11 ?_
            refine zs_iret (pc := 24) t179_24 mr179 (by decide) ?_
            show zGo X l 6 0 0 177 69 [(0, .ref 6), (1, .int a), (2, .int b)] [.int (0 : Int32)] w2M _
            exact zs_iret (pc := 69) t177_69 mr177 (by decide) (hQ _ _ w2s w2I ((zFr.refl).trans (w2F.mono rfl)) (zrg _).1 (zrg _).2)
      refine zs_lsw (pc := 26) t177_26 (off := 44) rfl (by unfold zlsel; repeat (first | rfl | (rw [if_neg (by omega)]; unfold zlsel))) (pc2 := 70) rfl ?_
      refine zs_ldc (pc := 70) t177_70 (v := -100000) rfl (by decide) ?_
      exact zs_iret (pc := 72) t177_72 mr177 (by decide) (hQ _ _ w2s w2I ((zFr.refl).trans (w2F.mono rfl)) (zrg _).1 (zrg _).2)
    · refine zs_icmp_ltF (pc := 19) t177_19 rfl rfl (by omega) ?_
      refine zs_ldc (pc := 22) t177_22 (v := -100000) rfl (by decide) ?_
      exact zs_iret (pc := 24) t177_24 mr177 (by decide) (hQ _ _ w2s w2I ((zFr.refl).trans (w2F.mono rfl)) (zrg _).1 (zrg _).2)
theorem T187_6 {X : zX} {l : Launch} {M : zM} {Q : Option Value → zM → Prop} (hs : zSk zMc M) (hI : zIv cLo cHi M) (hQ : ∀ (M' : zM) (v : Int32), zSk zMc M' → zIv cLo cHi M' → zFr [(161, 334, none)] M M' → (-2147483648) ≤ v.toInt → v.toInt ≤ 2147483647 → Q (some (.int v)) M') : zCall X l 6 0 0 187 [.ref 6] M Q := by
  refine zs_in (by decide) mf187 (Nat.le_of_ble_eq_true rfl) ?_
  show zGo X l 6 0 0 187 0 [(0, .ref 6)] [] M _
  refine zs_iconst (pc := 0) t187_0 (v := 2) (by decide) ?_
  refine zs_aload_n (pc := 1) t187_1 rfl ?_
  refine zs_get (pc := 2) t187_2 (by decide) (zk1 (hs.k fk_zMc_6)) (hs.p rfl fv_zMc_6_0) ?_
  refine zs_iconst (pc := 5) t187_5 (v := 0) (by decide) ?_
  refine zs_invV (pc := 6) (k := 7) (as' := [.int (0 : Int32)]) (st := [.int (2 : Int32)]) t187_6 mf96 rfl rfl (Or.inl ⟨by decide, (zk1 (hs.k fk_zMc_7))⟩) ⟨by decide, by decide, Nat.le_of_ble_eq_true rfl, Nat.le_of_ble_eq_true rfl⟩ (zs_in (by decide) mf96 (Nat.le_of_ble_eq_true rfl) ?_) (fun _ _ q => q)
  show zGo X l 0 0 0 96 0 [(0, .ref 7), (1, .int (0 : Int32))] [] M _
  refine zs_iload_n (pc := 0) t96_0 rfl ?_
  refine zs_if_ltF (pc := 1) t96_1 li0 (by decide) ?_
  refine zs_iload_n (pc := 4) t96_4 rfl ?_
  refine zs_bipush (pc := 5) t96_5 (v := 9) (by decide) ?_
  refine zs_icmp_geF (pc := 7) t96_7 li0 li9 (by decide) ?_
  refine zs_aload_n (pc := 10) t96_10 rfl ?_
  refine zs_get (pc := 11) t96_11 (by decide) (zk1 (hs.k fk_zMc_7)) (hs.p rfl fv_zMc_7_12) ?_
  refine zs_iload_n (pc := 14) t96_14 rfl ?_
  have w1 := ib17 hI 0
  refine zs_iald (pc := 15) t96_15 (j := 0) (by decide) (zk1 (hs.k fk_zMc_17)) li0 (zk2 (hs.k fk_zMc_17) (by decide)) rfl ?_
  refine zs_goto (pc := 16) t96_16 ?_
  refine zs_iret (pc := 20) t96_20 mr96 rfl ?_
  show zGo X l 6 0 0 187 9 [(0, .ref 6)] [.int (zI M 17 0), .int (2 : Int32)] M _
  obtain ⟨w2v, w2⟩ : ∃ v, (2 : Int32) * (zI M 17 0) = v := ⟨_, rfl⟩
  have w2g := zrg w2v
  refine zs_imul (pc := 9) t187_9 (c := w2v) w2 ?_
  refine zs_iconst (pc := 10) t187_10 (v := 1) (by decide) ?_
  obtain ⟨w3v, w3⟩ : ∃ v, v = w2v + (1 : Int32) := ⟨_, rfl⟩
  have w3g := zrg w3v
  refine zs_iadd (pc := 11) t187_11 (c := w3v) w3.symm ?_
  refine zs_istore_n (pc := 12) t187_12 (ls' := [(1, .int w3v), (0, .ref 6)]) (zml mf187 (by decide)) rfl ?_
  refine zs_iconst (pc := 13) t187_13 (v := 2) (by decide) ?_
  refine zs_aload_n (pc := 14) t187_14 rfl ?_
  refine zs_get (pc := 15) t187_15 (by decide) (zk1 (hs.k fk_zMc_6)) (hs.p rfl fv_zMc_6_0) ?_
  refine zs_iconst (pc := 18) t187_18 (v := 1) (by decide) ?_
  refine zs_invV (pc := 19) (k := 7) (as' := [.int (1 : Int32)]) (st := [.int (2 : Int32)]) t187_19 mf96 rfl rfl (Or.inl ⟨by decide, (zk1 (hs.k fk_zMc_7))⟩) ⟨by decide, by decide, Nat.le_of_ble_eq_true rfl, Nat.le_of_ble_eq_true rfl⟩ (zs_in (by decide) mf96 (Nat.le_of_ble_eq_true rfl) ?_) (fun _ _ q => q)
  show zGo X l 0 0 0 96 0 [(0, .ref 7), (1, .int (1 : Int32))] [] M _
  refine zs_iload_n (pc := 0) t96_0 rfl ?_
  refine zs_if_ltF (pc := 1) t96_1 li1 (by decide) ?_
  refine zs_iload_n (pc := 4) t96_4 rfl ?_
  refine zs_bipush (pc := 5) t96_5 (v := 9) (by decide) ?_
  refine zs_icmp_geF (pc := 7) t96_7 li1 li9 (by decide) ?_
  refine zs_aload_n (pc := 10) t96_10 rfl ?_
  refine zs_get (pc := 11) t96_11 (by decide) (zk1 (hs.k fk_zMc_7)) (hs.p rfl fv_zMc_7_12) ?_
  refine zs_iload_n (pc := 14) t96_14 rfl ?_
  have w4 := ib17 hI 1
  refine zs_iald (pc := 15) t96_15 (j := 1) (by decide) (zk1 (hs.k fk_zMc_17)) li1 (zk2 (hs.k fk_zMc_17) (by decide)) rfl ?_
  refine zs_goto (pc := 16) t96_16 ?_
  refine zs_iret (pc := 20) t96_20 mr96 rfl ?_
  show zGo X l 6 0 0 187 22 [(1, .int w3v), (0, .ref 6)] [.int (zI M 17 1), .int (2 : Int32)] M _
  obtain ⟨w5v, w5⟩ : ∃ v, (2 : Int32) * (zI M 17 1) = v := ⟨_, rfl⟩
  have w5g := zrg w5v
  refine zs_imul (pc := 22) t187_22 (c := w5v) w5 ?_
  refine zs_iconst (pc := 23) t187_23 (v := 1) (by decide) ?_
  obtain ⟨w6v, w6⟩ : ∃ v, v = w5v + (1 : Int32) := ⟨_, rfl⟩
  have w6g := zrg w6v
  refine zs_iadd (pc := 24) t187_24 (c := w6v) w6.symm ?_
  refine zs_istore_n (pc := 25) t187_25 (ls' := [(2, .int w6v), (1, .int w3v), (0, .ref 6)]) (zml mf187 (by decide)) rfl ?_
  refine zs_aload_n (pc := 26) t187_26 rfl ?_
  refine zs_get (pc := 27) t187_27 (by decide) (zk1 (hs.k fk_zMc_6)) (hs.p rfl fv_zMc_6_0) ?_
  refine zs_invV (pc := 30) (k := 7) (as' := []) (st := []) t187_30 mf92 rfl rfl (Or.inl ⟨by decide, (zk1 (hs.k fk_zMc_7))⟩) ⟨by decide, by decide, Nat.le_of_ble_eq_true rfl, Nat.le_of_ble_eq_true rfl⟩ (C92_7 hs hI ?_) (fun _ _ q => q)
  intro w7v w7a w7b
  show zGo X l 6 0 0 187 33 [(2, .int w6v), (1, .int w3v), (0, .ref 6)] [.int w7v] M _
  refine zs_iload_n (pc := 33) t187_33 rfl ?_
  obtain ⟨w8v, w8⟩ : ∃ v, w7v * w3v = v := ⟨_, rfl⟩
  have w8g := zrg w8v
  refine zs_imul (pc := 34) t187_34 (c := w8v) w8 ?_
  refine zs_iload_n (pc := 35) t187_35 rfl ?_
  obtain ⟨w9v, w9⟩ : ∃ v, w8v * w6v = v := ⟨_, rfl⟩
  have w9g := zrg w9v
  refine zs_imul (pc := 36) t187_36 (c := w9v) w9 ?_
  refine zs_bipush (pc := 37) t187_37 (v := 10) (by decide) ?_
  refine zs_aload_n (pc := 39) t187_39 rfl ?_
  refine zs_get (pc := 40) t187_40 (by decide) (zk1 (hs.k fk_zMc_6)) (hs.p rfl fv_zMc_6_6) ?_
  refine zs_aload_n (pc := 43) t187_43 rfl ?_
  refine zs_get (pc := 44) t187_44 (by decide) (zk1 (hs.k fk_zMc_6)) (hs.p rfl fv_zMc_6_0) ?_
  refine zs_invV (pc := 47) (k := 164) (as' := [.ref 7]) (st := [.int (10 : Int32), .int w9v]) t187_47 mf105 rfl rfl (Or.inl ⟨by decide, (zk1 (hs.k fk_zMc_164))⟩) ⟨by decide, by decide, Nat.le_of_ble_eq_true rfl, Nat.le_of_ble_eq_true rfl⟩ (C105_164_7 hs hI ?_) (fun _ _ q => q)
  intro w10M w10s w10I w10F
  show zGo X l 6 0 0 187 50 [(2, .int w6v), (1, .int w3v), (0, .ref 6)] [.ref 164, .int (10 : Int32), .int w9v] w10M _
  refine zs_invV (pc := 50) (k := 164) (as' := []) (st := [.int (10 : Int32), .int w9v]) t187_50 mf144 rfl rfl (Or.inl ⟨by decide, (zk1 (w10s.k fk_zMc_164))⟩) ⟨by decide, by decide, Nat.le_of_ble_eq_true rfl, Nat.le_of_ble_eq_true rfl⟩ (zs_in (by decide) mf144 (Nat.le_of_ble_eq_true rfl) ?_) (fun _ _ q => q)
  show zGo X l 0 0 0 144 0 [(0, .ref 164)] [] w10M _
  refine zs_aload_n (pc := 0) t144_0 rfl ?_
  have w11 := ib164_4 w10I
  refine zs_get (pc := 1) t144_1 (by decide) (zk1 (w10s.k fk_zMc_164)) (zfvi rfl rfl) ?_
  refine zs_iret (pc := 4) t144_4 mr144 rfl ?_
  show zGo X l 6 0 0 187 53 [(2, .int w6v), (1, .int w3v), (0, .ref 6)] [.int (zI w10M 164 4), .int (10 : Int32), .int w9v] w10M _
  obtain ⟨w12v, w12⟩ : ∃ v, (10 : Int32) * (zI w10M 164 4) = v := ⟨_, rfl⟩
  have w12g := zrg w12v
  refine zs_imul (pc := 53) t187_53 (c := w12v) w12 ?_
  obtain ⟨w13v, w13⟩ : ∃ v, v = w9v + w12v := ⟨_, rfl⟩
  have w13g := zrg w13v
  refine zs_iadd (pc := 54) t187_54 (c := w13v) w13.symm ?_
  exact zs_iret (pc := 55) t187_55 mr187 rfl (hQ _ _ w10s w10I ((zFr.refl).trans (w10F.mono rfl)) (zrg _).1 (zrg _).2)
theorem T188_6 {X : zX} {l : Launch} {M : zM} {Q : Option Value → zM → Prop} {a b c d e : Int32} (hs : zSk zMc M) (hI : zIv cLo cHi M) (hQ : ∀ (M' : zM) (v : Int32), zSk zMc M' → zIv cLo cHi M' → zFr [(161, 334, none)] M M' → (-2147483648) ≤ v.toInt → v.toInt ≤ 2147483647 → Q (some (.int v)) M') : zCall X l 7 0 0 188 [.ref 6, .int a, .int b, .int c, .int d, .int e] M Q := by
  have ga := zrg a
  have gb := zrg b
  have gc := zrg c
  have gd := zrg d
  have ge := zrg e
  refine zs_in (by decide) mf188 (Nat.le_of_ble_eq_true rfl) ?_
  show zGo X l 7 0 0 188 0 [(0, .ref 6), (1, .int a), (2, .int b), (3, .int c), (4, .int d), (5, .int e)] [] M _
  refine zs_iload_n (pc := 0) t188_0 rfl ?_
  refine zs_iload_n (pc := 1) t188_1 rfl ?_
  refine zs_iload (pc := 2) t188_2 rfl ?_
  refine zs_invS (pc := 4) (as := [.int a, .int b, .int d]) (st := []) t188_4 (by decide) mf189 rfl rfl ⟨by decide, by decide, Nat.le_of_ble_eq_true rfl, Nat.le_of_ble_eq_true rfl⟩ (zs_in (by decide) mf189 (Nat.le_of_ble_eq_true rfl) ?_) (fun _ _ q => q)
  show zGo X l 1 0 0 189 0 [(0, .int a), (1, .int b), (2, .int d)] [] M _
  refine zs_iload_n (pc := 0) t189_0 rfl ?_
  refine zs_iconst (pc := 1) t189_1 (v := 1) (by decide) ?_
  refine zs_sipush (pc := 2) t189_2 (v := 200) (by decide) ?_
  refine zs_invS (pc := 5) (as := [.int a, .int (1 : Int32), .int (200 : Int32)]) (st := []) t189_5 (by decide) mf39 rfl rfl ⟨by decide, by decide, Nat.le_of_ble_eq_true rfl, Nat.le_of_ble_eq_true rfl⟩ (zs_in (by decide) mf39 (Nat.le_of_ble_eq_true rfl) ?_) (fun _ _ q => q)
  show zGo X l 0 0 0 39 0 [(0, .int a), (1, .int (1 : Int32)), (2, .int (200 : Int32))] [] M _
  refine zs_iload_n (pc := 0) t39_0 rfl ?_
  refine zs_iload_n (pc := 1) t39_1 rfl ?_
  by_cases w1 : a.toInt < 1
  · refine zs_icmp_ltT (pc := 2) t39_2 rfl li1 (by omega) ?_
    refine zs_iconst (pc := 14) t39_14 (v := 0) (by decide) ?_
    refine zs_iret (pc := 15) t39_15 mr39 (by decide) ?_
    show zGo X l 1 0 0 189 8 [(0, .int a), (1, .int b), (2, .int d)] [.int (0 : Int32)] M _
    refine zs_if_eqT (pc := 8) t189_8 li0 (by decide) ?_
    refine zs_iconst (pc := 36) t189_36 (v := 0) (by decide) ?_
    refine zs_iret (pc := 37) t189_37 mr189 (by decide) ?_
    show zGo X l 7 0 0 188 7 [(0, .ref 6), (1, .int a), (2, .int b), (3, .int c), (4, .int d), (5, .int e)] [.int (0 : Int32)] M _
    refine zs_if_eqT (pc := 7) t188_7 li0 (by decide) ?_
    refine zs_iconst (pc := 20) t188_20 (v := -1) (by decide) ?_
    exact zs_iret (pc := 21) t188_21 mr188 (by decide) (hQ _ _ hs hI (zFr.refl) (zrg _).1 (zrg _).2)
  · refine zs_icmp_ltF (pc := 2) t39_2 rfl li1 (by omega) ?_
    refine zs_iload_n (pc := 5) t39_5 rfl ?_
    refine zs_iload_n (pc := 6) t39_6 rfl ?_
    by_cases w2 : 200 < a.toInt
    · refine zs_icmp_gtT (pc := 7) t39_7 rfl li200 (by omega) ?_
      refine zs_iconst (pc := 14) t39_14 (v := 0) (by decide) ?_
      refine zs_iret (pc := 15) t39_15 mr39 (by decide) ?_
      show zGo X l 1 0 0 189 8 [(0, .int a), (1, .int b), (2, .int d)] [.int (0 : Int32)] M _
      refine zs_if_eqT (pc := 8) t189_8 li0 (by decide) ?_
      refine zs_iconst (pc := 36) t189_36 (v := 0) (by decide) ?_
      refine zs_iret (pc := 37) t189_37 mr189 (by decide) ?_
      show zGo X l 7 0 0 188 7 [(0, .ref 6), (1, .int a), (2, .int b), (3, .int c), (4, .int d), (5, .int e)] [.int (0 : Int32)] M _
      refine zs_if_eqT (pc := 7) t188_7 li0 (by decide) ?_
      refine zs_iconst (pc := 20) t188_20 (v := -1) (by decide) ?_
      exact zs_iret (pc := 21) t188_21 mr188 (by decide) (hQ _ _ hs hI (zFr.refl) (zrg _).1 (zrg _).2)
    · refine zs_icmp_gtF (pc := 7) t39_7 rfl li200 (by omega) ?_
      refine zs_iconst (pc := 10) t39_10 (v := 1) (by decide) ?_
      refine zs_goto (pc := 11) t39_11 ?_
      refine zs_iret (pc := 15) t39_15 mr39 (by decide) ?_
      show zGo X l 1 0 0 189 8 [(0, .int a), (1, .int b), (2, .int d)] [.int (1 : Int32)] M _
      refine zs_if_eqF (pc := 8) t189_8 li1 (by decide) ?_
      refine zs_iload_n (pc := 11) t189_11 rfl ?_
      refine zs_iconst (pc := 12) t189_12 (v := 1) (by decide) ?_
      refine zs_sipush (pc := 13) t189_13 (v := 999) (by decide) ?_
      refine zs_invS (pc := 16) (as := [.int b, .int (1 : Int32), .int (999 : Int32)]) (st := []) t189_16 (by decide) mf39 rfl rfl ⟨by decide, by decide, Nat.le_of_ble_eq_true rfl, Nat.le_of_ble_eq_true rfl⟩ (zs_in (by decide) mf39 (Nat.le_of_ble_eq_true rfl) ?_) (fun _ _ q => q)
      show zGo X l 0 0 0 39 0 [(0, .int b), (1, .int (1 : Int32)), (2, .int (999 : Int32))] [] M _
      refine zs_iload_n (pc := 0) t39_0 rfl ?_
      refine zs_iload_n (pc := 1) t39_1 rfl ?_
      by_cases w3 : b.toInt < 1
      · refine zs_icmp_ltT (pc := 2) t39_2 rfl li1 (by omega) ?_
        refine zs_iconst (pc := 14) t39_14 (v := 0) (by decide) ?_
        refine zs_iret (pc := 15) t39_15 mr39 (by decide) ?_
        show zGo X l 1 0 0 189 19 [(0, .int a), (1, .int b), (2, .int d)] [.int (0 : Int32)] M _
        refine zs_if_eqT (pc := 19) t189_19 li0 (by decide) ?_
        refine zs_iconst (pc := 36) t189_36 (v := 0) (by decide) ?_
        refine zs_iret (pc := 37) t189_37 mr189 (by decide) ?_
        show zGo X l 7 0 0 188 7 [(0, .ref 6), (1, .int a), (2, .int b), (3, .int c), (4, .int d), (5, .int e)] [.int (0 : Int32)] M _
        refine zs_if_eqT (pc := 7) t188_7 li0 (by decide) ?_
        refine zs_iconst (pc := 20) t188_20 (v := -1) (by decide) ?_
        exact zs_iret (pc := 21) t188_21 mr188 (by decide) (hQ _ _ hs hI (zFr.refl) (zrg _).1 (zrg _).2)
      · refine zs_icmp_ltF (pc := 2) t39_2 rfl li1 (by omega) ?_
        refine zs_iload_n (pc := 5) t39_5 rfl ?_
        refine zs_iload_n (pc := 6) t39_6 rfl ?_
        by_cases w4 : 999 < b.toInt
        · refine zs_icmp_gtT (pc := 7) t39_7 rfl li999 (by omega) ?_
          refine zs_iconst (pc := 14) t39_14 (v := 0) (by decide) ?_
          refine zs_iret (pc := 15) t39_15 mr39 (by decide) ?_
          show zGo X l 1 0 0 189 19 [(0, .int a), (1, .int b), (2, .int d)] [.int (0 : Int32)] M _
          refine zs_if_eqT (pc := 19) t189_19 li0 (by decide) ?_
          refine zs_iconst (pc := 36) t189_36 (v := 0) (by decide) ?_
          refine zs_iret (pc := 37) t189_37 mr189 (by decide) ?_
          show zGo X l 7 0 0 188 7 [(0, .ref 6), (1, .int a), (2, .int b), (3, .int c), (4, .int d), (5, .int e)] [.int (0 : Int32)] M _
          refine zs_if_eqT (pc := 7) t188_7 li0 (by decide) ?_
          refine zs_iconst (pc := 20) t188_20 (v := -1) (by decide) ?_
          exact zs_iret (pc := 21) t188_21 mr188 (by decide) (hQ _ _ hs hI (zFr.refl) (zrg _).1 (zrg _).2)
        · refine zs_icmp_gtF (pc := 7) t39_7 rfl li999 (by omega) ?_
          refine zs_iconst (pc := 10) t39_10 (v := 1) (by decide) ?_
          refine zs_goto (pc := 11) t39_11 ?_
          refine zs_iret (pc := 15) t39_15 mr39 (by decide) ?_
          show zGo X l 1 0 0 189 19 [(0, .int a), (1, .int b), (2, .int d)] [.int (1 : Int32)] M _
          refine zs_if_eqF (pc := 19) t189_19 li1 (by decide) ?_
          refine zs_iload_n (pc := 22) t189_22 rfl ?_
          refine zs_iconst (pc := 23) t189_23 (v := 0) (by decide) ?_
          refine zs_bipush (pc := 24) t189_24 (v := 50) (by decide) ?_
          refine zs_invS (pc := 26) (as := [.int d, .int (0 : Int32), .int (50 : Int32)]) (st := []) t189_26 (by decide) mf39 rfl rfl ⟨by decide, by decide, Nat.le_of_ble_eq_true rfl, Nat.le_of_ble_eq_true rfl⟩ (zs_in (by decide) mf39 (Nat.le_of_ble_eq_true rfl) ?_) (fun _ _ q => q)
          show zGo X l 0 0 0 39 0 [(0, .int d), (1, .int (0 : Int32)), (2, .int (50 : Int32))] [] M _
          refine zs_iload_n (pc := 0) t39_0 rfl ?_
          refine zs_iload_n (pc := 1) t39_1 rfl ?_
          by_cases w5 : d.toInt < 0
          · refine zs_icmp_ltT (pc := 2) t39_2 rfl li0 (by omega) ?_
            refine zs_iconst (pc := 14) t39_14 (v := 0) (by decide) ?_
            refine zs_iret (pc := 15) t39_15 mr39 (by decide) ?_
            show zGo X l 1 0 0 189 29 [(0, .int a), (1, .int b), (2, .int d)] [.int (0 : Int32)] M _
            refine zs_if_eqT (pc := 29) t189_29 li0 (by decide) ?_
            refine zs_iconst (pc := 36) t189_36 (v := 0) (by decide) ?_
            refine zs_iret (pc := 37) t189_37 mr189 (by decide) ?_
            show zGo X l 7 0 0 188 7 [(0, .ref 6), (1, .int a), (2, .int b), (3, .int c), (4, .int d), (5, .int e)] [.int (0 : Int32)] M _
            refine zs_if_eqT (pc := 7) t188_7 li0 (by decide) ?_
            refine zs_iconst (pc := 20) t188_20 (v := -1) (by decide) ?_
            exact zs_iret (pc := 21) t188_21 mr188 (by decide) (hQ _ _ hs hI (zFr.refl) (zrg _).1 (zrg _).2)
          · refine zs_icmp_ltF (pc := 2) t39_2 rfl li0 (by omega) ?_
            refine zs_iload_n (pc := 5) t39_5 rfl ?_
            refine zs_iload_n (pc := 6) t39_6 rfl ?_
            by_cases w6 : 50 < d.toInt
            · refine zs_icmp_gtT (pc := 7) t39_7 rfl li50 (by omega) ?_
              refine zs_iconst (pc := 14) t39_14 (v := 0) (by decide) ?_
              refine zs_iret (pc := 15) t39_15 mr39 (by decide) ?_
              show zGo X l 1 0 0 189 29 [(0, .int a), (1, .int b), (2, .int d)] [.int (0 : Int32)] M _
              refine zs_if_eqT (pc := 29) t189_29 li0 (by decide) ?_
              refine zs_iconst (pc := 36) t189_36 (v := 0) (by decide) ?_
              refine zs_iret (pc := 37) t189_37 mr189 (by decide) ?_
              show zGo X l 7 0 0 188 7 [(0, .ref 6), (1, .int a), (2, .int b), (3, .int c), (4, .int d), (5, .int e)] [.int (0 : Int32)] M _
              refine zs_if_eqT (pc := 7) t188_7 li0 (by decide) ?_
              refine zs_iconst (pc := 20) t188_20 (v := -1) (by decide) ?_
              exact zs_iret (pc := 21) t188_21 mr188 (by decide) (hQ _ _ hs hI (zFr.refl) (zrg _).1 (zrg _).2)
            · refine zs_icmp_gtF (pc := 7) t39_7 rfl li50 (by omega) ?_
              refine zs_iconst (pc := 10) t39_10 (v := 1) (by decide) ?_
              refine zs_goto (pc := 11) t39_11 ?_
              refine zs_iret (pc := 15) t39_15 mr39 (by decide) ?_
              show zGo X l 1 0 0 189 29 [(0, .int a), (1, .int b), (2, .int d)] [.int (1 : Int32)] M _
              refine zs_if_eqF (pc := 29) t189_29 li1 (by decide) ?_
              refine zs_iconst (pc := 32) t189_32 (v := 1) (by decide) ?_
              refine zs_goto (pc := 33) t189_33 ?_
              refine zs_iret (pc := 37) t189_37 mr189 (by decide) ?_
              show zGo X l 7 0 0 188 7 [(0, .ref 6), (1, .int a), (2, .int b), (3, .int c), (4, .int d), (5, .int e)] [.int (1 : Int32)] M _
              refine zs_if_eqF (pc := 7) t188_7 li1 (by decide) ?_
              refine zs_iload_n (pc := 10) t188_10 rfl ?_
              refine zs_iconst (pc := 11) t188_11 (v := 1) (by decide) ?_
              refine zs_bipush (pc := 12) t188_12 (v := 8) (by decide) ?_
              refine zs_invS (pc := 14) (as := [.int c, .int (1 : Int32), .int (8 : Int32)]) (st := []) t188_14 (by decide) mf39 rfl rfl ⟨by decide, by decide, Nat.le_of_ble_eq_true rfl, Nat.le_of_ble_eq_true rfl⟩ (zs_in (by decide) mf39 (Nat.le_of_ble_eq_true rfl) ?_) (fun _ _ q => q)
              show zGo X l 0 0 0 39 0 [(0, .int c), (1, .int (1 : Int32)), (2, .int (8 : Int32))] [] M _
              refine zs_iload_n (pc := 0) t39_0 rfl ?_
              refine zs_iload_n (pc := 1) t39_1 rfl ?_
              by_cases w7 : c.toInt < 1
              · refine zs_icmp_ltT (pc := 2) t39_2 rfl li1 (by omega) ?_
                refine zs_iconst (pc := 14) t39_14 (v := 0) (by decide) ?_
                refine zs_iret (pc := 15) t39_15 mr39 (by decide) ?_
                show zGo X l 7 0 0 188 17 [(0, .ref 6), (1, .int a), (2, .int b), (3, .int c), (4, .int d), (5, .int e)] [.int (0 : Int32)] M _
                refine zs_if_neF (pc := 17) t188_17 li0 (by decide) ?_
                refine zs_iconst (pc := 20) t188_20 (v := -1) (by decide) ?_
                exact zs_iret (pc := 21) t188_21 mr188 (by decide) (hQ _ _ hs hI (zFr.refl) (zrg _).1 (zrg _).2)
              · refine zs_icmp_ltF (pc := 2) t39_2 rfl li1 (by omega) ?_
                refine zs_iload_n (pc := 5) t39_5 rfl ?_
                refine zs_iload_n (pc := 6) t39_6 rfl ?_
                by_cases w8 : 8 < c.toInt
                · refine zs_icmp_gtT (pc := 7) t39_7 rfl li8 (by omega) ?_
                  refine zs_iconst (pc := 14) t39_14 (v := 0) (by decide) ?_
                  refine zs_iret (pc := 15) t39_15 mr39 (by decide) ?_
                  show zGo X l 7 0 0 188 17 [(0, .ref 6), (1, .int a), (2, .int b), (3, .int c), (4, .int d), (5, .int e)] [.int (0 : Int32)] M _
                  refine zs_if_neF (pc := 17) t188_17 li0 (by decide) ?_
                  refine zs_iconst (pc := 20) t188_20 (v := -1) (by decide) ?_
                  exact zs_iret (pc := 21) t188_21 mr188 (by decide) (hQ _ _ hs hI (zFr.refl) (zrg _).1 (zrg _).2)
                · refine zs_icmp_gtF (pc := 7) t39_7 rfl li8 (by omega) ?_
                  refine zs_iconst (pc := 10) t39_10 (v := 1) (by decide) ?_
                  refine zs_goto (pc := 11) t39_11 ?_
                  refine zs_iret (pc := 15) t39_15 mr39 (by decide) ?_
                  show zGo X l 7 0 0 188 17 [(0, .ref 6), (1, .int a), (2, .int b), (3, .int c), (4, .int d), (5, .int e)] [.int (1 : Int32)] M _
                  refine zs_if_neT (pc := 17) t188_17 li1 (by decide) ?_
                  refine zs_aload_n (pc := 22) t188_22 rfl ?_
                  refine zs_invV (pc := 23) (k := 6) (as' := []) (st := []) t188_23 mf187 rfl rfl (Or.inl ⟨by decide, (zk1 (hs.k fk_zMc_6))⟩) ⟨by decide, by decide, Nat.le_of_ble_eq_true rfl, Nat.le_of_ble_eq_true rfl⟩ (T187_6 hs hI ?_) (fun _ _ q => q)
                  intro w9M w9v w9s w9I w9F w9a w9b
                  show zGo X l 7 0 0 188 26 [(0, .ref 6), (1, .int a), (2, .int b), (3, .int c), (4, .int d), (5, .int e)] [.int w9v] w9M _
                  refine zs_aload_n (pc := 26) t188_26 rfl ?_
                  refine zs_get (pc := 27) t188_27 (by decide) (zk1 (w9s.k fk_zMc_6)) (w9s.p rfl fv_zMc_6_0) ?_
                  refine zs_bipush (pc := 30) t188_30 (v := 7) (by decide) ?_
                  refine zs_invV (pc := 32) (k := 7) (as' := [.int (7 : Int32)]) (st := [.int w9v]) t188_32 mf96 rfl rfl (Or.inl ⟨by decide, (zk1 (w9s.k fk_zMc_7))⟩) ⟨by decide, by decide, Nat.le_of_ble_eq_true rfl, Nat.le_of_ble_eq_true rfl⟩ (zs_in (by decide) mf96 (Nat.le_of_ble_eq_true rfl) ?_) (fun _ _ q => q)
                  show zGo X l 0 0 0 96 0 [(0, .ref 7), (1, .int (7 : Int32))] [] w9M _
                  refine zs_iload_n (pc := 0) t96_0 rfl ?_
                  refine zs_if_ltF (pc := 1) t96_1 li7 (by decide) ?_
                  refine zs_iload_n (pc := 4) t96_4 rfl ?_
                  refine zs_bipush (pc := 5) t96_5 (v := 9) (by decide) ?_
                  refine zs_icmp_geF (pc := 7) t96_7 li7 li9 (by decide) ?_
                  refine zs_aload_n (pc := 10) t96_10 rfl ?_
                  refine zs_get (pc := 11) t96_11 (by decide) (zk1 (w9s.k fk_zMc_7)) (w9s.p rfl fv_zMc_7_12) ?_
                  refine zs_iload_n (pc := 14) t96_14 rfl ?_
                  have w10 := ib17 hI 7
                  refine zs_iald (pc := 15) t96_15 (j := 7) (by decide) (zk1 (w9s.k fk_zMc_17)) li7 (zk2 (w9s.k fk_zMc_17) (by decide)) ((w9F 17 7 rfl).trans rfl) ?_
                  refine zs_goto (pc := 16) t96_16 ?_
                  refine zs_iret (pc := 20) t96_20 mr96 rfl ?_
                  show zGo X l 7 0 0 188 35 [(0, .ref 6), (1, .int a), (2, .int b), (3, .int c), (4, .int d), (5, .int e)] [.int (zI M 17 7), .int w9v] w9M _
                  refine zs_invS (pc := 35) (as := [.int w9v, .int (zI M 17 7)]) (st := []) t188_35 (by decide) mf190 rfl rfl ⟨by decide, by decide, Nat.le_of_ble_eq_true rfl, Nat.le_of_ble_eq_true rfl⟩ (zs_in (by decide) mf190 (Nat.le_of_ble_eq_true rfl) ?_) (fun _ _ q => q)
                  show zGo X l 1 0 0 190 0 [(0, .int w9v), (1, .int (zI M 17 7))] [] w9M _
                  refine zs_iload_n (pc := 0) t190_0 rfl ?_
                  refine zs_iconst (pc := 1) t190_1 (v := 1) (by decide) ?_
                  by_cases w11 : 1 ≤ (zI M 17 7).toInt
                  · refine zs_icmp_geT (pc := 2) t190_2 rfl li1 (by omega) ?_
                    refine zs_iconst (pc := 9) t190_9 (v := 1) (by decide) ?_
                    refine zs_iload_n (pc := 10) t190_10 rfl ?_
                    refine zs_iload_n (pc := 11) t190_11 rfl ?_
                    obtain ⟨w12v, w12⟩ : ∃ v, v = w9v + (zI M 17 7) := ⟨_, rfl⟩
                    have w12g := zrg w12v
                    refine zs_iadd (pc := 12) t190_12 (c := w12v) w12.symm ?_
                    refine zs_iconst (pc := 13) t190_13 (v := 1) (by decide) ?_
                    obtain ⟨w13v, w13⟩ : ∃ v, v = w12v - (1 : Int32) := ⟨_, rfl⟩
                    have w13g := zrg w13v
                    refine zs_isub (pc := 14) t190_14 (c := w13v) w13.symm ?_
                    refine zs_iload_n (pc := 15) t190_15 rfl ?_
                    obtain ⟨w14v, w14⟩ : ∃ v, w13v / (zI M 17 7) = v := ⟨_, rfl⟩
                    have w14g := zrg w14v
                    refine zs_idiv (pc := 16) t190_16 (znz rfl (by omega)) (c := w14v) w14 ?_
                    refine zs_invS (pc := 17) (as := [.int (1 : Int32), .int w14v]) (st := []) t190_17 (by decide) mf21 rfl rfl ⟨by decide, by decide, Nat.le_of_ble_eq_true rfl, Nat.le_of_ble_eq_true rfl⟩ (zs_in (by decide) mf21 (Nat.le_of_ble_eq_true rfl) ?_) (fun _ _ q => q)
                    show zGo X l 0 0 0 21 0 [(0, .int (1 : Int32)), (1, .int w14v)] [] w9M _
                    refine zs_iload_n (pc := 0) t21_0 rfl ?_
                    refine zs_iload_n (pc := 1) t21_1 rfl ?_
                    by_cases w15 : 1 < w14v.toInt
                    · refine zs_icmp_ltT (pc := 2) t21_2 li1 rfl (by omega) ?_
                      refine zs_iload_n (pc := 9) t21_9 rfl ?_
                      refine zs_iret (pc := 10) t21_10 mr21 rfl ?_
                      show zGo X l 1 0 0 190 20 [(0, .int w9v), (1, .int (zI M 17 7))] [.int w14v] w9M _
                      refine zs_iret (pc := 20) t190_20 mr190 rfl ?_
                      show zGo X l 7 0 0 188 38 [(0, .ref 6), (1, .int a), (2, .int b), (3, .int c), (4, .int d), (5, .int e)] [.int w14v] w9M _
                      refine zs_istore (pc := 38) t188_38 (ls' := [(6, .int w14v), (0, .ref 6), (1, .int a), (2, .int b), (3, .int c), (4, .int d), (5, .int e)]) (zml mf188 (by decide)) rfl ?_
                      refine zs_aload_n (pc := 40) t188_40 rfl ?_
                      refine zs_get (pc := 41) t188_41 (by decide) (zk1 (w9s.k fk_zMc_6)) (w9s.p rfl fv_zMc_6_8) ?_
                      refine zs_iload_n (pc := 44) t188_44 rfl ?_
                      refine zs_iload_n (pc := 45) t188_45 rfl ?_
                      refine zs_iload_n (pc := 46) t188_46 rfl ?_
                      refine zs_iload (pc := 47) t188_47 rfl ?_
                      refine zs_iload (pc := 49) t188_49 rfl ?_
                      refine zs_aload_n (pc := 51) t188_51 rfl ?_
                      refine zs_get (pc := 52) t188_52 (by decide) (zk1 (w9s.k fk_zMc_6)) (w9s.p rfl fv_zMc_6_0) ?_
                      refine zs_bipush (pc := 55) t188_55 (v := 8) (by decide) ?_
                      refine zs_invV (pc := 57) (k := 7) (as' := [.int (8 : Int32)]) (st := [.int w14v, .int d, .int c, .int b, .int a, .ref 332]) t188_57 mf96 rfl rfl (Or.inl ⟨by decide, (zk1 (w9s.k fk_zMc_7))⟩) ⟨by decide, by decide, Nat.le_of_ble_eq_true rfl, Nat.le_of_ble_eq_true rfl⟩ (zs_in (by decide) mf96 (Nat.le_of_ble_eq_true rfl) ?_) (fun _ _ q => q)
                      show zGo X l 0 0 0 96 0 [(0, .ref 7), (1, .int (8 : Int32))] [] w9M _
                      refine zs_iload_n (pc := 0) t96_0 rfl ?_
                      refine zs_if_ltF (pc := 1) t96_1 li8 (by decide) ?_
                      refine zs_iload_n (pc := 4) t96_4 rfl ?_
                      refine zs_bipush (pc := 5) t96_5 (v := 9) (by decide) ?_
                      refine zs_icmp_geF (pc := 7) t96_7 li8 li9 (by decide) ?_
                      refine zs_aload_n (pc := 10) t96_10 rfl ?_
                      refine zs_get (pc := 11) t96_11 (by decide) (zk1 (w9s.k fk_zMc_7)) (w9s.p rfl fv_zMc_7_12) ?_
                      refine zs_iload_n (pc := 14) t96_14 rfl ?_
                      have w16 := ib17 hI 8
                      refine zs_iald (pc := 15) t96_15 (j := 8) (by decide) (zk1 (w9s.k fk_zMc_17)) li8 (zk2 (w9s.k fk_zMc_17) (by decide)) ((w9F 17 8 rfl).trans rfl) ?_
                      refine zs_goto (pc := 16) t96_16 ?_
                      refine zs_iret (pc := 20) t96_20 mr96 rfl ?_
                      show zGo X l 7 0 0 188 60 [(6, .int w14v), (0, .ref 6), (1, .int a), (2, .int b), (3, .int c), (4, .int d), (5, .int e)] [.int (zI M 17 8), .int w14v, .int d, .int c, .int b, .int a, .ref 332] w9M _
                      refine zs_invV (pc := 60) (k := 332) (as' := [.int a, .int b, .int c, .int d, .int w14v, .int (zI M 17 8)]) (st := []) t188_60 mf191 rfl rfl (Or.inl ⟨by decide, (zk1 (w9s.k fk_zMc_332))⟩) ⟨by decide, by decide, Nat.le_of_ble_eq_true rfl, Nat.le_of_ble_eq_true rfl⟩ (C191_332 w9s w9I ⟨by omega, by omega⟩ ?_) (fun _ _ q => q)
                      intro w17M w17s w17I w17F
                      show zGo X l 7 0 0 188 63 [(6, .int w14v), (0, .ref 6), (1, .int a), (2, .int b), (3, .int c), (4, .int d), (5, .int e)] [] w17M _
                      refine zs_iload (pc := 63) t188_63 rfl ?_
                      by_cases w18 : e.toInt = 0
                      · refine zs_tswI (pc := 65) t188_65 ((rfl : e.toInt = e.toInt).trans w18) (by decide) rfl (pc2 := 96) rfl ?_
                        refine zs_aload_n (pc := 96) t188_96 rfl ?_
                        refine zs_get (pc := 97) t188_97 (by decide) (zk1 (w17s.k fk_zMc_6)) (w17s.p rfl fv_zMc_6_8) ?_
                        have w19 := ib332_0 w17I
                        refine zs_get (pc := 100) t188_100 (by decide) (zk1 (w17s.k fk_zMc_332)) (zfvi rfl rfl) ?_
                        exact zs_iret (pc := 103) t188_103 mr188 rfl (hQ _ _ w17s w17I (((zFr.refl).trans (w9F.mono rfl)).trans (w17F.mono rfl)) (zrg _).1 (zrg _).2)
                      by_cases w20 : e.toInt = 1
                      · refine zs_tswI (pc := 65) t188_65 ((rfl : e.toInt = e.toInt).trans w20) (by decide) rfl (pc2 := 104) rfl ?_
                        refine zs_aload_n (pc := 104) t188_104 rfl ?_
                        refine zs_get (pc := 105) t188_105 (by decide) (zk1 (w17s.k fk_zMc_6)) (w17s.p rfl fv_zMc_6_8) ?_
                        have w21 := ib332_1 w17I
                        refine zs_get (pc := 108) t188_108 (by decide) (zk1 (w17s.k fk_zMc_332)) (zfvi rfl rfl) ?_
                        exact zs_iret (pc := 111) t188_111 mr188 rfl (hQ _ _ w17s w17I (((zFr.refl).trans (w9F.mono rfl)).trans (w17F.mono rfl)) (zrg _).1 (zrg _).2)
                      by_cases w22 : e.toInt = 2
                      · refine zs_tswI (pc := 65) t188_65 ((rfl : e.toInt = e.toInt).trans w22) (by decide) rfl (pc2 := 112) rfl ?_
                        refine zs_aload_n (pc := 112) t188_112 rfl ?_
                        refine zs_get (pc := 113) t188_113 (by decide) (zk1 (w17s.k fk_zMc_6)) (w17s.p rfl fv_zMc_6_8) ?_
                        have w23 := ib332_2 w17I
                        refine zs_get (pc := 116) t188_116 (by decide) (zk1 (w17s.k fk_zMc_332)) (zfvi rfl rfl) ?_
                        exact zs_iret (pc := 119) t188_119 mr188 rfl (hQ _ _ w17s w17I (((zFr.refl).trans (w9F.mono rfl)).trans (w17F.mono rfl)) (zrg _).1 (zrg _).2)
                      by_cases w24 : e.toInt = 3
                      · refine zs_tswI (pc := 65) t188_65 ((rfl : e.toInt = e.toInt).trans w24) (by decide) rfl (pc2 := 120) rfl ?_
                        refine zs_aload_n (pc := 120) t188_120 rfl ?_
                        refine zs_get (pc := 121) t188_121 (by decide) (zk1 (w17s.k fk_zMc_6)) (w17s.p rfl fv_zMc_6_8) ?_
                        have w25 := ib332_3 w17I
                        refine zs_get (pc := 124) t188_124 (by decide) (zk1 (w17s.k fk_zMc_332)) (zfvi rfl rfl) ?_
                        exact zs_iret (pc := 127) t188_127 mr188 rfl (hQ _ _ w17s w17I (((zFr.refl).trans (w9F.mono rfl)).trans (w17F.mono rfl)) (zrg _).1 (zrg _).2)
                      refine zs_tswD (pc := 65) t188_65 rfl (by omega) (pc2 := 128) rfl ?_
                      refine zs_iconst (pc := 128) t188_128 (v := -1) (by decide) ?_
                      exact zs_iret (pc := 129) t188_129 mr188 (by decide) (hQ _ _ w17s w17I (((zFr.refl).trans (w9F.mono rfl)).trans (w17F.mono rfl)) (zrg _).1 (zrg _).2)
                    · refine zs_icmp_ltF (pc := 2) t21_2 li1 rfl (by omega) ?_
                      refine zs_iload_n (pc := 5) t21_5 rfl ?_
                      refine zs_goto (pc := 6) t21_6 ?_
                      refine zs_iret (pc := 10) t21_10 mr21 (by decide) ?_
                      show zGo X l 1 0 0 190 20 [(0, .int w9v), (1, .int (zI M 17 7))] [.int (1 : Int32)] w9M _
                      refine zs_iret (pc := 20) t190_20 mr190 (by decide) ?_
                      show zGo X l 7 0 0 188 38 [(0, .ref 6), (1, .int a), (2, .int b), (3, .int c), (4, .int d), (5, .int e)] [.int (1 : Int32)] w9M _
                      refine zs_istore (pc := 38) t188_38 (ls' := [(6, .int (1 : Int32)), (0, .ref 6), (1, .int a), (2, .int b), (3, .int c), (4, .int d), (5, .int e)]) (zml mf188 (by decide)) rfl ?_
                      refine zs_aload_n (pc := 40) t188_40 rfl ?_
                      refine zs_get (pc := 41) t188_41 (by decide) (zk1 (w9s.k fk_zMc_6)) (w9s.p rfl fv_zMc_6_8) ?_
                      refine zs_iload_n (pc := 44) t188_44 rfl ?_
                      refine zs_iload_n (pc := 45) t188_45 rfl ?_
                      refine zs_iload_n (pc := 46) t188_46 rfl ?_
                      refine zs_iload (pc := 47) t188_47 rfl ?_
                      refine zs_iload (pc := 49) t188_49 rfl ?_
                      refine zs_aload_n (pc := 51) t188_51 rfl ?_
                      refine zs_get (pc := 52) t188_52 (by decide) (zk1 (w9s.k fk_zMc_6)) (w9s.p rfl fv_zMc_6_0) ?_
                      refine zs_bipush (pc := 55) t188_55 (v := 8) (by decide) ?_
                      refine zs_invV (pc := 57) (k := 7) (as' := [.int (8 : Int32)]) (st := [.int (1 : Int32), .int d, .int c, .int b, .int a, .ref 332]) t188_57 mf96 rfl rfl (Or.inl ⟨by decide, (zk1 (w9s.k fk_zMc_7))⟩) ⟨by decide, by decide, Nat.le_of_ble_eq_true rfl, Nat.le_of_ble_eq_true rfl⟩ (zs_in (by decide) mf96 (Nat.le_of_ble_eq_true rfl) ?_) (fun _ _ q => q)
                      show zGo X l 0 0 0 96 0 [(0, .ref 7), (1, .int (8 : Int32))] [] w9M _
                      refine zs_iload_n (pc := 0) t96_0 rfl ?_
                      refine zs_if_ltF (pc := 1) t96_1 li8 (by decide) ?_
                      refine zs_iload_n (pc := 4) t96_4 rfl ?_
                      refine zs_bipush (pc := 5) t96_5 (v := 9) (by decide) ?_
                      refine zs_icmp_geF (pc := 7) t96_7 li8 li9 (by decide) ?_
                      refine zs_aload_n (pc := 10) t96_10 rfl ?_
                      refine zs_get (pc := 11) t96_11 (by decide) (zk1 (w9s.k fk_zMc_7)) (w9s.p rfl fv_zMc_7_12) ?_
                      refine zs_iload_n (pc := 14) t96_14 rfl ?_
                      have w26 := ib17 hI 8
                      refine zs_iald (pc := 15) t96_15 (j := 8) (by decide) (zk1 (w9s.k fk_zMc_17)) li8 (zk2 (w9s.k fk_zMc_17) (by decide)) ((w9F 17 8 rfl).trans rfl) ?_
                      refine zs_goto (pc := 16) t96_16 ?_
                      refine zs_iret (pc := 20) t96_20 mr96 rfl ?_
                      show zGo X l 7 0 0 188 60 [(6, .int (1 : Int32)), (0, .ref 6), (1, .int a), (2, .int b), (3, .int c), (4, .int d), (5, .int e)] [.int (zI M 17 8), .int (1 : Int32), .int d, .int c, .int b, .int a, .ref 332] w9M _
                      refine zs_invV (pc := 60) (k := 332) (as' := [.int a, .int b, .int c, .int d, .int (1 : Int32), .int (zI M 17 8)]) (st := []) t188_60 mf191 rfl rfl (Or.inl ⟨by decide, (zk1 (w9s.k fk_zMc_332))⟩) ⟨by decide, by decide, Nat.le_of_ble_eq_true rfl, Nat.le_of_ble_eq_true rfl⟩ (C191_332 w9s w9I ⟨by omega, by omega⟩ ?_) (fun _ _ q => q)
                      intro w27M w27s w27I w27F
                      show zGo X l 7 0 0 188 63 [(6, .int (1 : Int32)), (0, .ref 6), (1, .int a), (2, .int b), (3, .int c), (4, .int d), (5, .int e)] [] w27M _
                      refine zs_iload (pc := 63) t188_63 rfl ?_
                      by_cases w28 : e.toInt = 0
                      · refine zs_tswI (pc := 65) t188_65 ((rfl : e.toInt = e.toInt).trans w28) (by decide) rfl (pc2 := 96) rfl ?_
                        refine zs_aload_n (pc := 96) t188_96 rfl ?_
                        refine zs_get (pc := 97) t188_97 (by decide) (zk1 (w27s.k fk_zMc_6)) (w27s.p rfl fv_zMc_6_8) ?_
                        have w29 := ib332_0 w27I
                        refine zs_get (pc := 100) t188_100 (by decide) (zk1 (w27s.k fk_zMc_332)) (zfvi rfl rfl) ?_
                        exact zs_iret (pc := 103) t188_103 mr188 rfl (hQ _ _ w27s w27I (((zFr.refl).trans (w9F.mono rfl)).trans (w27F.mono rfl)) (zrg _).1 (zrg _).2)
                      by_cases w30 : e.toInt = 1
                      · refine zs_tswI (pc := 65) t188_65 ((rfl : e.toInt = e.toInt).trans w30) (by decide) rfl (pc2 := 104) rfl ?_
                        refine zs_aload_n (pc := 104) t188_104 rfl ?_
                        refine zs_get (pc := 105) t188_105 (by decide) (zk1 (w27s.k fk_zMc_6)) (w27s.p rfl fv_zMc_6_8) ?_
                        have w31 := ib332_1 w27I
                        refine zs_get (pc := 108) t188_108 (by decide) (zk1 (w27s.k fk_zMc_332)) (zfvi rfl rfl) ?_
                        exact zs_iret (pc := 111) t188_111 mr188 rfl (hQ _ _ w27s w27I (((zFr.refl).trans (w9F.mono rfl)).trans (w27F.mono rfl)) (zrg _).1 (zrg _).2)
                      by_cases w32 : e.toInt = 2
                      · refine zs_tswI (pc := 65) t188_65 ((rfl : e.toInt = e.toInt).trans w32) (by decide) rfl (pc2 := 112) rfl ?_
                        refine zs_aload_n (pc := 112) t188_112 rfl ?_
                        refine zs_get (pc := 113) t188_113 (by decide) (zk1 (w27s.k fk_zMc_6)) (w27s.p rfl fv_zMc_6_8) ?_
                        have w33 := ib332_2 w27I
                        refine zs_get (pc := 116) t188_116 (by decide) (zk1 (w27s.k fk_zMc_332)) (zfvi rfl rfl) ?_
                        exact zs_iret (pc := 119) t188_119 mr188 rfl (hQ _ _ w27s w27I (((zFr.refl).trans (w9F.mono rfl)).trans (w27F.mono rfl)) (zrg _).1 (zrg _).2)
                      by_cases w34 : e.toInt = 3
                      · refine zs_tswI (pc := 65) t188_65 ((rfl : e.toInt = e.toInt).trans w34) (by decide) rfl (pc2 := 120) rfl ?_
                        refine zs_aload_n (pc := 120) t188_120 rfl ?_
                        refine zs_get (pc := 121) t188_121 (by decide) (zk1 (w27s.k fk_zMc_6)) (w27s.p rfl fv_zMc_6_8) ?_
                        have w35 := ib332_3 w27I
                        refine zs_get (pc := 124) t188_124 (by decide) (zk1 (w27s.k fk_zMc_332)) (zfvi rfl rfl) ?_
                        exact zs_iret (pc := 127) t188_127 mr188 rfl (hQ _ _ w27s w27I (((zFr.refl).trans (w9F.mono rfl)).trans (w27F.mono rfl)) (zrg _).1 (zrg _).2)
                      refine zs_tswD (pc := 65) t188_65 rfl (by omega) (pc2 := 128) rfl ?_
                      refine zs_iconst (pc := 128) t188_128 (v := -1) (by decide) ?_
                      exact zs_iret (pc := 129) t188_129 mr188 (by decide) (hQ _ _ w27s w27I (((zFr.refl).trans (w9F.mono rfl)).trans (w27F.mono rfl)) (zrg _).1 (zrg _).2)
                  · refine zs_icmp_geF (pc := 2) t190_2 rfl li1 (by omega) ?_
                    refine zs_iconst (pc := 5) t190_5 (v := 1) (by decide) ?_
                    refine zs_goto (pc := 6) t190_6 ?_
                    refine zs_iret (pc := 20) t190_20 mr190 (by decide) ?_
                    show zGo X l 7 0 0 188 38 [(0, .ref 6), (1, .int a), (2, .int b), (3, .int c), (4, .int d), (5, .int e)] [.int (1 : Int32)] w9M _
                    refine zs_istore (pc := 38) t188_38 (ls' := [(6, .int (1 : Int32)), (0, .ref 6), (1, .int a), (2, .int b), (3, .int c), (4, .int d), (5, .int e)]) (zml mf188 (by decide)) rfl ?_
                    refine zs_aload_n (pc := 40) t188_40 rfl ?_
                    refine zs_get (pc := 41) t188_41 (by decide) (zk1 (w9s.k fk_zMc_6)) (w9s.p rfl fv_zMc_6_8) ?_
                    refine zs_iload_n (pc := 44) t188_44 rfl ?_
                    refine zs_iload_n (pc := 45) t188_45 rfl ?_
                    refine zs_iload_n (pc := 46) t188_46 rfl ?_
                    refine zs_iload (pc := 47) t188_47 rfl ?_
                    refine zs_iload (pc := 49) t188_49 rfl ?_
                    refine zs_aload_n (pc := 51) t188_51 rfl ?_
                    refine zs_get (pc := 52) t188_52 (by decide) (zk1 (w9s.k fk_zMc_6)) (w9s.p rfl fv_zMc_6_0) ?_
                    refine zs_bipush (pc := 55) t188_55 (v := 8) (by decide) ?_
                    refine zs_invV (pc := 57) (k := 7) (as' := [.int (8 : Int32)]) (st := [.int (1 : Int32), .int d, .int c, .int b, .int a, .ref 332]) t188_57 mf96 rfl rfl (Or.inl ⟨by decide, (zk1 (w9s.k fk_zMc_7))⟩) ⟨by decide, by decide, Nat.le_of_ble_eq_true rfl, Nat.le_of_ble_eq_true rfl⟩ (zs_in (by decide) mf96 (Nat.le_of_ble_eq_true rfl) ?_) (fun _ _ q => q)
                    show zGo X l 0 0 0 96 0 [(0, .ref 7), (1, .int (8 : Int32))] [] w9M _
                    refine zs_iload_n (pc := 0) t96_0 rfl ?_
                    refine zs_if_ltF (pc := 1) t96_1 li8 (by decide) ?_
                    refine zs_iload_n (pc := 4) t96_4 rfl ?_
                    refine zs_bipush (pc := 5) t96_5 (v := 9) (by decide) ?_
                    refine zs_icmp_geF (pc := 7) t96_7 li8 li9 (by decide) ?_
                    refine zs_aload_n (pc := 10) t96_10 rfl ?_
                    refine zs_get (pc := 11) t96_11 (by decide) (zk1 (w9s.k fk_zMc_7)) (w9s.p rfl fv_zMc_7_12) ?_
                    refine zs_iload_n (pc := 14) t96_14 rfl ?_
                    have w36 := ib17 hI 8
                    refine zs_iald (pc := 15) t96_15 (j := 8) (by decide) (zk1 (w9s.k fk_zMc_17)) li8 (zk2 (w9s.k fk_zMc_17) (by decide)) ((w9F 17 8 rfl).trans rfl) ?_
                    refine zs_goto (pc := 16) t96_16 ?_
                    refine zs_iret (pc := 20) t96_20 mr96 rfl ?_
                    show zGo X l 7 0 0 188 60 [(6, .int (1 : Int32)), (0, .ref 6), (1, .int a), (2, .int b), (3, .int c), (4, .int d), (5, .int e)] [.int (zI M 17 8), .int (1 : Int32), .int d, .int c, .int b, .int a, .ref 332] w9M _
                    refine zs_invV (pc := 60) (k := 332) (as' := [.int a, .int b, .int c, .int d, .int (1 : Int32), .int (zI M 17 8)]) (st := []) t188_60 mf191 rfl rfl (Or.inl ⟨by decide, (zk1 (w9s.k fk_zMc_332))⟩) ⟨by decide, by decide, Nat.le_of_ble_eq_true rfl, Nat.le_of_ble_eq_true rfl⟩ (C191_332 w9s w9I ⟨by omega, by omega⟩ ?_) (fun _ _ q => q)
                    intro w37M w37s w37I w37F
                    show zGo X l 7 0 0 188 63 [(6, .int (1 : Int32)), (0, .ref 6), (1, .int a), (2, .int b), (3, .int c), (4, .int d), (5, .int e)] [] w37M _
                    refine zs_iload (pc := 63) t188_63 rfl ?_
                    by_cases w38 : e.toInt = 0
                    · refine zs_tswI (pc := 65) t188_65 ((rfl : e.toInt = e.toInt).trans w38) (by decide) rfl (pc2 := 96) rfl ?_
                      refine zs_aload_n (pc := 96) t188_96 rfl ?_
                      refine zs_get (pc := 97) t188_97 (by decide) (zk1 (w37s.k fk_zMc_6)) (w37s.p rfl fv_zMc_6_8) ?_
                      have w39 := ib332_0 w37I
                      refine zs_get (pc := 100) t188_100 (by decide) (zk1 (w37s.k fk_zMc_332)) (zfvi rfl rfl) ?_
                      exact zs_iret (pc := 103) t188_103 mr188 rfl (hQ _ _ w37s w37I (((zFr.refl).trans (w9F.mono rfl)).trans (w37F.mono rfl)) (zrg _).1 (zrg _).2)
                    by_cases w40 : e.toInt = 1
                    · refine zs_tswI (pc := 65) t188_65 ((rfl : e.toInt = e.toInt).trans w40) (by decide) rfl (pc2 := 104) rfl ?_
                      refine zs_aload_n (pc := 104) t188_104 rfl ?_
                      refine zs_get (pc := 105) t188_105 (by decide) (zk1 (w37s.k fk_zMc_6)) (w37s.p rfl fv_zMc_6_8) ?_
                      have w41 := ib332_1 w37I
                      refine zs_get (pc := 108) t188_108 (by decide) (zk1 (w37s.k fk_zMc_332)) (zfvi rfl rfl) ?_
                      exact zs_iret (pc := 111) t188_111 mr188 rfl (hQ _ _ w37s w37I (((zFr.refl).trans (w9F.mono rfl)).trans (w37F.mono rfl)) (zrg _).1 (zrg _).2)
                    by_cases w42 : e.toInt = 2
                    · refine zs_tswI (pc := 65) t188_65 ((rfl : e.toInt = e.toInt).trans w42) (by decide) rfl (pc2 := 112) rfl ?_
                      refine zs_aload_n (pc := 112) t188_112 rfl ?_
                      refine zs_get (pc := 113) t188_113 (by decide) (zk1 (w37s.k fk_zMc_6)) (w37s.p rfl fv_zMc_6_8) ?_
                      have w43 := ib332_2 w37I
                      refine zs_get (pc := 116) t188_116 (by decide) (zk1 (w37s.k fk_zMc_332)) (zfvi rfl rfl) ?_
                      exact zs_iret (pc := 119) t188_119 mr188 rfl (hQ _ _ w37s w37I (((zFr.refl).trans (w9F.mono rfl)).trans (w37F.mono rfl)) (zrg _).1 (zrg _).2)
                    by_cases w44 : e.toInt = 3
                    · refine zs_tswI (pc := 65) t188_65 ((rfl : e.toInt = e.toInt).trans w44) (by decide) rfl (pc2 := 120) rfl ?_
                      refine zs_aload_n (pc := 120) t188_120 rfl ?_
                      refine zs_get (pc := 121) t188_121 (by decide) (zk1 (w37s.k fk_zMc_6)) (w37s.p rfl fv_zMc_6_8) ?_
                      have w45 := ib332_3 w37I
                      refine zs_get (pc := 124) t188_124 (by decide) (zk1 (w37s.k fk_zMc_332)) (zfvi rfl rfl) ?_
                      exact zs_iret (pc := 127) t188_127 mr188 rfl (hQ _ _ w37s w37I (((zFr.refl).trans (w9F.mono rfl)).trans (w37F.mono rfl)) (zrg _).1 (zrg _).2)
                    refine zs_tswD (pc := 65) t188_65 rfl (by omega) (pc2 := 128) rfl ?_
                    refine zs_iconst (pc := 128) t188_128 (v := -1) (by decide) ?_
                    exact zs_iret (pc := 129) t188_129 mr188 (by decide) (hQ _ _ w37s w37I (((zFr.refl).trans (w9F.mono rfl)).trans (w37F.mono rfl)) (zrg _).1 (zrg _).2)
theorem T193_6 {X : zX} {l : Launch} {M : zM} {Q : Option Value → zM → Prop} {a b c : Int32} (hs : zSk zMc M) (hI : zIv cLo cHi M) (hQ : ∀ (M' : zM) (v : Int32), zSk zMc M' → zIv cLo cHi M' → zFr [(161, 334, none)] M M' → (-2147483648) ≤ v.toInt → v.toInt ≤ 2147483647 → Q (some (.int v)) M') : zCall X l 7 0 0 193 [.ref 6, .int a, .int b, .int c] M Q := by
  have ga := zrg a
  have gb := zrg b
  have gc := zrg c
  refine zs_in (by decide) mf193 (Nat.le_of_ble_eq_true rfl) ?_
  show zGo X l 7 0 0 193 0 [(0, .ref 6), (1, .int a), (2, .int b), (3, .int c)] [] M _
  refine zs_iload_n (pc := 0) t193_0 rfl ?_
  refine zs_iload_n (pc := 1) t193_1 rfl ?_
  refine zs_iload_n (pc := 2) t193_2 rfl ?_
  refine zs_invS (pc := 3) (as := [.int a, .int b, .int c]) (st := []) t193_3 (by decide) mf189 rfl rfl ⟨by decide, by decide, Nat.le_of_ble_eq_true rfl, Nat.le_of_ble_eq_true rfl⟩ (zs_in (by decide) mf189 (Nat.le_of_ble_eq_true rfl) ?_) (fun _ _ q => q)
  show zGo X l 1 0 0 189 0 [(0, .int a), (1, .int b), (2, .int c)] [] M _
  refine zs_iload_n (pc := 0) t189_0 rfl ?_
  refine zs_iconst (pc := 1) t189_1 (v := 1) (by decide) ?_
  refine zs_sipush (pc := 2) t189_2 (v := 200) (by decide) ?_
  refine zs_invS (pc := 5) (as := [.int a, .int (1 : Int32), .int (200 : Int32)]) (st := []) t189_5 (by decide) mf39 rfl rfl ⟨by decide, by decide, Nat.le_of_ble_eq_true rfl, Nat.le_of_ble_eq_true rfl⟩ (zs_in (by decide) mf39 (Nat.le_of_ble_eq_true rfl) ?_) (fun _ _ q => q)
  show zGo X l 0 0 0 39 0 [(0, .int a), (1, .int (1 : Int32)), (2, .int (200 : Int32))] [] M _
  refine zs_iload_n (pc := 0) t39_0 rfl ?_
  refine zs_iload_n (pc := 1) t39_1 rfl ?_
  by_cases w1 : a.toInt < 1
  · refine zs_icmp_ltT (pc := 2) t39_2 rfl li1 (by omega) ?_
    refine zs_iconst (pc := 14) t39_14 (v := 0) (by decide) ?_
    refine zs_iret (pc := 15) t39_15 mr39 (by decide) ?_
    show zGo X l 1 0 0 189 8 [(0, .int a), (1, .int b), (2, .int c)] [.int (0 : Int32)] M _
    refine zs_if_eqT (pc := 8) t189_8 li0 (by decide) ?_
    refine zs_iconst (pc := 36) t189_36 (v := 0) (by decide) ?_
    refine zs_iret (pc := 37) t189_37 mr189 (by decide) ?_
    show zGo X l 7 0 0 193 6 [(0, .ref 6), (1, .int a), (2, .int b), (3, .int c)] [.int (0 : Int32)] M _
    refine zs_if_neF (pc := 6) t193_6 li0 (by decide) ?_
    refine zs_iconst (pc := 9) t193_9 (v := -1) (by decide) ?_
    exact zs_iret (pc := 10) t193_10 mr193 (by decide) (hQ _ _ hs hI (zFr.refl) (zrg _).1 (zrg _).2)
  · refine zs_icmp_ltF (pc := 2) t39_2 rfl li1 (by omega) ?_
    refine zs_iload_n (pc := 5) t39_5 rfl ?_
    refine zs_iload_n (pc := 6) t39_6 rfl ?_
    by_cases w2 : 200 < a.toInt
    · refine zs_icmp_gtT (pc := 7) t39_7 rfl li200 (by omega) ?_
      refine zs_iconst (pc := 14) t39_14 (v := 0) (by decide) ?_
      refine zs_iret (pc := 15) t39_15 mr39 (by decide) ?_
      show zGo X l 1 0 0 189 8 [(0, .int a), (1, .int b), (2, .int c)] [.int (0 : Int32)] M _
      refine zs_if_eqT (pc := 8) t189_8 li0 (by decide) ?_
      refine zs_iconst (pc := 36) t189_36 (v := 0) (by decide) ?_
      refine zs_iret (pc := 37) t189_37 mr189 (by decide) ?_
      show zGo X l 7 0 0 193 6 [(0, .ref 6), (1, .int a), (2, .int b), (3, .int c)] [.int (0 : Int32)] M _
      refine zs_if_neF (pc := 6) t193_6 li0 (by decide) ?_
      refine zs_iconst (pc := 9) t193_9 (v := -1) (by decide) ?_
      exact zs_iret (pc := 10) t193_10 mr193 (by decide) (hQ _ _ hs hI (zFr.refl) (zrg _).1 (zrg _).2)
    · refine zs_icmp_gtF (pc := 7) t39_7 rfl li200 (by omega) ?_
      refine zs_iconst (pc := 10) t39_10 (v := 1) (by decide) ?_
      refine zs_goto (pc := 11) t39_11 ?_
      refine zs_iret (pc := 15) t39_15 mr39 (by decide) ?_
      show zGo X l 1 0 0 189 8 [(0, .int a), (1, .int b), (2, .int c)] [.int (1 : Int32)] M _
      refine zs_if_eqF (pc := 8) t189_8 li1 (by decide) ?_
      refine zs_iload_n (pc := 11) t189_11 rfl ?_
      refine zs_iconst (pc := 12) t189_12 (v := 1) (by decide) ?_
      refine zs_sipush (pc := 13) t189_13 (v := 999) (by decide) ?_
      refine zs_invS (pc := 16) (as := [.int b, .int (1 : Int32), .int (999 : Int32)]) (st := []) t189_16 (by decide) mf39 rfl rfl ⟨by decide, by decide, Nat.le_of_ble_eq_true rfl, Nat.le_of_ble_eq_true rfl⟩ (zs_in (by decide) mf39 (Nat.le_of_ble_eq_true rfl) ?_) (fun _ _ q => q)
      show zGo X l 0 0 0 39 0 [(0, .int b), (1, .int (1 : Int32)), (2, .int (999 : Int32))] [] M _
      refine zs_iload_n (pc := 0) t39_0 rfl ?_
      refine zs_iload_n (pc := 1) t39_1 rfl ?_
      by_cases w3 : b.toInt < 1
      · refine zs_icmp_ltT (pc := 2) t39_2 rfl li1 (by omega) ?_
        refine zs_iconst (pc := 14) t39_14 (v := 0) (by decide) ?_
        refine zs_iret (pc := 15) t39_15 mr39 (by decide) ?_
        show zGo X l 1 0 0 189 19 [(0, .int a), (1, .int b), (2, .int c)] [.int (0 : Int32)] M _
        refine zs_if_eqT (pc := 19) t189_19 li0 (by decide) ?_
        refine zs_iconst (pc := 36) t189_36 (v := 0) (by decide) ?_
        refine zs_iret (pc := 37) t189_37 mr189 (by decide) ?_
        show zGo X l 7 0 0 193 6 [(0, .ref 6), (1, .int a), (2, .int b), (3, .int c)] [.int (0 : Int32)] M _
        refine zs_if_neF (pc := 6) t193_6 li0 (by decide) ?_
        refine zs_iconst (pc := 9) t193_9 (v := -1) (by decide) ?_
        exact zs_iret (pc := 10) t193_10 mr193 (by decide) (hQ _ _ hs hI (zFr.refl) (zrg _).1 (zrg _).2)
      · refine zs_icmp_ltF (pc := 2) t39_2 rfl li1 (by omega) ?_
        refine zs_iload_n (pc := 5) t39_5 rfl ?_
        refine zs_iload_n (pc := 6) t39_6 rfl ?_
        by_cases w4 : 999 < b.toInt
        · refine zs_icmp_gtT (pc := 7) t39_7 rfl li999 (by omega) ?_
          refine zs_iconst (pc := 14) t39_14 (v := 0) (by decide) ?_
          refine zs_iret (pc := 15) t39_15 mr39 (by decide) ?_
          show zGo X l 1 0 0 189 19 [(0, .int a), (1, .int b), (2, .int c)] [.int (0 : Int32)] M _
          refine zs_if_eqT (pc := 19) t189_19 li0 (by decide) ?_
          refine zs_iconst (pc := 36) t189_36 (v := 0) (by decide) ?_
          refine zs_iret (pc := 37) t189_37 mr189 (by decide) ?_
          show zGo X l 7 0 0 193 6 [(0, .ref 6), (1, .int a), (2, .int b), (3, .int c)] [.int (0 : Int32)] M _
          refine zs_if_neF (pc := 6) t193_6 li0 (by decide) ?_
          refine zs_iconst (pc := 9) t193_9 (v := -1) (by decide) ?_
          exact zs_iret (pc := 10) t193_10 mr193 (by decide) (hQ _ _ hs hI (zFr.refl) (zrg _).1 (zrg _).2)
        · refine zs_icmp_gtF (pc := 7) t39_7 rfl li999 (by omega) ?_
          refine zs_iconst (pc := 10) t39_10 (v := 1) (by decide) ?_
          refine zs_goto (pc := 11) t39_11 ?_
          refine zs_iret (pc := 15) t39_15 mr39 (by decide) ?_
          show zGo X l 1 0 0 189 19 [(0, .int a), (1, .int b), (2, .int c)] [.int (1 : Int32)] M _
          refine zs_if_eqF (pc := 19) t189_19 li1 (by decide) ?_
          refine zs_iload_n (pc := 22) t189_22 rfl ?_
          refine zs_iconst (pc := 23) t189_23 (v := 0) (by decide) ?_
          refine zs_bipush (pc := 24) t189_24 (v := 50) (by decide) ?_
          refine zs_invS (pc := 26) (as := [.int c, .int (0 : Int32), .int (50 : Int32)]) (st := []) t189_26 (by decide) mf39 rfl rfl ⟨by decide, by decide, Nat.le_of_ble_eq_true rfl, Nat.le_of_ble_eq_true rfl⟩ (zs_in (by decide) mf39 (Nat.le_of_ble_eq_true rfl) ?_) (fun _ _ q => q)
          show zGo X l 0 0 0 39 0 [(0, .int c), (1, .int (0 : Int32)), (2, .int (50 : Int32))] [] M _
          refine zs_iload_n (pc := 0) t39_0 rfl ?_
          refine zs_iload_n (pc := 1) t39_1 rfl ?_
          by_cases w5 : c.toInt < 0
          · refine zs_icmp_ltT (pc := 2) t39_2 rfl li0 (by omega) ?_
            refine zs_iconst (pc := 14) t39_14 (v := 0) (by decide) ?_
            refine zs_iret (pc := 15) t39_15 mr39 (by decide) ?_
            show zGo X l 1 0 0 189 29 [(0, .int a), (1, .int b), (2, .int c)] [.int (0 : Int32)] M _
            refine zs_if_eqT (pc := 29) t189_29 li0 (by decide) ?_
            refine zs_iconst (pc := 36) t189_36 (v := 0) (by decide) ?_
            refine zs_iret (pc := 37) t189_37 mr189 (by decide) ?_
            show zGo X l 7 0 0 193 6 [(0, .ref 6), (1, .int a), (2, .int b), (3, .int c)] [.int (0 : Int32)] M _
            refine zs_if_neF (pc := 6) t193_6 li0 (by decide) ?_
            refine zs_iconst (pc := 9) t193_9 (v := -1) (by decide) ?_
            exact zs_iret (pc := 10) t193_10 mr193 (by decide) (hQ _ _ hs hI (zFr.refl) (zrg _).1 (zrg _).2)
          · refine zs_icmp_ltF (pc := 2) t39_2 rfl li0 (by omega) ?_
            refine zs_iload_n (pc := 5) t39_5 rfl ?_
            refine zs_iload_n (pc := 6) t39_6 rfl ?_
            by_cases w6 : 50 < c.toInt
            · refine zs_icmp_gtT (pc := 7) t39_7 rfl li50 (by omega) ?_
              refine zs_iconst (pc := 14) t39_14 (v := 0) (by decide) ?_
              refine zs_iret (pc := 15) t39_15 mr39 (by decide) ?_
              show zGo X l 1 0 0 189 29 [(0, .int a), (1, .int b), (2, .int c)] [.int (0 : Int32)] M _
              refine zs_if_eqT (pc := 29) t189_29 li0 (by decide) ?_
              refine zs_iconst (pc := 36) t189_36 (v := 0) (by decide) ?_
              refine zs_iret (pc := 37) t189_37 mr189 (by decide) ?_
              show zGo X l 7 0 0 193 6 [(0, .ref 6), (1, .int a), (2, .int b), (3, .int c)] [.int (0 : Int32)] M _
              refine zs_if_neF (pc := 6) t193_6 li0 (by decide) ?_
              refine zs_iconst (pc := 9) t193_9 (v := -1) (by decide) ?_
              exact zs_iret (pc := 10) t193_10 mr193 (by decide) (hQ _ _ hs hI (zFr.refl) (zrg _).1 (zrg _).2)
            · refine zs_icmp_gtF (pc := 7) t39_7 rfl li50 (by omega) ?_
              refine zs_iconst (pc := 10) t39_10 (v := 1) (by decide) ?_
              refine zs_goto (pc := 11) t39_11 ?_
              refine zs_iret (pc := 15) t39_15 mr39 (by decide) ?_
              show zGo X l 1 0 0 189 29 [(0, .int a), (1, .int b), (2, .int c)] [.int (1 : Int32)] M _
              refine zs_if_eqF (pc := 29) t189_29 li1 (by decide) ?_
              refine zs_iconst (pc := 32) t189_32 (v := 1) (by decide) ?_
              refine zs_goto (pc := 33) t189_33 ?_
              refine zs_iret (pc := 37) t189_37 mr189 (by decide) ?_
              show zGo X l 7 0 0 193 6 [(0, .ref 6), (1, .int a), (2, .int b), (3, .int c)] [.int (1 : Int32)] M _
              refine zs_if_neT (pc := 6) t193_6 li1 (by decide) ?_
              refine zs_aload_n (pc := 11) t193_11 rfl ?_
              refine zs_invV (pc := 12) (k := 6) (as' := []) (st := []) t193_12 mf187 rfl rfl (Or.inl ⟨by decide, (zk1 (hs.k fk_zMc_6))⟩) ⟨by decide, by decide, Nat.le_of_ble_eq_true rfl, Nat.le_of_ble_eq_true rfl⟩ (T187_6 hs hI ?_) (fun _ _ q => q)
              intro w7M w7v w7s w7I w7F w7a w7b
              show zGo X l 7 0 0 193 15 [(0, .ref 6), (1, .int a), (2, .int b), (3, .int c)] [.int w7v] w7M _
              refine zs_aload_n (pc := 15) t193_15 rfl ?_
              refine zs_get (pc := 16) t193_16 (by decide) (zk1 (w7s.k fk_zMc_6)) (w7s.p rfl fv_zMc_6_0) ?_
              refine zs_bipush (pc := 19) t193_19 (v := 7) (by decide) ?_
              refine zs_invV (pc := 21) (k := 7) (as' := [.int (7 : Int32)]) (st := [.int w7v]) t193_21 mf96 rfl rfl (Or.inl ⟨by decide, (zk1 (w7s.k fk_zMc_7))⟩) ⟨by decide, by decide, Nat.le_of_ble_eq_true rfl, Nat.le_of_ble_eq_true rfl⟩ (zs_in (by decide) mf96 (Nat.le_of_ble_eq_true rfl) ?_) (fun _ _ q => q)
              show zGo X l 0 0 0 96 0 [(0, .ref 7), (1, .int (7 : Int32))] [] w7M _
              refine zs_iload_n (pc := 0) t96_0 rfl ?_
              refine zs_if_ltF (pc := 1) t96_1 li7 (by decide) ?_
              refine zs_iload_n (pc := 4) t96_4 rfl ?_
              refine zs_bipush (pc := 5) t96_5 (v := 9) (by decide) ?_
              refine zs_icmp_geF (pc := 7) t96_7 li7 li9 (by decide) ?_
              refine zs_aload_n (pc := 10) t96_10 rfl ?_
              refine zs_get (pc := 11) t96_11 (by decide) (zk1 (w7s.k fk_zMc_7)) (w7s.p rfl fv_zMc_7_12) ?_
              refine zs_iload_n (pc := 14) t96_14 rfl ?_
              have w8 := ib17 hI 7
              refine zs_iald (pc := 15) t96_15 (j := 7) (by decide) (zk1 (w7s.k fk_zMc_17)) li7 (zk2 (w7s.k fk_zMc_17) (by decide)) ((w7F 17 7 rfl).trans rfl) ?_
              refine zs_goto (pc := 16) t96_16 ?_
              refine zs_iret (pc := 20) t96_20 mr96 rfl ?_
              show zGo X l 7 0 0 193 24 [(0, .ref 6), (1, .int a), (2, .int b), (3, .int c)] [.int (zI M 17 7), .int w7v] w7M _
              refine zs_invS (pc := 24) (as := [.int w7v, .int (zI M 17 7)]) (st := []) t193_24 (by decide) mf190 rfl rfl ⟨by decide, by decide, Nat.le_of_ble_eq_true rfl, Nat.le_of_ble_eq_true rfl⟩ (zs_in (by decide) mf190 (Nat.le_of_ble_eq_true rfl) ?_) (fun _ _ q => q)
              show zGo X l 1 0 0 190 0 [(0, .int w7v), (1, .int (zI M 17 7))] [] w7M _
              refine zs_iload_n (pc := 0) t190_0 rfl ?_
              refine zs_iconst (pc := 1) t190_1 (v := 1) (by decide) ?_
              by_cases w9 : 1 ≤ (zI M 17 7).toInt
              · refine zs_icmp_geT (pc := 2) t190_2 rfl li1 (by omega) ?_
                refine zs_iconst (pc := 9) t190_9 (v := 1) (by decide) ?_
                refine zs_iload_n (pc := 10) t190_10 rfl ?_
                refine zs_iload_n (pc := 11) t190_11 rfl ?_
                obtain ⟨w10v, w10⟩ : ∃ v, v = w7v + (zI M 17 7) := ⟨_, rfl⟩
                have w10g := zrg w10v
                refine zs_iadd (pc := 12) t190_12 (c := w10v) w10.symm ?_
                refine zs_iconst (pc := 13) t190_13 (v := 1) (by decide) ?_
                obtain ⟨w11v, w11⟩ : ∃ v, v = w10v - (1 : Int32) := ⟨_, rfl⟩
                have w11g := zrg w11v
                refine zs_isub (pc := 14) t190_14 (c := w11v) w11.symm ?_
                refine zs_iload_n (pc := 15) t190_15 rfl ?_
                obtain ⟨w12v, w12⟩ : ∃ v, w11v / (zI M 17 7) = v := ⟨_, rfl⟩
                have w12g := zrg w12v
                refine zs_idiv (pc := 16) t190_16 (znz rfl (by omega)) (c := w12v) w12 ?_
                refine zs_invS (pc := 17) (as := [.int (1 : Int32), .int w12v]) (st := []) t190_17 (by decide) mf21 rfl rfl ⟨by decide, by decide, Nat.le_of_ble_eq_true rfl, Nat.le_of_ble_eq_true rfl⟩ (zs_in (by decide) mf21 (Nat.le_of_ble_eq_true rfl) ?_) (fun _ _ q => q)
                show zGo X l 0 0 0 21 0 [(0, .int (1 : Int32)), (1, .int w12v)] [] w7M _
                refine zs_iload_n (pc := 0) t21_0 rfl ?_
                refine zs_iload_n (pc := 1) t21_1 rfl ?_
                by_cases w13 : 1 < w12v.toInt
                · refine zs_icmp_ltT (pc := 2) t21_2 li1 rfl (by omega) ?_
                  refine zs_iload_n (pc := 9) t21_9 rfl ?_
                  refine zs_iret (pc := 10) t21_10 mr21 rfl ?_
                  show zGo X l 1 0 0 190 20 [(0, .int w7v), (1, .int (zI M 17 7))] [.int w12v] w7M _
                  refine zs_iret (pc := 20) t190_20 mr190 rfl ?_
                  show zGo X l 7 0 0 193 27 [(0, .ref 6), (1, .int a), (2, .int b), (3, .int c)] [.int w12v] w7M _
                  refine zs_istore (pc := 27) t193_27 (ls' := [(4, .int w12v), (0, .ref 6), (1, .int a), (2, .int b), (3, .int c)]) (zml mf193 (by decide)) rfl ?_
                  refine zs_iconst (pc := 29) t193_29 (v := 1) (by decide) ?_
                  refine zs_istore (pc := 30) t193_30 (ls' := [(5, .int (1 : Int32)), (4, .int w12v), (0, .ref 6), (1, .int a), (2, .int b), (3, .int c)]) (zml mf193 (by decide)) rfl ?_
                  have w14L : ∀ (m : Nat) (w14x5 : Int32) (w14M : zM), (1 ≤ w14x5.toInt ∧ w14x5.toInt ≤ 9) → zSk zMc w14M → zIv cLo cHi w14M → zFr [(161, 334, none)] w7M w14M → 9 - w14x5.toInt ≤ (m : Int) → zGo X l 7 0 0 193 32 [(0, .ref 6), (1, .int a), (2, .int b), (3, .int c), (4, .int w12v), (5, .int w14x5)] [] w14M Q := by
                    intro m
                    induction m using Nat.strongRecOn with
                    | ind w14m w14ih =>
                      intro w14x5 w14M w14b5 w14s w14I w14F w14q
                      refine zs_iload (pc := 32) t193_32 rfl ?_
                      refine zs_bipush (pc := 34) t193_34 (v := 8) (by decide) ?_
                      by_cases w15 : 8 < w14x5.toInt
                      · refine zs_icmp_gtT (pc := 36) t193_36 rfl li8 (by omega) ?_
                        refine zs_bipush (pc := 91) t193_91 (v := -2) (by decide) ?_
                        exact zs_iret (pc := 93) t193_93 mr193 (by decide) (hQ _ _ w14s w14I (((zFr.refl).trans (w7F.mono rfl)).trans (w14F.mono rfl)) (zrg _).1 (zrg _).2)
                      · refine zs_icmp_gtF (pc := 36) t193_36 rfl li8 (by omega) ?_
                        refine zs_aload_n (pc := 39) t193_39 rfl ?_
                        refine zs_get (pc := 40) t193_40 (by decide) (zk1 (w14s.k fk_zMc_6)) (w14s.p rfl fv_zMc_6_8) ?_
                        refine zs_iload_n (pc := 43) t193_43 rfl ?_
                        refine zs_iload_n (pc := 44) t193_44 rfl ?_
                        refine zs_iload (pc := 45) t193_45 rfl ?_
                        refine zs_iload_n (pc := 47) t193_47 rfl ?_
                        refine zs_iload (pc := 48) t193_48 rfl ?_
                        refine zs_aload_n (pc := 50) t193_50 rfl ?_
                        refine zs_get (pc := 51) t193_51 (by decide) (zk1 (w14s.k fk_zMc_6)) (w14s.p rfl fv_zMc_6_0) ?_
                        refine zs_bipush (pc := 54) t193_54 (v := 8) (by decide) ?_
                        refine zs_invV (pc := 56) (k := 7) (as' := [.int (8 : Int32)]) (st := [.int w12v, .int c, .int w14x5, .int b, .int a, .ref 332]) t193_56 mf96 rfl rfl (Or.inl ⟨by decide, (zk1 (w14s.k fk_zMc_7))⟩) ⟨by decide, by decide, Nat.le_of_ble_eq_true rfl, Nat.le_of_ble_eq_true rfl⟩ (zs_in (by decide) mf96 (Nat.le_of_ble_eq_true rfl) ?_) (fun _ _ q => q)
                        show zGo X l 0 0 0 96 0 [(0, .ref 7), (1, .int (8 : Int32))] [] w14M _
                        refine zs_iload_n (pc := 0) t96_0 rfl ?_
                        refine zs_if_ltF (pc := 1) t96_1 li8 (by decide) ?_
                        refine zs_iload_n (pc := 4) t96_4 rfl ?_
                        refine zs_bipush (pc := 5) t96_5 (v := 9) (by decide) ?_
                        refine zs_icmp_geF (pc := 7) t96_7 li8 li9 (by decide) ?_
                        refine zs_aload_n (pc := 10) t96_10 rfl ?_
                        refine zs_get (pc := 11) t96_11 (by decide) (zk1 (w14s.k fk_zMc_7)) (w14s.p rfl fv_zMc_7_12) ?_
                        refine zs_iload_n (pc := 14) t96_14 rfl ?_
                        have w16 := ib17 hI 8
                        refine zs_iald (pc := 15) t96_15 (j := 8) (by decide) (zk1 (w14s.k fk_zMc_17)) li8 (zk2 (w14s.k fk_zMc_17) (by decide)) ((w14F 17 8 rfl).trans ((w7F 17 8 rfl).trans rfl)) ?_
                        refine zs_goto (pc := 16) t96_16 ?_
                        refine zs_iret (pc := 20) t96_20 mr96 rfl ?_
                        show zGo X l 7 0 0 193 59 [(0, .ref 6), (1, .int a), (2, .int b), (3, .int c), (4, .int w12v), (5, .int w14x5)] [.int (zI M 17 8), .int w12v, .int c, .int w14x5, .int b, .int a, .ref 332] w14M _
                        refine zs_invV (pc := 59) (k := 332) (as' := [.int a, .int b, .int w14x5, .int c, .int w12v, .int (zI M 17 8)]) (st := []) t193_59 mf191 rfl rfl (Or.inl ⟨by decide, (zk1 (w14s.k fk_zMc_332))⟩) ⟨by decide, by decide, Nat.le_of_ble_eq_true rfl, Nat.le_of_ble_eq_true rfl⟩ (C191_332 w14s w14I ⟨by omega, by omega⟩ ?_) (fun _ _ q => q)
                        intro w17M w17s w17I w17F
                        show zGo X l 7 0 0 193 62 [(0, .ref 6), (1, .int a), (2, .int b), (3, .int c), (4, .int w12v), (5, .int w14x5)] [] w17M _
                        refine zs_aload_n (pc := 62) t193_62 rfl ?_
                        refine zs_get (pc := 63) t193_63 (by decide) (zk1 (w17s.k fk_zMc_6)) (w17s.p rfl fv_zMc_6_8) ?_
                        have w18 := ib332_0 w17I
                        refine zs_get (pc := 66) t193_66 (by decide) (zk1 (w17s.k fk_zMc_332)) (zfvi rfl rfl) ?_
                        by_cases w19 : (zI w17M 332 0).toInt ≠ 0
                        · refine zs_if_neT (pc := 69) t193_69 rfl (by omega) ?_
                          obtain ⟨w20v, w20e, w20⟩ := ziadd (a := w14x5) (b := Int32.ofInt 1) rfl (show (Int32.ofInt 1).toInt = 1 by decide) (by omega) (by omega)
                          refine zs_iinc (pc := 85) t193_85 (ls' := [(5, .int w20v), (0, .ref 6), (1, .int a), (2, .int b), (3, .int c), (4, .int w12v)]) (zml mf193 (by decide)) rfl (c := w20v) w20e rfl ?_
                          refine zs_goto (pc := 88) t193_88 ?_
                          refine zGo.locals (ls' := [(0, .ref 6), (1, .int a), (2, .int b), (3, .int c), (4, .int w12v), (5, .int w20v)]) (by simp) ?_
                          exact w14ih (w14m - 1) (by omega) w20v w17M ⟨by omega, by omega⟩ w17s w17I (((zFr.refl).trans (w14F.mono rfl)).trans (w17F.mono rfl)) (by omega)
                        · refine zs_if_neF (pc := 69) t193_69 rfl (by omega) ?_
                          refine zs_aload_n (pc := 72) t193_72 rfl ?_
                          refine zs_get (pc := 73) t193_73 (by decide) (zk1 (w17s.k fk_zMc_6)) (w17s.p rfl fv_zMc_6_8) ?_
                          have w21 := ib332_1 w17I
                          refine zs_get (pc := 76) t193_76 (by decide) (zk1 (w17s.k fk_zMc_332)) (zfvi rfl rfl) ?_
                          by_cases w22 : (zI w17M 332 1).toInt ≠ 0
                          · refine zs_if_neT (pc := 79) t193_79 rfl (by omega) ?_
                            obtain ⟨w23v, w23e, w23⟩ := ziadd (a := w14x5) (b := Int32.ofInt 1) rfl (show (Int32.ofInt 1).toInt = 1 by decide) (by omega) (by omega)
                            refine zs_iinc (pc := 85) t193_85 (ls' := [(5, .int w23v), (0, .ref 6), (1, .int a), (2, .int b), (3, .int c), (4, .int w12v)]) (zml mf193 (by decide)) rfl (c := w23v) w23e rfl ?_
                            refine zs_goto (pc := 88) t193_88 ?_
                            refine zGo.locals (ls' := [(0, .ref 6), (1, .int a), (2, .int b), (3, .int c), (4, .int w12v), (5, .int w23v)]) (by simp) ?_
                            exact w14ih (w14m - 1) (by omega) w23v w17M ⟨by omega, by omega⟩ w17s w17I (((zFr.refl).trans (w14F.mono rfl)).trans (w17F.mono rfl)) (by omega)
                          · refine zs_if_neF (pc := 79) t193_79 rfl (by omega) ?_
                            refine zs_iload (pc := 82) t193_82 rfl ?_
                            exact zs_iret (pc := 84) t193_84 mr193 rfl (hQ _ _ w17s w17I ((((zFr.refl).trans (w7F.mono rfl)).trans (w14F.mono rfl)).trans (w17F.mono rfl)) (zrg _).1 (zrg _).2)
                  refine zGo.locals (ls' := [(0, .ref 6), (1, .int a), (2, .int b), (3, .int c), (4, .int w12v), (5, .int (1 : Int32))]) (by simp) ?_
                  have w24 := li1
                  exact w14L ((9 - 1 : Int).toNat) (1 : Int32) w7M ⟨by decide, by decide⟩ w7s w7I zFr.refl (by omega)
                · refine zs_icmp_ltF (pc := 2) t21_2 li1 rfl (by omega) ?_
                  refine zs_iload_n (pc := 5) t21_5 rfl ?_
                  refine zs_goto (pc := 6) t21_6 ?_
                  refine zs_iret (pc := 10) t21_10 mr21 (by decide) ?_
                  show zGo X l 1 0 0 190 20 [(0, .int w7v), (1, .int (zI M 17 7))] [.int (1 : Int32)] w7M _
                  refine zs_iret (pc := 20) t190_20 mr190 (by decide) ?_
                  show zGo X l 7 0 0 193 27 [(0, .ref 6), (1, .int a), (2, .int b), (3, .int c)] [.int (1 : Int32)] w7M _
                  refine zs_istore (pc := 27) t193_27 (ls' := [(4, .int (1 : Int32)), (0, .ref 6), (1, .int a), (2, .int b), (3, .int c)]) (zml mf193 (by decide)) rfl ?_
                  refine zs_iconst (pc := 29) t193_29 (v := 1) (by decide) ?_
                  refine zs_istore (pc := 30) t193_30 (ls' := [(5, .int (1 : Int32)), (4, .int (1 : Int32)), (0, .ref 6), (1, .int a), (2, .int b), (3, .int c)]) (zml mf193 (by decide)) rfl ?_
                  have w25L : ∀ (m : Nat) (w25x5 : Int32) (w25M : zM), (1 ≤ w25x5.toInt ∧ w25x5.toInt ≤ 9) → zSk zMc w25M → zIv cLo cHi w25M → zFr [(161, 334, none)] w7M w25M → 9 - w25x5.toInt ≤ (m : Int) → zGo X l 7 0 0 193 32 [(0, .ref 6), (1, .int a), (2, .int b), (3, .int c), (4, .int (1 : Int32)), (5, .int w25x5)] [] w25M Q := by
                    intro m
                    induction m using Nat.strongRecOn with
                    | ind w25m w25ih =>
                      intro w25x5 w25M w25b5 w25s w25I w25F w25q
                      refine zs_iload (pc := 32) t193_32 rfl ?_
                      refine zs_bipush (pc := 34) t193_34 (v := 8) (by decide) ?_
                      by_cases w26 : 8 < w25x5.toInt
                      · refine zs_icmp_gtT (pc := 36) t193_36 rfl li8 (by omega) ?_
                        refine zs_bipush (pc := 91) t193_91 (v := -2) (by decide) ?_
                        exact zs_iret (pc := 93) t193_93 mr193 (by decide) (hQ _ _ w25s w25I (((zFr.refl).trans (w7F.mono rfl)).trans (w25F.mono rfl)) (zrg _).1 (zrg _).2)
                      · refine zs_icmp_gtF (pc := 36) t193_36 rfl li8 (by omega) ?_
                        refine zs_aload_n (pc := 39) t193_39 rfl ?_
                        refine zs_get (pc := 40) t193_40 (by decide) (zk1 (w25s.k fk_zMc_6)) (w25s.p rfl fv_zMc_6_8) ?_
                        refine zs_iload_n (pc := 43) t193_43 rfl ?_
                        refine zs_iload_n (pc := 44) t193_44 rfl ?_
                        refine zs_iload (pc := 45) t193_45 rfl ?_
                        refine zs_iload_n (pc := 47) t193_47 rfl ?_
                        refine zs_iload (pc := 48) t193_48 rfl ?_
                        refine zs_aload_n (pc := 50) t193_50 rfl ?_
                        refine zs_get (pc := 51) t193_51 (by decide) (zk1 (w25s.k fk_zMc_6)) (w25s.p rfl fv_zMc_6_0) ?_
                        refine zs_bipush (pc := 54) t193_54 (v := 8) (by decide) ?_
                        refine zs_invV (pc := 56) (k := 7) (as' := [.int (8 : Int32)]) (st := [.int (1 : Int32), .int c, .int w25x5, .int b, .int a, .ref 332]) t193_56 mf96 rfl rfl (Or.inl ⟨by decide, (zk1 (w25s.k fk_zMc_7))⟩) ⟨by decide, by decide, Nat.le_of_ble_eq_true rfl, Nat.le_of_ble_eq_true rfl⟩ (zs_in (by decide) mf96 (Nat.le_of_ble_eq_true rfl) ?_) (fun _ _ q => q)
                        show zGo X l 0 0 0 96 0 [(0, .ref 7), (1, .int (8 : Int32))] [] w25M _
                        refine zs_iload_n (pc := 0) t96_0 rfl ?_
                        refine zs_if_ltF (pc := 1) t96_1 li8 (by decide) ?_
                        refine zs_iload_n (pc := 4) t96_4 rfl ?_
                        refine zs_bipush (pc := 5) t96_5 (v := 9) (by decide) ?_
                        refine zs_icmp_geF (pc := 7) t96_7 li8 li9 (by decide) ?_
                        refine zs_aload_n (pc := 10) t96_10 rfl ?_
                        refine zs_get (pc := 11) t96_11 (by decide) (zk1 (w25s.k fk_zMc_7)) (w25s.p rfl fv_zMc_7_12) ?_
                        refine zs_iload_n (pc := 14) t96_14 rfl ?_
                        have w27 := ib17 hI 8
                        refine zs_iald (pc := 15) t96_15 (j := 8) (by decide) (zk1 (w25s.k fk_zMc_17)) li8 (zk2 (w25s.k fk_zMc_17) (by decide)) ((w25F 17 8 rfl).trans ((w7F 17 8 rfl).trans rfl)) ?_
                        refine zs_goto (pc := 16) t96_16 ?_
                        refine zs_iret (pc := 20) t96_20 mr96 rfl ?_
                        show zGo X l 7 0 0 193 59 [(0, .ref 6), (1, .int a), (2, .int b), (3, .int c), (4, .int (1 : Int32)), (5, .int w25x5)] [.int (zI M 17 8), .int (1 : Int32), .int c, .int w25x5, .int b, .int a, .ref 332] w25M _
                        refine zs_invV (pc := 59) (k := 332) (as' := [.int a, .int b, .int w25x5, .int c, .int (1 : Int32), .int (zI M 17 8)]) (st := []) t193_59 mf191 rfl rfl (Or.inl ⟨by decide, (zk1 (w25s.k fk_zMc_332))⟩) ⟨by decide, by decide, Nat.le_of_ble_eq_true rfl, Nat.le_of_ble_eq_true rfl⟩ (C191_332 w25s w25I ⟨by omega, by omega⟩ ?_) (fun _ _ q => q)
                        intro w28M w28s w28I w28F
                        show zGo X l 7 0 0 193 62 [(0, .ref 6), (1, .int a), (2, .int b), (3, .int c), (4, .int (1 : Int32)), (5, .int w25x5)] [] w28M _
                        refine zs_aload_n (pc := 62) t193_62 rfl ?_
                        refine zs_get (pc := 63) t193_63 (by decide) (zk1 (w28s.k fk_zMc_6)) (w28s.p rfl fv_zMc_6_8) ?_
                        have w29 := ib332_0 w28I
                        refine zs_get (pc := 66) t193_66 (by decide) (zk1 (w28s.k fk_zMc_332)) (zfvi rfl rfl) ?_
                        by_cases w30 : (zI w28M 332 0).toInt ≠ 0
                        · refine zs_if_neT (pc := 69) t193_69 rfl (by omega) ?_
                          obtain ⟨w31v, w31e, w31⟩ := ziadd (a := w25x5) (b := Int32.ofInt 1) rfl (show (Int32.ofInt 1).toInt = 1 by decide) (by omega) (by omega)
                          refine zs_iinc (pc := 85) t193_85 (ls' := [(5, .int w31v), (0, .ref 6), (1, .int a), (2, .int b), (3, .int c), (4, .int (1 : Int32))]) (zml mf193 (by decide)) rfl (c := w31v) w31e rfl ?_
                          refine zs_goto (pc := 88) t193_88 ?_
                          refine zGo.locals (ls' := [(0, .ref 6), (1, .int a), (2, .int b), (3, .int c), (4, .int (1 : Int32)), (5, .int w31v)]) (by simp) ?_
                          exact w25ih (w25m - 1) (by omega) w31v w28M ⟨by omega, by omega⟩ w28s w28I (((zFr.refl).trans (w25F.mono rfl)).trans (w28F.mono rfl)) (by omega)
                        · refine zs_if_neF (pc := 69) t193_69 rfl (by omega) ?_
                          refine zs_aload_n (pc := 72) t193_72 rfl ?_
                          refine zs_get (pc := 73) t193_73 (by decide) (zk1 (w28s.k fk_zMc_6)) (w28s.p rfl fv_zMc_6_8) ?_
                          have w32 := ib332_1 w28I
                          refine zs_get (pc := 76) t193_76 (by decide) (zk1 (w28s.k fk_zMc_332)) (zfvi rfl rfl) ?_
                          by_cases w33 : (zI w28M 332 1).toInt ≠ 0
                          · refine zs_if_neT (pc := 79) t193_79 rfl (by omega) ?_
                            obtain ⟨w34v, w34e, w34⟩ := ziadd (a := w25x5) (b := Int32.ofInt 1) rfl (show (Int32.ofInt 1).toInt = 1 by decide) (by omega) (by omega)
                            refine zs_iinc (pc := 85) t193_85 (ls' := [(5, .int w34v), (0, .ref 6), (1, .int a), (2, .int b), (3, .int c), (4, .int (1 : Int32))]) (zml mf193 (by decide)) rfl (c := w34v) w34e rfl ?_
                            refine zs_goto (pc := 88) t193_88 ?_
                            refine zGo.locals (ls' := [(0, .ref 6), (1, .int a), (2, .int b), (3, .int c), (4, .int (1 : Int32)), (5, .int w34v)]) (by simp) ?_
                            exact w25ih (w25m - 1) (by omega) w34v w28M ⟨by omega, by omega⟩ w28s w28I (((zFr.refl).trans (w25F.mono rfl)).trans (w28F.mono rfl)) (by omega)
                          · refine zs_if_neF (pc := 79) t193_79 rfl (by omega) ?_
                            refine zs_iload (pc := 82) t193_82 rfl ?_
                            exact zs_iret (pc := 84) t193_84 mr193 rfl (hQ _ _ w28s w28I ((((zFr.refl).trans (w7F.mono rfl)).trans (w25F.mono rfl)).trans (w28F.mono rfl)) (zrg _).1 (zrg _).2)
                  refine zGo.locals (ls' := [(0, .ref 6), (1, .int a), (2, .int b), (3, .int c), (4, .int (1 : Int32)), (5, .int (1 : Int32))]) (by simp) ?_
                  have w35 := li1
                  exact w25L ((9 - 1 : Int).toNat) (1 : Int32) w7M ⟨by decide, by decide⟩ w7s w7I zFr.refl (by omega)
              · refine zs_icmp_geF (pc := 2) t190_2 rfl li1 (by omega) ?_
                refine zs_iconst (pc := 5) t190_5 (v := 1) (by decide) ?_
                refine zs_goto (pc := 6) t190_6 ?_
                refine zs_iret (pc := 20) t190_20 mr190 (by decide) ?_
                show zGo X l 7 0 0 193 27 [(0, .ref 6), (1, .int a), (2, .int b), (3, .int c)] [.int (1 : Int32)] w7M _
                refine zs_istore (pc := 27) t193_27 (ls' := [(4, .int (1 : Int32)), (0, .ref 6), (1, .int a), (2, .int b), (3, .int c)]) (zml mf193 (by decide)) rfl ?_
                refine zs_iconst (pc := 29) t193_29 (v := 1) (by decide) ?_
                refine zs_istore (pc := 30) t193_30 (ls' := [(5, .int (1 : Int32)), (4, .int (1 : Int32)), (0, .ref 6), (1, .int a), (2, .int b), (3, .int c)]) (zml mf193 (by decide)) rfl ?_
                have w36L : ∀ (m : Nat) (w36x5 : Int32) (w36M : zM), (1 ≤ w36x5.toInt ∧ w36x5.toInt ≤ 9) → zSk zMc w36M → zIv cLo cHi w36M → zFr [(161, 334, none)] w7M w36M → 9 - w36x5.toInt ≤ (m : Int) → zGo X l 7 0 0 193 32 [(0, .ref 6), (1, .int a), (2, .int b), (3, .int c), (4, .int (1 : Int32)), (5, .int w36x5)] [] w36M Q := by
                  intro m
                  induction m using Nat.strongRecOn with
                  | ind w36m w36ih =>
                    intro w36x5 w36M w36b5 w36s w36I w36F w36q
                    refine zs_iload (pc := 32) t193_32 rfl ?_
                    refine zs_bipush (pc := 34) t193_34 (v := 8) (by decide) ?_
                    by_cases w37 : 8 < w36x5.toInt
                    · refine zs_icmp_gtT (pc := 36) t193_36 rfl li8 (by omega) ?_
                      refine zs_bipush (pc := 91) t193_91 (v := -2) (by decide) ?_
                      exact zs_iret (pc := 93) t193_93 mr193 (by decide) (hQ _ _ w36s w36I (((zFr.refl).trans (w7F.mono rfl)).trans (w36F.mono rfl)) (zrg _).1 (zrg _).2)
                    · refine zs_icmp_gtF (pc := 36) t193_36 rfl li8 (by omega) ?_
                      refine zs_aload_n (pc := 39) t193_39 rfl ?_
                      refine zs_get (pc := 40) t193_40 (by decide) (zk1 (w36s.k fk_zMc_6)) (w36s.p rfl fv_zMc_6_8) ?_
                      refine zs_iload_n (pc := 43) t193_43 rfl ?_
                      refine zs_iload_n (pc := 44) t193_44 rfl ?_
                      refine zs_iload (pc := 45) t193_45 rfl ?_
                      refine zs_iload_n (pc := 47) t193_47 rfl ?_
                      refine zs_iload (pc := 48) t193_48 rfl ?_
                      refine zs_aload_n (pc := 50) t193_50 rfl ?_
                      refine zs_get (pc := 51) t193_51 (by decide) (zk1 (w36s.k fk_zMc_6)) (w36s.p rfl fv_zMc_6_0) ?_
                      refine zs_bipush (pc := 54) t193_54 (v := 8) (by decide) ?_
                      refine zs_invV (pc := 56) (k := 7) (as' := [.int (8 : Int32)]) (st := [.int (1 : Int32), .int c, .int w36x5, .int b, .int a, .ref 332]) t193_56 mf96 rfl rfl (Or.inl ⟨by decide, (zk1 (w36s.k fk_zMc_7))⟩) ⟨by decide, by decide, Nat.le_of_ble_eq_true rfl, Nat.le_of_ble_eq_true rfl⟩ (zs_in (by decide) mf96 (Nat.le_of_ble_eq_true rfl) ?_) (fun _ _ q => q)
                      show zGo X l 0 0 0 96 0 [(0, .ref 7), (1, .int (8 : Int32))] [] w36M _
                      refine zs_iload_n (pc := 0) t96_0 rfl ?_
                      refine zs_if_ltF (pc := 1) t96_1 li8 (by decide) ?_
                      refine zs_iload_n (pc := 4) t96_4 rfl ?_
                      refine zs_bipush (pc := 5) t96_5 (v := 9) (by decide) ?_
                      refine zs_icmp_geF (pc := 7) t96_7 li8 li9 (by decide) ?_
                      refine zs_aload_n (pc := 10) t96_10 rfl ?_
                      refine zs_get (pc := 11) t96_11 (by decide) (zk1 (w36s.k fk_zMc_7)) (w36s.p rfl fv_zMc_7_12) ?_
                      refine zs_iload_n (pc := 14) t96_14 rfl ?_
                      have w38 := ib17 hI 8
                      refine zs_iald (pc := 15) t96_15 (j := 8) (by decide) (zk1 (w36s.k fk_zMc_17)) li8 (zk2 (w36s.k fk_zMc_17) (by decide)) ((w36F 17 8 rfl).trans ((w7F 17 8 rfl).trans rfl)) ?_
                      refine zs_goto (pc := 16) t96_16 ?_
                      refine zs_iret (pc := 20) t96_20 mr96 rfl ?_
                      show zGo X l 7 0 0 193 59 [(0, .ref 6), (1, .int a), (2, .int b), (3, .int c), (4, .int (1 : Int32)), (5, .int w36x5)] [.int (zI M 17 8), .int (1 : Int32), .int c, .int w36x5, .int b, .int a, .ref 332] w36M _
                      refine zs_invV (pc := 59) (k := 332) (as' := [.int a, .int b, .int w36x5, .int c, .int (1 : Int32), .int (zI M 17 8)]) (st := []) t193_59 mf191 rfl rfl (Or.inl ⟨by decide, (zk1 (w36s.k fk_zMc_332))⟩) ⟨by decide, by decide, Nat.le_of_ble_eq_true rfl, Nat.le_of_ble_eq_true rfl⟩ (C191_332 w36s w36I ⟨by omega, by omega⟩ ?_) (fun _ _ q => q)
                      intro w39M w39s w39I w39F
                      show zGo X l 7 0 0 193 62 [(0, .ref 6), (1, .int a), (2, .int b), (3, .int c), (4, .int (1 : Int32)), (5, .int w36x5)] [] w39M _
                      refine zs_aload_n (pc := 62) t193_62 rfl ?_
                      refine zs_get (pc := 63) t193_63 (by decide) (zk1 (w39s.k fk_zMc_6)) (w39s.p rfl fv_zMc_6_8) ?_
                      have w40 := ib332_0 w39I
                      refine zs_get (pc := 66) t193_66 (by decide) (zk1 (w39s.k fk_zMc_332)) (zfvi rfl rfl) ?_
                      by_cases w41 : (zI w39M 332 0).toInt ≠ 0
                      · refine zs_if_neT (pc := 69) t193_69 rfl (by omega) ?_
                        obtain ⟨w42v, w42e, w42⟩ := ziadd (a := w36x5) (b := Int32.ofInt 1) rfl (show (Int32.ofInt 1).toInt = 1 by decide) (by omega) (by omega)
                        refine zs_iinc (pc := 85) t193_85 (ls' := [(5, .int w42v), (0, .ref 6), (1, .int a), (2, .int b), (3, .int c), (4, .int (1 : Int32))]) (zml mf193 (by decide)) rfl (c := w42v) w42e rfl ?_
                        refine zs_goto (pc := 88) t193_88 ?_
                        refine zGo.locals (ls' := [(0, .ref 6), (1, .int a), (2, .int b), (3, .int c), (4, .int (1 : Int32)), (5, .int w42v)]) (by simp) ?_
                        exact w36ih (w36m - 1) (by omega) w42v w39M ⟨by omega, by omega⟩ w39s w39I (((zFr.refl).trans (w36F.mono rfl)).trans (w39F.mono rfl)) (by omega)
                      · refine zs_if_neF (pc := 69) t193_69 rfl (by omega) ?_
                        refine zs_aload_n (pc := 72) t193_72 rfl ?_
                        refine zs_get (pc := 73) t193_73 (by decide) (zk1 (w39s.k fk_zMc_6)) (w39s.p rfl fv_zMc_6_8) ?_
                        have w43 := ib332_1 w39I
                        refine zs_get (pc := 76) t193_76 (by decide) (zk1 (w39s.k fk_zMc_332)) (zfvi rfl rfl) ?_
                        by_cases w44 : (zI w39M 332 1).toInt ≠ 0
                        · refine zs_if_neT (pc := 79) t193_79 rfl (by omega) ?_
                          obtain ⟨w45v, w45e, w45⟩ := ziadd (a := w36x5) (b := Int32.ofInt 1) rfl (show (Int32.ofInt 1).toInt = 1 by decide) (by omega) (by omega)
                          refine zs_iinc (pc := 85) t193_85 (ls' := [(5, .int w45v), (0, .ref 6), (1, .int a), (2, .int b), (3, .int c), (4, .int (1 : Int32))]) (zml mf193 (by decide)) rfl (c := w45v) w45e rfl ?_
                          refine zs_goto (pc := 88) t193_88 ?_
                          refine zGo.locals (ls' := [(0, .ref 6), (1, .int a), (2, .int b), (3, .int c), (4, .int (1 : Int32)), (5, .int w45v)]) (by simp) ?_
                          exact w36ih (w36m - 1) (by omega) w45v w39M ⟨by omega, by omega⟩ w39s w39I (((zFr.refl).trans (w36F.mono rfl)).trans (w39F.mono rfl)) (by omega)
                        · refine zs_if_neF (pc := 79) t193_79 rfl (by omega) ?_
                          refine zs_iload (pc := 82) t193_82 rfl ?_
                          exact zs_iret (pc := 84) t193_84 mr193 rfl (hQ _ _ w39s w39I ((((zFr.refl).trans (w7F.mono rfl)).trans (w36F.mono rfl)).trans (w39F.mono rfl)) (zrg _).1 (zrg _).2)
                refine zGo.locals (ls' := [(0, .ref 6), (1, .int a), (2, .int b), (3, .int c), (4, .int (1 : Int32)), (5, .int (1 : Int32))]) (by simp) ?_
                have w46 := li1
                exact w36L ((9 - 1 : Int).toNat) (1 : Int32) w7M ⟨by decide, by decide⟩ w7s w7I zFr.refl (by omega)
