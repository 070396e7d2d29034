theorem V133 {X : zX} {l : Launch} {M : zM} {Q : Option Value → zM → Prop} {a : Int32} (hs : zSk zMc M) (hI : zIv cLo cHi M) {i0 : Nat} (hi0 : i0 < 20) {F : Nat → Int} {l0 : Nat} (ha : 0 ≤ a.toInt ∧ a.toInt ≤ 7) (x0 : zSo M 7 F) (x1 : zWF F) (x2 : a.toInt = (l0 : Int) ∧ (l0 : Int) < F 0) (hQ : ∀ v : Int64, (∀ h : Nat, (zI M (181 + 3 * i0 + 1) l0).toInt = (h : Int) → (h : Int) < F 1 → v = yL F (zI M (181 + 3 * i0) 0).toInt l0 h) → Q (some (.long v)) M) : zCall X l 2 0 0 133 [.ref (181 + 3 * i0), .ref 7, .int a] M Q := by
  have ga := zrg a
  refine zs_in (by decide) mf133 (Nat.le_of_ble_eq_true rfl) ?_
  show zGo X l 2 0 0 133 0 [(0, .ref (181 + 3 * i0)), (1, .ref 7), (2, .int a)] [] M _
  have f0 := x0.1
  have w1 := ib7_0 hI
  have w2 : (zI M 7 0).toInt = (zI M 7 0).toInt := (congrArg Int32.toInt rfl).trans rfl
  have w3 := ib7_3 hI
  have w4 : (zI M 7 3).toInt = (zI M 7 3).toInt := (congrArg Int32.toInt rfl).trans rfl
  have w5 := ib7_8 hI
  have w6 : (zI M 7 8).toInt = (zI M 7 8).toInt := (congrArg Int32.toInt rfl).trans rfl
  have f1 := x1.1
  have f3 := x1.2.2.2
  have f2 := (show (zI M 7 0).toInt = F 0 ∧ (zI M 7 3).toInt = F 1 ∧ (zI M 7 8).toInt = F 2 from ⟨x0.1.1, x0.1.2.1, x0.1.2.2.1⟩)
  obtain ⟨xa, xb⟩ := x2
  refine zs_aload_n (pc := 0) t133_0 rfl ?_
  refine zs_aload_n (pc := 1) t133_1 rfl ?_
  refine zs_get (pc := 2) t133_2 (by decide) (zk1 (hs.k (fT181_0 i0 hi0))) (hs.p rfl (fvT181_6 i0 hi0)) ?_
  refine zs_iload_n (pc := 5) t133_5 rfl ?_
  have w7 := ibT181_1 hI hi0 l0
  refine zs_iald (pc := 6) t133_6 (j := l0) (by omega) (zk1 (hs.k (fT181_1 i0 hi0))) (show a.toInt = ((l0 : Nat) : Int) by omega) (zk2 (hs.k (fT181_1 i0 hi0)) (by omega)) rfl ?_
  refine zs_invV (pc := 7) (k := 7) (as' := [.int (zI M (181 + 3 * i0 + 1) l0)]) (st := []) t133_7 mf91 rfl rfl (Or.inl ⟨by decide, (zk1 (hs.k fk_zMc_7))⟩) ⟨by decide, by decide, Nat.le_of_ble_eq_true rfl, Nat.le_of_ble_eq_true rfl⟩ (zs_in (by decide) mf91 (Nat.le_of_ble_eq_true rfl) ?_) (fun _ _ q => q)
  show zGo X l 0 0 0 91 0 [(0, .ref 7), (1, .int (zI M (181 + 3 * i0 + 1) l0))] [] M _
  refine zs_iload_n (pc := 0) t91_0 rfl ?_
  by_cases w8 : (zI M (181 + 3 * i0 + 1) l0).toInt < 0
  · refine zs_if_ltT (pc := 1) t91_1 rfl (by omega) ?_
    refine zs_iconst (pc := 16) t91_16 (v := 0) (by decide) ?_
    refine zs_iret (pc := 17) t91_17 mr91 (by decide) ?_
    show zGo X l 2 0 0 133 10 [(0, .ref (181 + 3 * i0)), (1, .ref 7), (2, .int a)] [.int (0 : Int32)] M _
    refine zs_if_eqT (pc := 10) t133_10 li0 (by decide) ?_
    refine zs_lconst (pc := 38) t133_38 (v := 0) (by decide) ?_
    exact zs_lret (pc := 39) t133_39 mr133 (hQ _ (fun h h1 h2 => absurd h2 (by omega)))
  · refine zs_if_ltF (pc := 1) t91_1 rfl (by omega) ?_
    refine zs_iload_n (pc := 4) t91_4 rfl ?_
    refine zs_aload_n (pc := 5) t91_5 rfl ?_
    refine zs_get (pc := 6) t91_6 (by decide) (zk1 (hs.k fk_zMc_7)) (zfvi rfl rfl) ?_
    by_cases w9 : (zI M 7 3).toInt ≤ (zI M (181 + 3 * i0 + 1) l0).toInt
    · refine zs_icmp_geT (pc := 9) t91_9 rfl rfl (by omega) ?_
      refine zs_iconst (pc := 16) t91_16 (v := 0) (by decide) ?_
      refine zs_iret (pc := 17) t91_17 mr91 (by decide) ?_
      show zGo X l 2 0 0 133 10 [(0, .ref (181 + 3 * i0)), (1, .ref 7), (2, .int a)] [.int (0 : Int32)] M _
      refine zs_if_eqT (pc := 10) t133_10 li0 (by decide) ?_
      refine zs_lconst (pc := 38) t133_38 (v := 0) (by decide) ?_
      exact zs_lret (pc := 39) t133_39 mr133 (hQ _ (fun h h1 h2 => absurd h2 (by omega)))
    · refine zs_icmp_geF (pc := 9) t91_9 rfl rfl (by omega) ?_
      refine zs_iconst (pc := 12) t91_12 (v := 1) (by decide) ?_
      refine zs_goto (pc := 13) t91_13 ?_
      refine zs_iret (pc := 17) t91_17 mr91 (by decide) ?_
      show zGo X l 2 0 0 133 10 [(0, .ref (181 + 3 * i0)), (1, .ref 7), (2, .int a)] [.int (1 : Int32)] M _
      refine zs_if_eqF (pc := 10) t133_10 li1 (by decide) ?_
      refine zs_aload_n (pc := 13) t133_13 rfl ?_
      refine zs_get (pc := 14) t133_14 (by decide) (zk1 (hs.k fk_zMc_7)) (hs.p rfl fv_zMc_7_5) ?_
      refine zs_aload_n (pc := 17) t133_17 rfl ?_
      refine zs_get (pc := 18) t133_18 (by decide) (zk1 (hs.k (fT181_0 i0 hi0))) (hs.p rfl (fvT181_6 i0 hi0)) ?_
      refine zs_iload_n (pc := 21) t133_21 rfl ?_
      refine zs_iald (pc := 22) t133_22 (j := l0) (by omega) (zk1 (hs.k (fT181_1 i0 hi0))) (show a.toInt = ((l0 : Nat) : Int) by omega) (zk2 (hs.k (fT181_1 i0 hi0)) (by omega)) rfl ?_
      obtain ⟨w10n, w10⟩ : ∃ n : Nat, (zI M (181 + 3 * i0 + 1) l0).toInt = (n : Int) := ⟨((zI M (181 + 3 * i0 + 1) l0).toInt).toNat, by omega⟩
      have w11 := zrg (zI M 11 w10n)
      have w12 : (zI M 10 w10n).toInt = F (30 + 4 * w10n) ∧ (zI M 11 w10n).toInt = F (31 + 4 * w10n) ∧ (zI M 12 w10n).toInt = F (32 + 4 * w10n) ∧ (zI M 13 w10n).toInt = F (33 + 4 * w10n) := x0.2.2.1 w10n (by omega)
      have w13 := x1.2.2.1 w10n (by omega)
      refine zs_iald (pc := 23) t133_23 (j := w10n) (by decide) (zk1 (hs.k fk_zMc_11)) (show (zI M (181 + 3 * i0 + 1) l0).toInt = ((w10n : Nat) : Int) by omega) (zk2 (hs.k fk_zMc_11) (by omega)) rfl ?_
      refine zs_aload_n (pc := 24) t133_24 rfl ?_
      refine zs_iload_n (pc := 25) t133_25 rfl ?_
      refine zs_aload_n (pc := 26) t133_26 rfl ?_
      have w14 := ibT181_0_0 hI hi0
      refine zs_get (pc := 27) t133_27 (by decide) (zk1 (hs.k (fT181_0 i0 hi0))) (zfvi rfl rfl) ?_
      refine zs_invV (pc := 30) (k := 7) (as' := [.int a, .int (zI M (181 + 3 * i0) 0)]) (st := [.int (zI M 11 w10n)]) t133_30 mf55 rfl rfl (Or.inl ⟨by decide, (zk1 (hs.k fk_zMc_7))⟩) ⟨by decide, by decide, Nat.le_of_ble_eq_true rfl, Nat.le_of_ble_eq_true rfl⟩ (X55_7 hs hI x0 x1 ?_) (fun _ _ q => q)
      intro w15v w15x0
      have w15q := w15x0 l0 (by omega) (by omega) (by omega) (by omega)
      have w15w := x1.2.1 l0 (by omega)
      have w15b := pLf.b (F := F) (l := l0) (t := 0) (k := (zI M (181 + 3 * i0) 0).toInt) w15w.1 w15w.2.1 (by omega) (by omega) (by omega) (by omega)
      have w15g := zrg w15v
      show zGo X l 2 0 0 133 33 [(0, .ref (181 + 3 * i0)), (1, .ref 7), (2, .int a)] [.int w15v, .int (zI M 11 w10n)] M _
      obtain ⟨w16v, w16e, w16⟩ := zisub (a := (zI M 11 w10n)) (b := w15v) rfl rfl (by omega) (by omega)
      refine zs_isub (pc := 33) t133_33 (c := w16v) w16e ?_
      refine zs_i2l (pc := 34) t133_34 rfl ?_
      refine zs_goto (pc := 35) t133_35 ?_
      exact zs_lret (pc := 39) t133_39 mr133 (hQ _ (fun h h1 h2 => by obtain rfl : w10n = h := (by omega); exact i32l (by omega)))
theorem V134 {X : zX} {l : Launch} {M : zM} {Q : Option Value → zM → Prop} {aL bL : Int64} (hs : zSk zMc M) (hI : zIv cLo cHi M) (hQ : ∀ v : Int64, (v = mxL aL bL) → Q (some (.long v)) M) : zCall X l 0 0 0 134 [.long aL, .long bL] M Q := by
  have gaL := zrg64 aL
  have gbL := zrg64 bL
  refine zs_in (by decide) mf134 (Nat.le_of_ble_eq_true rfl) ?_
  show zGo X l 0 0 0 134 0 [(0, .long aL), (2, .long bL)] [] M _
  refine zs_lload_n (pc := 0) t134_0 rfl ?_
  refine zs_lload_n (pc := 1) t134_1 rfl ?_
  by_cases w1 : aL.toInt < bL.toInt
  · refine zs_lcmp (pc := 2) t134_2 (c := -1) (zlcL rfl rfl (by omega)) ?_
    refine zs_if_ltT (pc := 3) t134_3 lin1 (by decide) ?_
    refine zs_lload_n (pc := 10) t134_10 rfl ?_
    exact zs_lret (pc := 11) t134_11 mr134 (hQ _ (mxL.b (by omega)).symm)
  by_cases w2 : aL.toInt = bL.toInt
  · refine zs_lcmp (pc := 2) t134_2 (c := 0) (zlcE rfl rfl (by omega)) ?_
    refine zs_if_ltF (pc := 3) t134_3 li0 (by decide) ?_
    refine zs_lload_n (pc := 6) t134_6 rfl ?_
    refine zs_goto (pc := 7) t134_7 ?_
    exact zs_lret (pc := 11) t134_11 mr134 (hQ _ (mxL.a (by omega)).symm)
  refine zs_lcmp (pc := 2) t134_2 (c := 1) (zlcG rfl rfl (by omega)) ?_
  refine zs_if_ltF (pc := 3) t134_3 li1 (by decide) ?_
  refine zs_lload_n (pc := 6) t134_6 rfl ?_
  refine zs_goto (pc := 7) t134_7 ?_
  exact zs_lret (pc := 11) t134_11 mr134 (hQ _ (mxL.a (by omega)).symm)
theorem V136 {X : zX} {l : Launch} {M : zM} {Q : Option Value → zM → Prop} {aL : Int64} (hs : zSk zMc M) (hI : zIv cLo cHi M) (hQ : ∀ v : Int64, (v = abL aL) → Q (some (.long v)) M) : zCall X l 0 0 0 136 [.long aL] M Q := by
  have gaL := zrg64 aL
  refine zs_in (by decide) mf136 (Nat.le_of_ble_eq_true rfl) ?_
  show zGo X l 0 0 0 136 0 [(0, .long aL)] [] M _
  refine zs_lload_n (pc := 0) t136_0 rfl ?_
  refine zs_lconst (pc := 1) t136_1 (v := 0) (by decide) ?_
  by_cases w1 : aL.toInt < 0
  · refine zs_lcmp (pc := 2) t136_2 (c := -1) (zlcL rfl ll0 (by omega)) ?_
    refine zs_if_geF (pc := 3) t136_3 lin1 (by decide) ?_
    refine zs_lload_n (pc := 6) t136_6 rfl ?_
    obtain ⟨w2v, w2⟩ : ∃ v, -aL = v := ⟨_, rfl⟩
    have w2g := zrg64 w2v
    refine zs_lneg (pc := 7) t136_7 (c := w2v) w2 ?_
    refine zs_goto (pc := 8) t136_8 ?_
    exact zs_lret (pc := 12) t136_12 mr136 (hQ _ (w2.symm.trans (abL.n (by omega)).symm))
  by_cases w3 : aL.toInt = 0
  · refine zs_lcmp (pc := 2) t136_2 (c := 0) (zlcE rfl ll0 (by omega)) ?_
    refine zs_if_geT (pc := 3) t136_3 li0 (by decide) ?_
    refine zs_lload_n (pc := 11) t136_11 rfl ?_
    exact zs_lret (pc := 12) t136_12 mr136 (hQ _ (abL.p (by omega)).symm)
  refine zs_lcmp (pc := 2) t136_2 (c := 1) (zlcG rfl ll0 (by omega)) ?_
  refine zs_if_geT (pc := 3) t136_3 li1 (by decide) ?_
  refine zs_lload_n (pc := 11) t136_11 rfl ?_
  exact zs_lret (pc := 12) t136_12 mr136 (hQ _ (abL.p (by omega)).symm)
theorem V132 {X : zX} {l : Launch} {M : zM} {Q : Option Value → zM → Prop} (hs : zSk zMc M) (hI : zIv cLo cHi M) {i0 : Nat} (hi0 : i0 < 20) {F : Nat → Int} {hq : Nat → Int} (x0 : zSo M 7 F) (x1 : zWF F) (x2 : ∀ l : Nat, l < 8 → (zI M (181 + 3 * i0 + 1) l).toInt = hq l) (x3 : ∀ l : Nat, l < 8 → hq l = -2 ∨ ∃ h : Nat, hq l = (h : Int) ∧ (h : Int) < F 1) (hQ : ∀ M', zSk zMc M' → zIv cLo cHi M' → zFr [] M M' → (zLin M' (181 + 3 * i0) (zSums F (zI M (181 + 3 * i0) 0).toInt hq (F 0).toNat)) → (∀ k j : Nat, k ≠ (181 + 3 * i0) → zJ M' k j = zJ M k j) → Q none M') : zCall X l 3 0 0 132 [.ref (181 + 3 * i0), .ref 7] M Q := by
  refine zs_in (by decide) mf132 (Nat.le_of_ble_eq_true rfl) ?_
  show zGo X l 3 0 0 132 0 [(0, .ref (181 + 3 * i0)), (1, .ref 7)] [] M _
  have f0 := x0.1
  have w1 := ib7_0 hI
  have w2 : (zI M 7 0).toInt = (zI M 7 0).toInt := (congrArg Int32.toInt rfl).trans rfl
  have w3 := ib7_3 hI
  have w4 : (zI M 7 3).toInt = (zI M 7 3).toInt := (congrArg Int32.toInt rfl).trans rfl
  have w5 := ib7_8 hI
  have w6 : (zI M 7 8).toInt = (zI M 7 8).toInt := (congrArg Int32.toInt rfl).trans rfl
  have f1 := x1.1
  have f3 := x1.2.2.2
  have f2 := (show (zI M 7 0).toInt = F 0 ∧ (zI M 7 3).toInt = F 1 ∧ (zI M 7 8).toInt = F 2 from ⟨x0.1.1, x0.1.2.1, x0.1.2.2.1⟩)
  refine zs_lconst (pc := 0) t132_0 (v := 0) (by decide) ?_
  refine zs_lstore_n (pc := 1) t132_1 (ls' := [(2, .long (0 : Int64)), (0, .ref (181 + 3 * i0)), (1, .ref 7)]) (zml mf132 (by decide)) rfl ?_
  refine zs_lconst (pc := 2) t132_2 (v := 0) (by decide) ?_
  refine zs_lstore (pc := 3) t132_3 (ls' := [(4, .long (0 : Int64)), (2, .long (0 : Int64)), (0, .ref (181 + 3 * i0)), (1, .ref 7)]) (zml mf132 (by decide)) rfl ?_
  refine zs_lconst (pc := 5) t132_5 (v := 0) (by decide) ?_
  refine zs_lstore (pc := 6) t132_6 (ls' := [(6, .long (0 : Int64)), (4, .long (0 : Int64)), (2, .long (0 : Int64)), (0, .ref (181 + 3 * i0)), (1, .ref 7)]) (zml mf132 (by decide)) rfl ?_
  refine zs_lconst (pc := 8) t132_8 (v := 0) (by decide) ?_
  refine zs_lstore (pc := 9) t132_9 (ls' := [(8, .long (0 : Int64)), (6, .long (0 : Int64)), (4, .long (0 : Int64)), (2, .long (0 : Int64)), (0, .ref (181 + 3 * i0)), (1, .ref 7)]) (zml mf132 (by decide)) rfl ?_
  refine zs_lconst (pc := 11) t132_11 (v := 0) (by decide) ?_
  refine zs_lstore (pc := 12) t132_12 (ls' := [(10, .long (0 : Int64)), (8, .long (0 : Int64)), (6, .long (0 : Int64)), (4, .long (0 : Int64)), (2, .long (0 : Int64)), (0, .ref (181 + 3 * i0)), (1, .ref 7)]) (zml mf132 (by decide)) rfl ?_
  refine zs_lconst (pc := 14) t132_14 (v := 0) (by decide) ?_
  refine zs_lstore (pc := 15) t132_15 (ls' := [(12, .long (0 : Int64)), (10, .long (0 : Int64)), (8, .long (0 : Int64)), (6, .long (0 : Int64)), (4, .long (0 : Int64)), (2, .long (0 : Int64)), (0, .ref (181 + 3 * i0)), (1, .ref 7)]) (zml mf132 (by decide)) rfl ?_
  refine zs_iconst (pc := 17) t132_17 (v := 0) (by decide) ?_
  refine zs_istore (pc := 18) t132_18 (ls' := [(14, .int (0 : Int32)), (12, .long (0 : Int64)), (10, .long (0 : Int64)), (8, .long (0 : Int64)), (6, .long (0 : Int64)), (4, .long (0 : Int64)), (2, .long (0 : Int64)), (0, .ref (181 + 3 * i0)), (1, .ref 7)]) (zml mf132 (by decide)) rfl ?_
  have w7L : ∀ (m : Nat) (w7x2 : Int64) (w7x4 : Int64) (w7x6 : Int64) (w7x8 : Int64) (w7x10 : Int64) (w7x12 : Int64) (w7x14 : Int32), (0 ≤ w7x14.toInt ∧ w7x14.toInt ≤ 8) → (w7x14.toInt ≤ F 0) → (∀ i : Nat, (i : Int) = w7x14.toInt → (w7x2, w7x4, w7x6, w7x8, w7x10, w7x12) = zSums F (zI M (181 + 3 * i0) 0).toInt hq i) → 8 - w7x14.toInt ≤ (m : Int) → zGo X l 3 0 0 132 20 [(0, .ref (181 + 3 * i0)), (1, .ref 7), (2, .long w7x2), (4, .long w7x4), (6, .long w7x6), (8, .long w7x8), (10, .long w7x10), (12, .long w7x12), (14, .int w7x14)] [] M Q := by
    intro m
    induction m using Nat.strongRecOn with
    | ind w7m w7ih =>
      intro w7x2 w7x4 w7x6 w7x8 w7x10 w7x12 w7x14 w7b14 w7r0 w7t0 w7q
      have w7g2 := zrg64 w7x2
      have w7g4 := zrg64 w7x4
      have w7g6 := zrg64 w7x6
      have w7g8 := zrg64 w7x8
      have w7g10 := zrg64 w7x10
      have w7g12 := zrg64 w7x12
      refine zs_iload (pc := 20) t132_20 rfl ?_
      refine zs_aload_n (pc := 22) t132_22 rfl ?_
      refine zs_get (pc := 23) t132_23 (by decide) (zk1 (hs.k fk_zMc_7)) (zfvi rfl rfl) ?_
      by_cases w8 : (zI M 7 0).toInt ≤ w7x14.toInt
      · refine zs_icmp_geT (pc := 26) t132_26 rfl rfl (by omega) ?_
        refine zs_aload_n (pc := 115) t132_115 rfl ?_
        refine zs_lconst (pc := 116) t132_116 (v := 1) (by decide) ?_
        refine zs_lload_n (pc := 117) t132_117 rfl ?_
        refine zs_lload (pc := 118) t132_118 rfl ?_
        obtain ⟨w9v, w9⟩ : ∃ v, w7x2 * w7x8 = v := ⟨_, rfl⟩
        have w9g := zrg64 w9v
        refine zs_lmul (pc := 120) t132_120 (c := w9v) w9 ?_
        refine zs_lload (pc := 121) t132_121 rfl ?_
        refine zs_lload (pc := 123) t132_123 rfl ?_
        obtain ⟨w10v, w10⟩ : ∃ v, w7x4 * w7x4 = v := ⟨_, rfl⟩
        have w10g := zrg64 w10v
        refine zs_lmul (pc := 125) t132_125 (c := w10v) w10 ?_
        obtain ⟨w11v, w11⟩ : ∃ v, w9v - w10v = v := ⟨_, rfl⟩
        have w11g := zrg64 w11v
        refine zs_lsub (pc := 126) t132_126 (c := w11v) w11 ?_
        have w12 : (1 : Int64).toInt = 1 := ll1
        refine zs_invS (pc := 127) (as := [.long (1 : Int64), .long w11v]) (st := [.ref (181 + 3 * i0)]) t132_127 (by decide) mf134 rfl rfl ⟨by decide, by decide, Nat.le_of_ble_eq_true rfl, Nat.le_of_ble_eq_true rfl⟩ (V134 hs hI ?_) (fun _ _ q => q)
        intro w13v w13x0
        have w13g := zrg64 w13v
        have w13g1 : 1 ≤ w13v.toInt := by rw [w13x0]; exact mxL.ge
        show zGo X l 3 0 0 132 130 [(0, .ref (181 + 3 * i0)), (1, .ref 7), (2, .long w7x2), (4, .long w7x4), (6, .long w7x6), (8, .long w7x8), (10, .long w7x10), (12, .long w7x12), (14, .int w7x14)] [.long w13v, .ref (181 + 3 * i0)] M _
        have w14 : zIv cLo cHi (zsJ M (181 + 3 * i0) 8 w13v) := hI
        refine zs_putJ (pc := 130) t132_130 (zk1 (hs.k (fT181_0 i0 hi0))) rfl ?_
        refine zs_aload_n (pc := 133) t132_133 rfl ?_
        refine zs_lload_n (pc := 134) t132_134 rfl ?_
        refine zs_lload (pc := 135) t132_135 rfl ?_
        obtain ⟨w15v, w15⟩ : ∃ v, w7x2 * w7x10 = v := ⟨_, rfl⟩
        have w15g := zrg64 w15v
        refine zs_lmul (pc := 137) t132_137 (c := w15v) w15 ?_
        refine zs_lload (pc := 138) t132_138 rfl ?_
        refine zs_lload (pc := 140) t132_140 rfl ?_
        obtain ⟨w16v, w16⟩ : ∃ v, w7x4 * w7x6 = v := ⟨_, rfl⟩
        have w16g := zrg64 w16v
        refine zs_lmul (pc := 142) t132_142 (c := w16v) w16 ?_
        obtain ⟨w17v, w17⟩ : ∃ v, w15v - w16v = v := ⟨_, rfl⟩
        have w17g := zrg64 w17v
        refine zs_lsub (pc := 143) t132_143 (c := w17v) w17 ?_
        have w18 : zIv cLo cHi (zsJ (zsJ M (181 + 3 * i0) 8 w13v) (181 + 3 * i0) 10 w17v) := w14
        refine zs_putJ (pc := 144) t132_144 (zk1 (hs.k (fT181_0 i0 hi0))) rfl ?_
        refine zs_aload_n (pc := 147) t132_147 rfl ?_
        refine zs_lload (pc := 148) t132_148 rfl ?_
        refine zs_lload (pc := 150) t132_150 rfl ?_
        obtain ⟨w19v, w19⟩ : ∃ v, w7x6 * w7x8 = v := ⟨_, rfl⟩
        have w19g := zrg64 w19v
        refine zs_lmul (pc := 152) t132_152 (c := w19v) w19 ?_
        refine zs_lload (pc := 153) t132_153 rfl ?_
        refine zs_lload (pc := 155) t132_155 rfl ?_
        obtain ⟨w20v, w20⟩ : ∃ v, w7x4 * w7x10 = v := ⟨_, rfl⟩
        have w20g := zrg64 w20v
        refine zs_lmul (pc := 157) t132_157 (c := w20v) w20 ?_
        obtain ⟨w21v, w21⟩ : ∃ v, w19v - w20v = v := ⟨_, rfl⟩
        have w21g := zrg64 w21v
        refine zs_lsub (pc := 158) t132_158 (c := w21v) w21 ?_
        have w22 : zIv cLo cHi (zsJ (zsJ (zsJ M (181 + 3 * i0) 8 w13v) (181 + 3 * i0) 10 w17v) (181 + 3 * i0) 9 w21v) := w18
        refine zs_putJ (pc := 159) t132_159 (zk1 (hs.k (fT181_0 i0 hi0))) rfl ?_
        refine zs_aload_n (pc := 162) t132_162 rfl ?_
        refine zs_aload_n (pc := 163) t132_163 rfl ?_
        refine zs_get (pc := 164) t132_164 (by decide) (zk1 (hs.k (fT181_0 i0 hi0))) (zfvJ rfl (((zJoj (by decide)).trans ((zJoj (by decide)).trans zJs)))) ?_
        refine zs_lload (pc := 167) t132_167 rfl ?_
        obtain ⟨w23v, w23⟩ : ∃ v, w13v * w7x12 = v := ⟨_, rfl⟩
        have w23g := zrg64 w23v
        refine zs_lmul (pc := 169) t132_169 (c := w23v) w23 ?_
        refine zs_aload_n (pc := 170) t132_170 rfl ?_
        refine zs_get (pc := 171) t132_171 (by decide) (zk1 (hs.k (fT181_0 i0 hi0))) (zfvJ rfl (zJs)) ?_
        refine zs_lload (pc := 174) t132_174 rfl ?_
        obtain ⟨w24v, w24⟩ : ∃ v, w21v * w7x6 = v := ⟨_, rfl⟩
        have w24g := zrg64 w24v
        refine zs_lmul (pc := 176) t132_176 (c := w24v) w24 ?_
        obtain ⟨w25v, w25⟩ : ∃ v, w23v - w24v = v := ⟨_, rfl⟩
        have w25g := zrg64 w25v
        refine zs_lsub (pc := 177) t132_177 (c := w25v) w25 ?_
        refine zs_aload_n (pc := 178) t132_178 rfl ?_
        refine zs_get (pc := 179) t132_179 (by decide) (zk1 (hs.k (fT181_0 i0 hi0))) (zfvJ rfl (((zJoj (by decide)).trans zJs))) ?_
        refine zs_lload (pc := 182) t132_182 rfl ?_
        obtain ⟨w26v, w26⟩ : ∃ v, w17v * w7x10 = v := ⟨_, rfl⟩
        have w26g := zrg64 w26v
        refine zs_lmul (pc := 184) t132_184 (c := w26v) w26 ?_
        obtain ⟨w27v, w27⟩ : ∃ v, w25v - w26v = v := ⟨_, rfl⟩
        have w27g := zrg64 w27v
        refine zs_lsub (pc := 185) t132_185 (c := w27v) w27 ?_
        have w28 : zIv cLo cHi (zsJ (zsJ (zsJ (zsJ M (181 + 3 * i0) 8 w13v) (181 + 3 * i0) 10 w17v) (181 + 3 * i0) 9 w21v) (181 + 3 * i0) 11 w27v) := w22
        refine zs_putJ (pc := 186) t132_186 (zk1 (hs.k (fT181_0 i0 hi0))) rfl ?_
        obtain ⟨w29n, w29⟩ : ∃ n : Nat, w7x14.toInt = (n : Int) := ⟨(w7x14.toInt).toNat, by omega⟩
        have hS : (w7x2, w7x4, w7x6, w7x8, w7x10, w7x12) = (zSums F (zI M (181 + 3 * i0) 0).toInt hq (F 0).toNat) := (w7t0 w29n (by omega)).trans (by rw [show (F 0).toNat = w29n by omega])
        exact zs_vret (pc := 189) t132_189 mr132 (hQ _ hs w28 (((((zFr.refl).J).J).J).J) ⟨(show zJ (zsJ (zsJ (zsJ (zsJ M (181 + 3 * i0) 8 w13v) (181 + 3 * i0) 10 w17v) (181 + 3 * i0) 9 w21v) (181 + 3 * i0) 11 w27v) (181 + 3 * i0) 8 = w13v from (((zJoj (by decide)).trans ((zJoj (by decide)).trans ((zJoj (by decide)).trans zJs))))).trans ((show w13v = kL (w7x2, w7x4, w7x6, w7x8, w7x10, w7x12) by subst w13x0 w11 w9 w10; rfl).trans (congrArg kL hS)), (show zJ (zsJ (zsJ (zsJ (zsJ M (181 + 3 * i0) 8 w13v) (181 + 3 * i0) 10 w17v) (181 + 3 * i0) 9 w21v) (181 + 3 * i0) 11 w27v) (181 + 3 * i0) 9 = w21v from (((zJoj (by decide)).trans zJs))).trans ((show w21v = kA (w7x2, w7x4, w7x6, w7x8, w7x10, w7x12) by subst w21 w19 w20; rfl).trans (congrArg kA hS)), (show zJ (zsJ (zsJ (zsJ (zsJ M (181 + 3 * i0) 8 w13v) (181 + 3 * i0) 10 w17v) (181 + 3 * i0) 9 w21v) (181 + 3 * i0) 11 w27v) (181 + 3 * i0) 10 = w17v from (((zJoj (by decide)).trans ((zJoj (by decide)).trans zJs)))).trans ((show w17v = kB (w7x2, w7x4, w7x6, w7x8, w7x10, w7x12) by subst w17 w15 w16; rfl).trans (congrArg kB hS)), (show zJ (zsJ (zsJ (zsJ (zsJ M (181 + 3 * i0) 8 w13v) (181 + 3 * i0) 10 w17v) (181 + 3 * i0) 9 w21v) (181 + 3 * i0) 11 w27v) (181 + 3 * i0) 11 = w27v from (zJs)).trans ((show w27v = kO (w7x2, w7x4, w7x6, w7x8, w7x10, w7x12) by subst w27 w25 w23 w13x0 w11 w9 w10 w24 w21 w19 w20 w26 w17 w15 w16; rfl).trans (congrArg kO hS))⟩ (fun k j q => ((congrFun (zJo (by omega)) _).trans ((congrFun (zJo (by omega)) _).trans ((congrFun (zJo (by omega)) _).trans ((congrFun (zJo (by omega)) _).trans rfl))))))
      · refine zs_icmp_geF (pc := 26) t132_26 rfl rfl (by omega) ?_
        refine zs_aload_n (pc := 29) t132_29 rfl ?_
        refine zs_get (pc := 30) t132_30 (by decide) (zk1 (hs.k (fT181_0 i0 hi0))) (hs.p rfl (fvT181_6 i0 hi0)) ?_
        refine zs_iload (pc := 33) t132_33 rfl ?_
        obtain ⟨w30n, w30⟩ : ∃ n : Nat, w7x14.toInt = (n : Int) := ⟨(w7x14.toInt).toNat, by omega⟩
        have w31 := ibT181_1 hI hi0 w30n
        have hh := x2 w30n (by omega)
        have hv := x3 w30n (by omega)
        refine zs_iald (pc := 35) t132_35 (j := w30n) (by omega) (zk1 (hs.k (fT181_1 i0 hi0))) (show w7x14.toInt = ((w30n : Nat) : Int) by omega) (zk2 (hs.k (fT181_1 i0 hi0)) (by omega)) rfl ?_
        by_cases w32 : 0 ≤ (zI M (181 + 3 * i0 + 1) w30n).toInt
        · refine zs_if_geT (pc := 36) t132_36 rfl (by omega) ?_
          refine zs_aload_n (pc := 42) t132_42 rfl ?_
          refine zs_get (pc := 43) t132_43 (by decide) (zk1 (hs.k fk_zMc_7)) (hs.p rfl fv_zMc_7_1) ?_
          refine zs_iload (pc := 46) t132_46 rfl ?_
          have w33 := zrg (zI M 8 w30n)
          have w34 : (zI M 8 w30n).toInt = F (14 + 2 * w30n) ∧ (zI M 9 w30n).toInt = F (15 + 2 * w30n) := x0.2.1 w30n (by omega)
          have w35 := x1.2.1 w30n (by omega)
          have hx : (zI M 8 w30n).toInt64 = xL F w30n := i32l (by omega)
          refine zs_iald (pc := 48) t132_48 (j := w30n) (by decide) (zk1 (hs.k fk_zMc_8)) (show w7x14.toInt = ((w30n : Nat) : Int) by omega) (zk2 (hs.k fk_zMc_8) (by omega)) rfl ?_
          refine zs_i2l (pc := 49) t132_49 rfl ?_
          refine zs_lstore (pc := 50) t132_50 (ls' := [(15, .long (zI M 8 w30n).toInt64), (0, .ref (181 + 3 * i0)), (1, .ref 7), (2, .long w7x2), (4, .long w7x4), (6, .long w7x6), (8, .long w7x8), (10, .long w7x10), (12, .long w7x12), (14, .int w7x14)]) (zml mf132 (by decide)) rfl ?_
          refine zs_aload_n (pc := 52) t132_52 rfl ?_
          refine zs_aload_n (pc := 53) t132_53 rfl ?_
          refine zs_iload (pc := 54) t132_54 rfl ?_
          obtain ⟨h1, hh1, hh2⟩ := hv.resolve_left (by omega)
          refine zs_invV (pc := 56) (k := (181 + 3 * i0)) (as' := [.ref 7, .int w7x14]) (st := []) t132_56 mf133 rfl rfl (Or.inl ⟨by decide, (zk1 (hs.k (fT181_0 i0 hi0)))⟩) ⟨by decide, by decide, Nat.le_of_ble_eq_true rfl, Nat.le_of_ble_eq_true rfl⟩ (V133 (hi0 := hi0) hs hI ⟨by omega, by omega⟩ x0 x1 ⟨(show _ = ((w30n : Nat) : Int) by omega), by omega⟩ ?_) (fun _ _ q => q)
          intro w36v w36x0
          have w36g := zrg64 w36v
          have hy : w36v = yL F (zI M (181 + 3 * i0) 0).toInt w30n (hq w30n).toNat := by
            rw [show (hq w30n).toNat = h1 by omega]
            exact w36x0 h1 (by omega) (by omega)
          show zGo X l 3 0 0 132 59 [(15, .long (zI M 8 w30n).toInt64), (0, .ref (181 + 3 * i0)), (1, .ref 7), (2, .long w7x2), (4, .long w7x4), (6, .long w7x6), (8, .long w7x8), (10, .long w7x10), (12, .long w7x12), (14, .int w7x14)] [.long w36v] M _
          refine zs_lstore (pc := 59) t132_59 (ls' := [(17, .long w36v), (15, .long (zI M 8 w30n).toInt64), (0, .ref (181 + 3 * i0)), (1, .ref 7), (2, .long w7x2), (4, .long w7x4), (6, .long w7x6), (8, .long w7x8), (10, .long w7x10), (12, .long w7x12), (14, .int w7x14)]) (zml mf132 (by decide)) rfl ?_
          refine zs_lload_n (pc := 61) t132_61 rfl ?_
          refine zs_lconst (pc := 62) t132_62 (v := 1) (by decide) ?_
          obtain ⟨w37v, w37⟩ : ∃ v, w7x2 + (1 : Int64) = v := ⟨_, rfl⟩
          have w37g := zrg64 w37v
          refine zs_ladd (pc := 63) t132_63 (c := w37v) w37 ?_
          refine zs_lstore_n (pc := 64) t132_64 (ls' := [(2, .long w37v), (17, .long w36v), (15, .long (zI M 8 w30n).toInt64), (0, .ref (181 + 3 * i0)), (1, .ref 7), (4, .long w7x4), (6, .long w7x6), (8, .long w7x8), (10, .long w7x10), (12, .long w7x12), (14, .int w7x14)]) (zml mf132 (by decide)) rfl ?_
          refine zs_lload (pc := 65) t132_65 rfl ?_
          refine zs_lload (pc := 67) t132_67 rfl ?_
          obtain ⟨w38v, w38⟩ : ∃ v, w7x4 + (zI M 8 w30n).toInt64 = v := ⟨_, rfl⟩
          have w38g := zrg64 w38v
          refine zs_ladd (pc := 69) t132_69 (c := w38v) w38 ?_
          refine zs_lstore (pc := 70) t132_70 (ls' := [(4, .long w38v), (2, .long w37v), (17, .long w36v), (15, .long (zI M 8 w30n).toInt64), (0, .ref (181 + 3 * i0)), (1, .ref 7), (6, .long w7x6), (8, .long w7x8), (10, .long w7x10), (12, .long w7x12), (14, .int w7x14)]) (zml mf132 (by decide)) rfl ?_
          refine zs_lload (pc := 72) t132_72 rfl ?_
          refine zs_lload (pc := 74) t132_74 rfl ?_
          obtain ⟨w39v, w39⟩ : ∃ v, w7x6 + w36v = v := ⟨_, rfl⟩
          have w39g := zrg64 w39v
          refine zs_ladd (pc := 76) t132_76 (c := w39v) w39 ?_
          refine zs_lstore (pc := 77) t132_77 (ls' := [(6, .long w39v), (4, .long w38v), (2, .long w37v), (17, .long w36v), (15, .long (zI M 8 w30n).toInt64), (0, .ref (181 + 3 * i0)), (1, .ref 7), (8, .long w7x8), (10, .long w7x10), (12, .long w7x12), (14, .int w7x14)]) (zml mf132 (by decide)) rfl ?_
          refine zs_lload (pc := 79) t132_79 rfl ?_
          refine zs_lload (pc := 81) t132_81 rfl ?_
          refine zs_lload (pc := 83) t132_83 rfl ?_
          obtain ⟨w40v, w40⟩ : ∃ v, (zI M 8 w30n).toInt64 * (zI M 8 w30n).toInt64 = v := ⟨_, rfl⟩
          have w40g := zrg64 w40v
          refine zs_lmul (pc := 85) t132_85 (c := w40v) w40 ?_
          obtain ⟨w41v, w41⟩ : ∃ v, w7x8 + w40v = v := ⟨_, rfl⟩
          have w41g := zrg64 w41v
          refine zs_ladd (pc := 86) t132_86 (c := w41v) w41 ?_
          refine zs_lstore (pc := 87) t132_87 (ls' := [(8, .long w41v), (6, .long w39v), (4, .long w38v), (2, .long w37v), (17, .long w36v), (15, .long (zI M 8 w30n).toInt64), (0, .ref (181 + 3 * i0)), (1, .ref 7), (10, .long w7x10), (12, .long w7x12), (14, .int w7x14)]) (zml mf132 (by decide)) rfl ?_
          refine zs_lload (pc := 89) t132_89 rfl ?_
          refine zs_lload (pc := 91) t132_91 rfl ?_
          refine zs_lload (pc := 93) t132_93 rfl ?_
          obtain ⟨w42v, w42⟩ : ∃ v, (zI M 8 w30n).toInt64 * w36v = v := ⟨_, rfl⟩
          have w42g := zrg64 w42v
          refine zs_lmul (pc := 95) t132_95 (c := w42v) w42 ?_
          obtain ⟨w43v, w43⟩ : ∃ v, w7x10 + w42v = v := ⟨_, rfl⟩
          have w43g := zrg64 w43v
          refine zs_ladd (pc := 96) t132_96 (c := w43v) w43 ?_
          refine zs_lstore (pc := 97) t132_97 (ls' := [(10, .long w43v), (8, .long w41v), (6, .long w39v), (4, .long w38v), (2, .long w37v), (17, .long w36v), (15, .long (zI M 8 w30n).toInt64), (0, .ref (181 + 3 * i0)), (1, .ref 7), (12, .long w7x12), (14, .int w7x14)]) (zml mf132 (by decide)) rfl ?_
          refine zs_lload (pc := 99) t132_99 rfl ?_
          refine zs_lload (pc := 101) t132_101 rfl ?_
          refine zs_lload (pc := 103) t132_103 rfl ?_
          obtain ⟨w44v, w44⟩ : ∃ v, w36v * w36v = v := ⟨_, rfl⟩
          have w44g := zrg64 w44v
          refine zs_lmul (pc := 105) t132_105 (c := w44v) w44 ?_
          obtain ⟨w45v, w45⟩ : ∃ v, w7x12 + w44v = v := ⟨_, rfl⟩
          have w45g := zrg64 w45v
          refine zs_ladd (pc := 106) t132_106 (c := w45v) w45 ?_
          refine zs_lstore (pc := 107) t132_107 (ls' := [(12, .long w45v), (10, .long w43v), (8, .long w41v), (6, .long w39v), (4, .long w38v), (2, .long w37v), (17, .long w36v), (15, .long (zI M 8 w30n).toInt64), (0, .ref (181 + 3 * i0)), (1, .ref 7), (14, .int w7x14)]) (zml mf132 (by decide)) rfl ?_
          obtain ⟨w46v, w46e, w46⟩ := ziadd (a := w7x14) (b := Int32.ofInt 1) rfl (show (Int32.ofInt 1).toInt = 1 by decide) (by omega) (by omega)
          refine zs_iinc (pc := 109) t132_109 (ls' := [(14, .int w46v), (12, .long w45v), (10, .long w43v), (8, .long w41v), (6, .long w39v), (4, .long w38v), (2, .long w37v), (17, .long w36v), (15, .long (zI M 8 w30n).toInt64), (0, .ref (181 + 3 * i0)), (1, .ref 7)]) (zml mf132 (by decide)) rfl (c := w46v) w46e rfl ?_
          refine zs_goto (pc := 112) t132_112 ?_
          refine zGo.locals (ls' := [(0, .ref (181 + 3 * i0)), (1, .ref 7), (2, .long w37v), (4, .long w38v), (6, .long w39v), (8, .long w41v), (10, .long w43v), (12, .long w45v), (14, .int w46v)]) (by simp) ?_
          have w47 := w46
          exact w7ih (w7m - 1) (by omega) w37v w38v w39v w41v w43v w45v w46v ⟨by omega, by omega⟩ (by omega) (fun i hi => by obtain rfl : i = w30n + 1 := (by omega); refine Eq.trans ?_ (if_neg (show ¬ hq w30n < 0 by omega)).symm; rw [← w7t0 w30n (by omega), ← hx, ← hy]; subst w37 w38 w39 w41 w40 w43 w42 w45 w44; rfl) (by omega)
        · refine zs_if_geF (pc := 36) t132_36 rfl (by omega) ?_
          refine zs_goto (pc := 39) t132_39 ?_
          obtain ⟨w48v, w48e, w48⟩ := ziadd (a := w7x14) (b := Int32.ofInt 1) rfl (show (Int32.ofInt 1).toInt = 1 by decide) (by omega) (by omega)
          refine zs_iinc (pc := 109) t132_109 (ls' := [(14, .int w48v), (0, .ref (181 + 3 * i0)), (1, .ref 7), (2, .long w7x2), (4, .long w7x4), (6, .long w7x6), (8, .long w7x8), (10, .long w7x10), (12, .long w7x12)]) (zml mf132 (by decide)) rfl (c := w48v) w48e rfl ?_
          refine zs_goto (pc := 112) t132_112 ?_
          refine zGo.locals (ls' := [(0, .ref (181 + 3 * i0)), (1, .ref 7), (2, .long w7x2), (4, .long w7x4), (6, .long w7x6), (8, .long w7x8), (10, .long w7x10), (12, .long w7x12), (14, .int w48v)]) (by simp) ?_
          have w49 := w48
          exact w7ih (w7m - 1) (by omega) w7x2 w7x4 w7x6 w7x8 w7x10 w7x12 w48v ⟨by omega, by omega⟩ (by omega) (fun i hi => by obtain rfl : i = w30n + 1 := (by omega); exact (w7t0 w30n (by omega)).trans (if_pos (show hq w30n < 0 by omega)).symm) (by omega)
  refine zGo.locals (ls' := [(0, .ref (181 + 3 * i0)), (1, .ref 7), (2, .long (0 : Int64)), (4, .long (0 : Int64)), (6, .long (0 : Int64)), (8, .long (0 : Int64)), (10, .long (0 : Int64)), (12, .long (0 : Int64)), (14, .int (0 : Int32))]) (by simp) ?_
  have w50 := ll0
  have w51 := ll0
  have w52 := ll0
  have w53 := ll0
  have w54 := ll0
  have w55 := ll0
  have w56 := li0
  exact w7L ((8 - 0 : Int).toNat) (0 : Int64) (0 : Int64) (0 : Int64) (0 : Int64) (0 : Int64) (0 : Int64) (0 : Int32) ⟨by decide, by decide⟩ (by omega) (fun i hi => by obtain rfl : i = 0 := (by omega); rfl) (by omega)
theorem V135 {X : zX} {l : Launch} {M : zM} {Q : Option Value → zM → Prop} (hs : zSk zMc M) (hI : zIv cLo cHi M) {i0 : Nat} (hi0 : i0 < 20) {F : Nat → Int} {hq : Nat → Int} (x0 : zSo M 7 F) (x1 : zWF F) (x2 : ∀ l : Nat, l < 8 → (zI M (181 + 3 * i0 + 1) l).toInt = hq l) (x3 : ∀ l : Nat, l < 8 → hq l = -2 ∨ ∃ h : Nat, hq l = (h : Int) ∧ (h : Int) < F 1) (x4 : zLin M (181 + 3 * i0) (zSums F (zI M (181 + 3 * i0) 0).toInt hq (F 0).toNat)) (hQ : ∀ M', zSk zMc M' → zIv cLo cHi M' → zFr [(181, 240, none)] M M' → (zI M' (181 + 3 * i0) 5 = zSmr F (zI M (181 + 3 * i0) 0).toInt hq (zSums F (zI M (181 + 3 * i0) 0).toInt hq (F 0).toNat)) → (∀ k j : Nat, k ≠ (181 + 3 * i0) ∨ j ≠ 5 → zI M' k j = zI M k j) → (∀ k j : Nat, zJ M' k j = zJ M k j) → Q none M') : zCall X l 3 0 0 135 [.ref (181 + 3 * i0), .ref 7] M Q := by
  refine zs_in (by decide) mf135 (Nat.le_of_ble_eq_true rfl) ?_
  show zGo X l 3 0 0 135 0 [(0, .ref (181 + 3 * i0)), (1, .ref 7)] [] M _
  have f0 := x0.1
  have w1 := ib7_0 hI
  have w2 : (zI M 7 0).toInt = (zI M 7 0).toInt := (congrArg Int32.toInt rfl).trans rfl
  have w3 := ib7_3 hI
  have w4 : (zI M 7 3).toInt = (zI M 7 3).toInt := (congrArg Int32.toInt rfl).trans rfl
  have w5 := ib7_8 hI
  have w6 : (zI M 7 8).toInt = (zI M 7 8).toInt := (congrArg Int32.toInt rfl).trans rfl
  have f1 := x1.1
  have f3 := x1.2.2.2
  have f2 := (show (zI M 7 0).toInt = F 0 ∧ (zI M 7 3).toInt = F 1 ∧ (zI M 7 8).toInt = F 2 from ⟨x0.1.1, x0.1.2.1, x0.1.2.2.1⟩)
  refine zs_lconst (pc := 0) t135_0 (v := 0) (by decide) ?_
  refine zs_lstore_n (pc := 1) t135_1 (ls' := [(2, .long (0 : Int64)), (0, .ref (181 + 3 * i0)), (1, .ref 7)]) (zml mf135 (by decide)) rfl ?_
  refine zs_iconst (pc := 2) t135_2 (v := 0) (by decide) ?_
  refine zs_istore (pc := 3) t135_3 (ls' := [(4, .int (0 : Int32)), (2, .long (0 : Int64)), (0, .ref (181 + 3 * i0)), (1, .ref 7)]) (zml mf135 (by decide)) rfl ?_
  have w7L : ∀ (m : Nat) (w7x2 : Int64) (w7x4 : Int32), (0 ≤ w7x4.toInt ∧ w7x4.toInt ≤ 8) → (w7x4.toInt ≤ F 0) → (∀ i : Nat, (i : Int) = w7x4.toInt → w7x2 = zMo F (zI M (181 + 3 * i0) 0).toInt hq (zSums F (zI M (181 + 3 * i0) 0).toInt hq (F 0).toNat) i) → 8 - w7x4.toInt ≤ (m : Int) → zGo X l 3 0 0 135 5 [(0, .ref (181 + 3 * i0)), (1, .ref 7), (2, .long w7x2), (4, .int w7x4)] [] M Q := by
    intro m
    induction m using Nat.strongRecOn with
    | ind w7m w7ih =>
      intro w7x2 w7x4 w7b4 w7r0 w7t0 w7q
      have w7g2 := zrg64 w7x2
      refine zs_iload (pc := 5) t135_5 rfl ?_
      refine zs_aload_n (pc := 7) t135_7 rfl ?_
      refine zs_get (pc := 8) t135_8 (by decide) (zk1 (hs.k fk_zMc_7)) (zfvi rfl rfl) ?_
      by_cases w8 : (zI M 7 0).toInt ≤ w7x4.toInt
      · refine zs_icmp_geT (pc := 11) t135_11 rfl rfl (by omega) ?_
        refine zs_aload_n (pc := 73) t135_73 rfl ?_
        refine zs_lload_n (pc := 74) t135_74 rfl ?_
        refine zs_lconst (pc := 75) t135_75 (v := 1) (by decide) ?_
        refine zs_aload_n (pc := 76) t135_76 rfl ?_
        have w9 := zrg64 (zJ M (181 + 3 * i0) 8)
        refine zs_get (pc := 77) t135_77 (by decide) (zk1 (hs.k (fT181_0 i0 hi0))) (zfvj rfl) ?_
        have w10 : (1 : Int64).toInt = 1 := ll1
        refine zs_invS (pc := 80) (as := [.long (1 : Int64), .long (zJ M (181 + 3 * i0) 8)]) (st := [.long w7x2, .ref (181 + 3 * i0)]) t135_80 (by decide) mf134 rfl rfl ⟨by decide, by decide, Nat.le_of_ble_eq_true rfl, Nat.le_of_ble_eq_true rfl⟩ (V134 hs hI ?_) (fun _ _ q => q)
        intro w11v w11x0
        have w11g := zrg64 w11v
        have w11g1 : 1 ≤ w11v.toInt := by rw [w11x0]; exact mxL.ge
        show zGo X l 3 0 0 135 83 [(0, .ref (181 + 3 * i0)), (1, .ref 7), (2, .long w7x2), (4, .int w7x4)] [.long w11v, .long w7x2, .ref (181 + 3 * i0)] M _
        obtain ⟨w12v, w12⟩ : ∃ v, w7x2 / w11v = v := ⟨_, rfl⟩
        have w12g := zrg64 w12v
        refine zs_ldiv (pc := 83) t135_83 (znz64 rfl (by omega)) (c := w12v) w12 ?_
        obtain ⟨w13v, w13⟩ : ∃ v, w12v.toInt32 = v := ⟨_, rfl⟩
        have w13g := zrg w13v
        refine zs_l2i (pc := 84) t135_84 (c := w13v) w13 ?_
        have w14 : zIv cLo cHi (zsI M (181 + 3 * i0) 5 w13v) := zIv.put hI (by rw [(cT181_0_5 i0 hi0).1, (cT181_0_5 i0 hi0).2]; exact zrg w13v)
        refine zs_putI (pc := 85) t135_85 (zk1 (hs.k (fT181_0 i0 hi0))) rfl ?_
        obtain ⟨w15n, w15⟩ : ∃ n : Nat, w7x4.toInt = (n : Int) := ⟨(w7x4.toInt).toNat, by omega⟩
        have hE : w7x2 = zMo F (zI M (181 + 3 * i0) 0).toInt hq (zSums F (zI M (181 + 3 * i0) 0).toInt hq (F 0).toNat) (F 0).toNat := (w7t0 w15n (by omega)).trans (by rw [show (F 0).toNat = w15n by omega])
        exact zs_vret (pc := 88) t135_88 mr135 (hQ _ hs w14 ((zFr.refl).put (zinW_r (lo := 181) (hi := 240) (by decide) (by omega) (by omega))) (by unfold zSmr; rw [← hE, ← x4.1]; subst w13 w12 w11x0; exact zIs) (fun k j q => zIq q) (fun k j => rfl))
      · refine zs_icmp_geF (pc := 11) t135_11 rfl rfl (by omega) ?_
        refine zs_aload_n (pc := 14) t135_14 rfl ?_
        refine zs_get (pc := 15) t135_15 (by decide) (zk1 (hs.k (fT181_0 i0 hi0))) (hs.p rfl (fvT181_6 i0 hi0)) ?_
        refine zs_iload (pc := 18) t135_18 rfl ?_
        obtain ⟨w16n, w16⟩ : ∃ n : Nat, w7x4.toInt = (n : Int) := ⟨(w7x4.toInt).toNat, by omega⟩
        have w17 := ibT181_1 hI hi0 w16n
        have hh := x2 w16n (by omega)
        have hv := x3 w16n (by omega)
        refine zs_iald (pc := 20) t135_20 (j := w16n) (by omega) (zk1 (hs.k (fT181_1 i0 hi0))) (show w7x4.toInt = ((w16n : Nat) : Int) by omega) (zk2 (hs.k (fT181_1 i0 hi0)) (by omega)) rfl ?_
        by_cases w18 : (zI M (181 + 3 * i0 + 1) w16n).toInt < 0
        · refine zs_if_ltT (pc := 21) t135_21 rfl (by omega) ?_
          obtain ⟨w19v, w19e, w19⟩ := ziadd (a := w7x4) (b := Int32.ofInt 1) rfl (show (Int32.ofInt 1).toInt = 1 by decide) (by omega) (by omega)
          refine zs_iinc (pc := 67) t135_67 (ls' := [(4, .int w19v), (0, .ref (181 + 3 * i0)), (1, .ref 7), (2, .long w7x2)]) (zml mf135 (by decide)) rfl (c := w19v) w19e rfl ?_
          refine zs_goto (pc := 70) t135_70 ?_
          refine zGo.locals (ls' := [(0, .ref (181 + 3 * i0)), (1, .ref 7), (2, .long w7x2), (4, .int w19v)]) (by simp) ?_
          have w20 := w19
          exact w7ih (w7m - 1) (by omega) w7x2 w19v ⟨by omega, by omega⟩ (by omega) (fun i hi => by obtain rfl : i = w16n + 1 := (by omega); exact (w7t0 w16n (by omega)).trans (if_pos (show hq w16n < 0 by omega)).symm) (by omega)
        · refine zs_if_ltF (pc := 21) t135_21 rfl (by omega) ?_
          refine zs_aload_n (pc := 24) t135_24 rfl ?_
          have w21 := zrg64 (zJ M (181 + 3 * i0) 9)
          refine zs_get (pc := 25) t135_25 (by decide) (zk1 (hs.k (fT181_0 i0 hi0))) (zfvj rfl) ?_
          refine zs_aload_n (pc := 28) t135_28 rfl ?_
          have w22 := zrg64 (zJ M (181 + 3 * i0) 10)
          refine zs_get (pc := 29) t135_29 (by decide) (zk1 (hs.k (fT181_0 i0 hi0))) (zfvj rfl) ?_
          refine zs_aload_n (pc := 32) t135_32 rfl ?_
          refine zs_get (pc := 33) t135_33 (by decide) (zk1 (hs.k fk_zMc_7)) (hs.p rfl fv_zMc_7_1) ?_
          refine zs_iload (pc := 36) t135_36 rfl ?_
          have w23 := zrg (zI M 8 w16n)
          have w24 : (zI M 8 w16n).toInt = F (14 + 2 * w16n) ∧ (zI M 9 w16n).toInt = F (15 + 2 * w16n) := x0.2.1 w16n (by omega)
          have w25 := x1.2.1 w16n (by omega)
          have hx : (zI M 8 w16n).toInt64 = xL F w16n := i32l (by omega)
          refine zs_iald (pc := 38) t135_38 (j := w16n) (by decide) (zk1 (hs.k fk_zMc_8)) (show w7x4.toInt = ((w16n : Nat) : Int) by omega) (zk2 (hs.k fk_zMc_8) (by omega)) rfl ?_
          refine zs_i2l (pc := 39) t135_39 rfl ?_
          obtain ⟨w26v, w26⟩ : ∃ v, (zJ M (181 + 3 * i0) 10) * (zI M 8 w16n).toInt64 = v := ⟨_, rfl⟩
          have w26g := zrg64 w26v
          refine zs_lmul (pc := 40) t135_40 (c := w26v) w26 ?_
          obtain ⟨w27v, w27⟩ : ∃ v, (zJ M (181 + 3 * i0) 9) + w26v = v := ⟨_, rfl⟩
          have w27g := zrg64 w27v
          refine zs_ladd (pc := 41) t135_41 (c := w27v) w27 ?_
          refine zs_lstore (pc := 42) t135_42 (ls' := [(5, .long w27v), (0, .ref (181 + 3 * i0)), (1, .ref 7), (2, .long w7x2), (4, .int w7x4)]) (zml mf135 (by decide)) rfl ?_
          refine zs_lload_n (pc := 44) t135_44 rfl ?_
          refine zs_aload_n (pc := 45) t135_45 rfl ?_
          refine zs_aload_n (pc := 46) t135_46 rfl ?_
          refine zs_iload (pc := 47) t135_47 rfl ?_
          obtain ⟨h1, hh1, hh2⟩ := hv.resolve_left (by omega)
          refine zs_invV (pc := 49) (k := (181 + 3 * i0)) (as' := [.ref 7, .int w7x4]) (st := [.long w7x2]) t135_49 mf133 rfl rfl (Or.inl ⟨by decide, (zk1 (hs.k (fT181_0 i0 hi0)))⟩) ⟨by decide, by decide, Nat.le_of_ble_eq_true rfl, Nat.le_of_ble_eq_true rfl⟩ (V133 (hi0 := hi0) hs hI ⟨by omega, by omega⟩ x0 x1 ⟨(show _ = ((w16n : Nat) : Int) by omega), by omega⟩ ?_) (fun _ _ q => q)
          intro w28v w28x0
          have w28g := zrg64 w28v
          have hy : w28v = yL F (zI M (181 + 3 * i0) 0).toInt w16n (hq w16n).toNat := by
            rw [show (hq w16n).toNat = h1 by omega]
            exact w28x0 h1 (by omega) (by omega)
          show zGo X l 3 0 0 135 52 [(5, .long w27v), (0, .ref (181 + 3 * i0)), (1, .ref 7), (2, .long w7x2), (4, .int w7x4)] [.long w28v, .long w7x2] M _
          refine zs_aload_n (pc := 52) t135_52 rfl ?_
          have w29 := zrg64 (zJ M (181 + 3 * i0) 8)
          refine zs_get (pc := 53) t135_53 (by decide) (zk1 (hs.k (fT181_0 i0 hi0))) (zfvj rfl) ?_
          obtain ⟨w30v, w30⟩ : ∃ v, w28v * (zJ M (181 + 3 * i0) 8) = v := ⟨_, rfl⟩
          have w30g := zrg64 w30v
          refine zs_lmul (pc := 56) t135_56 (c := w30v) w30 ?_
          refine zs_lload (pc := 57) t135_57 rfl ?_
          obtain ⟨w31v, w31⟩ : ∃ v, w30v - w27v = v := ⟨_, rfl⟩
          have w31g := zrg64 w31v
          refine zs_lsub (pc := 59) t135_59 (c := w31v) w31 ?_
          refine zs_invS (pc := 60) (as := [.long w31v]) (st := [.long w7x2]) t135_60 (by decide) mf136 rfl rfl ⟨by decide, by decide, Nat.le_of_ble_eq_true rfl, Nat.le_of_ble_eq_true rfl⟩ (V136 hs hI ?_) (fun _ _ q => q)
          intro w32v w32x0
          have w32g := zrg64 w32v
          show zGo X l 3 0 0 135 63 [(5, .long w27v), (0, .ref (181 + 3 * i0)), (1, .ref 7), (2, .long w7x2), (4, .int w7x4)] [.long w32v, .long w7x2] M _
          refine zs_invS (pc := 63) (as := [.long w7x2, .long w32v]) (st := []) t135_63 (by decide) mf134 rfl rfl ⟨by decide, by decide, Nat.le_of_ble_eq_true rfl, Nat.le_of_ble_eq_true rfl⟩ (V134 hs hI ?_) (fun _ _ q => q)
          intro w33v w33x0
          have w33g := zrg64 w33v
          show zGo X l 3 0 0 135 66 [(5, .long w27v), (0, .ref (181 + 3 * i0)), (1, .ref 7), (2, .long w7x2), (4, .int w7x4)] [.long w33v] M _
          refine zs_lstore_n (pc := 66) t135_66 (ls' := [(2, .long w33v), (5, .long w27v), (0, .ref (181 + 3 * i0)), (1, .ref 7), (4, .int w7x4)]) (zml mf135 (by decide)) rfl ?_
          obtain ⟨w34v, w34e, w34⟩ := ziadd (a := w7x4) (b := Int32.ofInt 1) rfl (show (Int32.ofInt 1).toInt = 1 by decide) (by omega) (by omega)
          refine zs_iinc (pc := 67) t135_67 (ls' := [(4, .int w34v), (2, .long w33v), (5, .long w27v), (0, .ref (181 + 3 * i0)), (1, .ref 7)]) (zml mf135 (by decide)) rfl (c := w34v) w34e rfl ?_
          refine zs_goto (pc := 70) t135_70 ?_
          refine zGo.locals (ls' := [(0, .ref (181 + 3 * i0)), (1, .ref 7), (2, .long w33v), (4, .int w34v)]) (by simp) ?_
          have w35 := w34
          exact w7ih (w7m - 1) (by omega) w33v w34v ⟨by omega, by omega⟩ (by omega) (fun i hi => by obtain rfl : i = w16n + 1 := (by omega); refine Eq.trans ?_ (if_neg (show ¬ hq w16n < 0 by omega)).symm; rw [← w7t0 w16n (by omega), ← hx, ← hy, ← x4.1, ← x4.2.1, ← x4.2.2.1]; subst w33x0 w32x0 w31 w30 w27 w26; rfl) (by omega)
  refine zGo.locals (ls' := [(0, .ref (181 + 3 * i0)), (1, .ref 7), (2, .long (0 : Int64)), (4, .int (0 : Int32))]) (by simp) ?_
  have w36 := ll0
  have w37 := li0
  exact w7L ((8 - 0 : Int).toNat) (0 : Int64) (0 : Int32) ⟨by decide, by decide⟩ (by omega) (fun i hi => by obtain rfl : i = 0 := (by omega); rfl) (by omega)
theorem V124 {X : zX} {l : Launch} {M : zM} {Q : Option Value → zM → Prop} {a : Int32} (hs : zSk zMc M) (hI : zIv cLo cHi M) {n : Nat} {τ : Nat → zTkk} (x0 : (zI M 165 2).toInt = (n : Int) ∧ n ≤ 20) (x1 : ∀ i : Nat, i < n → zTrk M (181 + 3 * i) (τ i)) (hQ : ∀ v : Int32, (v.toInt = pct (fun i => decide (a.toInt ≤ (τ i).2.1)) n) → 0 ≤ v.toInt → v.toInt ≤ 20 → Q (some (.int v)) M) : zCall X l 1 0 0 124 [.ref 164, .int a] M Q := by
  have ga := zrg a
  refine zs_in (by decide) mf124 (Nat.le_of_ble_eq_true rfl) ?_
  show zGo X l 1 0 0 124 0 [(0, .ref 164), (1, .int a)] [] M _
  refine zs_iconst (pc := 0) t124_0 (v := 0) (by decide) ?_
  refine zs_istore_n (pc := 1) t124_1 (ls' := [(2, .int (0 : Int32)), (0, .ref 164), (1, .int a)]) (zml mf124 (by decide)) rfl ?_
  refine zs_iconst (pc := 2) t124_2 (v := 0) (by decide) ?_
  refine zs_istore_n (pc := 3) t124_3 (ls' := [(3, .int (0 : Int32)), (2, .int (0 : Int32)), (0, .ref 164), (1, .int a)]) (zml mf124 (by decide)) rfl ?_
  have w1L : ∀ (m : Nat) (w1x2 : Int32) (w1x3 : Int32), (0 ≤ w1x2.toInt ∧ w1x2.toInt ≤ 20) → (0 ≤ w1x3.toInt ∧ w1x3.toInt ≤ 20) → (w1x2.toInt ≤ w1x3.toInt) → (w1x3.toInt ≤ n) → (∀ i : Nat, (i : Int) = w1x3.toInt → w1x2.toInt = pct (fun i => decide (a.toInt ≤ (τ i).2.1)) i) → 20 - w1x3.toInt ≤ (m : Int) → zGo X l 1 0 0 124 4 [(0, .ref 164), (1, .int a), (2, .int w1x2), (3, .int w1x3)] [] M Q := by
    intro m
    induction m using Nat.strongRecOn with
    | ind w1m w1ih =>
      intro w1x2 w1x3 w1b2 w1b3 w1r0 w1r1 w1t0 w1q
      refine zs_iload_n (pc := 4) t124_4 rfl ?_
      refine zs_aload_n (pc := 5) t124_5 rfl ?_
      refine zs_get (pc := 6) t124_6 (by decide) (zk1 (hs.k fk_zMc_164)) (hs.p rfl fv_zMc_164_1) ?_
      refine zs_invV (pc := 9) (k := 165) (as' := []) (st := [.int w1x3]) t124_9 mf125 rfl rfl (Or.inl ⟨by decide, (zk1 (hs.k fk_zMc_165))⟩) ⟨by decide, by decide, Nat.le_of_ble_eq_true rfl, Nat.le_of_ble_eq_true rfl⟩ (zs_in (by decide) mf125 (Nat.le_of_ble_eq_true rfl) ?_) (fun _ _ q => q)
      show zGo X l 0 0 0 125 0 [(0, .ref 165)] [] M _
      refine zs_aload_n (pc := 0) t125_0 rfl ?_
      have w2 := ib165_2 hI
      refine zs_get (pc := 1) t125_1 (by decide) (zk1 (hs.k fk_zMc_165)) (zfvi rfl rfl) ?_
      refine zs_iret (pc := 4) t125_4 mr125 rfl ?_
      show zGo X l 1 0 0 124 12 [(0, .ref 164), (1, .int a), (2, .int w1x2), (3, .int w1x3)] [.int (zI M 165 2), .int w1x3] M _
      by_cases w3 : (zI M 165 2).toInt ≤ w1x3.toInt
      · refine zs_icmp_geT (pc := 12) t124_12 rfl rfl (by omega) ?_
        refine zs_iload_n (pc := 48) t124_48 rfl ?_
        exact zs_iret (pc := 49) t124_49 mr124 rfl (hQ _ (w1t0 n (by omega)) (by omega) (by omega))
      · refine zs_icmp_geF (pc := 12) t124_12 rfl rfl (by omega) ?_
        refine zs_aload_n (pc := 15) t124_15 rfl ?_
        refine zs_get (pc := 16) t124_16 (by decide) (zk1 (hs.k fk_zMc_164)) (hs.p rfl fv_zMc_164_1) ?_
        refine zs_iload_n (pc := 19) t124_19 rfl ?_
        refine zs_invV (pc := 20) (k := 165) (as' := [.int w1x3]) (st := []) t124_20 mf126 rfl rfl (Or.inl ⟨by decide, (zk1 (hs.k fk_zMc_165))⟩) ⟨by decide, by decide, Nat.le_of_ble_eq_true rfl, Nat.le_of_ble_eq_true rfl⟩ (zs_in (by decide) mf126 (Nat.le_of_ble_eq_true rfl) ?_) (fun _ _ q => q)
        show zGo X l 0 0 0 126 0 [(0, .ref 165), (1, .int w1x3)] [] M _
        refine zs_iload_n (pc := 0) t126_0 rfl ?_
        refine zs_if_ltF (pc := 1) t126_1 rfl (by omega) ?_
        refine zs_iload_n (pc := 4) t126_4 rfl ?_
        refine zs_aload_n (pc := 5) t126_5 rfl ?_
        refine zs_get (pc := 6) t126_6 (by decide) (zk1 (hs.k fk_zMc_165)) (zfvi rfl rfl) ?_
        by_cases w4 : (zI M 165 2).toInt ≤ w1x3.toInt
        · refine zs_icmp_geT (pc := 9) t126_9 rfl rfl (by omega) ?_
          refine zs_aconst_null (pc := 21) t126_21 ?_
          refine zs_aret0 (pc := 22) t126_22 (by rw [mr126]; rfl) ?_
          show zGo X l 1 0 0 124 23 [(0, .ref 164), (1, .int a), (2, .int w1x2), (3, .int w1x3)] [.null] M _
          refine zs_astore0 (pc := 23) t124_23 (ls' := [(4, .null), (0, .ref 164), (1, .int a), (2, .int w1x2), (3, .int w1x3)]) (zml mf124 (by decide)) rfl ?_
          refine zs_aload0 (pc := 25) t124_25 rfl ?_
          refine zs_ifnullT (pc := 27) t124_27 ?_
          obtain ⟨w5v, w5e, w5⟩ := ziadd (a := w1x3) (b := Int32.ofInt 1) rfl (show (Int32.ofInt 1).toInt = 1 by decide) (by omega) (by omega)
          refine zs_iinc (pc := 42) t124_42 (ls' := [(3, .int w5v), (4, .null), (0, .ref 164), (1, .int a), (2, .int w1x2)]) (zml mf124 (by decide)) rfl (c := w5v) w5e rfl ?_
          refine zs_goto (pc := 45) t124_45 ?_
          refine zGo.locals (ls' := [(0, .ref 164), (1, .int a), (2, .int w1x2), (3, .int w5v)]) (by simp) ?_
          have w6 := w5
          obtain ⟨w7n, w7⟩ : ∃ n : Nat, w1x3.toInt = (n : Int) := ⟨(w1x3.toInt).toNat, by omega⟩
          exact w1ih (w1m - 1) (by omega) w1x2 w5v ⟨by omega, by omega⟩ ⟨by omega, by omega⟩ (by omega) (by omega) (fun i hi => by obtain rfl : i = w7n + 1 := (by omega); have z := w1t0 w7n (by omega); have y := (x1 w7n (by omega)).2.2.2.1; rw [pct.n (P := fun i => decide (a.toInt ≤ (τ i).2.1)) (decide_eq_false (show ¬ a.toInt ≤ (τ w7n).2.1 by omega))]; exact z) (by omega)
        · refine zs_icmp_geF (pc := 9) t126_9 rfl rfl (by omega) ?_
          refine zs_aload_n (pc := 12) t126_12 rfl ?_
          refine zs_get (pc := 13) t126_13 (by decide) (zk1 (hs.k fk_zMc_165)) (hs.p rfl fv_zMc_165_1) ?_
          refine zs_iload_n (pc := 16) t126_16 rfl ?_
          obtain ⟨w8n, w8⟩ : ∃ n : Nat, w1x3.toInt = (n : Int) := ⟨(w1x3.toInt).toNat, by omega⟩
          have w9 : w8n < 20 := by omega
          refine zs_aald (pc := 17) t126_17 (j := w8n) (Or.inr (zk1 (hs.k fk_zMc_179))) (show w1x3.toInt = ((w8n : Nat) : Int) by omega) (zk2 (hs.k fk_zMc_179) (by omega)) (hs.a (fpT181 w8n w9)) ?_
          refine zs_goto (pc := 18) t126_18 ?_
          refine zs_aret (pc := 22) t126_22 (by rw [mr126]; rfl) ?_
          show zGo X l 1 0 0 124 23 [(0, .ref 164), (1, .int a), (2, .int w1x2), (3, .int w1x3)] [.ref (181 + 3 * w8n)] M _
          refine zs_astore (pc := 23) t124_23 (ls' := [(4, .ref (181 + 3 * w8n)), (0, .ref 164), (1, .int a), (2, .int w1x2), (3, .int w1x3)]) (zml mf124 (by decide)) rfl ?_
          refine zs_aload (pc := 25) t124_25 rfl ?_
          refine zs_ifnullF (pc := 27) t124_27 ?_
          refine zs_aload (pc := 30) t124_30 rfl ?_
          have w10 := zrg (zI M (181 + 3 * w8n) 3)
          refine zs_get (pc := 32) t124_32 (by decide) (zk1 (hs.k (fT181_0 w8n w9))) (zfvi rfl rfl) ?_
          refine zs_iload_n (pc := 35) t124_35 rfl ?_
          by_cases w11 : (zI M (181 + 3 * w8n) 3).toInt < a.toInt
          · refine zs_icmp_ltT (pc := 36) t124_36 rfl rfl (by omega) ?_
            obtain ⟨w12v, w12e, w12⟩ := ziadd (a := w1x3) (b := Int32.ofInt 1) rfl (show (Int32.ofInt 1).toInt = 1 by decide) (by omega) (by omega)
            refine zs_iinc (pc := 42) t124_42 (ls' := [(3, .int w12v), (4, .ref (181 + 3 * w8n)), (0, .ref 164), (1, .int a), (2, .int w1x2)]) (zml mf124 (by decide)) rfl (c := w12v) w12e rfl ?_
            refine zs_goto (pc := 45) t124_45 ?_
            refine zGo.locals (ls' := [(0, .ref 164), (1, .int a), (2, .int w1x2), (3, .int w12v)]) (by simp) ?_
            have w13 := w12
            exact w1ih (w1m - 1) (by omega) w1x2 w12v ⟨by omega, by omega⟩ ⟨by omega, by omega⟩ (by omega) (by omega) (fun i hi => by obtain rfl : i = w8n + 1 := (by omega); have z := w1t0 w8n (by omega); have y := (x1 w8n (by omega)).2.2.2.1; rw [pct.n (P := fun i => decide (a.toInt ≤ (τ i).2.1)) (decide_eq_false (show ¬ a.toInt ≤ (τ w8n).2.1 by omega))]; exact z) (by omega)
          · refine zs_icmp_ltF (pc := 36) t124_36 rfl rfl (by omega) ?_
            obtain ⟨w14v, w14e, w14⟩ := ziadd (a := w1x2) (b := Int32.ofInt 1) rfl (show (Int32.ofInt 1).toInt = 1 by decide) (by omega) (by omega)
            refine zs_iinc (pc := 39) t124_39 (ls' := [(2, .int w14v), (4, .ref (181 + 3 * w8n)), (0, .ref 164), (1, .int a), (3, .int w1x3)]) (zml mf124 (by decide)) rfl (c := w14v) w14e rfl ?_
            obtain ⟨w15v, w15e, w15⟩ := ziadd (a := w1x3) (b := Int32.ofInt 1) rfl (show (Int32.ofInt 1).toInt = 1 by decide) (by omega) (by omega)
            refine zs_iinc (pc := 42) t124_42 (ls' := [(3, .int w15v), (2, .int w14v), (4, .ref (181 + 3 * w8n)), (0, .ref 164), (1, .int a)]) (zml mf124 (by decide)) rfl (c := w15v) w15e rfl ?_
            refine zs_goto (pc := 45) t124_45 ?_
            refine zGo.locals (ls' := [(0, .ref 164), (1, .int a), (2, .int w14v), (3, .int w15v)]) (by simp) ?_
            have w16 := w14
            have w17 := w15
            exact w1ih (w1m - 1) (by omega) w14v w15v ⟨by omega, by omega⟩ ⟨by omega, by omega⟩ (by omega) (by omega) (fun i hi => by obtain rfl : i = w8n + 1 := (by omega); have z := w1t0 w8n (by omega); have y := (x1 w8n (by omega)).2.2.2.1; rw [pct.y (P := fun i => decide (a.toInt ≤ (τ i).2.1)) (decide_eq_true (show a.toInt ≤ (τ w8n).2.1 by omega))]; omega) (by omega)
  refine zGo.locals (ls' := [(0, .ref 164), (1, .int a), (2, .int (0 : Int32)), (3, .int (0 : Int32))]) (by simp) ?_
  have w18 := li0
  have w19 := li0
  exact w1L ((20 - 0 : Int).toNat) (0 : Int32) (0 : Int32) ⟨by decide, by decide⟩ ⟨by decide, by decide⟩ (by omega) (by omega) (fun i hi => by obtain rfl : i = 0 := (by omega); rfl) (by omega)
theorem V131 {X : zX} {l : Launch} {M : zM} {Q : Option Value → zM → Prop} (hs : zSk zMc M) (hI : zIv cLo cHi M) {F : Nat → Int} {n mm : Nat} {τ : Nat → zTkk} (x0 : zSo M 7 F) (x1 : zWF F) (x2 : (zI M 165 2).toInt = (n : Int) ∧ n ≤ 20) (x3 : ∀ i : Nat, i < n → zTrk M (181 + 3 * i) (τ i)) (x4 : (zI M 164 4).toInt = (mm : Int) ∧ mm ≤ n) (x5 : zHv F n τ) (hQ : ∀ M', zSk zMc M' → zIv cLo cHi M' → zFr [(181, 240, none)] M M' → (zTf M M' ∧ ∀ q, q < mm → zDr M' F τ q) → Q none M') : zCall X l 4 0 0 131 [.ref 164, .ref 7] M Q := by
  refine zs_in (by decide) mf131 (Nat.le_of_ble_eq_true rfl) ?_
  show zGo X l 4 0 0 131 0 [(0, .ref 164), (1, .ref 7)] [] M _
  have f0 := x0.1
  have w1 := ib7_0 hI
  have w2 : (zI M 7 0).toInt = (zI M 7 0).toInt := (congrArg Int32.toInt rfl).trans rfl
  have w3 := ib7_3 hI
  have w4 : (zI M 7 3).toInt = (zI M 7 3).toInt := (congrArg Int32.toInt rfl).trans rfl
  have w5 := ib7_8 hI
  have w6 : (zI M 7 8).toInt = (zI M 7 8).toInt := (congrArg Int32.toInt rfl).trans rfl
  have f1 := x1.1
  have f3 := x1.2.2.2
  have f2 := (show (zI M 7 0).toInt = F 0 ∧ (zI M 7 3).toInt = F 1 ∧ (zI M 7 8).toInt = F 2 from ⟨x0.1.1, x0.1.2.1, x0.1.2.2.1⟩)
  obtain ⟨xn, xn2⟩ := x2
  obtain ⟨xm, xm2⟩ := x4
  refine zs_iconst (pc := 0) t131_0 (v := 0) (by decide) ?_
  refine zs_istore_n (pc := 1) t131_1 (ls' := [(2, .int (0 : Int32)), (0, .ref 164), (1, .ref 7)]) (zml mf131 (by decide)) rfl ?_
  have w7L : ∀ (m : Nat) (w7x2 : Int32) (w7M : zM), (0 ≤ w7x2.toInt ∧ w7x2.toInt ≤ 20) → zSk zMc w7M → zIv cLo cHi w7M → zFr [(181, 240, none)] M w7M → (w7x2.toInt ≤ mm) → (∀ i : Nat, (i : Int) = w7x2.toInt → zTf M w7M ∧ ∀ q, q < i → zDr w7M F τ q) → 20 - w7x2.toInt ≤ (m : Int) → zGo X l 4 0 0 131 2 [(0, .ref 164), (1, .ref 7), (2, .int w7x2)] [] w7M Q := by
    intro m
    induction m using Nat.strongRecOn with
    | ind w7m w7ih =>
      intro w7x2 w7M w7b2 w7s w7I w7F w7r0 w7t0 w7q
      obtain ⟨w8n, w8⟩ : ∃ n : Nat, w7x2.toInt = (n : Int) := ⟨(w7x2.toInt).toNat, by omega⟩
      have hT := w7t0 w8n (by omega)
      refine zs_iload_n (pc := 2) t131_2 rfl ?_
      refine zs_aload_n (pc := 3) t131_3 rfl ?_
      have w9 := ib164_4 hI
      refine zs_get (pc := 4) t131_4 (by decide) (zk1 (w7s.k fk_zMc_164)) (zfvi rfl ((w7F 164 4 rfl).trans rfl)) ?_
      by_cases w10 : (zI M 164 4).toInt ≤ w7x2.toInt
      · refine zs_icmp_geT (pc := 7) t131_7 rfl rfl (by omega) ?_
        exact zs_vret (pc := 39) t131_39 mr131 (hQ _ w7s w7I ((zFr.refl).trans (w7F.mono rfl)) (w7t0 mm (by omega)))
      · refine zs_icmp_geF (pc := 7) t131_7 rfl rfl (by omega) ?_
        refine zs_aload_n (pc := 10) t131_10 rfl ?_
        refine zs_get (pc := 11) t131_11 (by decide) (zk1 (w7s.k fk_zMc_164)) (w7s.p rfl fv_zMc_164_1) ?_
        refine zs_iload_n (pc := 14) t131_14 rfl ?_
        refine zs_invV (pc := 15) (k := 165) (as' := [.int w7x2]) (st := []) t131_15 mf126 rfl rfl (Or.inl ⟨by decide, (zk1 (w7s.k fk_zMc_165))⟩) ⟨by decide, by decide, Nat.le_of_ble_eq_true rfl, Nat.le_of_ble_eq_true rfl⟩ (zs_in (by decide) mf126 (Nat.le_of_ble_eq_true rfl) ?_) (fun _ _ q => q)
        show zGo X l 0 0 0 126 0 [(0, .ref 165), (1, .int w7x2)] [] w7M _
        refine zs_iload_n (pc := 0) t126_0 rfl ?_
        refine zs_if_ltF (pc := 1) t126_1 rfl (by omega) ?_
        refine zs_iload_n (pc := 4) t126_4 rfl ?_
        refine zs_aload_n (pc := 5) t126_5 rfl ?_
        have w11 := ib165_2 hI
        refine zs_get (pc := 6) t126_6 (by decide) (zk1 (w7s.k fk_zMc_165)) (zfvi rfl ((w7F 165 2 rfl).trans rfl)) ?_
        by_cases w12 : (zI M 165 2).toInt ≤ w7x2.toInt
        · refine zs_icmp_geT (pc := 9) t126_9 rfl rfl (by omega) ?_
          refine zs_aconst_null (pc := 21) t126_21 ?_
          refine zs_aret0 (pc := 22) t126_22 (by rw [mr126]; rfl) ?_
          show zGo X l 4 0 0 131 18 [(0, .ref 164), (1, .ref 7), (2, .int w7x2)] [.null] w7M _
          refine zs_astore_n0 (pc := 18) t131_18 (ls' := [(3, .null), (0, .ref 164), (1, .ref 7), (2, .int w7x2)]) (zml mf131 (by decide)) rfl ?_
          refine zs_aload_n0 (pc := 19) t131_19 rfl ?_
          refine zs_ifnullT (pc := 20) t131_20 ?_
          obtain ⟨w13v, w13e, w13⟩ := ziadd (a := w7x2) (b := Int32.ofInt 1) rfl (show (Int32.ofInt 1).toInt = 1 by decide) (by omega) (by omega)
          refine zs_iinc (pc := 33) t131_33 (ls' := [(2, .int w13v), (3, .null), (0, .ref 164), (1, .ref 7)]) (zml mf131 (by decide)) rfl (c := w13v) w13e rfl ?_
          refine zs_goto (pc := 36) t131_36 ?_
          refine zGo.locals (ls' := [(0, .ref 164), (1, .ref 7), (2, .int w13v)]) (by simp) ?_
          have w14 := w13
          exact w7ih (w7m - 1) (by omega) w13v w7M ⟨by omega, by omega⟩ w7s w7I ((zFr.refl).trans (w7F.mono rfl)) (by omega) (by exfalso; omega) (by omega)
        · refine zs_icmp_geF (pc := 9) t126_9 rfl rfl (by omega) ?_
          refine zs_aload_n (pc := 12) t126_12 rfl ?_
          refine zs_get (pc := 13) t126_13 (by decide) (zk1 (w7s.k fk_zMc_165)) (w7s.p rfl fv_zMc_165_1) ?_
          refine zs_iload_n (pc := 16) t126_16 rfl ?_
          have w15 : w8n < 20 := by omega
          refine zs_aald (pc := 17) t126_17 (j := w8n) (Or.inr (zk1 (w7s.k fk_zMc_179))) (show w7x2.toInt = ((w8n : Nat) : Int) by omega) (zk2 (w7s.k fk_zMc_179) (by omega)) (w7s.a (fpT181 w8n w15)) ?_
          refine zs_goto (pc := 18) t126_18 ?_
          refine zs_aret (pc := 22) t126_22 (by rw [mr126]; rfl) ?_
          show zGo X l 4 0 0 131 18 [(0, .ref 164), (1, .ref 7), (2, .int w7x2)] [.ref (181 + 3 * w8n)] w7M _
          refine zs_astore_n (pc := 18) t131_18 (ls' := [(3, .ref (181 + 3 * w8n)), (0, .ref 164), (1, .ref 7), (2, .int w7x2)]) (zml mf131 (by decide)) rfl ?_
          refine zs_aload_n (pc := 19) t131_19 rfl ?_
          refine zs_ifnullF (pc := 20) t131_20 ?_
          refine zs_aload_n (pc := 23) t131_23 rfl ?_
          refine zs_aload_n (pc := 24) t131_24 rfl ?_
          refine zs_invV (pc := 25) (k := (181 + 3 * w8n)) (as' := [.ref 7]) (st := []) t131_25 mf132 rfl rfl (Or.inl ⟨by decide, (zk1 (w7s.k (fT181_0 w8n w15)))⟩) ⟨by decide, by decide, Nat.le_of_ble_eq_true rfl, Nat.le_of_ble_eq_true rfl⟩ (V132 (hi0 := w15) (hq := (τ w8n).2.2) w7s w7I (zSo.fr x0 (zFr.eq w7F rfl)) x1 (fun l hl => (congrArg Int32.toInt ((show zI w7M (181 + 3 * w8n + 1) l = zI w7M (181 + 3 * w8n + 1) l from rfl).trans ((hT.1 w8n (by omega)).2 l))).trans ((x3 w8n (by omega)).2.2.2.2 l hl)) (x5 w8n (by omega)) ?_) (fun _ _ q => q)
          intro w16M w16s w16I w16F w16x0 w16x1
          have w16f : ∀ k j : Nat, zI w16M k j = zI w7M k j := fun k j => w16F k j rfl
          have w16ln : zLin w16M (181 + 3 * w8n) (zSums F (zI w16M (181 + 3 * w8n) 0).toInt (τ w8n).2.2 (F 0).toNat) := by
            rw [w16f]
            exact w16x0
          show zGo X l 4 0 0 131 28 [(3, .ref (181 + 3 * w8n)), (0, .ref 164), (1, .ref 7), (2, .int w7x2)] [] w16M _
          refine zs_aload_n (pc := 28) t131_28 rfl ?_
          refine zs_aload_n (pc := 29) t131_29 rfl ?_
          refine zs_invV (pc := 30) (k := (181 + 3 * w8n)) (as' := [.ref 7]) (st := []) t131_30 mf135 rfl rfl (Or.inl ⟨by decide, (zk1 (w16s.k (fT181_0 w8n w15)))⟩) ⟨by decide, by decide, Nat.le_of_ble_eq_true rfl, Nat.le_of_ble_eq_true rfl⟩ (V135 (hi0 := w15) (hq := (τ w8n).2.2) w16s w16I (zSo.fr x0 (zEq.tr (zFr.eq w7F rfl) (zFr.eq w16F rfl))) x1 (fun l hl => (congrArg Int32.toInt ((show zI w16M (181 + 3 * w8n + 1) l = zI w7M (181 + 3 * w8n + 1) l from (w16f _ l)).trans ((hT.1 w8n (by omega)).2 l))).trans ((x3 w8n (by omega)).2.2.2.2 l hl)) (x5 w8n (by omega)) w16ln ?_) (fun _ _ q => q)
          intro w17M w17s w17I w17F w17x0 w17x1 w17x2
          show zGo X l 4 0 0 131 33 [(3, .ref (181 + 3 * w8n)), (0, .ref 164), (1, .ref 7), (2, .int w7x2)] [] w17M _
          obtain ⟨w18v, w18e, w18⟩ := ziadd (a := w7x2) (b := Int32.ofInt 1) rfl (show (Int32.ofInt 1).toInt = 1 by decide) (by omega) (by omega)
          refine zs_iinc (pc := 33) t131_33 (ls' := [(2, .int w18v), (3, .ref (181 + 3 * w8n)), (0, .ref 164), (1, .ref 7)]) (zml mf131 (by decide)) rfl (c := w18v) w18e rfl ?_
          refine zs_goto (pc := 36) t131_36 ?_
          refine zGo.locals (ls' := [(0, .ref 164), (1, .ref 7), (2, .int w18v)]) (by simp) ?_
          have w19 := w18
          exact w7ih (w7m - 1) (by omega) w18v w17M ⟨by omega, by omega⟩ w17s w17I ((((zFr.refl).trans (w7F.mono rfl)).trans (w16F.mono rfl)).trans (w17F.mono rfl)) (by omega) (fun i hi => by obtain rfl : i = w8n + 1 := (by omega); exact zDl.step hT (by omega) (x3 w8n (by omega)) w16f w16x1 w16x0 w17x1 w17x2 w17x0) (by omega)
  refine zGo.locals (ls' := [(0, .ref 164), (1, .ref 7), (2, .int (0 : Int32))]) (by simp) ?_
  have w20 := li0
  exact w7L ((20 - 0 : Int).toNat) (0 : Int32) M ⟨by decide, by decide⟩ hs hI zFr.refl (by omega) (fun i hi => by obtain rfl : i = 0 := (by omega); exact ⟨zTf.id, fun q hq => absurd hq (by omega)⟩) (by omega)
theorem V140 {X : zX} {l : Launch} {M : zM} {Q : Option Value → zM → Prop} {aL bL : Int64} (hs : zSk zMc M) (hI : zIv cLo cHi M) (hbL : 1 ≤ bL.toInt ∧ bL.toInt ≤ 9223372036854775807) (hQ : ∀ v : Int64, (v = fdL aL bL) → Q (some (.long v)) M) : zCall X l 0 0 0 140 [.long aL, .long bL] M Q := by
  have gaL := zrg64 aL
  have gbL := zrg64 bL
  refine zs_in (by decide) mf140 (Nat.le_of_ble_eq_true rfl) ?_
  show zGo X l 0 0 0 140 0 [(0, .long aL), (2, .long bL)] [] M _
  refine zs_lload_n (pc := 0) t140_0 rfl ?_
  refine zs_lload_n (pc := 1) t140_1 rfl ?_
  obtain ⟨w1v, w1⟩ : ∃ v, aL / bL = v := ⟨_, rfl⟩
  have w1g := zrg64 w1v
  refine zs_ldiv (pc := 2) t140_2 (znz64 rfl (by omega)) (c := w1v) w1 ?_
  refine zs_lstore (pc := 3) t140_3 (ls' := [(4, .long w1v), (0, .long aL), (2, .long bL)]) (zml mf140 (by decide)) rfl ?_
  refine zs_lload_n (pc := 5) t140_5 rfl ?_
  refine zs_lload_n (pc := 6) t140_6 rfl ?_
  obtain ⟨w2v, w2⟩ : ∃ v, aL ^^^ bL = v := ⟨_, rfl⟩
  have w2g := zrg64 w2v
  refine zs_lxor (pc := 7) t140_7 (c := w2v) w2 ?_
  refine zs_lconst (pc := 8) t140_8 (v := 0) (by decide) ?_
  by_cases w3 : w2v.toInt < 0
  · refine zs_lcmp (pc := 9) t140_9 (c := -1) (zlcL rfl ll0 (by omega)) ?_
    refine zs_if_geF (pc := 10) t140_10 lin1 (by decide) ?_
    refine zs_lload (pc := 13) t140_13 rfl ?_
    refine zs_lload_n (pc := 15) t140_15 rfl ?_
    obtain ⟨w4v, w4⟩ : ∃ v, w1v * bL = v := ⟨_, rfl⟩
    have w4g := zrg64 w4v
    refine zs_lmul (pc := 16) t140_16 (c := w4v) w4 ?_
    refine zs_lload_n (pc := 17) t140_17 rfl ?_
    by_cases w5 : w4v.toInt < aL.toInt
    · refine zs_lcmp (pc := 18) t140_18 (c := -1) (zlcL rfl rfl (by omega)) ?_
      refine zs_if_eqF (pc := 19) t140_19 lin1 (by decide) ?_
      refine zs_lload (pc := 22) t140_22 rfl ?_
      refine zs_lconst (pc := 24) t140_24 (v := 1) (by decide) ?_
      obtain ⟨w6v, w6⟩ : ∃ v, w1v - (1 : Int64) = v := ⟨_, rfl⟩
      have w6g := zrg64 w6v
      refine zs_lsub (pc := 25) t140_25 (c := w6v) w6 ?_
      exact zs_lret (pc := 26) t140_26 mr140 (hQ _ (by unfold fdL; subst w1 w2 w4 w6; first | exact (if_neg (fun c => by have z := c.1; omega)).symm | exact (if_neg (fun c => c.2 (Int64.toInt_inj.mp (by omega)))).symm | exact (if_pos ⟨by omega, fun e => by have z := congrArg Int64.toInt e; omega⟩).symm))
    by_cases w7 : w4v.toInt = aL.toInt
    · refine zs_lcmp (pc := 18) t140_18 (c := 0) (zlcE rfl rfl (by omega)) ?_
      refine zs_if_eqT (pc := 19) t140_19 li0 (by decide) ?_
      refine zs_lload (pc := 27) t140_27 rfl ?_
      exact zs_lret (pc := 29) t140_29 mr140 (hQ _ (by unfold fdL; subst w1 w2 w4; first | exact (if_neg (fun c => by have z := c.1; omega)).symm | exact (if_neg (fun c => c.2 (Int64.toInt_inj.mp (by omega)))).symm | exact (if_pos ⟨by omega, fun e => by have z := congrArg Int64.toInt e; omega⟩).symm))
    refine zs_lcmp (pc := 18) t140_18 (c := 1) (zlcG rfl rfl (by omega)) ?_
    refine zs_if_eqF (pc := 19) t140_19 li1 (by decide) ?_
    refine zs_lload (pc := 22) t140_22 rfl ?_
    refine zs_lconst (pc := 24) t140_24 (v := 1) (by decide) ?_
    obtain ⟨w9v, w9⟩ : ∃ v, w1v - (1 : Int64) = v := ⟨_, rfl⟩
    have w9g := zrg64 w9v
    refine zs_lsub (pc := 25) t140_25 (c := w9v) w9 ?_
    exact zs_lret (pc := 26) t140_26 mr140 (hQ _ (by unfold fdL; subst w1 w2 w4 w9; first | exact (if_neg (fun c => by have z := c.1; omega)).symm | exact (if_neg (fun c => c.2 (Int64.toInt_inj.mp (by omega)))).symm | exact (if_pos ⟨by omega, fun e => by have z := congrArg Int64.toInt e; omega⟩).symm))
  by_cases w10 : w2v.toInt = 0
  · refine zs_lcmp (pc := 9) t140_9 (c := 0) (zlcE rfl ll0 (by omega)) ?_
    refine zs_if_geT (pc := 10) t140_10 li0 (by decide) ?_
    refine zs_lload (pc := 27) t140_27 rfl ?_
    exact zs_lret (pc := 29) t140_29 mr140 (hQ _ (by unfold fdL; subst w1 w2; first | exact (if_neg (fun c => by have z := c.1; omega)).symm | exact (if_neg (fun c => c.2 (Int64.toInt_inj.mp (by omega)))).symm | exact (if_pos ⟨by omega, fun e => by have z := congrArg Int64.toInt e; omega⟩).symm))
  refine zs_lcmp (pc := 9) t140_9 (c := 1) (zlcG rfl ll0 (by omega)) ?_
  refine zs_if_geT (pc := 10) t140_10 li1 (by decide) ?_
  refine zs_lload (pc := 27) t140_27 rfl ?_
  exact zs_lret (pc := 29) t140_29 mr140 (hQ _ (by unfold fdL; subst w1 w2; first | exact (if_neg (fun c => by have z := c.1; omega)).symm | exact (if_neg (fun c => c.2 (Int64.toInt_inj.mp (by omega)))).symm | exact (if_pos ⟨by omega, fun e => by have z := congrArg Int64.toInt e; omega⟩).symm))
theorem V138 {X : zX} {l : Launch} {M : zM} {Q : Option Value → zM → Prop} {a : Int32} (hs : zSk zMc M) (hI : zIv cLo cHi M) {F : Nat → Int} {n mm : Nat} {τ : Nat → zTkk} (x0 : (zI M 165 2).toInt = (n : Int) ∧ n ≤ 20 ∧ mm ≤ n) (x1 : ∀ q : Nat, q < mm → zDr M F τ q) (hQ : ∀ v : Int32, (∀ i0 : Nat, a.toInt = (i0 : Int) → i0 < mm → v = sT F (τ i0)) → Q (some (.int v)) M) : zCall X l 2 0 0 138 [.ref 164, .int a] M Q := by
  have ga := zrg a
  refine zs_in (by decide) mf138 (Nat.le_of_ble_eq_true rfl) ?_
  show zGo X l 2 0 0 138 0 [(0, .ref 164), (1, .int a)] [] M _
  obtain ⟨xn, xn2, xn3⟩ := x0
  refine zs_aload_n (pc := 0) t138_0 rfl ?_
  refine zs_get (pc := 1) t138_1 (by decide) (zk1 (hs.k fk_zMc_164)) (hs.p rfl fv_zMc_164_1) ?_
  refine zs_iload_n (pc := 4) t138_4 rfl ?_
  refine zs_invV (pc := 5) (k := 165) (as' := [.int a]) (st := []) t138_5 mf126 rfl rfl (Or.inl ⟨by decide, (zk1 (hs.k fk_zMc_165))⟩) ⟨by decide, by decide, Nat.le_of_ble_eq_true rfl, Nat.le_of_ble_eq_true rfl⟩ (zs_in (by decide) mf126 (Nat.le_of_ble_eq_true rfl) ?_) (fun _ _ q => q)
  show zGo X l 0 0 0 126 0 [(0, .ref 165), (1, .int a)] [] M _
  refine zs_iload_n (pc := 0) t126_0 rfl ?_
  by_cases w1 : a.toInt < 0
  · refine zs_if_ltT (pc := 1) t126_1 rfl (by omega) ?_
    refine zs_aconst_null (pc := 21) t126_21 ?_
    refine zs_aret0 (pc := 22) t126_22 (by rw [mr126]; rfl) ?_
    show zGo X l 2 0 0 138 8 [(0, .ref 164), (1, .int a)] [.null] M _
    refine zs_astore_n0 (pc := 8) t138_8 (ls' := [(2, .null), (0, .ref 164), (1, .int a)]) (zml mf138 (by decide)) rfl ?_
    refine zs_aload_n0 (pc := 9) t138_9 rfl ?_
    refine zs_ifnonnullF (pc := 10) t138_10 ?_
    refine zs_iconst (pc := 13) t138_13 (v := 0) (by decide) ?_
    refine zs_goto (pc := 14) t138_14 ?_
    exact zs_iret (pc := 21) t138_21 mr138 (by decide) (hQ _ (fun i0 h1 h2 => by exfalso; omega))
  · refine zs_if_ltF (pc := 1) t126_1 rfl (by omega) ?_
    refine zs_iload_n (pc := 4) t126_4 rfl ?_
    refine zs_aload_n (pc := 5) t126_5 rfl ?_
    have w2 := ib165_2 hI
    refine zs_get (pc := 6) t126_6 (by decide) (zk1 (hs.k fk_zMc_165)) (zfvi rfl rfl) ?_
    by_cases w3 : (zI M 165 2).toInt ≤ a.toInt
    · refine zs_icmp_geT (pc := 9) t126_9 rfl rfl (by omega) ?_
      refine zs_aconst_null (pc := 21) t126_21 ?_
      refine zs_aret0 (pc := 22) t126_22 (by rw [mr126]; rfl) ?_
      show zGo X l 2 0 0 138 8 [(0, .ref 164), (1, .int a)] [.null] M _
      refine zs_astore_n0 (pc := 8) t138_8 (ls' := [(2, .null), (0, .ref 164), (1, .int a)]) (zml mf138 (by decide)) rfl ?_
      refine zs_aload_n0 (pc := 9) t138_9 rfl ?_
      refine zs_ifnonnullF (pc := 10) t138_10 ?_
      refine zs_iconst (pc := 13) t138_13 (v := 0) (by decide) ?_
      refine zs_goto (pc := 14) t138_14 ?_
      exact zs_iret (pc := 21) t138_21 mr138 (by decide) (hQ _ (fun i0 h1 h2 => by exfalso; omega))
    · refine zs_icmp_geF (pc := 9) t126_9 rfl rfl (by omega) ?_
      refine zs_aload_n (pc := 12) t126_12 rfl ?_
      refine zs_get (pc := 13) t126_13 (by decide) (zk1 (hs.k fk_zMc_165)) (hs.p rfl fv_zMc_165_1) ?_
      refine zs_iload_n (pc := 16) t126_16 rfl ?_
      obtain ⟨w4n, w4⟩ : ∃ n : Nat, a.toInt = (n : Int) := ⟨(a.toInt).toNat, by omega⟩
      have w5 : w4n < 20 := by omega
      refine zs_aald (pc := 17) t126_17 (j := w4n) (Or.inr (zk1 (hs.k fk_zMc_179))) (show a.toInt = ((w4n : Nat) : Int) by omega) (zk2 (hs.k fk_zMc_179) (by omega)) (hs.a (fpT181 w4n w5)) ?_
      refine zs_goto (pc := 18) t126_18 ?_
      refine zs_aret (pc := 22) t126_22 (by rw [mr126]; rfl) ?_
      show zGo X l 2 0 0 138 8 [(0, .ref 164), (1, .int a)] [.ref (181 + 3 * w4n)] M _
      refine zs_astore_n (pc := 8) t138_8 (ls' := [(2, .ref (181 + 3 * w4n)), (0, .ref 164), (1, .int a)]) (zml mf138 (by decide)) rfl ?_
      refine zs_aload_n (pc := 9) t138_9 rfl ?_
      refine zs_ifnonnullT (pc := 10) t138_10 ?_
      refine zs_aload_n (pc := 17) t138_17 rfl ?_
      refine zs_invV (pc := 18) (k := (181 + 3 * w4n)) (as' := []) (st := []) t138_18 mf139 rfl rfl (Or.inl ⟨by decide, (zk1 (hs.k (fT181_0 w4n w5)))⟩) ⟨by decide, by decide, Nat.le_of_ble_eq_true rfl, Nat.le_of_ble_eq_true rfl⟩ (zs_in (by decide) mf139 (Nat.le_of_ble_eq_true rfl) ?_) (fun _ _ q => q)
      show zGo X l 1 0 0 139 0 [(0, .ref (181 + 3 * w4n))] [] M _
      refine zs_aload_n (pc := 0) t139_0 rfl ?_
      have w6 := zrg64 (zJ M (181 + 3 * w4n) 9)
      refine zs_get (pc := 1) t139_1 (by decide) (zk1 (hs.k (fT181_0 w4n w5))) (zfvj rfl) ?_
      refine zs_lconst (pc := 4) t139_4 (v := 1) (by decide) ?_
      refine zs_aload_n (pc := 5) t139_5 rfl ?_
      have w7 := zrg64 (zJ M (181 + 3 * w4n) 8)
      refine zs_get (pc := 6) t139_6 (by decide) (zk1 (hs.k (fT181_0 w4n w5))) (zfvj rfl) ?_
      have w8 : (1 : Int64).toInt = 1 := ll1
      refine zs_invS (pc := 9) (as := [.long (1 : Int64), .long (zJ M (181 + 3 * w4n) 8)]) (st := [.long (zJ M (181 + 3 * w4n) 9)]) t139_9 (by decide) mf134 rfl rfl ⟨by decide, by decide, Nat.le_of_ble_eq_true rfl, Nat.le_of_ble_eq_true rfl⟩ (V134 hs hI ?_) (fun _ _ q => q)
      intro w9v w9x0
      have w9g := zrg64 w9v
      have w9g1 : 1 ≤ w9v.toInt := by rw [w9x0]; exact mxL.ge
      show zGo X l 1 0 0 139 12 [(0, .ref (181 + 3 * w4n))] [.long w9v, .long (zJ M (181 + 3 * w4n) 9)] M _
      refine zs_invS (pc := 12) (as := [.long (zJ M (181 + 3 * w4n) 9), .long w9v]) (st := []) t139_12 (by decide) mf140 rfl rfl ⟨by decide, by decide, Nat.le_of_ble_eq_true rfl, Nat.le_of_ble_eq_true rfl⟩ (V140 hs hI ⟨by omega, by omega⟩ ?_) (fun _ _ q => q)
      intro w10v w10x0
      have w10g := zrg64 w10v
      show zGo X l 1 0 0 139 15 [(0, .ref (181 + 3 * w4n))] [.long w10v] M _
      obtain ⟨w11v, w11⟩ : ∃ v, w10v.toInt32 = v := ⟨_, rfl⟩
      have w11g := zrg w11v
      refine zs_l2i (pc := 15) t139_15 (c := w11v) w11 ?_
      refine zs_iret (pc := 16) t139_16 mr139 rfl ?_
      show zGo X l 2 0 0 138 21 [(2, .ref (181 + 3 * w4n)), (0, .ref 164), (1, .int a)] [.int w11v] M _
      exact zs_iret (pc := 21) t138_21 mr138 rfl (hQ _ (fun i0 h1 h2 => by obtain rfl : w4n = i0 := (by omega); have z := (x1 w4n (by omega)).1; unfold sT; rw [← z.1, ← z.2.1]; subst w11 w10x0 w9x0; rfl))
theorem V137 {X : zX} {l : Launch} {M : zM} {Q : Option Value → zM → Prop} (hs : zSk zMc M) (hI : zIv cLo cHi M) {F : Nat → Int} {n mm : Nat} {τ : Nat → zTkk} (x0 : (zI M 165 2).toInt = (n : Int) ∧ n ≤ 20 ∧ mm ≤ n) (x1 : ∀ q : Nat, q < mm → zDr M F τ q) (x2 : (zI M 164 4).toInt = (mm : Int)) (hQ : ∀ M', zSk zMc M' → zIv cLo cHi M' → zFr [(320, 320, none)] M M' → (zOd M' 320 (fun i => sT F (τ i)) mm) → (∀ k j : Nat, zJ M' k j = zJ M k j) → Q none M') : zCall X l 3 0 0 137 [.ref 164] M Q := by
  refine zs_in (by decide) mf137 (Nat.le_of_ble_eq_true rfl) ?_
  show zGo X l 3 0 0 137 0 [(0, .ref 164)] [] M _
  obtain ⟨xn, xn2, xn3⟩ := x0
  refine zs_iconst (pc := 0) t137_0 (v := 0) (by decide) ?_
  refine zs_istore_n (pc := 1) t137_1 (ls' := [(1, .int (0 : Int32)), (0, .ref 164)]) (zml mf137 (by decide)) rfl ?_
  have w1L : ∀ (m : Nat) (w1x1 : Int32) (w1M : zM), (0 ≤ w1x1.toInt ∧ w1x1.toInt ≤ 20) → zSk zMc w1M → zIv cLo cHi w1M → zFr [(320, 320, none)] M w1M → (w1x1.toInt ≤ mm) → (∀ i : Nat, (i : Int) = w1x1.toInt → zOd w1M 320 (fun i => sT F (τ i)) i) → (∀ k j : Nat, zJ w1M k j = zJ M k j) → 20 - w1x1.toInt ≤ (m : Int) → zGo X l 3 0 0 137 2 [(0, .ref 164), (1, .int w1x1)] [] w1M Q := by
    intro m
    induction m using Nat.strongRecOn with
    | ind w1m w1ih =>
      intro w1x1 w1M w1b1 w1s w1I w1F w1r0 w1t0 w1t1 w1q
      obtain ⟨w2n, w2⟩ : ∃ n : Nat, w1x1.toInt = (n : Int) := ⟨(w1x1.toInt).toNat, by omega⟩
      refine zs_iload_n (pc := 2) t137_2 rfl ?_
      refine zs_aload_n (pc := 3) t137_3 rfl ?_
      have w3 := ib164_4 hI
      refine zs_get (pc := 4) t137_4 (by decide) (zk1 (w1s.k fk_zMc_164)) (zfvi rfl ((w1F 164 4 rfl).trans rfl)) ?_
      by_cases w4 : (zI M 164 4).toInt ≤ w1x1.toInt
      · refine zs_icmp_geT (pc := 7) t137_7 rfl rfl (by omega) ?_
        exact zs_vret (pc := 69) t137_69 mr137 (hQ _ w1s w1I ((zFr.refl).trans (w1F.mono rfl)) (w1t0 mm (by omega)) w1t1)
      · refine zs_icmp_geF (pc := 7) t137_7 rfl rfl (by omega) ?_
        refine zs_iload_n (pc := 10) t137_10 rfl ?_
        refine zs_istore_n (pc := 11) t137_11 (ls' := [(2, .int w1x1), (0, .ref 164), (1, .int w1x1)]) (zml mf137 (by decide)) rfl ?_
        have w5L : ∀ (m : Nat) (w5x2 : Int32) (w5M : zM), (0 ≤ w5x2.toInt ∧ w5x2.toInt ≤ 19) → zSk zMc w5M → zIv cLo cHi w5M → zFr [(320, 320, none)] w1M w5M → (w5x2.toInt ≤ w1x1.toInt) → (∀ i p : Nat, (i : Int) = w1x1.toInt → (p : Int) = w5x2.toInt → zOi w5M 320 (fun i => sT F (τ i)) i p) → (∀ k j : Nat, zJ w5M k j = zJ M k j) → w5x2.toInt ≤ (m : Int) → zGo X l 3 0 0 137 12 [(0, .ref 164), (1, .int w1x1), (2, .int w5x2)] [] w5M Q := by
          intro m
          induction m using Nat.strongRecOn with
          | ind w5m w5ih =>
            intro w5x2 w5M w5b2 w5s w5I w5F w5r0 w5t0 w5t1 w5q
            obtain ⟨w6n, w6⟩ : ∃ n : Nat, w5x2.toInt = (n : Int) := ⟨(w5x2.toInt).toNat, by omega⟩
            have hT := w5t0 w2n w6n (by omega) (by omega)
            refine zs_iload_n (pc := 12) t137_12 rfl ?_
            by_cases w7 : w5x2.toInt ≤ 0
            · refine zs_if_leT (pc := 13) t137_13 rfl (by omega) ?_
              refine zs_aload_n (pc := 56) t137_56 rfl ?_
              refine zs_get (pc := 57) t137_57 (by decide) (zk1 (w5s.k fk_zMc_164)) (w5s.p rfl fv_zMc_164_10) ?_
              refine zs_iload_n (pc := 60) t137_60 rfl ?_
              refine zs_iload_n (pc := 61) t137_61 rfl ?_
              have w8 : zIv cLo cHi (zsI w5M 320 w6n w1x1) := zIv.put w5I (show (-2147483648) ≤ w1x1.toInt ∧ w1x1.toInt ≤ 2147483647 from zrg w1x1)
              refine zs_iast (pc := 62) t137_62 (j := w6n) (by decide) (zk1 (w5s.k fk_zMc_320)) (show w5x2.toInt = ((w6n : Nat) : Int) by omega) (zk2 (w5s.k fk_zMc_320) (by omega)) ?_
              obtain ⟨w9v, w9e, w9⟩ := ziadd (a := w1x1) (b := Int32.ofInt 1) rfl (show (Int32.ofInt 1).toInt = 1 by decide) (by omega) (by omega)
              refine zs_iinc (pc := 63) t137_63 (ls' := [(1, .int w9v), (0, .ref 164), (2, .int w5x2)]) (zml mf137 (by decide)) rfl (c := w9v) w9e rfl ?_
              refine zs_goto (pc := 66) t137_66 ?_
              refine zGo.locals (ls' := [(0, .ref 164), (1, .int w9v)]) (by simp) ?_
              have w10 := w9
              exact w1ih (w1m - 1) (by omega) w9v (zsI w5M 320 w6n w1x1) ⟨by omega, by omega⟩ w5s w8 ((((zFr.refl).trans (w1F.mono rfl)).trans (w5F.mono rfl)).put rfl) (by omega) (fun i hi => by obtain rfl : i = w2n + 1 := (by omega); exact hT.end (by omega) (by first | exact Or.inl (by omega) | exact Or.inr ⟨0, by omega, by show (sT F (τ _)).toInt ≤ (sT F (τ _)).toInt; omega⟩)) w5t1 (by omega)
            · refine zs_if_leF (pc := 13) t137_13 rfl (by omega) ?_
              refine zs_aload_n (pc := 16) t137_16 rfl ?_
              refine zs_aload_n (pc := 17) t137_17 rfl ?_
              refine zs_get (pc := 18) t137_18 (by decide) (zk1 (w5s.k fk_zMc_164)) (w5s.p rfl fv_zMc_164_10) ?_
              refine zs_iload_n (pc := 21) t137_21 rfl ?_
              refine zs_iconst (pc := 22) t137_22 (v := 1) (by decide) ?_
              obtain ⟨w11v, w11e, w11⟩ := zisub (a := w5x2) (b := (1 : Int32)) rfl li1 (by omega) (by omega)
              refine zs_isub (pc := 23) t137_23 (c := w11v) w11e ?_
              obtain ⟨w12n, w12⟩ : ∃ n : Nat, w11v.toInt = (n : Int) := ⟨w11v.toInt.toNat, by omega⟩
              have w13 := zrg (zI w5M 320 w12n)
              refine zs_iald (pc := 24) t137_24 (j := w12n) (by decide) (zk1 (w5s.k fk_zMc_320)) w12 (zk2 (w5s.k fk_zMc_320) (by omega)) rfl ?_
              refine zs_invV (pc := 25) (k := 164) (as' := [.int (zI w5M 320 w12n)]) (st := []) t137_25 mf138 rfl rfl (Or.inl ⟨by decide, (zk1 (w5s.k fk_zMc_164))⟩) ⟨by decide, by decide, Nat.le_of_ble_eq_true rfl, Nat.le_of_ble_eq_true rfl⟩ (V138 w5s w5I ⟨(congrArg Int32.toInt ((w5F 165 2 rfl).trans (w1F 165 2 rfl))).trans xn, xn2, xn3⟩ (fun q hq => (x1 q hq).fr (fun j => w5t1 _ j) (((w5F _ 5 (zoC (by omega) rfl)).trans (w1F _ 5 (zoC (by omega) rfl))))) ?_) (fun _ _ q => q)
              intro w14v w14x0
              have w14g := zrg w14v
              have hlt := zOrd.lt (st := (fun i => sT F (τ i))) w2n w12n (by omega)
              have hox : (zI w5M 320 w12n).toInt = ((zOrd (fun i => sT F (τ i)) w2n w12n) : Int) := hT.2.2.1 w12n (by omega)
              have w14y : w14v = sT F (τ (zOrd (fun i => sT F (τ i)) w2n w12n)) := w14x0 (zOrd (fun i => sT F (τ i)) w2n w12n) (by omega) (by omega)
              have w14z : w14v.toInt = (sT F (τ (zOrd (fun i => sT F (τ i)) w2n w12n))).toInt := congrArg Int32.toInt w14y
              show zGo X l 3 0 0 137 28 [(0, .ref 164), (1, .int w1x1), (2, .int w5x2)] [.int w14v] w5M _
              refine zs_aload_n (pc := 28) t137_28 rfl ?_
              refine zs_iload_n (pc := 29) t137_29 rfl ?_
              refine zs_invV (pc := 30) (k := 164) (as' := [.int w1x1]) (st := [.int w14v]) t137_30 mf138 rfl rfl (Or.inl ⟨by decide, (zk1 (w5s.k fk_zMc_164))⟩) ⟨by decide, by decide, Nat.le_of_ble_eq_true rfl, Nat.le_of_ble_eq_true rfl⟩ (V138 w5s w5I ⟨(congrArg Int32.toInt ((w5F 165 2 rfl).trans (w1F 165 2 rfl))).trans xn, xn2, xn3⟩ (fun q hq => (x1 q hq).fr (fun j => w5t1 _ j) (((w5F _ 5 (zoC (by omega) rfl)).trans (w1F _ 5 (zoC (by omega) rfl))))) ?_) (fun _ _ q => q)
              intro w15v w15x0
              have w15g := zrg w15v
              have w15y : w15v = sT F (τ w2n) := w15x0 w2n (by omega) (by omega)
              have w15z : w15v.toInt = (sT F (τ w2n)).toInt := congrArg Int32.toInt w15y
              show zGo X l 3 0 0 137 33 [(0, .ref 164), (1, .int w1x1), (2, .int w5x2)] [.int w15v, .int w14v] w5M _
              by_cases w16 : w14v.toInt ≤ w15v.toInt
              · refine zs_icmp_leT (pc := 33) t137_33 rfl rfl (by omega) ?_
                refine zs_aload_n (pc := 56) t137_56 rfl ?_
                refine zs_get (pc := 57) t137_57 (by decide) (zk1 (w5s.k fk_zMc_164)) (w5s.p rfl fv_zMc_164_10) ?_
                refine zs_iload_n (pc := 60) t137_60 rfl ?_
                refine zs_iload_n (pc := 61) t137_61 rfl ?_
                have w17 : zIv cLo cHi (zsI w5M 320 w6n w1x1) := zIv.put w5I (show (-2147483648) ≤ w1x1.toInt ∧ w1x1.toInt ≤ 2147483647 from zrg w1x1)
                refine zs_iast (pc := 62) t137_62 (j := w6n) (by decide) (zk1 (w5s.k fk_zMc_320)) (show w5x2.toInt = ((w6n : Nat) : Int) by omega) (zk2 (w5s.k fk_zMc_320) (by omega)) ?_
                obtain ⟨w18v, w18e, w18⟩ := ziadd (a := w1x1) (b := Int32.ofInt 1) rfl (show (Int32.ofInt 1).toInt = 1 by decide) (by omega) (by omega)
                refine zs_iinc (pc := 63) t137_63 (ls' := [(1, .int w18v), (0, .ref 164), (2, .int w5x2)]) (zml mf137 (by decide)) rfl (c := w18v) w18e rfl ?_
                refine zs_goto (pc := 66) t137_66 ?_
                refine zGo.locals (ls' := [(0, .ref 164), (1, .int w18v)]) (by simp) ?_
                have w19 := w18
                exact w1ih (w1m - 1) (by omega) w18v (zsI w5M 320 w6n w1x1) ⟨by omega, by omega⟩ w5s w17 ((((zFr.refl).trans (w1F.mono rfl)).trans (w5F.mono rfl)).put rfl) (by omega) (fun i hi => by obtain rfl : i = w2n + 1 := (by omega); exact hT.end (by omega) (by first | exact Or.inl (by omega) | exact Or.inr ⟨w12n, by omega, by show (sT F (τ _)).toInt ≤ (sT F (τ _)).toInt; omega⟩)) w5t1 (by omega)
              · refine zs_icmp_leF (pc := 33) t137_33 rfl rfl (by omega) ?_
                refine zs_aload_n (pc := 36) t137_36 rfl ?_
                refine zs_get (pc := 37) t137_37 (by decide) (zk1 (w5s.k fk_zMc_164)) (w5s.p rfl fv_zMc_164_10) ?_
                refine zs_iload_n (pc := 40) t137_40 rfl ?_
                refine zs_aload_n (pc := 41) t137_41 rfl ?_
                refine zs_get (pc := 42) t137_42 (by decide) (zk1 (w5s.k fk_zMc_164)) (w5s.p rfl fv_zMc_164_10) ?_
                refine zs_iload_n (pc := 45) t137_45 rfl ?_
                refine zs_iconst (pc := 46) t137_46 (v := 1) (by decide) ?_
                obtain ⟨w20v, w20e, w20⟩ := zisub (a := w5x2) (b := (1 : Int32)) rfl li1 (by omega) (by omega)
                refine zs_isub (pc := 47) t137_47 (c := w20v) w20e ?_
                obtain ⟨w21n, w21⟩ : ∃ n : Nat, w20v.toInt = (n : Int) := ⟨w20v.toInt.toNat, by omega⟩
                have w22 := zrg (zI w5M 320 w21n)
                refine zs_iald (pc := 48) t137_48 (j := w21n) (by decide) (zk1 (w5s.k fk_zMc_320)) w21 (zk2 (w5s.k fk_zMc_320) (by omega)) rfl ?_
                have w23 : zIv cLo cHi (zsI w5M 320 w6n (zI w5M 320 w21n)) := zIv.put w5I (show (-2147483648) ≤ (zI w5M 320 w21n).toInt ∧ (zI w5M 320 w21n).toInt ≤ 2147483647 from zrg (zI w5M 320 w21n))
                refine zs_iast (pc := 49) t137_49 (j := w6n) (by decide) (zk1 (w5s.k fk_zMc_320)) (show w5x2.toInt = ((w6n : Nat) : Int) by omega) (zk2 (w5s.k fk_zMc_320) (by omega)) ?_
                obtain ⟨w24v, w24e, w24⟩ := ziadd (a := w5x2) (b := Int32.ofInt (-1)) rfl (show (Int32.ofInt (-1)).toInt = (-1) by decide) (by omega) (by omega)
                refine zs_iinc (pc := 50) t137_50 (ls' := [(2, .int w24v), (0, .ref 164), (1, .int w1x1)]) (zml mf137 (by decide)) rfl (c := w24v) w24e rfl ?_
                refine zs_goto (pc := 53) t137_53 ?_
                refine zGo.locals (ls' := [(0, .ref 164), (1, .int w1x1), (2, .int w24v)]) (by simp) ?_
                have w25 := w24
                exact w5ih (w5m - 1) (by omega) w24v (zsI w5M 320 w6n (zI w5M 320 w21n)) ⟨by omega, by omega⟩ w5s w23 (((zFr.refl).trans (w5F.mono rfl)).put rfl) (by omega) (fun i p q1 q2 => by obtain rfl : w2n = i := (by omega); obtain rfl : w12n = p := (by omega); exact hT.go (by omega) (by rw [show w21n = w12n by omega]; exact hox) (show (sT F (τ _)).toInt < (sT F (τ _)).toInt by omega)) w5t1 (by omega)
        refine zGo.locals (ls' := [(0, .ref 164), (1, .int w1x1), (2, .int w1x1)]) (by simp) ?_
        exact w5L ((w1x1.toInt : Int).toNat) w1x1 w1M ⟨by omega, by omega⟩ w1s w1I zFr.refl (by omega) (fun i p q1 q2 => by obtain rfl : w2n = i := (by omega); exact (w1t0 w2n (by omega)).oi (by omega)) w1t1 (by omega)
  refine zGo.locals (ls' := [(0, .ref 164), (1, .int (0 : Int32))]) (by simp) ?_
  have w26 := li0
  exact w1L ((20 - 0 : Int).toNat) (0 : Int32) M ⟨by decide, by decide⟩ hs hI zFr.refl (by omega) (fun i hi => by obtain rfl : i = 0 := (by omega); exact fun q hq => absurd hq (by omega)) (fun k j => rfl) (by omega)
