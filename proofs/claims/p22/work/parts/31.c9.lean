theorem K299 {X : zX} {l : Launch} {M : zM} {Q : Option Value → zM → Prop} {aL bL : Int64} (hs : zSk zMm M) (hI : zIv mLo mHi M) (x0 : bL.toInt ≠ 0) (hQ : ∀ v : Int64, (v.toInt ≠ 0) → Q (some (.long v)) M) : zCall X l 0 0 0 299 [.long aL, .long bL] M Q := by
  have gaL := zrg64 aL
  have gbL := zrg64 bL
  refine zs_in (by decide) mf299 (Nat.le_of_ble_eq_true rfl) ?_
  show zGo X l 0 0 0 299 0 [(0, .long aL), (2, .long bL)] [] M _
  refine zs_lload_n (pc := 0) t299_0 rfl ?_
  refine zs_lconst (pc := 1) t299_1 (v := 0) (by decide) ?_
  by_cases w1 : aL.toInt < 0
  · refine zs_lcmp (pc := 2) t299_2 (c := -1) (zlcL rfl ll0 (by omega)) ?_
    refine zs_if_geF (pc := 3) t299_3 lin1 (by decide) ?_
    refine zs_lload_n (pc := 6) t299_6 rfl ?_
    obtain ⟨w2v, w2⟩ : ∃ v, -aL = v := ⟨_, rfl⟩
    have w2g := zrg64 w2v
    have w2z := zlneg0 w2
    refine zs_lneg (pc := 7) t299_7 (c := w2v) w2 ?_
    refine zs_goto (pc := 8) t299_8 ?_
    refine zs_lstore (pc := 12) t299_12 (ls' := [(4, .long w2v), (0, .long aL), (2, .long bL)]) (zml mf299 (by decide)) rfl ?_
    refine zs_lload_n (pc := 14) t299_14 rfl ?_
    refine zs_lconst (pc := 15) t299_15 (v := 0) (by decide) ?_
    by_cases w3 : bL.toInt < 0
    · refine zs_lcmp (pc := 16) t299_16 (c := -1) (zlcL rfl ll0 (by omega)) ?_
      refine zs_if_geF (pc := 17) t299_17 lin1 (by decide) ?_
      refine zs_lload_n (pc := 20) t299_20 rfl ?_
      obtain ⟨w4v, w4⟩ : ∃ v, -bL = v := ⟨_, rfl⟩
      have w4g := zrg64 w4v
      have w4z := zlneg0 w4
      refine zs_lneg (pc := 21) t299_21 (c := w4v) w4 ?_
      refine zs_goto (pc := 22) t299_22 ?_
      refine zs_lstore (pc := 26) t299_26 (ls' := [(6, .long w4v), (4, .long w2v), (0, .long aL), (2, .long bL)]) (zml mf299 (by decide)) rfl ?_
      have w5L : ∀ (m : Nat) (w5x4 : Int64) (w5x6 : Int64), (w5x4.toInt ≠ 0 ∨ w5x6.toInt ≠ 0) → max w5x6.toInt (-w5x6.toInt) ≤ (m : Int) → zGo X l 0 0 0 299 28 [(0, .long aL), (2, .long bL), (4, .long w5x4), (6, .long w5x6)] [] M Q := by
        intro m
        induction m using Nat.strongRecOn with
        | ind w5m w5ih =>
          intro w5x4 w5x6 w5r0 w5q
          have w5g4 := zrg64 w5x4
          have w5g6 := zrg64 w5x6
          refine zs_lload (pc := 28) t299_28 rfl ?_
          refine zs_lconst (pc := 30) t299_30 (v := 0) (by decide) ?_
          by_cases w6 : w5x6.toInt < 0
          · refine zs_lcmp (pc := 31) t299_31 (c := -1) (zlcL rfl ll0 (by omega)) ?_
            refine zs_if_eqF (pc := 32) t299_32 lin1 (by decide) ?_
            refine zs_lload (pc := 35) t299_35 rfl ?_
            refine zs_lload (pc := 37) t299_37 rfl ?_
            obtain ⟨w7v, w7⟩ : ∃ v, w5x4 - w5x4 / w5x6 * w5x6 = v := ⟨_, rfl⟩
            have w7g := zrg64 w7v
            refine zs_lrem (pc := 39) t299_39 (znz64 rfl (by omega)) (c := w7v) w7 ?_
            refine zs_lstore (pc := 40) t299_40 (ls' := [(8, .long w7v), (0, .long aL), (2, .long bL), (4, .long w5x4), (6, .long w5x6)]) (zml mf299 (by decide)) rfl ?_
            refine zs_lload (pc := 42) t299_42 rfl ?_
            refine zs_lstore (pc := 44) t299_44 (ls' := [(4, .long w5x6), (8, .long w7v), (0, .long aL), (2, .long bL), (6, .long w5x6)]) (zml mf299 (by decide)) rfl ?_
            refine zs_lload (pc := 46) t299_46 rfl ?_
            refine zs_lstore (pc := 48) t299_48 (ls' := [(6, .long w7v), (4, .long w5x6), (8, .long w7v), (0, .long aL), (2, .long bL)]) (zml mf299 (by decide)) rfl ?_
            refine zs_goto (pc := 50) t299_50 ?_
            refine zGo.locals (ls' := [(0, .long aL), (2, .long bL), (4, .long w5x6), (6, .long w7v)]) (by simp) ?_
            have w8 := zlrem w7 (by omega)
            exact w5ih (w5m - 1) (by omega) w5x6 w7v (by omega) (by omega)
          by_cases w9 : w5x6.toInt = 0
          · refine zs_lcmp (pc := 31) t299_31 (c := 0) (zlcE rfl ll0 (by omega)) ?_
            refine zs_if_eqT (pc := 32) t299_32 li0 (by decide) ?_
            refine zs_lload (pc := 53) t299_53 rfl ?_
            exact zs_lret (pc := 55) t299_55 mr299 (hQ _ (by omega))
          refine zs_lcmp (pc := 31) t299_31 (c := 1) (zlcG rfl ll0 (by omega)) ?_
          refine zs_if_eqF (pc := 32) t299_32 li1 (by decide) ?_
          refine zs_lload (pc := 35) t299_35 rfl ?_
          refine zs_lload (pc := 37) t299_37 rfl ?_
          obtain ⟨w11v, w11⟩ : ∃ v, w5x4 - w5x4 / w5x6 * w5x6 = v := ⟨_, rfl⟩
          have w11g := zrg64 w11v
          refine zs_lrem (pc := 39) t299_39 (znz64 rfl (by omega)) (c := w11v) w11 ?_
          refine zs_lstore (pc := 40) t299_40 (ls' := [(8, .long w11v), (0, .long aL), (2, .long bL), (4, .long w5x4), (6, .long w5x6)]) (zml mf299 (by decide)) rfl ?_
          refine zs_lload (pc := 42) t299_42 rfl ?_
          refine zs_lstore (pc := 44) t299_44 (ls' := [(4, .long w5x6), (8, .long w11v), (0, .long aL), (2, .long bL), (6, .long w5x6)]) (zml mf299 (by decide)) rfl ?_
          refine zs_lload (pc := 46) t299_46 rfl ?_
          refine zs_lstore (pc := 48) t299_48 (ls' := [(6, .long w11v), (4, .long w5x6), (8, .long w11v), (0, .long aL), (2, .long bL)]) (zml mf299 (by decide)) rfl ?_
          refine zs_goto (pc := 50) t299_50 ?_
          refine zGo.locals (ls' := [(0, .long aL), (2, .long bL), (4, .long w5x6), (6, .long w11v)]) (by simp) ?_
          have w12 := zlrem w11 (by omega)
          exact w5ih (w5m - 1) (by omega) w5x6 w11v (by omega) (by omega)
      refine zGo.locals (ls' := [(0, .long aL), (2, .long bL), (4, .long w2v), (6, .long w4v)]) (by simp) ?_
      exact w5L ((max w4v.toInt (-w4v.toInt) : Int).toNat) w2v w4v (by omega) (by omega)
    by_cases w13 : bL.toInt = 0
    · refine zs_lcmp (pc := 16) t299_16 (c := 0) (zlcE rfl ll0 (by omega)) ?_
      refine zs_if_geT (pc := 17) t299_17 li0 (by decide) ?_
      refine zs_lload_n (pc := 25) t299_25 rfl ?_
      refine zs_lstore (pc := 26) t299_26 (ls' := [(6, .long bL), (4, .long w2v), (0, .long aL), (2, .long bL)]) (zml mf299 (by decide)) rfl ?_
      have w14L : ∀ (m : Nat) (w14x4 : Int64) (w14x6 : Int64), (w14x4.toInt ≠ 0 ∨ w14x6.toInt ≠ 0) → max w14x6.toInt (-w14x6.toInt) ≤ (m : Int) → zGo X l 0 0 0 299 28 [(0, .long aL), (2, .long bL), (4, .long w14x4), (6, .long w14x6)] [] M Q := by
        intro m
        induction m using Nat.strongRecOn with
        | ind w14m w14ih =>
          intro w14x4 w14x6 w14r0 w14q
          have w14g4 := zrg64 w14x4
          have w14g6 := zrg64 w14x6
          refine zs_lload (pc := 28) t299_28 rfl ?_
          refine zs_lconst (pc := 30) t299_30 (v := 0) (by decide) ?_
          by_cases w15 : w14x6.toInt < 0
          · refine zs_lcmp (pc := 31) t299_31 (c := -1) (zlcL rfl ll0 (by omega)) ?_
            refine zs_if_eqF (pc := 32) t299_32 lin1 (by decide) ?_
            refine zs_lload (pc := 35) t299_35 rfl ?_
            refine zs_lload (pc := 37) t299_37 rfl ?_
            obtain ⟨w16v, w16⟩ : ∃ v, w14x4 - w14x4 / w14x6 * w14x6 = v := ⟨_, rfl⟩
            have w16g := zrg64 w16v
            refine zs_lrem (pc := 39) t299_39 (znz64 rfl (by omega)) (c := w16v) w16 ?_
            refine zs_lstore (pc := 40) t299_40 (ls' := [(8, .long w16v), (0, .long aL), (2, .long bL), (4, .long w14x4), (6, .long w14x6)]) (zml mf299 (by decide)) rfl ?_
            refine zs_lload (pc := 42) t299_42 rfl ?_
            refine zs_lstore (pc := 44) t299_44 (ls' := [(4, .long w14x6), (8, .long w16v), (0, .long aL), (2, .long bL), (6, .long w14x6)]) (zml mf299 (by decide)) rfl ?_
            refine zs_lload (pc := 46) t299_46 rfl ?_
            refine zs_lstore (pc := 48) t299_48 (ls' := [(6, .long w16v), (4, .long w14x6), (8, .long w16v), (0, .long aL), (2, .long bL)]) (zml mf299 (by decide)) rfl ?_
            refine zs_goto (pc := 50) t299_50 ?_
            refine zGo.locals (ls' := [(0, .long aL), (2, .long bL), (4, .long w14x6), (6, .long w16v)]) (by simp) ?_
            have w17 := zlrem w16 (by omega)
            exact w14ih (w14m - 1) (by omega) w14x6 w16v (by omega) (by omega)
          by_cases w18 : w14x6.toInt = 0
          · refine zs_lcmp (pc := 31) t299_31 (c := 0) (zlcE rfl ll0 (by omega)) ?_
            refine zs_if_eqT (pc := 32) t299_32 li0 (by decide) ?_
            refine zs_lload (pc := 53) t299_53 rfl ?_
            exact zs_lret (pc := 55) t299_55 mr299 (hQ _ (by omega))
          refine zs_lcmp (pc := 31) t299_31 (c := 1) (zlcG rfl ll0 (by omega)) ?_
          refine zs_if_eqF (pc := 32) t299_32 li1 (by decide) ?_
          refine zs_lload (pc := 35) t299_35 rfl ?_
          refine zs_lload (pc := 37) t299_37 rfl ?_
          obtain ⟨w20v, w20⟩ : ∃ v, w14x4 - w14x4 / w14x6 * w14x6 = v := ⟨_, rfl⟩
          have w20g := zrg64 w20v
          refine zs_lrem (pc := 39) t299_39 (znz64 rfl (by omega)) (c := w20v) w20 ?_
          refine zs_lstore (pc := 40) t299_40 (ls' := [(8, .long w20v), (0, .long aL), (2, .long bL), (4, .long w14x4), (6, .long w14x6)]) (zml mf299 (by decide)) rfl ?_
          refine zs_lload (pc := 42) t299_42 rfl ?_
          refine zs_lstore (pc := 44) t299_44 (ls' := [(4, .long w14x6), (8, .long w20v), (0, .long aL), (2, .long bL), (6, .long w14x6)]) (zml mf299 (by decide)) rfl ?_
          refine zs_lload (pc := 46) t299_46 rfl ?_
          refine zs_lstore (pc := 48) t299_48 (ls' := [(6, .long w20v), (4, .long w14x6), (8, .long w20v), (0, .long aL), (2, .long bL)]) (zml mf299 (by decide)) rfl ?_
          refine zs_goto (pc := 50) t299_50 ?_
          refine zGo.locals (ls' := [(0, .long aL), (2, .long bL), (4, .long w14x6), (6, .long w20v)]) (by simp) ?_
          have w21 := zlrem w20 (by omega)
          exact w14ih (w14m - 1) (by omega) w14x6 w20v (by omega) (by omega)
      refine zGo.locals (ls' := [(0, .long aL), (2, .long bL), (4, .long w2v), (6, .long bL)]) (by simp) ?_
      exact w14L ((max bL.toInt (-bL.toInt) : Int).toNat) w2v bL (by omega) (by omega)
    refine zs_lcmp (pc := 16) t299_16 (c := 1) (zlcG rfl ll0 (by omega)) ?_
    refine zs_if_geT (pc := 17) t299_17 li1 (by decide) ?_
    refine zs_lload_n (pc := 25) t299_25 rfl ?_
    refine zs_lstore (pc := 26) t299_26 (ls' := [(6, .long bL), (4, .long w2v), (0, .long aL), (2, .long bL)]) (zml mf299 (by decide)) rfl ?_
    have w23L : ∀ (m : Nat) (w23x4 : Int64) (w23x6 : Int64), (w23x4.toInt ≠ 0 ∨ w23x6.toInt ≠ 0) → max w23x6.toInt (-w23x6.toInt) ≤ (m : Int) → zGo X l 0 0 0 299 28 [(0, .long aL), (2, .long bL), (4, .long w23x4), (6, .long w23x6)] [] M Q := by
      intro m
      induction m using Nat.strongRecOn with
      | ind w23m w23ih =>
        intro w23x4 w23x6 w23r0 w23q
        have w23g4 := zrg64 w23x4
        have w23g6 := zrg64 w23x6
        refine zs_lload (pc := 28) t299_28 rfl ?_
        refine zs_lconst (pc := 30) t299_30 (v := 0) (by decide) ?_
        by_cases w24 : w23x6.toInt < 0
        · refine zs_lcmp (pc := 31) t299_31 (c := -1) (zlcL rfl ll0 (by omega)) ?_
          refine zs_if_eqF (pc := 32) t299_32 lin1 (by decide) ?_
          refine zs_lload (pc := 35) t299_35 rfl ?_
          refine zs_lload (pc := 37) t299_37 rfl ?_
          obtain ⟨w25v, w25⟩ : ∃ v, w23x4 - w23x4 / w23x6 * w23x6 = v := ⟨_, rfl⟩
          have w25g := zrg64 w25v
          refine zs_lrem (pc := 39) t299_39 (znz64 rfl (by omega)) (c := w25v) w25 ?_
          refine zs_lstore (pc := 40) t299_40 (ls' := [(8, .long w25v), (0, .long aL), (2, .long bL), (4, .long w23x4), (6, .long w23x6)]) (zml mf299 (by decide)) rfl ?_
          refine zs_lload (pc := 42) t299_42 rfl ?_
          refine zs_lstore (pc := 44) t299_44 (ls' := [(4, .long w23x6), (8, .long w25v), (0, .long aL), (2, .long bL), (6, .long w23x6)]) (zml mf299 (by decide)) rfl ?_
          refine zs_lload (pc := 46) t299_46 rfl ?_
          refine zs_lstore (pc := 48) t299_48 (ls' := [(6, .long w25v), (4, .long w23x6), (8, .long w25v), (0, .long aL), (2, .long bL)]) (zml mf299 (by decide)) rfl ?_
          refine zs_goto (pc := 50) t299_50 ?_
          refine zGo.locals (ls' := [(0, .long aL), (2, .long bL), (4, .long w23x6), (6, .long w25v)]) (by simp) ?_
          have w26 := zlrem w25 (by omega)
          exact w23ih (w23m - 1) (by omega) w23x6 w25v (by omega) (by omega)
        by_cases w27 : w23x6.toInt = 0
        · refine zs_lcmp (pc := 31) t299_31 (c := 0) (zlcE rfl ll0 (by omega)) ?_
          refine zs_if_eqT (pc := 32) t299_32 li0 (by decide) ?_
          refine zs_lload (pc := 53) t299_53 rfl ?_
          exact zs_lret (pc := 55) t299_55 mr299 (hQ _ (by omega))
        refine zs_lcmp (pc := 31) t299_31 (c := 1) (zlcG rfl ll0 (by omega)) ?_
        refine zs_if_eqF (pc := 32) t299_32 li1 (by decide) ?_
        refine zs_lload (pc := 35) t299_35 rfl ?_
        refine zs_lload (pc := 37) t299_37 rfl ?_
        obtain ⟨w29v, w29⟩ : ∃ v, w23x4 - w23x4 / w23x6 * w23x6 = v := ⟨_, rfl⟩
        have w29g := zrg64 w29v
        refine zs_lrem (pc := 39) t299_39 (znz64 rfl (by omega)) (c := w29v) w29 ?_
        refine zs_lstore (pc := 40) t299_40 (ls' := [(8, .long w29v), (0, .long aL), (2, .long bL), (4, .long w23x4), (6, .long w23x6)]) (zml mf299 (by decide)) rfl ?_
        refine zs_lload (pc := 42) t299_42 rfl ?_
        refine zs_lstore (pc := 44) t299_44 (ls' := [(4, .long w23x6), (8, .long w29v), (0, .long aL), (2, .long bL), (6, .long w23x6)]) (zml mf299 (by decide)) rfl ?_
        refine zs_lload (pc := 46) t299_46 rfl ?_
        refine zs_lstore (pc := 48) t299_48 (ls' := [(6, .long w29v), (4, .long w23x6), (8, .long w29v), (0, .long aL), (2, .long bL)]) (zml mf299 (by decide)) rfl ?_
        refine zs_goto (pc := 50) t299_50 ?_
        refine zGo.locals (ls' := [(0, .long aL), (2, .long bL), (4, .long w23x6), (6, .long w29v)]) (by simp) ?_
        have w30 := zlrem w29 (by omega)
        exact w23ih (w23m - 1) (by omega) w23x6 w29v (by omega) (by omega)
    refine zGo.locals (ls' := [(0, .long aL), (2, .long bL), (4, .long w2v), (6, .long bL)]) (by simp) ?_
    exact w23L ((max bL.toInt (-bL.toInt) : Int).toNat) w2v bL (by omega) (by omega)
  by_cases w31 : aL.toInt = 0
  · refine zs_lcmp (pc := 2) t299_2 (c := 0) (zlcE rfl ll0 (by omega)) ?_
    refine zs_if_geT (pc := 3) t299_3 li0 (by decide) ?_
    refine zs_lload_n (pc := 11) t299_11 rfl ?_
    refine zs_lstore (pc := 12) t299_12 (ls' := [(4, .long aL), (0, .long aL), (2, .long bL)]) (zml mf299 (by decide)) rfl ?_
    refine zs_lload_n (pc := 14) t299_14 rfl ?_
    refine zs_lconst (pc := 15) t299_15 (v := 0) (by decide) ?_
    by_cases w32 : bL.toInt < 0
    · refine zs_lcmp (pc := 16) t299_16 (c := -1) (zlcL rfl ll0 (by omega)) ?_
      refine zs_if_geF (pc := 17) t299_17 lin1 (by decide) ?_
      refine zs_lload_n (pc := 20) t299_20 rfl ?_
      obtain ⟨w33v, w33⟩ : ∃ v, -bL = v := ⟨_, rfl⟩
      have w33g := zrg64 w33v
      have w33z := zlneg0 w33
      refine zs_lneg (pc := 21) t299_21 (c := w33v) w33 ?_
      refine zs_goto (pc := 22) t299_22 ?_
      refine zs_lstore (pc := 26) t299_26 (ls' := [(6, .long w33v), (4, .long aL), (0, .long aL), (2, .long bL)]) (zml mf299 (by decide)) rfl ?_
      have w34L : ∀ (m : Nat) (w34x4 : Int64) (w34x6 : Int64), (w34x4.toInt ≠ 0 ∨ w34x6.toInt ≠ 0) → max w34x6.toInt (-w34x6.toInt) ≤ (m : Int) → zGo X l 0 0 0 299 28 [(0, .long aL), (2, .long bL), (4, .long w34x4), (6, .long w34x6)] [] M Q := by
        intro m
        induction m using Nat.strongRecOn with
        | ind w34m w34ih =>
          intro w34x4 w34x6 w34r0 w34q
          have w34g4 := zrg64 w34x4
          have w34g6 := zrg64 w34x6
          refine zs_lload (pc := 28) t299_28 rfl ?_
          refine zs_lconst (pc := 30) t299_30 (v := 0) (by decide) ?_
          by_cases w35 : w34x6.toInt < 0
          · refine zs_lcmp (pc := 31) t299_31 (c := -1) (zlcL rfl ll0 (by omega)) ?_
            refine zs_if_eqF (pc := 32) t299_32 lin1 (by decide) ?_
            refine zs_lload (pc := 35) t299_35 rfl ?_
            refine zs_lload (pc := 37) t299_37 rfl ?_
            obtain ⟨w36v, w36⟩ : ∃ v, w34x4 - w34x4 / w34x6 * w34x6 = v := ⟨_, rfl⟩
            have w36g := zrg64 w36v
            refine zs_lrem (pc := 39) t299_39 (znz64 rfl (by omega)) (c := w36v) w36 ?_
            refine zs_lstore (pc := 40) t299_40 (ls' := [(8, .long w36v), (0, .long aL), (2, .long bL), (4, .long w34x4), (6, .long w34x6)]) (zml mf299 (by decide)) rfl ?_
            refine zs_lload (pc := 42) t299_42 rfl ?_
            refine zs_lstore (pc := 44) t299_44 (ls' := [(4, .long w34x6), (8, .long w36v), (0, .long aL), (2, .long bL), (6, .long w34x6)]) (zml mf299 (by decide)) rfl ?_
            refine zs_lload (pc := 46) t299_46 rfl ?_
            refine zs_lstore (pc := 48) t299_48 (ls' := [(6, .long w36v), (4, .long w34x6), (8, .long w36v), (0, .long aL), (2, .long bL)]) (zml mf299 (by decide)) rfl ?_
            refine zs_goto (pc := 50) t299_50 ?_
            refine zGo.locals (ls' := [(0, .long aL), (2, .long bL), (4, .long w34x6), (6, .long w36v)]) (by simp) ?_
            have w37 := zlrem w36 (by omega)
            exact w34ih (w34m - 1) (by omega) w34x6 w36v (by omega) (by omega)
          by_cases w38 : w34x6.toInt = 0
          · refine zs_lcmp (pc := 31) t299_31 (c := 0) (zlcE rfl ll0 (by omega)) ?_
            refine zs_if_eqT (pc := 32) t299_32 li0 (by decide) ?_
            refine zs_lload (pc := 53) t299_53 rfl ?_
            exact zs_lret (pc := 55) t299_55 mr299 (hQ _ (by omega))
          refine zs_lcmp (pc := 31) t299_31 (c := 1) (zlcG rfl ll0 (by omega)) ?_
          refine zs_if_eqF (pc := 32) t299_32 li1 (by decide) ?_
          refine zs_lload (pc := 35) t299_35 rfl ?_
          refine zs_lload (pc := 37) t299_37 rfl ?_
          obtain ⟨w40v, w40⟩ : ∃ v, w34x4 - w34x4 / w34x6 * w34x6 = v := ⟨_, rfl⟩
          have w40g := zrg64 w40v
          refine zs_lrem (pc := 39) t299_39 (znz64 rfl (by omega)) (c := w40v) w40 ?_
          refine zs_lstore (pc := 40) t299_40 (ls' := [(8, .long w40v), (0, .long aL), (2, .long bL), (4, .long w34x4), (6, .long w34x6)]) (zml mf299 (by decide)) rfl ?_
          refine zs_lload (pc := 42) t299_42 rfl ?_
          refine zs_lstore (pc := 44) t299_44 (ls' := [(4, .long w34x6), (8, .long w40v), (0, .long aL), (2, .long bL), (6, .long w34x6)]) (zml mf299 (by decide)) rfl ?_
          refine zs_lload (pc := 46) t299_46 rfl ?_
          refine zs_lstore (pc := 48) t299_48 (ls' := [(6, .long w40v), (4, .long w34x6), (8, .long w40v), (0, .long aL), (2, .long bL)]) (zml mf299 (by decide)) rfl ?_
          refine zs_goto (pc := 50) t299_50 ?_
          refine zGo.locals (ls' := [(0, .long aL), (2, .long bL), (4, .long w34x6), (6, .long w40v)]) (by simp) ?_
          have w41 := zlrem w40 (by omega)
          exact w34ih (w34m - 1) (by omega) w34x6 w40v (by omega) (by omega)
      refine zGo.locals (ls' := [(0, .long aL), (2, .long bL), (4, .long aL), (6, .long w33v)]) (by simp) ?_
      exact w34L ((max w33v.toInt (-w33v.toInt) : Int).toNat) aL w33v (by omega) (by omega)
    by_cases w42 : bL.toInt = 0
    · refine zs_lcmp (pc := 16) t299_16 (c := 0) (zlcE rfl ll0 (by omega)) ?_
      refine zs_if_geT (pc := 17) t299_17 li0 (by decide) ?_
      refine zs_lload_n (pc := 25) t299_25 rfl ?_
      refine zs_lstore (pc := 26) t299_26 (ls' := [(6, .long bL), (4, .long aL), (0, .long aL), (2, .long bL)]) (zml mf299 (by decide)) rfl ?_
      have w43L : ∀ (m : Nat) (w43x4 : Int64) (w43x6 : Int64), (w43x4.toInt ≠ 0 ∨ w43x6.toInt ≠ 0) → max w43x6.toInt (-w43x6.toInt) ≤ (m : Int) → zGo X l 0 0 0 299 28 [(0, .long aL), (2, .long bL), (4, .long w43x4), (6, .long w43x6)] [] M Q := by
        intro m
        induction m using Nat.strongRecOn with
        | ind w43m w43ih =>
          intro w43x4 w43x6 w43r0 w43q
          have w43g4 := zrg64 w43x4
          have w43g6 := zrg64 w43x6
          refine zs_lload (pc := 28) t299_28 rfl ?_
          refine zs_lconst (pc := 30) t299_30 (v := 0) (by decide) ?_
          by_cases w44 : w43x6.toInt < 0
          · refine zs_lcmp (pc := 31) t299_31 (c := -1) (zlcL rfl ll0 (by omega)) ?_
            refine zs_if_eqF (pc := 32) t299_32 lin1 (by decide) ?_
            refine zs_lload (pc := 35) t299_35 rfl ?_
            refine zs_lload (pc := 37) t299_37 rfl ?_
            obtain ⟨w45v, w45⟩ : ∃ v, w43x4 - w43x4 / w43x6 * w43x6 = v := ⟨_, rfl⟩
            have w45g := zrg64 w45v
            refine zs_lrem (pc := 39) t299_39 (znz64 rfl (by omega)) (c := w45v) w45 ?_
            refine zs_lstore (pc := 40) t299_40 (ls' := [(8, .long w45v), (0, .long aL), (2, .long bL), (4, .long w43x4), (6, .long w43x6)]) (zml mf299 (by decide)) rfl ?_
            refine zs_lload (pc := 42) t299_42 rfl ?_
            refine zs_lstore (pc := 44) t299_44 (ls' := [(4, .long w43x6), (8, .long w45v), (0, .long aL), (2, .long bL), (6, .long w43x6)]) (zml mf299 (by decide)) rfl ?_
            refine zs_lload (pc := 46) t299_46 rfl ?_
            refine zs_lstore (pc := 48) t299_48 (ls' := [(6, .long w45v), (4, .long w43x6), (8, .long w45v), (0, .long aL), (2, .long bL)]) (zml mf299 (by decide)) rfl ?_
            refine zs_goto (pc := 50) t299_50 ?_
            refine zGo.locals (ls' := [(0, .long aL), (2, .long bL), (4, .long w43x6), (6, .long w45v)]) (by simp) ?_
            have w46 := zlrem w45 (by omega)
            exact w43ih (w43m - 1) (by omega) w43x6 w45v (by omega) (by omega)
          by_cases w47 : w43x6.toInt = 0
          · refine zs_lcmp (pc := 31) t299_31 (c := 0) (zlcE rfl ll0 (by omega)) ?_
            refine zs_if_eqT (pc := 32) t299_32 li0 (by decide) ?_
            refine zs_lload (pc := 53) t299_53 rfl ?_
            exact zs_lret (pc := 55) t299_55 mr299 (hQ _ (by omega))
          refine zs_lcmp (pc := 31) t299_31 (c := 1) (zlcG rfl ll0 (by omega)) ?_
          refine zs_if_eqF (pc := 32) t299_32 li1 (by decide) ?_
          refine zs_lload (pc := 35) t299_35 rfl ?_
          refine zs_lload (pc := 37) t299_37 rfl ?_
          obtain ⟨w49v, w49⟩ : ∃ v, w43x4 - w43x4 / w43x6 * w43x6 = v := ⟨_, rfl⟩
          have w49g := zrg64 w49v
          refine zs_lrem (pc := 39) t299_39 (znz64 rfl (by omega)) (c := w49v) w49 ?_
          refine zs_lstore (pc := 40) t299_40 (ls' := [(8, .long w49v), (0, .long aL), (2, .long bL), (4, .long w43x4), (6, .long w43x6)]) (zml mf299 (by decide)) rfl ?_
          refine zs_lload (pc := 42) t299_42 rfl ?_
          refine zs_lstore (pc := 44) t299_44 (ls' := [(4, .long w43x6), (8, .long w49v), (0, .long aL), (2, .long bL), (6, .long w43x6)]) (zml mf299 (by decide)) rfl ?_
          refine zs_lload (pc := 46) t299_46 rfl ?_
          refine zs_lstore (pc := 48) t299_48 (ls' := [(6, .long w49v), (4, .long w43x6), (8, .long w49v), (0, .long aL), (2, .long bL)]) (zml mf299 (by decide)) rfl ?_
          refine zs_goto (pc := 50) t299_50 ?_
          refine zGo.locals (ls' := [(0, .long aL), (2, .long bL), (4, .long w43x6), (6, .long w49v)]) (by simp) ?_
          have w50 := zlrem w49 (by omega)
          exact w43ih (w43m - 1) (by omega) w43x6 w49v (by omega) (by omega)
      refine zGo.locals (ls' := [(0, .long aL), (2, .long bL), (4, .long aL), (6, .long bL)]) (by simp) ?_
      exact w43L ((max bL.toInt (-bL.toInt) : Int).toNat) aL bL (by omega) (by omega)
    refine zs_lcmp (pc := 16) t299_16 (c := 1) (zlcG rfl ll0 (by omega)) ?_
    refine zs_if_geT (pc := 17) t299_17 li1 (by decide) ?_
    refine zs_lload_n (pc := 25) t299_25 rfl ?_
    refine zs_lstore (pc := 26) t299_26 (ls' := [(6, .long bL), (4, .long aL), (0, .long aL), (2, .long bL)]) (zml mf299 (by decide)) rfl ?_
    have w52L : ∀ (m : Nat) (w52x4 : Int64) (w52x6 : Int64), (w52x4.toInt ≠ 0 ∨ w52x6.toInt ≠ 0) → max w52x6.toInt (-w52x6.toInt) ≤ (m : Int) → zGo X l 0 0 0 299 28 [(0, .long aL), (2, .long bL), (4, .long w52x4), (6, .long w52x6)] [] M Q := by
      intro m
      induction m using Nat.strongRecOn with
      | ind w52m w52ih =>
        intro w52x4 w52x6 w52r0 w52q
        have w52g4 := zrg64 w52x4
        have w52g6 := zrg64 w52x6
        refine zs_lload (pc := 28) t299_28 rfl ?_
        refine zs_lconst (pc := 30) t299_30 (v := 0) (by decide) ?_
        by_cases w53 : w52x6.toInt < 0
        · refine zs_lcmp (pc := 31) t299_31 (c := -1) (zlcL rfl ll0 (by omega)) ?_
          refine zs_if_eqF (pc := 32) t299_32 lin1 (by decide) ?_
          refine zs_lload (pc := 35) t299_35 rfl ?_
          refine zs_lload (pc := 37) t299_37 rfl ?_
          obtain ⟨w54v, w54⟩ : ∃ v, w52x4 - w52x4 / w52x6 * w52x6 = v := ⟨_, rfl⟩
          have w54g := zrg64 w54v
          refine zs_lrem (pc := 39) t299_39 (znz64 rfl (by omega)) (c := w54v) w54 ?_
          refine zs_lstore (pc := 40) t299_40 (ls' := [(8, .long w54v), (0, .long aL), (2, .long bL), (4, .long w52x4), (6, .long w52x6)]) (zml mf299 (by decide)) rfl ?_
          refine zs_lload (pc := 42) t299_42 rfl ?_
          refine zs_lstore (pc := 44) t299_44 (ls' := [(4, .long w52x6), (8, .long w54v), (0, .long aL), (2, .long bL), (6, .long w52x6)]) (zml mf299 (by decide)) rfl ?_
          refine zs_lload (pc := 46) t299_46 rfl ?_
          refine zs_lstore (pc := 48) t299_48 (ls' := [(6, .long w54v), (4, .long w52x6), (8, .long w54v), (0, .long aL), (2, .long bL)]) (zml mf299 (by decide)) rfl ?_
          refine zs_goto (pc := 50) t299_50 ?_
          refine zGo.locals (ls' := [(0, .long aL), (2, .long bL), (4, .long w52x6), (6, .long w54v)]) (by simp) ?_
          have w55 := zlrem w54 (by omega)
          exact w52ih (w52m - 1) (by omega) w52x6 w54v (by omega) (by omega)
        by_cases w56 : w52x6.toInt = 0
        · refine zs_lcmp (pc := 31) t299_31 (c := 0) (zlcE rfl ll0 (by omega)) ?_
          refine zs_if_eqT (pc := 32) t299_32 li0 (by decide) ?_
          refine zs_lload (pc := 53) t299_53 rfl ?_
          exact zs_lret (pc := 55) t299_55 mr299 (hQ _ (by omega))
        refine zs_lcmp (pc := 31) t299_31 (c := 1) (zlcG rfl ll0 (by omega)) ?_
        refine zs_if_eqF (pc := 32) t299_32 li1 (by decide) ?_
        refine zs_lload (pc := 35) t299_35 rfl ?_
        refine zs_lload (pc := 37) t299_37 rfl ?_
        obtain ⟨w58v, w58⟩ : ∃ v, w52x4 - w52x4 / w52x6 * w52x6 = v := ⟨_, rfl⟩
        have w58g := zrg64 w58v
        refine zs_lrem (pc := 39) t299_39 (znz64 rfl (by omega)) (c := w58v) w58 ?_
        refine zs_lstore (pc := 40) t299_40 (ls' := [(8, .long w58v), (0, .long aL), (2, .long bL), (4, .long w52x4), (6, .long w52x6)]) (zml mf299 (by decide)) rfl ?_
        refine zs_lload (pc := 42) t299_42 rfl ?_
        refine zs_lstore (pc := 44) t299_44 (ls' := [(4, .long w52x6), (8, .long w58v), (0, .long aL), (2, .long bL), (6, .long w52x6)]) (zml mf299 (by decide)) rfl ?_
        refine zs_lload (pc := 46) t299_46 rfl ?_
        refine zs_lstore (pc := 48) t299_48 (ls' := [(6, .long w58v), (4, .long w52x6), (8, .long w58v), (0, .long aL), (2, .long bL)]) (zml mf299 (by decide)) rfl ?_
        refine zs_goto (pc := 50) t299_50 ?_
        refine zGo.locals (ls' := [(0, .long aL), (2, .long bL), (4, .long w52x6), (6, .long w58v)]) (by simp) ?_
        have w59 := zlrem w58 (by omega)
        exact w52ih (w52m - 1) (by omega) w52x6 w58v (by omega) (by omega)
    refine zGo.locals (ls' := [(0, .long aL), (2, .long bL), (4, .long aL), (6, .long bL)]) (by simp) ?_
    exact w52L ((max bL.toInt (-bL.toInt) : Int).toNat) aL bL (by omega) (by omega)
  refine zs_lcmp (pc := 2) t299_2 (c := 1) (zlcG rfl ll0 (by omega)) ?_
  refine zs_if_geT (pc := 3) t299_3 li1 (by decide) ?_
  refine zs_lload_n (pc := 11) t299_11 rfl ?_
  refine zs_lstore (pc := 12) t299_12 (ls' := [(4, .long aL), (0, .long aL), (2, .long bL)]) (zml mf299 (by decide)) rfl ?_
  refine zs_lload_n (pc := 14) t299_14 rfl ?_
  refine zs_lconst (pc := 15) t299_15 (v := 0) (by decide) ?_
  by_cases w61 : bL.toInt < 0
  · refine zs_lcmp (pc := 16) t299_16 (c := -1) (zlcL rfl ll0 (by omega)) ?_
    refine zs_if_geF (pc := 17) t299_17 lin1 (by decide) ?_
    refine zs_lload_n (pc := 20) t299_20 rfl ?_
    obtain ⟨w62v, w62⟩ : ∃ v, -bL = v := ⟨_, rfl⟩
    have w62g := zrg64 w62v
    have w62z := zlneg0 w62
    refine zs_lneg (pc := 21) t299_21 (c := w62v) w62 ?_
    refine zs_goto (pc := 22) t299_22 ?_
    refine zs_lstore (pc := 26) t299_26 (ls' := [(6, .long w62v), (4, .long aL), (0, .long aL), (2, .long bL)]) (zml mf299 (by decide)) rfl ?_
    have w63L : ∀ (m : Nat) (w63x4 : Int64) (w63x6 : Int64), (w63x4.toInt ≠ 0 ∨ w63x6.toInt ≠ 0) → max w63x6.toInt (-w63x6.toInt) ≤ (m : Int) → zGo X l 0 0 0 299 28 [(0, .long aL), (2, .long bL), (4, .long w63x4), (6, .long w63x6)] [] M Q := by
      intro m
      induction m using Nat.strongRecOn with
      | ind w63m w63ih =>
        intro w63x4 w63x6 w63r0 w63q
        have w63g4 := zrg64 w63x4
        have w63g6 := zrg64 w63x6
        refine zs_lload (pc := 28) t299_28 rfl ?_
        refine zs_lconst (pc := 30) t299_30 (v := 0) (by decide) ?_
        by_cases w64 : w63x6.toInt < 0
        · refine zs_lcmp (pc := 31) t299_31 (c := -1) (zlcL rfl ll0 (by omega)) ?_
          refine zs_if_eqF (pc := 32) t299_32 lin1 (by decide) ?_
          refine zs_lload (pc := 35) t299_35 rfl ?_
          refine zs_lload (pc := 37) t299_37 rfl ?_
          obtain ⟨w65v, w65⟩ : ∃ v, w63x4 - w63x4 / w63x6 * w63x6 = v := ⟨_, rfl⟩
          have w65g := zrg64 w65v
          refine zs_lrem (pc := 39) t299_39 (znz64 rfl (by omega)) (c := w65v) w65 ?_
          refine zs_lstore (pc := 40) t299_40 (ls' := [(8, .long w65v), (0, .long aL), (2, .long bL), (4, .long w63x4), (6, .long w63x6)]) (zml mf299 (by decide)) rfl ?_
          refine zs_lload (pc := 42) t299_42 rfl ?_
          refine zs_lstore (pc := 44) t299_44 (ls' := [(4, .long w63x6), (8, .long w65v), (0, .long aL), (2, .long bL), (6, .long w63x6)]) (zml mf299 (by decide)) rfl ?_
          refine zs_lload (pc := 46) t299_46 rfl ?_
          refine zs_lstore (pc := 48) t299_48 (ls' := [(6, .long w65v), (4, .long w63x6), (8, .long w65v), (0, .long aL), (2, .long bL)]) (zml mf299 (by decide)) rfl ?_
          refine zs_goto (pc := 50) t299_50 ?_
          refine zGo.locals (ls' := [(0, .long aL), (2, .long bL), (4, .long w63x6), (6, .long w65v)]) (by simp) ?_
          have w66 := zlrem w65 (by omega)
          exact w63ih (w63m - 1) (by omega) w63x6 w65v (by omega) (by omega)
        by_cases w67 : w63x6.toInt = 0
        · refine zs_lcmp (pc := 31) t299_31 (c := 0) (zlcE rfl ll0 (by omega)) ?_
          refine zs_if_eqT (pc := 32) t299_32 li0 (by decide) ?_
          refine zs_lload (pc := 53) t299_53 rfl ?_
          exact zs_lret (pc := 55) t299_55 mr299 (hQ _ (by omega))
        refine zs_lcmp (pc := 31) t299_31 (c := 1) (zlcG rfl ll0 (by omega)) ?_
        refine zs_if_eqF (pc := 32) t299_32 li1 (by decide) ?_
        refine zs_lload (pc := 35) t299_35 rfl ?_
        refine zs_lload (pc := 37) t299_37 rfl ?_
        obtain ⟨w69v, w69⟩ : ∃ v, w63x4 - w63x4 / w63x6 * w63x6 = v := ⟨_, rfl⟩
        have w69g := zrg64 w69v
        refine zs_lrem (pc := 39) t299_39 (znz64 rfl (by omega)) (c := w69v) w69 ?_
        refine zs_lstore (pc := 40) t299_40 (ls' := [(8, .long w69v), (0, .long aL), (2, .long bL), (4, .long w63x4), (6, .long w63x6)]) (zml mf299 (by decide)) rfl ?_
        refine zs_lload (pc := 42) t299_42 rfl ?_
        refine zs_lstore (pc := 44) t299_44 (ls' := [(4, .long w63x6), (8, .long w69v), (0, .long aL), (2, .long bL), (6, .long w63x6)]) (zml mf299 (by decide)) rfl ?_
        refine zs_lload (pc := 46) t299_46 rfl ?_
        refine zs_lstore (pc := 48) t299_48 (ls' := [(6, .long w69v), (4, .long w63x6), (8, .long w69v), (0, .long aL), (2, .long bL)]) (zml mf299 (by decide)) rfl ?_
        refine zs_goto (pc := 50) t299_50 ?_
        refine zGo.locals (ls' := [(0, .long aL), (2, .long bL), (4, .long w63x6), (6, .long w69v)]) (by simp) ?_
        have w70 := zlrem w69 (by omega)
        exact w63ih (w63m - 1) (by omega) w63x6 w69v (by omega) (by omega)
    refine zGo.locals (ls' := [(0, .long aL), (2, .long bL), (4, .long aL), (6, .long w62v)]) (by simp) ?_
    exact w63L ((max w62v.toInt (-w62v.toInt) : Int).toNat) aL w62v (by omega) (by omega)
  by_cases w71 : bL.toInt = 0
  · refine zs_lcmp (pc := 16) t299_16 (c := 0) (zlcE rfl ll0 (by omega)) ?_
    refine zs_if_geT (pc := 17) t299_17 li0 (by decide) ?_
    refine zs_lload_n (pc := 25) t299_25 rfl ?_
    refine zs_lstore (pc := 26) t299_26 (ls' := [(6, .long bL), (4, .long aL), (0, .long aL), (2, .long bL)]) (zml mf299 (by decide)) rfl ?_
    have w72L : ∀ (m : Nat) (w72x4 : Int64) (w72x6 : Int64), (w72x4.toInt ≠ 0 ∨ w72x6.toInt ≠ 0) → max w72x6.toInt (-w72x6.toInt) ≤ (m : Int) → zGo X l 0 0 0 299 28 [(0, .long aL), (2, .long bL), (4, .long w72x4), (6, .long w72x6)] [] M Q := by
      intro m
      induction m using Nat.strongRecOn with
      | ind w72m w72ih =>
        intro w72x4 w72x6 w72r0 w72q
        have w72g4 := zrg64 w72x4
        have w72g6 := zrg64 w72x6
        refine zs_lload (pc := 28) t299_28 rfl ?_
        refine zs_lconst (pc := 30) t299_30 (v := 0) (by decide) ?_
        by_cases w73 : w72x6.toInt < 0
        · refine zs_lcmp (pc := 31) t299_31 (c := -1) (zlcL rfl ll0 (by omega)) ?_
          refine zs_if_eqF (pc := 32) t299_32 lin1 (by decide) ?_
          refine zs_lload (pc := 35) t299_35 rfl ?_
          refine zs_lload (pc := 37) t299_37 rfl ?_
          obtain ⟨w74v, w74⟩ : ∃ v, w72x4 - w72x4 / w72x6 * w72x6 = v := ⟨_, rfl⟩
          have w74g := zrg64 w74v
          refine zs_lrem (pc := 39) t299_39 (znz64 rfl (by omega)) (c := w74v) w74 ?_
          refine zs_lstore (pc := 40) t299_40 (ls' := [(8, .long w74v), (0, .long aL), (2, .long bL), (4, .long w72x4), (6, .long w72x6)]) (zml mf299 (by decide)) rfl ?_
          refine zs_lload (pc := 42) t299_42 rfl ?_
          refine zs_lstore (pc := 44) t299_44 (ls' := [(4, .long w72x6), (8, .long w74v), (0, .long aL), (2, .long bL), (6, .long w72x6)]) (zml mf299 (by decide)) rfl ?_
          refine zs_lload (pc := 46) t299_46 rfl ?_
          refine zs_lstore (pc := 48) t299_48 (ls' := [(6, .long w74v), (4, .long w72x6), (8, .long w74v), (0, .long aL), (2, .long bL)]) (zml mf299 (by decide)) rfl ?_
          refine zs_goto (pc := 50) t299_50 ?_
          refine zGo.locals (ls' := [(0, .long aL), (2, .long bL), (4, .long w72x6), (6, .long w74v)]) (by simp) ?_
          have w75 := zlrem w74 (by omega)
          exact w72ih (w72m - 1) (by omega) w72x6 w74v (by omega) (by omega)
        by_cases w76 : w72x6.toInt = 0
        · refine zs_lcmp (pc := 31) t299_31 (c := 0) (zlcE rfl ll0 (by omega)) ?_
          refine zs_if_eqT (pc := 32) t299_32 li0 (by decide) ?_
          refine zs_lload (pc := 53) t299_53 rfl ?_
          exact zs_lret (pc := 55) t299_55 mr299 (hQ _ (by omega))
        refine zs_lcmp (pc := 31) t299_31 (c := 1) (zlcG rfl ll0 (by omega)) ?_
        refine zs_if_eqF (pc := 32) t299_32 li1 (by decide) ?_
        refine zs_lload (pc := 35) t299_35 rfl ?_
        refine zs_lload (pc := 37) t299_37 rfl ?_
        obtain ⟨w78v, w78⟩ : ∃ v, w72x4 - w72x4 / w72x6 * w72x6 = v := ⟨_, rfl⟩
        have w78g := zrg64 w78v
        refine zs_lrem (pc := 39) t299_39 (znz64 rfl (by omega)) (c := w78v) w78 ?_
        refine zs_lstore (pc := 40) t299_40 (ls' := [(8, .long w78v), (0, .long aL), (2, .long bL), (4, .long w72x4), (6, .long w72x6)]) (zml mf299 (by decide)) rfl ?_
        refine zs_lload (pc := 42) t299_42 rfl ?_
        refine zs_lstore (pc := 44) t299_44 (ls' := [(4, .long w72x6), (8, .long w78v), (0, .long aL), (2, .long bL), (6, .long w72x6)]) (zml mf299 (by decide)) rfl ?_
        refine zs_lload (pc := 46) t299_46 rfl ?_
        refine zs_lstore (pc := 48) t299_48 (ls' := [(6, .long w78v), (4, .long w72x6), (8, .long w78v), (0, .long aL), (2, .long bL)]) (zml mf299 (by decide)) rfl ?_
        refine zs_goto (pc := 50) t299_50 ?_
        refine zGo.locals (ls' := [(0, .long aL), (2, .long bL), (4, .long w72x6), (6, .long w78v)]) (by simp) ?_
        have w79 := zlrem w78 (by omega)
        exact w72ih (w72m - 1) (by omega) w72x6 w78v (by omega) (by omega)
    refine zGo.locals (ls' := [(0, .long aL), (2, .long bL), (4, .long aL), (6, .long bL)]) (by simp) ?_
    exact w72L ((max bL.toInt (-bL.toInt) : Int).toNat) aL bL (by omega) (by omega)
  refine zs_lcmp (pc := 16) t299_16 (c := 1) (zlcG rfl ll0 (by omega)) ?_
  refine zs_if_geT (pc := 17) t299_17 li1 (by decide) ?_
  refine zs_lload_n (pc := 25) t299_25 rfl ?_
  refine zs_lstore (pc := 26) t299_26 (ls' := [(6, .long bL), (4, .long aL), (0, .long aL), (2, .long bL)]) (zml mf299 (by decide)) rfl ?_
  have w81L : ∀ (m : Nat) (w81x4 : Int64) (w81x6 : Int64), (w81x4.toInt ≠ 0 ∨ w81x6.toInt ≠ 0) → max w81x6.toInt (-w81x6.toInt) ≤ (m : Int) → zGo X l 0 0 0 299 28 [(0, .long aL), (2, .long bL), (4, .long w81x4), (6, .long w81x6)] [] M Q := by
    intro m
    induction m using Nat.strongRecOn with
    | ind w81m w81ih =>
      intro w81x4 w81x6 w81r0 w81q
      have w81g4 := zrg64 w81x4
      have w81g6 := zrg64 w81x6
      refine zs_lload (pc := 28) t299_28 rfl ?_
      refine zs_lconst (pc := 30) t299_30 (v := 0) (by decide) ?_
      by_cases w82 : w81x6.toInt < 0
      · refine zs_lcmp (pc := 31) t299_31 (c := -1) (zlcL rfl ll0 (by omega)) ?_
        refine zs_if_eqF (pc := 32) t299_32 lin1 (by decide) ?_
        refine zs_lload (pc := 35) t299_35 rfl ?_
        refine zs_lload (pc := 37) t299_37 rfl ?_
        obtain ⟨w83v, w83⟩ : ∃ v, w81x4 - w81x4 / w81x6 * w81x6 = v := ⟨_, rfl⟩
        have w83g := zrg64 w83v
        refine zs_lrem (pc := 39) t299_39 (znz64 rfl (by omega)) (c := w83v) w83 ?_
        refine zs_lstore (pc := 40) t299_40 (ls' := [(8, .long w83v), (0, .long aL), (2, .long bL), (4, .long w81x4), (6, .long w81x6)]) (zml mf299 (by decide)) rfl ?_
        refine zs_lload (pc := 42) t299_42 rfl ?_
        refine zs_lstore (pc := 44) t299_44 (ls' := [(4, .long w81x6), (8, .long w83v), (0, .long aL), (2, .long bL), (6, .long w81x6)]) (zml mf299 (by decide)) rfl ?_
        refine zs_lload (pc := 46) t299_46 rfl ?_
        refine zs_lstore (pc := 48) t299_48 (ls' := [(6, .long w83v), (4, .long w81x6), (8, .long w83v), (0, .long aL), (2, .long bL)]) (zml mf299 (by decide)) rfl ?_
        refine zs_goto (pc := 50) t299_50 ?_
        refine zGo.locals (ls' := [(0, .long aL), (2, .long bL), (4, .long w81x6), (6, .long w83v)]) (by simp) ?_
        have w84 := zlrem w83 (by omega)
        exact w81ih (w81m - 1) (by omega) w81x6 w83v (by omega) (by omega)
      by_cases w85 : w81x6.toInt = 0
      · refine zs_lcmp (pc := 31) t299_31 (c := 0) (zlcE rfl ll0 (by omega)) ?_
        refine zs_if_eqT (pc := 32) t299_32 li0 (by decide) ?_
        refine zs_lload (pc := 53) t299_53 rfl ?_
        exact zs_lret (pc := 55) t299_55 mr299 (hQ _ (by omega))
      refine zs_lcmp (pc := 31) t299_31 (c := 1) (zlcG rfl ll0 (by omega)) ?_
      refine zs_if_eqF (pc := 32) t299_32 li1 (by decide) ?_
      refine zs_lload (pc := 35) t299_35 rfl ?_
      refine zs_lload (pc := 37) t299_37 rfl ?_
      obtain ⟨w87v, w87⟩ : ∃ v, w81x4 - w81x4 / w81x6 * w81x6 = v := ⟨_, rfl⟩
      have w87g := zrg64 w87v
      refine zs_lrem (pc := 39) t299_39 (znz64 rfl (by omega)) (c := w87v) w87 ?_
      refine zs_lstore (pc := 40) t299_40 (ls' := [(8, .long w87v), (0, .long aL), (2, .long bL), (4, .long w81x4), (6, .long w81x6)]) (zml mf299 (by decide)) rfl ?_
      refine zs_lload (pc := 42) t299_42 rfl ?_
      refine zs_lstore (pc := 44) t299_44 (ls' := [(4, .long w81x6), (8, .long w87v), (0, .long aL), (2, .long bL), (6, .long w81x6)]) (zml mf299 (by decide)) rfl ?_
      refine zs_lload (pc := 46) t299_46 rfl ?_
      refine zs_lstore (pc := 48) t299_48 (ls' := [(6, .long w87v), (4, .long w81x6), (8, .long w87v), (0, .long aL), (2, .long bL)]) (zml mf299 (by decide)) rfl ?_
      refine zs_goto (pc := 50) t299_50 ?_
      refine zGo.locals (ls' := [(0, .long aL), (2, .long bL), (4, .long w81x6), (6, .long w87v)]) (by simp) ?_
      have w88 := zlrem w87 (by omega)
      exact w81ih (w81m - 1) (by omega) w81x6 w87v (by omega) (by omega)
  refine zGo.locals (ls' := [(0, .long aL), (2, .long bL), (4, .long aL), (6, .long bL)]) (by simp) ?_
  exact w81L ((max bL.toInt (-bL.toInt) : Int).toNat) aL bL (by omega) (by omega)
