theorem C175 {X : zX} {l : Launch} {M : zM} {Q : Option Value → zM → Prop} {aL bL : Int64} (hs : zSk zMc M) (hI : zIv cLo cHi M) (hQ : ∀ v : Int64, (-9223372036854775808) ≤ v.toInt → v.toInt ≤ 9223372036854775807 → Q (some (.long v)) M) : zCall X l 1 0 0 175 [.long aL, .long bL] M Q := by
  have gaL := zrg64 aL
  have gbL := zrg64 bL
  refine zs_in (by decide) mf175 (Nat.le_of_ble_eq_true rfl) ?_
  show zGo X l 1 0 0 175 0 [(0, .long aL), (2, .long bL)] [] M _
  refine zs_lload_n (pc := 0) t175_0 rfl ?_
  refine zs_invS (pc := 1) (as := [.long aL]) (st := []) t175_1 (by decide) mf136 rfl rfl ⟨by decide, by decide, Nat.le_of_ble_eq_true rfl, Nat.le_of_ble_eq_true rfl⟩ (zs_in (by decide) mf136 (Nat.le_of_ble_eq_true rfl) ?_) (fun _ _ q => q)
  show zGo X l 0 0 0 136 0 [(0, .long aL)] [] M _
  refine zs_lload_n (pc := 0) t136_0 rfl ?_
  refine zs_lconst (pc := 1) t136_1 (v := 0) (by decide) ?_
  by_cases w1 : aL.toInt < 0
  · refine zs_lcmp (pc := 2) t136_2 (c := -1) (zlcL rfl ll0 (by omega)) ?_
    refine zs_if_geF (pc := 3) t136_3 lin1 (by decide) ?_
    refine zs_lload_n (pc := 6) t136_6 rfl ?_
    obtain ⟨w2v, w2⟩ : ∃ v, -aL = v := ⟨_, rfl⟩
    have w2g := zrg64 w2v
    refine zs_lneg (pc := 7) t136_7 (c := w2v) w2 ?_
    refine zs_goto (pc := 8) t136_8 ?_
    refine zs_lret (pc := 12) t136_12 mr136 ?_
    show zGo X l 1 0 0 175 4 [(0, .long aL), (2, .long bL)] [.long w2v] M _
    refine zs_lstore (pc := 4) t175_4 (ls' := [(4, .long w2v), (0, .long aL), (2, .long bL)]) (zml mf175 (by decide)) rfl ?_
    refine zs_lload_n (pc := 6) t175_6 rfl ?_
    refine zs_invS (pc := 7) (as := [.long bL]) (st := []) t175_7 (by decide) mf136 rfl rfl ⟨by decide, by decide, Nat.le_of_ble_eq_true rfl, Nat.le_of_ble_eq_true rfl⟩ (zs_in (by decide) mf136 (Nat.le_of_ble_eq_true rfl) ?_) (fun _ _ q => q)
    show zGo X l 0 0 0 136 0 [(0, .long bL)] [] M _
    refine zs_lload_n (pc := 0) t136_0 rfl ?_
    refine zs_lconst (pc := 1) t136_1 (v := 0) (by decide) ?_
    by_cases w3 : bL.toInt < 0
    · refine zs_lcmp (pc := 2) t136_2 (c := -1) (zlcL rfl ll0 (by omega)) ?_
      refine zs_if_geF (pc := 3) t136_3 lin1 (by decide) ?_
      refine zs_lload_n (pc := 6) t136_6 rfl ?_
      obtain ⟨w4v, w4⟩ : ∃ v, -bL = v := ⟨_, rfl⟩
      have w4g := zrg64 w4v
      refine zs_lneg (pc := 7) t136_7 (c := w4v) w4 ?_
      refine zs_goto (pc := 8) t136_8 ?_
      refine zs_lret (pc := 12) t136_12 mr136 ?_
      show zGo X l 1 0 0 175 10 [(4, .long w2v), (0, .long aL), (2, .long bL)] [.long w4v] M _
      refine zs_lstore (pc := 10) t175_10 (ls' := [(6, .long w4v), (4, .long w2v), (0, .long aL), (2, .long bL)]) (zml mf175 (by decide)) rfl ?_
      refine zs_iconst (pc := 12) t175_12 (v := 0) (by decide) ?_
      refine zs_istore (pc := 13) t175_13 (ls' := [(8, .int (0 : Int32)), (6, .long w4v), (4, .long w2v), (0, .long aL), (2, .long bL)]) (zml mf175 (by decide)) rfl ?_
      have w5L : ∀ (m : Nat) (w5x4 : Int64) (w5x6 : Int64) (w5x8 : Int32), (0 ≤ w5x8.toInt ∧ w5x8.toInt ≤ 200) → 200 - w5x8.toInt ≤ (m : Int) → zGo X l 1 0 0 175 15 [(0, .long aL), (2, .long bL), (4, .long w5x4), (6, .long w5x6), (8, .int w5x8)] [] M Q := by
        intro m
        induction m using Nat.strongRecOn with
        | ind w5m w5ih =>
          intro w5x4 w5x6 w5x8 w5b8 w5q
          have w5g4 := zrg64 w5x4
          have w5g6 := zrg64 w5x6
          refine zs_iload (pc := 15) t175_15 rfl ?_
          refine zs_sipush (pc := 17) t175_17 (v := 200) (by decide) ?_
          by_cases w6 : 200 ≤ w5x8.toInt
          · refine zs_icmp_geT (pc := 20) t175_20 rfl li200 (by omega) ?_
            refine zs_lload (pc := 51) t175_51 rfl ?_
            exact zs_lret (pc := 53) t175_53 mr175 (hQ _ (zrg64 _).1 (zrg64 _).2)
          · refine zs_icmp_geF (pc := 20) t175_20 rfl li200 (by omega) ?_
            refine zs_lload (pc := 23) t175_23 rfl ?_
            refine zs_lconst (pc := 25) t175_25 (v := 0) (by decide) ?_
            by_cases w7 : w5x6.toInt < 0
            · refine zs_lcmp (pc := 26) t175_26 (c := -1) (zlcL rfl ll0 (by omega)) ?_
              refine zs_if_eqF (pc := 27) t175_27 lin1 (by decide) ?_
              refine zs_lload (pc := 30) t175_30 rfl ?_
              refine zs_lload (pc := 32) t175_32 rfl ?_
              obtain ⟨w8v, w8⟩ : ∃ v, w5x4 - w5x4 / w5x6 * w5x6 = v := ⟨_, rfl⟩
              have w8g := zrg64 w8v
              refine zs_lrem (pc := 34) t175_34 (znz64 rfl (by omega)) (c := w8v) w8 ?_
              refine zs_lstore (pc := 35) t175_35 (ls' := [(9, .long w8v), (0, .long aL), (2, .long bL), (4, .long w5x4), (6, .long w5x6), (8, .int w5x8)]) (zml mf175 (by decide)) rfl ?_
              refine zs_lload (pc := 37) t175_37 rfl ?_
              refine zs_lstore (pc := 39) t175_39 (ls' := [(4, .long w5x6), (9, .long w8v), (0, .long aL), (2, .long bL), (6, .long w5x6), (8, .int w5x8)]) (zml mf175 (by decide)) rfl ?_
              refine zs_lload (pc := 41) t175_41 rfl ?_
              refine zs_lstore (pc := 43) t175_43 (ls' := [(6, .long w8v), (4, .long w5x6), (9, .long w8v), (0, .long aL), (2, .long bL), (8, .int w5x8)]) (zml mf175 (by decide)) rfl ?_
              obtain ⟨w9v, w9e, w9⟩ := ziadd (a := w5x8) (b := Int32.ofInt 1) rfl (show (Int32.ofInt 1).toInt = 1 by decide) (by omega) (by omega)
              refine zs_iinc (pc := 45) t175_45 (ls' := [(8, .int w9v), (6, .long w8v), (4, .long w5x6), (9, .long w8v), (0, .long aL), (2, .long bL)]) (zml mf175 (by decide)) rfl (c := w9v) w9e rfl ?_
              refine zs_goto (pc := 48) t175_48 ?_
              refine zGo.locals (ls' := [(0, .long aL), (2, .long bL), (4, .long w5x6), (6, .long w8v), (8, .int w9v)]) (by simp) ?_
              exact w5ih (w5m - 1) (by omega) w5x6 w8v w9v ⟨by omega, by omega⟩ (by omega)
            by_cases w10 : w5x6.toInt = 0
            · refine zs_lcmp (pc := 26) t175_26 (c := 0) (zlcE rfl ll0 (by omega)) ?_
              refine zs_if_eqT (pc := 27) t175_27 li0 (by decide) ?_
              refine zs_lload (pc := 51) t175_51 rfl ?_
              exact zs_lret (pc := 53) t175_53 mr175 (hQ _ (zrg64 _).1 (zrg64 _).2)
            refine zs_lcmp (pc := 26) t175_26 (c := 1) (zlcG rfl ll0 (by omega)) ?_
            refine zs_if_eqF (pc := 27) t175_27 li1 (by decide) ?_
            refine zs_lload (pc := 30) t175_30 rfl ?_
            refine zs_lload (pc := 32) t175_32 rfl ?_
            obtain ⟨w12v, w12⟩ : ∃ v, w5x4 - w5x4 / w5x6 * w5x6 = v := ⟨_, rfl⟩
            have w12g := zrg64 w12v
            refine zs_lrem (pc := 34) t175_34 (znz64 rfl (by omega)) (c := w12v) w12 ?_
            refine zs_lstore (pc := 35) t175_35 (ls' := [(9, .long w12v), (0, .long aL), (2, .long bL), (4, .long w5x4), (6, .long w5x6), (8, .int w5x8)]) (zml mf175 (by decide)) rfl ?_
            refine zs_lload (pc := 37) t175_37 rfl ?_
            refine zs_lstore (pc := 39) t175_39 (ls' := [(4, .long w5x6), (9, .long w12v), (0, .long aL), (2, .long bL), (6, .long w5x6), (8, .int w5x8)]) (zml mf175 (by decide)) rfl ?_
            refine zs_lload (pc := 41) t175_41 rfl ?_
            refine zs_lstore (pc := 43) t175_43 (ls' := [(6, .long w12v), (4, .long w5x6), (9, .long w12v), (0, .long aL), (2, .long bL), (8, .int w5x8)]) (zml mf175 (by decide)) rfl ?_
            obtain ⟨w13v, w13e, w13⟩ := ziadd (a := w5x8) (b := Int32.ofInt 1) rfl (show (Int32.ofInt 1).toInt = 1 by decide) (by omega) (by omega)
            refine zs_iinc (pc := 45) t175_45 (ls' := [(8, .int w13v), (6, .long w12v), (4, .long w5x6), (9, .long w12v), (0, .long aL), (2, .long bL)]) (zml mf175 (by decide)) rfl (c := w13v) w13e rfl ?_
            refine zs_goto (pc := 48) t175_48 ?_
            refine zGo.locals (ls' := [(0, .long aL), (2, .long bL), (4, .long w5x6), (6, .long w12v), (8, .int w13v)]) (by simp) ?_
            exact w5ih (w5m - 1) (by omega) w5x6 w12v w13v ⟨by omega, by omega⟩ (by omega)
      refine zGo.locals (ls' := [(0, .long aL), (2, .long bL), (4, .long w2v), (6, .long w4v), (8, .int (0 : Int32))]) (by simp) ?_
      have w14 := li0
      exact w5L ((200 - 0 : Int).toNat) w2v w4v (0 : Int32) ⟨by decide, by decide⟩ (by omega)
    by_cases w15 : bL.toInt = 0
    · refine zs_lcmp (pc := 2) t136_2 (c := 0) (zlcE rfl ll0 (by omega)) ?_
      refine zs_if_geT (pc := 3) t136_3 li0 (by decide) ?_
      refine zs_lload_n (pc := 11) t136_11 rfl ?_
      refine zs_lret (pc := 12) t136_12 mr136 ?_
      show zGo X l 1 0 0 175 10 [(4, .long w2v), (0, .long aL), (2, .long bL)] [.long bL] M _
      refine zs_lstore (pc := 10) t175_10 (ls' := [(6, .long bL), (4, .long w2v), (0, .long aL), (2, .long bL)]) (zml mf175 (by decide)) rfl ?_
      refine zs_iconst (pc := 12) t175_12 (v := 0) (by decide) ?_
      refine zs_istore (pc := 13) t175_13 (ls' := [(8, .int (0 : Int32)), (6, .long bL), (4, .long w2v), (0, .long aL), (2, .long bL)]) (zml mf175 (by decide)) rfl ?_
      have w16L : ∀ (m : Nat) (w16x4 : Int64) (w16x6 : Int64) (w16x8 : Int32), (0 ≤ w16x8.toInt ∧ w16x8.toInt ≤ 200) → 200 - w16x8.toInt ≤ (m : Int) → zGo X l 1 0 0 175 15 [(0, .long aL), (2, .long bL), (4, .long w16x4), (6, .long w16x6), (8, .int w16x8)] [] M Q := by
        intro m
        induction m using Nat.strongRecOn with
        | ind w16m w16ih =>
          intro w16x4 w16x6 w16x8 w16b8 w16q
          have w16g4 := zrg64 w16x4
          have w16g6 := zrg64 w16x6
          refine zs_iload (pc := 15) t175_15 rfl ?_
          refine zs_sipush (pc := 17) t175_17 (v := 200) (by decide) ?_
          by_cases w17 : 200 ≤ w16x8.toInt
          · refine zs_icmp_geT (pc := 20) t175_20 rfl li200 (by omega) ?_
            refine zs_lload (pc := 51) t175_51 rfl ?_
            exact zs_lret (pc := 53) t175_53 mr175 (hQ _ (zrg64 _).1 (zrg64 _).2)
          · refine zs_icmp_geF (pc := 20) t175_20 rfl li200 (by omega) ?_
            refine zs_lload (pc := 23) t175_23 rfl ?_
            refine zs_lconst (pc := 25) t175_25 (v := 0) (by decide) ?_
            by_cases w18 : w16x6.toInt < 0
            · refine zs_lcmp (pc := 26) t175_26 (c := -1) (zlcL rfl ll0 (by omega)) ?_
              refine zs_if_eqF (pc := 27) t175_27 lin1 (by decide) ?_
              refine zs_lload (pc := 30) t175_30 rfl ?_
              refine zs_lload (pc := 32) t175_32 rfl ?_
              obtain ⟨w19v, w19⟩ : ∃ v, w16x4 - w16x4 / w16x6 * w16x6 = v := ⟨_, rfl⟩
              have w19g := zrg64 w19v
              refine zs_lrem (pc := 34) t175_34 (znz64 rfl (by omega)) (c := w19v) w19 ?_
              refine zs_lstore (pc := 35) t175_35 (ls' := [(9, .long w19v), (0, .long aL), (2, .long bL), (4, .long w16x4), (6, .long w16x6), (8, .int w16x8)]) (zml mf175 (by decide)) rfl ?_
              refine zs_lload (pc := 37) t175_37 rfl ?_
              refine zs_lstore (pc := 39) t175_39 (ls' := [(4, .long w16x6), (9, .long w19v), (0, .long aL), (2, .long bL), (6, .long w16x6), (8, .int w16x8)]) (zml mf175 (by decide)) rfl ?_
              refine zs_lload (pc := 41) t175_41 rfl ?_
              refine zs_lstore (pc := 43) t175_43 (ls' := [(6, .long w19v), (4, .long w16x6), (9, .long w19v), (0, .long aL), (2, .long bL), (8, .int w16x8)]) (zml mf175 (by decide)) rfl ?_
              obtain ⟨w20v, w20e, w20⟩ := ziadd (a := w16x8) (b := Int32.ofInt 1) rfl (show (Int32.ofInt 1).toInt = 1 by decide) (by omega) (by omega)
              refine zs_iinc (pc := 45) t175_45 (ls' := [(8, .int w20v), (6, .long w19v), (4, .long w16x6), (9, .long w19v), (0, .long aL), (2, .long bL)]) (zml mf175 (by decide)) rfl (c := w20v) w20e rfl ?_
              refine zs_goto (pc := 48) t175_48 ?_
              refine zGo.locals (ls' := [(0, .long aL), (2, .long bL), (4, .long w16x6), (6, .long w19v), (8, .int w20v)]) (by simp) ?_
              exact w16ih (w16m - 1) (by omega) w16x6 w19v w20v ⟨by omega, by omega⟩ (by omega)
            by_cases w21 : w16x6.toInt = 0
            · refine zs_lcmp (pc := 26) t175_26 (c := 0) (zlcE rfl ll0 (by omega)) ?_
              refine zs_if_eqT (pc := 27) t175_27 li0 (by decide) ?_
              refine zs_lload (pc := 51) t175_51 rfl ?_
              exact zs_lret (pc := 53) t175_53 mr175 (hQ _ (zrg64 _).1 (zrg64 _).2)
            refine zs_lcmp (pc := 26) t175_26 (c := 1) (zlcG rfl ll0 (by omega)) ?_
            refine zs_if_eqF (pc := 27) t175_27 li1 (by decide) ?_
            refine zs_lload (pc := 30) t175_30 rfl ?_
            refine zs_lload (pc := 32) t175_32 rfl ?_
            obtain ⟨w23v, w23⟩ : ∃ v, w16x4 - w16x4 / w16x6 * w16x6 = v := ⟨_, rfl⟩
            have w23g := zrg64 w23v
            refine zs_lrem (pc := 34) t175_34 (znz64 rfl (by omega)) (c := w23v) w23 ?_
            refine zs_lstore (pc := 35) t175_35 (ls' := [(9, .long w23v), (0, .long aL), (2, .long bL), (4, .long w16x4), (6, .long w16x6), (8, .int w16x8)]) (zml mf175 (by decide)) rfl ?_
            refine zs_lload (pc := 37) t175_37 rfl ?_
            refine zs_lstore (pc := 39) t175_39 (ls' := [(4, .long w16x6), (9, .long w23v), (0, .long aL), (2, .long bL), (6, .long w16x6), (8, .int w16x8)]) (zml mf175 (by decide)) rfl ?_
            refine zs_lload (pc := 41) t175_41 rfl ?_
            refine zs_lstore (pc := 43) t175_43 (ls' := [(6, .long w23v), (4, .long w16x6), (9, .long w23v), (0, .long aL), (2, .long bL), (8, .int w16x8)]) (zml mf175 (by decide)) rfl ?_
            obtain ⟨w24v, w24e, w24⟩ := ziadd (a := w16x8) (b := Int32.ofInt 1) rfl (show (Int32.ofInt 1).toInt = 1 by decide) (by omega) (by omega)
            refine zs_iinc (pc := 45) t175_45 (ls' := [(8, .int w24v), (6, .long w23v), (4, .long w16x6), (9, .long w23v), (0, .long aL), (2, .long bL)]) (zml mf175 (by decide)) rfl (c := w24v) w24e rfl ?_
            refine zs_goto (pc := 48) t175_48 ?_
            refine zGo.locals (ls' := [(0, .long aL), (2, .long bL), (4, .long w16x6), (6, .long w23v), (8, .int w24v)]) (by simp) ?_
            exact w16ih (w16m - 1) (by omega) w16x6 w23v w24v ⟨by omega, by omega⟩ (by omega)
      refine zGo.locals (ls' := [(0, .long aL), (2, .long bL), (4, .long w2v), (6, .long bL), (8, .int (0 : Int32))]) (by simp) ?_
      have w25 := li0
      exact w16L ((200 - 0 : Int).toNat) w2v bL (0 : Int32) ⟨by decide, by decide⟩ (by omega)
    refine zs_lcmp (pc := 2) t136_2 (c := 1) (zlcG rfl ll0 (by omega)) ?_
    refine zs_if_geT (pc := 3) t136_3 li1 (by decide) ?_
    refine zs_lload_n (pc := 11) t136_11 rfl ?_
    refine zs_lret (pc := 12) t136_12 mr136 ?_
    show zGo X l 1 0 0 175 10 [(4, .long w2v), (0, .long aL), (2, .long bL)] [.long bL] M _
    refine zs_lstore (pc := 10) t175_10 (ls' := [(6, .long bL), (4, .long w2v), (0, .long aL), (2, .long bL)]) (zml mf175 (by decide)) rfl ?_
    refine zs_iconst (pc := 12) t175_12 (v := 0) (by decide) ?_
    refine zs_istore (pc := 13) t175_13 (ls' := [(8, .int (0 : Int32)), (6, .long bL), (4, .long w2v), (0, .long aL), (2, .long bL)]) (zml mf175 (by decide)) rfl ?_
    have w27L : ∀ (m : Nat) (w27x4 : Int64) (w27x6 : Int64) (w27x8 : Int32), (0 ≤ w27x8.toInt ∧ w27x8.toInt ≤ 200) → 200 - w27x8.toInt ≤ (m : Int) → zGo X l 1 0 0 175 15 [(0, .long aL), (2, .long bL), (4, .long w27x4), (6, .long w27x6), (8, .int w27x8)] [] M Q := by
      intro m
      induction m using Nat.strongRecOn with
      | ind w27m w27ih =>
        intro w27x4 w27x6 w27x8 w27b8 w27q
        have w27g4 := zrg64 w27x4
        have w27g6 := zrg64 w27x6
        refine zs_iload (pc := 15) t175_15 rfl ?_
        refine zs_sipush (pc := 17) t175_17 (v := 200) (by decide) ?_
        by_cases w28 : 200 ≤ w27x8.toInt
        · refine zs_icmp_geT (pc := 20) t175_20 rfl li200 (by omega) ?_
          refine zs_lload (pc := 51) t175_51 rfl ?_
          exact zs_lret (pc := 53) t175_53 mr175 (hQ _ (zrg64 _).1 (zrg64 _).2)
        · refine zs_icmp_geF (pc := 20) t175_20 rfl li200 (by omega) ?_
          refine zs_lload (pc := 23) t175_23 rfl ?_
          refine zs_lconst (pc := 25) t175_25 (v := 0) (by decide) ?_
          by_cases w29 : w27x6.toInt < 0
          · refine zs_lcmp (pc := 26) t175_26 (c := -1) (zlcL rfl ll0 (by omega)) ?_
            refine zs_if_eqF (pc := 27) t175_27 lin1 (by decide) ?_
            refine zs_lload (pc := 30) t175_30 rfl ?_
            refine zs_lload (pc := 32) t175_32 rfl ?_
            obtain ⟨w30v, w30⟩ : ∃ v, w27x4 - w27x4 / w27x6 * w27x6 = v := ⟨_, rfl⟩
            have w30g := zrg64 w30v
            refine zs_lrem (pc := 34) t175_34 (znz64 rfl (by omega)) (c := w30v) w30 ?_
            refine zs_lstore (pc := 35) t175_35 (ls' := [(9, .long w30v), (0, .long aL), (2, .long bL), (4, .long w27x4), (6, .long w27x6), (8, .int w27x8)]) (zml mf175 (by decide)) rfl ?_
            refine zs_lload (pc := 37) t175_37 rfl ?_
            refine zs_lstore (pc := 39) t175_39 (ls' := [(4, .long w27x6), (9, .long w30v), (0, .long aL), (2, .long bL), (6, .long w27x6), (8, .int w27x8)]) (zml mf175 (by decide)) rfl ?_
            refine zs_lload (pc := 41) t175_41 rfl ?_
            refine zs_lstore (pc := 43) t175_43 (ls' := [(6, .long w30v), (4, .long w27x6), (9, .long w30v), (0, .long aL), (2, .long bL), (8, .int w27x8)]) (zml mf175 (by decide)) rfl ?_
            obtain ⟨w31v, w31e, w31⟩ := ziadd (a := w27x8) (b := Int32.ofInt 1) rfl (show (Int32.ofInt 1).toInt = 1 by decide) (by omega) (by omega)
            refine zs_iinc (pc := 45) t175_45 (ls' := [(8, .int w31v), (6, .long w30v), (4, .long w27x6), (9, .long w30v), (0, .long aL), (2, .long bL)]) (zml mf175 (by decide)) rfl (c := w31v) w31e rfl ?_
            refine zs_goto (pc := 48) t175_48 ?_
            refine zGo.locals (ls' := [(0, .long aL), (2, .long bL), (4, .long w27x6), (6, .long w30v), (8, .int w31v)]) (by simp) ?_
            exact w27ih (w27m - 1) (by omega) w27x6 w30v w31v ⟨by omega, by omega⟩ (by omega)
          by_cases w32 : w27x6.toInt = 0
          · refine zs_lcmp (pc := 26) t175_26 (c := 0) (zlcE rfl ll0 (by omega)) ?_
            refine zs_if_eqT (pc := 27) t175_27 li0 (by decide) ?_
            refine zs_lload (pc := 51) t175_51 rfl ?_
            exact zs_lret (pc := 53) t175_53 mr175 (hQ _ (zrg64 _).1 (zrg64 _).2)
          refine zs_lcmp (pc := 26) t175_26 (c := 1) (zlcG rfl ll0 (by omega)) ?_
          refine zs_if_eqF (pc := 27) t175_27 li1 (by decide) ?_
          refine zs_lload (pc := 30) t175_30 rfl ?_
          refine zs_lload (pc := 32) t175_32 rfl ?_
          obtain ⟨w34v, w34⟩ : ∃ v, w27x4 - w27x4 / w27x6 * w27x6 = v := ⟨_, rfl⟩
          have w34g := zrg64 w34v
          refine zs_lrem (pc := 34) t175_34 (znz64 rfl (by omega)) (c := w34v) w34 ?_
          refine zs_lstore (pc := 35) t175_35 (ls' := [(9, .long w34v), (0, .long aL), (2, .long bL), (4, .long w27x4), (6, .long w27x6), (8, .int w27x8)]) (zml mf175 (by decide)) rfl ?_
          refine zs_lload (pc := 37) t175_37 rfl ?_
          refine zs_lstore (pc := 39) t175_39 (ls' := [(4, .long w27x6), (9, .long w34v), (0, .long aL), (2, .long bL), (6, .long w27x6), (8, .int w27x8)]) (zml mf175 (by decide)) rfl ?_
          refine zs_lload (pc := 41) t175_41 rfl ?_
          refine zs_lstore (pc := 43) t175_43 (ls' := [(6, .long w34v), (4, .long w27x6), (9, .long w34v), (0, .long aL), (2, .long bL), (8, .int w27x8)]) (zml mf175 (by decide)) rfl ?_
          obtain ⟨w35v, w35e, w35⟩ := ziadd (a := w27x8) (b := Int32.ofInt 1) rfl (show (Int32.ofInt 1).toInt = 1 by decide) (by omega) (by omega)
          refine zs_iinc (pc := 45) t175_45 (ls' := [(8, .int w35v), (6, .long w34v), (4, .long w27x6), (9, .long w34v), (0, .long aL), (2, .long bL)]) (zml mf175 (by decide)) rfl (c := w35v) w35e rfl ?_
          refine zs_goto (pc := 48) t175_48 ?_
          refine zGo.locals (ls' := [(0, .long aL), (2, .long bL), (4, .long w27x6), (6, .long w34v), (8, .int w35v)]) (by simp) ?_
          exact w27ih (w27m - 1) (by omega) w27x6 w34v w35v ⟨by omega, by omega⟩ (by omega)
    refine zGo.locals (ls' := [(0, .long aL), (2, .long bL), (4, .long w2v), (6, .long bL), (8, .int (0 : Int32))]) (by simp) ?_
    have w36 := li0
    exact w27L ((200 - 0 : Int).toNat) w2v bL (0 : Int32) ⟨by decide, by decide⟩ (by omega)
  by_cases w37 : aL.toInt = 0
  · refine zs_lcmp (pc := 2) t136_2 (c := 0) (zlcE rfl ll0 (by omega)) ?_
    refine zs_if_geT (pc := 3) t136_3 li0 (by decide) ?_
    refine zs_lload_n (pc := 11) t136_11 rfl ?_
    refine zs_lret (pc := 12) t136_12 mr136 ?_
    show zGo X l 1 0 0 175 4 [(0, .long aL), (2, .long bL)] [.long aL] M _
    refine zs_lstore (pc := 4) t175_4 (ls' := [(4, .long aL), (0, .long aL), (2, .long bL)]) (zml mf175 (by decide)) rfl ?_
    refine zs_lload_n (pc := 6) t175_6 rfl ?_
    refine zs_invS (pc := 7) (as := [.long bL]) (st := []) t175_7 (by decide) mf136 rfl rfl ⟨by decide, by decide, Nat.le_of_ble_eq_true rfl, Nat.le_of_ble_eq_true rfl⟩ (zs_in (by decide) mf136 (Nat.le_of_ble_eq_true rfl) ?_) (fun _ _ q => q)
    show zGo X l 0 0 0 136 0 [(0, .long bL)] [] M _
    refine zs_lload_n (pc := 0) t136_0 rfl ?_
    refine zs_lconst (pc := 1) t136_1 (v := 0) (by decide) ?_
    by_cases w38 : bL.toInt < 0
    · refine zs_lcmp (pc := 2) t136_2 (c := -1) (zlcL rfl ll0 (by omega)) ?_
      refine zs_if_geF (pc := 3) t136_3 lin1 (by decide) ?_
      refine zs_lload_n (pc := 6) t136_6 rfl ?_
      obtain ⟨w39v, w39⟩ : ∃ v, -bL = v := ⟨_, rfl⟩
      have w39g := zrg64 w39v
      refine zs_lneg (pc := 7) t136_7 (c := w39v) w39 ?_
      refine zs_goto (pc := 8) t136_8 ?_
      refine zs_lret (pc := 12) t136_12 mr136 ?_
      show zGo X l 1 0 0 175 10 [(4, .long aL), (0, .long aL), (2, .long bL)] [.long w39v] M _
      refine zs_lstore (pc := 10) t175_10 (ls' := [(6, .long w39v), (4, .long aL), (0, .long aL), (2, .long bL)]) (zml mf175 (by decide)) rfl ?_
      refine zs_iconst (pc := 12) t175_12 (v := 0) (by decide) ?_
      refine zs_istore (pc := 13) t175_13 (ls' := [(8, .int (0 : Int32)), (6, .long w39v), (4, .long aL), (0, .long aL), (2, .long bL)]) (zml mf175 (by decide)) rfl ?_
      have w40L : ∀ (m : Nat) (w40x4 : Int64) (w40x6 : Int64) (w40x8 : Int32), (0 ≤ w40x8.toInt ∧ w40x8.toInt ≤ 200) → 200 - w40x8.toInt ≤ (m : Int) → zGo X l 1 0 0 175 15 [(0, .long aL), (2, .long bL), (4, .long w40x4), (6, .long w40x6), (8, .int w40x8)] [] M Q := by
        intro m
        induction m using Nat.strongRecOn with
        | ind w40m w40ih =>
          intro w40x4 w40x6 w40x8 w40b8 w40q
          have w40g4 := zrg64 w40x4
          have w40g6 := zrg64 w40x6
          refine zs_iload (pc := 15) t175_15 rfl ?_
          refine zs_sipush (pc := 17) t175_17 (v := 200) (by decide) ?_
          by_cases w41 : 200 ≤ w40x8.toInt
          · refine zs_icmp_geT (pc := 20) t175_20 rfl li200 (by omega) ?_
            refine zs_lload (pc := 51) t175_51 rfl ?_
            exact zs_lret (pc := 53) t175_53 mr175 (hQ _ (zrg64 _).1 (zrg64 _).2)
          · refine zs_icmp_geF (pc := 20) t175_20 rfl li200 (by omega) ?_
            refine zs_lload (pc := 23) t175_23 rfl ?_
            refine zs_lconst (pc := 25) t175_25 (v := 0) (by decide) ?_
            by_cases w42 : w40x6.toInt < 0
            · refine zs_lcmp (pc := 26) t175_26 (c := -1) (zlcL rfl ll0 (by omega)) ?_
              refine zs_if_eqF (pc := 27) t175_27 lin1 (by decide) ?_
              refine zs_lload (pc := 30) t175_30 rfl ?_
              refine zs_lload (pc := 32) t175_32 rfl ?_
              obtain ⟨w43v, w43⟩ : ∃ v, w40x4 - w40x4 / w40x6 * w40x6 = v := ⟨_, rfl⟩
              have w43g := zrg64 w43v
              refine zs_lrem (pc := 34) t175_34 (znz64 rfl (by omega)) (c := w43v) w43 ?_
              refine zs_lstore (pc := 35) t175_35 (ls' := [(9, .long w43v), (0, .long aL), (2, .long bL), (4, .long w40x4), (6, .long w40x6), (8, .int w40x8)]) (zml mf175 (by decide)) rfl ?_
              refine zs_lload (pc := 37) t175_37 rfl ?_
              refine zs_lstore (pc := 39) t175_39 (ls' := [(4, .long w40x6), (9, .long w43v), (0, .long aL), (2, .long bL), (6, .long w40x6), (8, .int w40x8)]) (zml mf175 (by decide)) rfl ?_
              refine zs_lload (pc := 41) t175_41 rfl ?_
              refine zs_lstore (pc := 43) t175_43 (ls' := [(6, .long w43v), (4, .long w40x6), (9, .long w43v), (0, .long aL), (2, .long bL), (8, .int w40x8)]) (zml mf175 (by decide)) rfl ?_
              obtain ⟨w44v, w44e, w44⟩ := ziadd (a := w40x8) (b := Int32.ofInt 1) rfl (show (Int32.ofInt 1).toInt = 1 by decide) (by omega) (by omega)
              refine zs_iinc (pc := 45) t175_45 (ls' := [(8, .int w44v), (6, .long w43v), (4, .long w40x6), (9, .long w43v), (0, .long aL), (2, .long bL)]) (zml mf175 (by decide)) rfl (c := w44v) w44e rfl ?_
              refine zs_goto (pc := 48) t175_48 ?_
              refine zGo.locals (ls' := [(0, .long aL), (2, .long bL), (4, .long w40x6), (6, .long w43v), (8, .int w44v)]) (by simp) ?_
              exact w40ih (w40m - 1) (by omega) w40x6 w43v w44v ⟨by omega, by omega⟩ (by omega)
            by_cases w45 : w40x6.toInt = 0
            · refine zs_lcmp (pc := 26) t175_26 (c := 0) (zlcE rfl ll0 (by omega)) ?_
              refine zs_if_eqT (pc := 27) t175_27 li0 (by decide) ?_
              refine zs_lload (pc := 51) t175_51 rfl ?_
              exact zs_lret (pc := 53) t175_53 mr175 (hQ _ (zrg64 _).1 (zrg64 _).2)
            refine zs_lcmp (pc := 26) t175_26 (c := 1) (zlcG rfl ll0 (by omega)) ?_
            refine zs_if_eqF (pc := 27) t175_27 li1 (by decide) ?_
            refine zs_lload (pc := 30) t175_30 rfl ?_
            refine zs_lload (pc := 32) t175_32 rfl ?_
            obtain ⟨w47v, w47⟩ : ∃ v, w40x4 - w40x4 / w40x6 * w40x6 = v := ⟨_, rfl⟩
            have w47g := zrg64 w47v
            refine zs_lrem (pc := 34) t175_34 (znz64 rfl (by omega)) (c := w47v) w47 ?_
            refine zs_lstore (pc := 35) t175_35 (ls' := [(9, .long w47v), (0, .long aL), (2, .long bL), (4, .long w40x4), (6, .long w40x6), (8, .int w40x8)]) (zml mf175 (by decide)) rfl ?_
            refine zs_lload (pc := 37) t175_37 rfl ?_
            refine zs_lstore (pc := 39) t175_39 (ls' := [(4, .long w40x6), (9, .long w47v), (0, .long aL), (2, .long bL), (6, .long w40x6), (8, .int w40x8)]) (zml mf175 (by decide)) rfl ?_
            refine zs_lload (pc := 41) t175_41 rfl ?_
            refine zs_lstore (pc := 43) t175_43 (ls' := [(6, .long w47v), (4, .long w40x6), (9, .long w47v), (0, .long aL), (2, .long bL), (8, .int w40x8)]) (zml mf175 (by decide)) rfl ?_
            obtain ⟨w48v, w48e, w48⟩ := ziadd (a := w40x8) (b := Int32.ofInt 1) rfl (show (Int32.ofInt 1).toInt = 1 by decide) (by omega) (by omega)
            refine zs_iinc (pc := 45) t175_45 (ls' := [(8, .int w48v), (6, .long w47v), (4, .long w40x6), (9, .long w47v), (0, .long aL), (2, .long bL)]) (zml mf175 (by decide)) rfl (c := w48v) w48e rfl ?_
            refine zs_goto (pc := 48) t175_48 ?_
            refine zGo.locals (ls' := [(0, .long aL), (2, .long bL), (4, .long w40x6), (6, .long w47v), (8, .int w48v)]) (by simp) ?_
            exact w40ih (w40m - 1) (by omega) w40x6 w47v w48v ⟨by omega, by omega⟩ (by omega)
      refine zGo.locals (ls' := [(0, .long aL), (2, .long bL), (4, .long aL), (6, .long w39v), (8, .int (0 : Int32))]) (by simp) ?_
      have w49 := li0
      exact w40L ((200 - 0 : Int).toNat) aL w39v (0 : Int32) ⟨by decide, by decide⟩ (by omega)
    by_cases w50 : bL.toInt = 0
    · refine zs_lcmp (pc := 2) t136_2 (c := 0) (zlcE rfl ll0 (by omega)) ?_
      refine zs_if_geT (pc := 3) t136_3 li0 (by decide) ?_
      refine zs_lload_n (pc := 11) t136_11 rfl ?_
      refine zs_lret (pc := 12) t136_12 mr136 ?_
      show zGo X l 1 0 0 175 10 [(4, .long aL), (0, .long aL), (2, .long bL)] [.long bL] M _
      refine zs_lstore (pc := 10) t175_10 (ls' := [(6, .long bL), (4, .long aL), (0, .long aL), (2, .long bL)]) (zml mf175 (by decide)) rfl ?_
      refine zs_iconst (pc := 12) t175_12 (v := 0) (by decide) ?_
      refine zs_istore (pc := 13) t175_13 (ls' := [(8, .int (0 : Int32)), (6, .long bL), (4, .long aL), (0, .long aL), (2, .long bL)]) (zml mf175 (by decide)) rfl ?_
      have w51L : ∀ (m : Nat) (w51x4 : Int64) (w51x6 : Int64) (w51x8 : Int32), (0 ≤ w51x8.toInt ∧ w51x8.toInt ≤ 200) → 200 - w51x8.toInt ≤ (m : Int) → zGo X l 1 0 0 175 15 [(0, .long aL), (2, .long bL), (4, .long w51x4), (6, .long w51x6), (8, .int w51x8)] [] M Q := by
        intro m
        induction m using Nat.strongRecOn with
        | ind w51m w51ih =>
          intro w51x4 w51x6 w51x8 w51b8 w51q
          have w51g4 := zrg64 w51x4
          have w51g6 := zrg64 w51x6
          refine zs_iload (pc := 15) t175_15 rfl ?_
          refine zs_sipush (pc := 17) t175_17 (v := 200) (by decide) ?_
          by_cases w52 : 200 ≤ w51x8.toInt
          · refine zs_icmp_geT (pc := 20) t175_20 rfl li200 (by omega) ?_
            refine zs_lload (pc := 51) t175_51 rfl ?_
            exact zs_lret (pc := 53) t175_53 mr175 (hQ _ (zrg64 _).1 (zrg64 _).2)
          · refine zs_icmp_geF (pc := 20) t175_20 rfl li200 (by omega) ?_
            refine zs_lload (pc := 23) t175_23 rfl ?_
            refine zs_lconst (pc := 25) t175_25 (v := 0) (by decide) ?_
            by_cases w53 : w51x6.toInt < 0
            · refine zs_lcmp (pc := 26) t175_26 (c := -1) (zlcL rfl ll0 (by omega)) ?_
              refine zs_if_eqF (pc := 27) t175_27 lin1 (by decide) ?_
              refine zs_lload (pc := 30) t175_30 rfl ?_
              refine zs_lload (pc := 32) t175_32 rfl ?_
              obtain ⟨w54v, w54⟩ : ∃ v, w51x4 - w51x4 / w51x6 * w51x6 = v := ⟨_, rfl⟩
              have w54g := zrg64 w54v
              refine zs_lrem (pc := 34) t175_34 (znz64 rfl (by omega)) (c := w54v) w54 ?_
              refine zs_lstore (pc := 35) t175_35 (ls' := [(9, .long w54v), (0, .long aL), (2, .long bL), (4, .long w51x4), (6, .long w51x6), (8, .int w51x8)]) (zml mf175 (by decide)) rfl ?_
              refine zs_lload (pc := 37) t175_37 rfl ?_
              refine zs_lstore (pc := 39) t175_39 (ls' := [(4, .long w51x6), (9, .long w54v), (0, .long aL), (2, .long bL), (6, .long w51x6), (8, .int w51x8)]) (zml mf175 (by decide)) rfl ?_
              refine zs_lload (pc := 41) t175_41 rfl ?_
              refine zs_lstore (pc := 43) t175_43 (ls' := [(6, .long w54v), (4, .long w51x6), (9, .long w54v), (0, .long aL), (2, .long bL), (8, .int w51x8)]) (zml mf175 (by decide)) rfl ?_
              obtain ⟨w55v, w55e, w55⟩ := ziadd (a := w51x8) (b := Int32.ofInt 1) rfl (show (Int32.ofInt 1).toInt = 1 by decide) (by omega) (by omega)
              refine zs_iinc (pc := 45) t175_45 (ls' := [(8, .int w55v), (6, .long w54v), (4, .long w51x6), (9, .long w54v), (0, .long aL), (2, .long bL)]) (zml mf175 (by decide)) rfl (c := w55v) w55e rfl ?_
              refine zs_goto (pc := 48) t175_48 ?_
              refine zGo.locals (ls' := [(0, .long aL), (2, .long bL), (4, .long w51x6), (6, .long w54v), (8, .int w55v)]) (by simp) ?_
              exact w51ih (w51m - 1) (by omega) w51x6 w54v w55v ⟨by omega, by omega⟩ (by omega)
            by_cases w56 : w51x6.toInt = 0
            · refine zs_lcmp (pc := 26) t175_26 (c := 0) (zlcE rfl ll0 (by omega)) ?_
              refine zs_if_eqT (pc := 27) t175_27 li0 (by decide) ?_
              refine zs_lload (pc := 51) t175_51 rfl ?_
              exact zs_lret (pc := 53) t175_53 mr175 (hQ _ (zrg64 _).1 (zrg64 _).2)
            refine zs_lcmp (pc := 26) t175_26 (c := 1) (zlcG rfl ll0 (by omega)) ?_
            refine zs_if_eqF (pc := 27) t175_27 li1 (by decide) ?_
            refine zs_lload (pc := 30) t175_30 rfl ?_
            refine zs_lload (pc := 32) t175_32 rfl ?_
            obtain ⟨w58v, w58⟩ : ∃ v, w51x4 - w51x4 / w51x6 * w51x6 = v := ⟨_, rfl⟩
            have w58g := zrg64 w58v
            refine zs_lrem (pc := 34) t175_34 (znz64 rfl (by omega)) (c := w58v) w58 ?_
            refine zs_lstore (pc := 35) t175_35 (ls' := [(9, .long w58v), (0, .long aL), (2, .long bL), (4, .long w51x4), (6, .long w51x6), (8, .int w51x8)]) (zml mf175 (by decide)) rfl ?_
            refine zs_lload (pc := 37) t175_37 rfl ?_
            refine zs_lstore (pc := 39) t175_39 (ls' := [(4, .long w51x6), (9, .long w58v), (0, .long aL), (2, .long bL), (6, .long w51x6), (8, .int w51x8)]) (zml mf175 (by decide)) rfl ?_
            refine zs_lload (pc := 41) t175_41 rfl ?_
            refine zs_lstore (pc := 43) t175_43 (ls' := [(6, .long w58v), (4, .long w51x6), (9, .long w58v), (0, .long aL), (2, .long bL), (8, .int w51x8)]) (zml mf175 (by decide)) rfl ?_
            obtain ⟨w59v, w59e, w59⟩ := ziadd (a := w51x8) (b := Int32.ofInt 1) rfl (show (Int32.ofInt 1).toInt = 1 by decide) (by omega) (by omega)
            refine zs_iinc (pc := 45) t175_45 (ls' := [(8, .int w59v), (6, .long w58v), (4, .long w51x6), (9, .long w58v), (0, .long aL), (2, .long bL)]) (zml mf175 (by decide)) rfl (c := w59v) w59e rfl ?_
            refine zs_goto (pc := 48) t175_48 ?_
            refine zGo.locals (ls' := [(0, .long aL), (2, .long bL), (4, .long w51x6), (6, .long w58v), (8, .int w59v)]) (by simp) ?_
            exact w51ih (w51m - 1) (by omega) w51x6 w58v w59v ⟨by omega, by omega⟩ (by omega)
      refine zGo.locals (ls' := [(0, .long aL), (2, .long bL), (4, .long aL), (6, .long bL), (8, .int (0 : Int32))]) (by simp) ?_
      have w60 := li0
      exact w51L ((200 - 0 : Int).toNat) aL bL (0 : Int32) ⟨by decide, by decide⟩ (by omega)
    refine zs_lcmp (pc := 2) t136_2 (c := 1) (zlcG rfl ll0 (by omega)) ?_
    refine zs_if_geT (pc := 3) t136_3 li1 (by decide) ?_
    refine zs_lload_n (pc := 11) t136_11 rfl ?_
    refine zs_lret (pc := 12) t136_12 mr136 ?_
    show zGo X l 1 0 0 175 10 [(4, .long aL), (0, .long aL), (2, .long bL)] [.long bL] M _
    refine zs_lstore (pc := 10) t175_10 (ls' := [(6, .long bL), (4, .long aL), (0, .long aL), (2, .long bL)]) (zml mf175 (by decide)) rfl ?_
    refine zs_iconst (pc := 12) t175_12 (v := 0) (by decide) ?_
    refine zs_istore (pc := 13) t175_13 (ls' := [(8, .int (0 : Int32)), (6, .long bL), (4, .long aL), (0, .long aL), (2, .long bL)]) (zml mf175 (by decide)) rfl ?_
    have w62L : ∀ (m : Nat) (w62x4 : Int64) (w62x6 : Int64) (w62x8 : Int32), (0 ≤ w62x8.toInt ∧ w62x8.toInt ≤ 200) → 200 - w62x8.toInt ≤ (m : Int) → zGo X l 1 0 0 175 15 [(0, .long aL), (2, .long bL), (4, .long w62x4), (6, .long w62x6), (8, .int w62x8)] [] M Q := by
      intro m
      induction m using Nat.strongRecOn with
      | ind w62m w62ih =>
        intro w62x4 w62x6 w62x8 w62b8 w62q
        have w62g4 := zrg64 w62x4
        have w62g6 := zrg64 w62x6
        refine zs_iload (pc := 15) t175_15 rfl ?_
        refine zs_sipush (pc := 17) t175_17 (v := 200) (by decide) ?_
        by_cases w63 : 200 ≤ w62x8.toInt
        · refine zs_icmp_geT (pc := 20) t175_20 rfl li200 (by omega) ?_
          refine zs_lload (pc := 51) t175_51 rfl ?_
          exact zs_lret (pc := 53) t175_53 mr175 (hQ _ (zrg64 _).1 (zrg64 _).2)
        · refine zs_icmp_geF (pc := 20) t175_20 rfl li200 (by omega) ?_
          refine zs_lload (pc := 23) t175_23 rfl ?_
          refine zs_lconst (pc := 25) t175_25 (v := 0) (by decide) ?_
          by_cases w64 : w62x6.toInt < 0
          · refine zs_lcmp (pc := 26) t175_26 (c := -1) (zlcL rfl ll0 (by omega)) ?_
            refine zs_if_eqF (pc := 27) t175_27 lin1 (by decide) ?_
            refine zs_lload (pc := 30) t175_30 rfl ?_
            refine zs_lload (pc := 32) t175_32 rfl ?_
            obtain ⟨w65v, w65⟩ : ∃ v, w62x4 - w62x4 / w62x6 * w62x6 = v := ⟨_, rfl⟩
            have w65g := zrg64 w65v
            refine zs_lrem (pc := 34) t175_34 (znz64 rfl (by omega)) (c := w65v) w65 ?_
            refine zs_lstore (pc := 35) t175_35 (ls' := [(9, .long w65v), (0, .long aL), (2, .long bL), (4, .long w62x4), (6, .long w62x6), (8, .int w62x8)]) (zml mf175 (by decide)) rfl ?_
            refine zs_lload (pc := 37) t175_37 rfl ?_
            refine zs_lstore (pc := 39) t175_39 (ls' := [(4, .long w62x6), (9, .long w65v), (0, .long aL), (2, .long bL), (6, .long w62x6), (8, .int w62x8)]) (zml mf175 (by decide)) rfl ?_
            refine zs_lload (pc := 41) t175_41 rfl ?_
            refine zs_lstore (pc := 43) t175_43 (ls' := [(6, .long w65v), (4, .long w62x6), (9, .long w65v), (0, .long aL), (2, .long bL), (8, .int w62x8)]) (zml mf175 (by decide)) rfl ?_
            obtain ⟨w66v, w66e, w66⟩ := ziadd (a := w62x8) (b := Int32.ofInt 1) rfl (show (Int32.ofInt 1).toInt = 1 by decide) (by omega) (by omega)
            refine zs_iinc (pc := 45) t175_45 (ls' := [(8, .int w66v), (6, .long w65v), (4, .long w62x6), (9, .long w65v), (0, .long aL), (2, .long bL)]) (zml mf175 (by decide)) rfl (c := w66v) w66e rfl ?_
            refine zs_goto (pc := 48) t175_48 ?_
            refine zGo.locals (ls' := [(0, .long aL), (2, .long bL), (4, .long w62x6), (6, .long w65v), (8, .int w66v)]) (by simp) ?_
            exact w62ih (w62m - 1) (by omega) w62x6 w65v w66v ⟨by omega, by omega⟩ (by omega)
          by_cases w67 : w62x6.toInt = 0
          · refine zs_lcmp (pc := 26) t175_26 (c := 0) (zlcE rfl ll0 (by omega)) ?_
            refine zs_if_eqT (pc := 27) t175_27 li0 (by decide) ?_
            refine zs_lload (pc := 51) t175_51 rfl ?_
            exact zs_lret (pc := 53) t175_53 mr175 (hQ _ (zrg64 _).1 (zrg64 _).2)
          refine zs_lcmp (pc := 26) t175_26 (c := 1) (zlcG rfl ll0 (by omega)) ?_
          refine zs_if_eqF (pc := 27) t175_27 li1 (by decide) ?_
          refine zs_lload (pc := 30) t175_30 rfl ?_
          refine zs_lload (pc := 32) t175_32 rfl ?_
          obtain ⟨w69v, w69⟩ : ∃ v, w62x4 - w62x4 / w62x6 * w62x6 = v := ⟨_, rfl⟩
          have w69g := zrg64 w69v
          refine zs_lrem (pc := 34) t175_34 (znz64 rfl (by omega)) (c := w69v) w69 ?_
          refine zs_lstore (pc := 35) t175_35 (ls' := [(9, .long w69v), (0, .long aL), (2, .long bL), (4, .long w62x4), (6, .long w62x6), (8, .int w62x8)]) (zml mf175 (by decide)) rfl ?_
          refine zs_lload (pc := 37) t175_37 rfl ?_
          refine zs_lstore (pc := 39) t175_39 (ls' := [(4, .long w62x6), (9, .long w69v), (0, .long aL), (2, .long bL), (6, .long w62x6), (8, .int w62x8)]) (zml mf175 (by decide)) rfl ?_
          refine zs_lload (pc := 41) t175_41 rfl ?_
          refine zs_lstore (pc := 43) t175_43 (ls' := [(6, .long w69v), (4, .long w62x6), (9, .long w69v), (0, .long aL), (2, .long bL), (8, .int w62x8)]) (zml mf175 (by decide)) rfl ?_
          obtain ⟨w70v, w70e, w70⟩ := ziadd (a := w62x8) (b := Int32.ofInt 1) rfl (show (Int32.ofInt 1).toInt = 1 by decide) (by omega) (by omega)
          refine zs_iinc (pc := 45) t175_45 (ls' := [(8, .int w70v), (6, .long w69v), (4, .long w62x6), (9, .long w69v), (0, .long aL), (2, .long bL)]) (zml mf175 (by decide)) rfl (c := w70v) w70e rfl ?_
          refine zs_goto (pc := 48) t175_48 ?_
          refine zGo.locals (ls' := [(0, .long aL), (2, .long bL), (4, .long w62x6), (6, .long w69v), (8, .int w70v)]) (by simp) ?_
          exact w62ih (w62m - 1) (by omega) w62x6 w69v w70v ⟨by omega, by omega⟩ (by omega)
    refine zGo.locals (ls' := [(0, .long aL), (2, .long bL), (4, .long aL), (6, .long bL), (8, .int (0 : Int32))]) (by simp) ?_
    have w71 := li0
    exact w62L ((200 - 0 : Int).toNat) aL bL (0 : Int32) ⟨by decide, by decide⟩ (by omega)
  refine zs_lcmp (pc := 2) t136_2 (c := 1) (zlcG rfl ll0 (by omega)) ?_
  refine zs_if_geT (pc := 3) t136_3 li1 (by decide) ?_
  refine zs_lload_n (pc := 11) t136_11 rfl ?_
  refine zs_lret (pc := 12) t136_12 mr136 ?_
  show zGo X l 1 0 0 175 4 [(0, .long aL), (2, .long bL)] [.long aL] M _
  refine zs_lstore (pc := 4) t175_4 (ls' := [(4, .long aL), (0, .long aL), (2, .long bL)]) (zml mf175 (by decide)) rfl ?_
  refine zs_lload_n (pc := 6) t175_6 rfl ?_
  refine zs_invS (pc := 7) (as := [.long bL]) (st := []) t175_7 (by decide) mf136 rfl rfl ⟨by decide, by decide, Nat.le_of_ble_eq_true rfl, Nat.le_of_ble_eq_true rfl⟩ (zs_in (by decide) mf136 (Nat.le_of_ble_eq_true rfl) ?_) (fun _ _ q => q)
  show zGo X l 0 0 0 136 0 [(0, .long bL)] [] M _
  refine zs_lload_n (pc := 0) t136_0 rfl ?_
  refine zs_lconst (pc := 1) t136_1 (v := 0) (by decide) ?_
  by_cases w73 : bL.toInt < 0
  · refine zs_lcmp (pc := 2) t136_2 (c := -1) (zlcL rfl ll0 (by omega)) ?_
    refine zs_if_geF (pc := 3) t136_3 lin1 (by decide) ?_
    refine zs_lload_n (pc := 6) t136_6 rfl ?_
    obtain ⟨w74v, w74⟩ : ∃ v, -bL = v := ⟨_, rfl⟩
    have w74g := zrg64 w74v
    refine zs_lneg (pc := 7) t136_7 (c := w74v) w74 ?_
    refine zs_goto (pc := 8) t136_8 ?_
    refine zs_lret (pc := 12) t136_12 mr136 ?_
    show zGo X l 1 0 0 175 10 [(4, .long aL), (0, .long aL), (2, .long bL)] [.long w74v] M _
    refine zs_lstore (pc := 10) t175_10 (ls' := [(6, .long w74v), (4, .long aL), (0, .long aL), (2, .long bL)]) (zml mf175 (by decide)) rfl ?_
    refine zs_iconst (pc := 12) t175_12 (v := 0) (by decide) ?_
    refine zs_istore (pc := 13) t175_13 (ls' := [(8, .int (0 : Int32)), (6, .long w74v), (4, .long aL), (0, .long aL), (2, .long bL)]) (zml mf175 (by decide)) rfl ?_
    have w75L : ∀ (m : Nat) (w75x4 : Int64) (w75x6 : Int64) (w75x8 : Int32), (0 ≤ w75x8.toInt ∧ w75x8.toInt ≤ 200) → 200 - w75x8.toInt ≤ (m : Int) → zGo X l 1 0 0 175 15 [(0, .long aL), (2, .long bL), (4, .long w75x4), (6, .long w75x6), (8, .int w75x8)] [] M Q := by
      intro m
      induction m using Nat.strongRecOn with
      | ind w75m w75ih =>
        intro w75x4 w75x6 w75x8 w75b8 w75q
        have w75g4 := zrg64 w75x4
        have w75g6 := zrg64 w75x6
        refine zs_iload (pc := 15) t175_15 rfl ?_
        refine zs_sipush (pc := 17) t175_17 (v := 200) (by decide) ?_
        by_cases w76 : 200 ≤ w75x8.toInt
        · refine zs_icmp_geT (pc := 20) t175_20 rfl li200 (by omega) ?_
          refine zs_lload (pc := 51) t175_51 rfl ?_
          exact zs_lret (pc := 53) t175_53 mr175 (hQ _ (zrg64 _).1 (zrg64 _).2)
        · refine zs_icmp_geF (pc := 20) t175_20 rfl li200 (by omega) ?_
          refine zs_lload (pc := 23) t175_23 rfl ?_
          refine zs_lconst (pc := 25) t175_25 (v := 0) (by decide) ?_
          by_cases w77 : w75x6.toInt < 0
          · refine zs_lcmp (pc := 26) t175_26 (c := -1) (zlcL rfl ll0 (by omega)) ?_
            refine zs_if_eqF (pc := 27) t175_27 lin1 (by decide) ?_
            refine zs_lload (pc := 30) t175_30 rfl ?_
            refine zs_lload (pc := 32) t175_32 rfl ?_
            obtain ⟨w78v, w78⟩ : ∃ v, w75x4 - w75x4 / w75x6 * w75x6 = v := ⟨_, rfl⟩
            have w78g := zrg64 w78v
            refine zs_lrem (pc := 34) t175_34 (znz64 rfl (by omega)) (c := w78v) w78 ?_
            refine zs_lstore (pc := 35) t175_35 (ls' := [(9, .long w78v), (0, .long aL), (2, .long bL), (4, .long w75x4), (6, .long w75x6), (8, .int w75x8)]) (zml mf175 (by decide)) rfl ?_
            refine zs_lload (pc := 37) t175_37 rfl ?_
            refine zs_lstore (pc := 39) t175_39 (ls' := [(4, .long w75x6), (9, .long w78v), (0, .long aL), (2, .long bL), (6, .long w75x6), (8, .int w75x8)]) (zml mf175 (by decide)) rfl ?_
            refine zs_lload (pc := 41) t175_41 rfl ?_
            refine zs_lstore (pc := 43) t175_43 (ls' := [(6, .long w78v), (4, .long w75x6), (9, .long w78v), (0, .long aL), (2, .long bL), (8, .int w75x8)]) (zml mf175 (by decide)) rfl ?_
            obtain ⟨w79v, w79e, w79⟩ := ziadd (a := w75x8) (b := Int32.ofInt 1) rfl (show (Int32.ofInt 1).toInt = 1 by decide) (by omega) (by omega)
            refine zs_iinc (pc := 45) t175_45 (ls' := [(8, .int w79v), (6, .long w78v), (4, .long w75x6), (9, .long w78v), (0, .long aL), (2, .long bL)]) (zml mf175 (by decide)) rfl (c := w79v) w79e rfl ?_
            refine zs_goto (pc := 48) t175_48 ?_
            refine zGo.locals (ls' := [(0, .long aL), (2, .long bL), (4, .long w75x6), (6, .long w78v), (8, .int w79v)]) (by simp) ?_
            exact w75ih (w75m - 1) (by omega) w75x6 w78v w79v ⟨by omega, by omega⟩ (by omega)
          by_cases w80 : w75x6.toInt = 0
          · refine zs_lcmp (pc := 26) t175_26 (c := 0) (zlcE rfl ll0 (by omega)) ?_
            refine zs_if_eqT (pc := 27) t175_27 li0 (by decide) ?_
            refine zs_lload (pc := 51) t175_51 rfl ?_
            exact zs_lret (pc := 53) t175_53 mr175 (hQ _ (zrg64 _).1 (zrg64 _).2)
          refine zs_lcmp (pc := 26) t175_26 (c := 1) (zlcG rfl ll0 (by omega)) ?_
          refine zs_if_eqF (pc := 27) t175_27 li1 (by decide) ?_
          refine zs_lload (pc := 30) t175_30 rfl ?_
          refine zs_lload (pc := 32) t175_32 rfl ?_
          obtain ⟨w82v, w82⟩ : ∃ v, w75x4 - w75x4 / w75x6 * w75x6 = v := ⟨_, rfl⟩
          have w82g := zrg64 w82v
          refine zs_lrem (pc := 34) t175_34 (znz64 rfl (by omega)) (c := w82v) w82 ?_
          refine zs_lstore (pc := 35) t175_35 (ls' := [(9, .long w82v), (0, .long aL), (2, .long bL), (4, .long w75x4), (6, .long w75x6), (8, .int w75x8)]) (zml mf175 (by decide)) rfl ?_
          refine zs_lload (pc := 37) t175_37 rfl ?_
          refine zs_lstore (pc := 39) t175_39 (ls' := [(4, .long w75x6), (9, .long w82v), (0, .long aL), (2, .long bL), (6, .long w75x6), (8, .int w75x8)]) (zml mf175 (by decide)) rfl ?_
          refine zs_lload (pc := 41) t175_41 rfl ?_
          refine zs_lstore (pc := 43) t175_43 (ls' := [(6, .long w82v), (4, .long w75x6), (9, .long w82v), (0, .long aL), (2, .long bL), (8, .int w75x8)]) (zml mf175 (by decide)) rfl ?_
          obtain ⟨w83v, w83e, w83⟩ := ziadd (a := w75x8) (b := Int32.ofInt 1) rfl (show (Int32.ofInt 1).toInt = 1 by decide) (by omega) (by omega)
          refine zs_iinc (pc := 45) t175_45 (ls' := [(8, .int w83v), (6, .long w82v), (4, .long w75x6), (9, .long w82v), (0, .long aL), (2, .long bL)]) (zml mf175 (by decide)) rfl (c := w83v) w83e rfl ?_
          refine zs_goto (pc := 48) t175_48 ?_
          refine zGo.locals (ls' := [(0, .long aL), (2, .long bL), (4, .long w75x6), (6, .long w82v), (8, .int w83v)]) (by simp) ?_
          exact w75ih (w75m - 1) (by omega) w75x6 w82v w83v ⟨by omega, by omega⟩ (by omega)
    refine zGo.locals (ls' := [(0, .long aL), (2, .long bL), (4, .long aL), (6, .long w74v), (8, .int (0 : Int32))]) (by simp) ?_
    have w84 := li0
    exact w75L ((200 - 0 : Int).toNat) aL w74v (0 : Int32) ⟨by decide, by decide⟩ (by omega)
  by_cases w85 : bL.toInt = 0
  · refine zs_lcmp (pc := 2) t136_2 (c := 0) (zlcE rfl ll0 (by omega)) ?_
    refine zs_if_geT (pc := 3) t136_3 li0 (by decide) ?_
    refine zs_lload_n (pc := 11) t136_11 rfl ?_
    refine zs_lret (pc := 12) t136_12 mr136 ?_
    show zGo X l 1 0 0 175 10 [(4, .long aL), (0, .long aL), (2, .long bL)] [.long bL] M _
    refine zs_lstore (pc := 10) t175_10 (ls' := [(6, .long bL), (4, .long aL), (0, .long aL), (2, .long bL)]) (zml mf175 (by decide)) rfl ?_
    refine zs_iconst (pc := 12) t175_12 (v := 0) (by decide) ?_
    refine zs_istore (pc := 13) t175_13 (ls' := [(8, .int (0 : Int32)), (6, .long bL), (4, .long aL), (0, .long aL), (2, .long bL)]) (zml mf175 (by decide)) rfl ?_
    have w86L : ∀ (m : Nat) (w86x4 : Int64) (w86x6 : Int64) (w86x8 : Int32), (0 ≤ w86x8.toInt ∧ w86x8.toInt ≤ 200) → 200 - w86x8.toInt ≤ (m : Int) → zGo X l 1 0 0 175 15 [(0, .long aL), (2, .long bL), (4, .long w86x4), (6, .long w86x6), (8, .int w86x8)] [] M Q := by
      intro m
      induction m using Nat.strongRecOn with
      | ind w86m w86ih =>
        intro w86x4 w86x6 w86x8 w86b8 w86q
        have w86g4 := zrg64 w86x4
        have w86g6 := zrg64 w86x6
        refine zs_iload (pc := 15) t175_15 rfl ?_
        refine zs_sipush (pc := 17) t175_17 (v := 200) (by decide) ?_
        by_cases w87 : 200 ≤ w86x8.toInt
        · refine zs_icmp_geT (pc := 20) t175_20 rfl li200 (by omega) ?_
          refine zs_lload (pc := 51) t175_51 rfl ?_
          exact zs_lret (pc := 53) t175_53 mr175 (hQ _ (zrg64 _).1 (zrg64 _).2)
        · refine zs_icmp_geF (pc := 20) t175_20 rfl li200 (by omega) ?_
          refine zs_lload (pc := 23) t175_23 rfl ?_
          refine zs_lconst (pc := 25) t175_25 (v := 0) (by decide) ?_
          by_cases w88 : w86x6.toInt < 0
          · refine zs_lcmp (pc := 26) t175_26 (c := -1) (zlcL rfl ll0 (by omega)) ?_
            refine zs_if_eqF (pc := 27) t175_27 lin1 (by decide) ?_
            refine zs_lload (pc := 30) t175_30 rfl ?_
            refine zs_lload (pc := 32) t175_32 rfl ?_
            obtain ⟨w89v, w89⟩ : ∃ v, w86x4 - w86x4 / w86x6 * w86x6 = v := ⟨_, rfl⟩
            have w89g := zrg64 w89v
            refine zs_lrem (pc := 34) t175_34 (znz64 rfl (by omega)) (c := w89v) w89 ?_
            refine zs_lstore (pc := 35) t175_35 (ls' := [(9, .long w89v), (0, .long aL), (2, .long bL), (4, .long w86x4), (6, .long w86x6), (8, .int w86x8)]) (zml mf175 (by decide)) rfl ?_
            refine zs_lload (pc := 37) t175_37 rfl ?_
            refine zs_lstore (pc := 39) t175_39 (ls' := [(4, .long w86x6), (9, .long w89v), (0, .long aL), (2, .long bL), (6, .long w86x6), (8, .int w86x8)]) (zml mf175 (by decide)) rfl ?_
            refine zs_lload (pc := 41) t175_41 rfl ?_
            refine zs_lstore (pc := 43) t175_43 (ls' := [(6, .long w89v), (4, .long w86x6), (9, .long w89v), (0, .long aL), (2, .long bL), (8, .int w86x8)]) (zml mf175 (by decide)) rfl ?_
            obtain ⟨w90v, w90e, w90⟩ := ziadd (a := w86x8) (b := Int32.ofInt 1) rfl (show (Int32.ofInt 1).toInt = 1 by decide) (by omega) (by omega)
            refine zs_iinc (pc := 45) t175_45 (ls' := [(8, .int w90v), (6, .long w89v), (4, .long w86x6), (9, .long w89v), (0, .long aL), (2, .long bL)]) (zml mf175 (by decide)) rfl (c := w90v) w90e rfl ?_
            refine zs_goto (pc := 48) t175_48 ?_
            refine zGo.locals (ls' := [(0, .long aL), (2, .long bL), (4, .long w86x6), (6, .long w89v), (8, .int w90v)]) (by simp) ?_
            exact w86ih (w86m - 1) (by omega) w86x6 w89v w90v ⟨by omega, by omega⟩ (by omega)
          by_cases w91 : w86x6.toInt = 0
          · refine zs_lcmp (pc := 26) t175_26 (c := 0) (zlcE rfl ll0 (by omega)) ?_
            refine zs_if_eqT (pc := 27) t175_27 li0 (by decide) ?_
            refine zs_lload (pc := 51) t175_51 rfl ?_
            exact zs_lret (pc := 53) t175_53 mr175 (hQ _ (zrg64 _).1 (zrg64 _).2)
          refine zs_lcmp (pc := 26) t175_26 (c := 1) (zlcG rfl ll0 (by omega)) ?_
          refine zs_if_eqF (pc := 27) t175_27 li1 (by decide) ?_
          refine zs_lload (pc := 30) t175_30 rfl ?_
          refine zs_lload (pc := 32) t175_32 rfl ?_
          obtain ⟨w93v, w93⟩ : ∃ v, w86x4 - w86x4 / w86x6 * w86x6 = v := ⟨_, rfl⟩
          have w93g := zrg64 w93v
          refine zs_lrem (pc := 34) t175_34 (znz64 rfl (by omega)) (c := w93v) w93 ?_
          refine zs_lstore (pc := 35) t175_35 (ls' := [(9, .long w93v), (0, .long aL), (2, .long bL), (4, .long w86x4), (6, .long w86x6), (8, .int w86x8)]) (zml mf175 (by decide)) rfl ?_
          refine zs_lload (pc := 37) t175_37 rfl ?_
          refine zs_lstore (pc := 39) t175_39 (ls' := [(4, .long w86x6), (9, .long w93v), (0, .long aL), (2, .long bL), (6, .long w86x6), (8, .int w86x8)]) (zml mf175 (by decide)) rfl ?_
          refine zs_lload (pc := 41) t175_41 rfl ?_
          refine zs_lstore (pc := 43) t175_43 (ls' := [(6, .long w93v), (4, .long w86x6), (9, .long w93v), (0, .long aL), (2, .long bL), (8, .int w86x8)]) (zml mf175 (by decide)) rfl ?_
          obtain ⟨w94v, w94e, w94⟩ := ziadd (a := w86x8) (b := Int32.ofInt 1) rfl (show (Int32.ofInt 1).toInt = 1 by decide) (by omega) (by omega)
          refine zs_iinc (pc := 45) t175_45 (ls' := [(8, .int w94v), (6, .long w93v), (4, .long w86x6), (9, .long w93v), (0, .long aL), (2, .long bL)]) (zml mf175 (by decide)) rfl (c := w94v) w94e rfl ?_
          refine zs_goto (pc := 48) t175_48 ?_
          refine zGo.locals (ls' := [(0, .long aL), (2, .long bL), (4, .long w86x6), (6, .long w93v), (8, .int w94v)]) (by simp) ?_
          exact w86ih (w86m - 1) (by omega) w86x6 w93v w94v ⟨by omega, by omega⟩ (by omega)
    refine zGo.locals (ls' := [(0, .long aL), (2, .long bL), (4, .long aL), (6, .long bL), (8, .int (0 : Int32))]) (by simp) ?_
    have w95 := li0
    exact w86L ((200 - 0 : Int).toNat) aL bL (0 : Int32) ⟨by decide, by decide⟩ (by omega)
  refine zs_lcmp (pc := 2) t136_2 (c := 1) (zlcG rfl ll0 (by omega)) ?_
  refine zs_if_geT (pc := 3) t136_3 li1 (by decide) ?_
  refine zs_lload_n (pc := 11) t136_11 rfl ?_
  refine zs_lret (pc := 12) t136_12 mr136 ?_
  show zGo X l 1 0 0 175 10 [(4, .long aL), (0, .long aL), (2, .long bL)] [.long bL] M _
  refine zs_lstore (pc := 10) t175_10 (ls' := [(6, .long bL), (4, .long aL), (0, .long aL), (2, .long bL)]) (zml mf175 (by decide)) rfl ?_
  refine zs_iconst (pc := 12) t175_12 (v := 0) (by decide) ?_
  refine zs_istore (pc := 13) t175_13 (ls' := [(8, .int (0 : Int32)), (6, .long bL), (4, .long aL), (0, .long aL), (2, .long bL)]) (zml mf175 (by decide)) rfl ?_
  have w97L : ∀ (m : Nat) (w97x4 : Int64) (w97x6 : Int64) (w97x8 : Int32), (0 ≤ w97x8.toInt ∧ w97x8.toInt ≤ 200) → 200 - w97x8.toInt ≤ (m : Int) → zGo X l 1 0 0 175 15 [(0, .long aL), (2, .long bL), (4, .long w97x4), (6, .long w97x6), (8, .int w97x8)] [] M Q := by
    intro m
    induction m using Nat.strongRecOn with
    | ind w97m w97ih =>
      intro w97x4 w97x6 w97x8 w97b8 w97q
      have w97g4 := zrg64 w97x4
      have w97g6 := zrg64 w97x6
      refine zs_iload (pc := 15) t175_15 rfl ?_
      refine zs_sipush (pc := 17) t175_17 (v := 200) (by decide) ?_
      by_cases w98 : 200 ≤ w97x8.toInt
      · refine zs_icmp_geT (pc := 20) t175_20 rfl li200 (by omega) ?_
        refine zs_lload (pc := 51) t175_51 rfl ?_
        exact zs_lret (pc := 53) t175_53 mr175 (hQ _ (zrg64 _).1 (zrg64 _).2)
      · refine zs_icmp_geF (pc := 20) t175_20 rfl li200 (by omega) ?_
        refine zs_lload (pc := 23) t175_23 rfl ?_
        refine zs_lconst (pc := 25) t175_25 (v := 0) (by decide) ?_
        by_cases w99 : w97x6.toInt < 0
        · refine zs_lcmp (pc := 26) t175_26 (c := -1) (zlcL rfl ll0 (by omega)) ?_
          refine zs_if_eqF (pc := 27) t175_27 lin1 (by decide) ?_
          refine zs_lload (pc := 30) t175_30 rfl ?_
          refine zs_lload (pc := 32) t175_32 rfl ?_
          obtain ⟨w100v, w100⟩ : ∃ v, w97x4 - w97x4 / w97x6 * w97x6 = v := ⟨_, rfl⟩
          have w100g := zrg64 w100v
          refine zs_lrem (pc := 34) t175_34 (znz64 rfl (by omega)) (c := w100v) w100 ?_
          refine zs_lstore (pc := 35) t175_35 (ls' := [(9, .long w100v), (0, .long aL), (2, .long bL), (4, .long w97x4), (6, .long w97x6), (8, .int w97x8)]) (zml mf175 (by decide)) rfl ?_
          refine zs_lload (pc := 37) t175_37 rfl ?_
          refine zs_lstore (pc := 39) t175_39 (ls' := [(4, .long w97x6), (9, .long w100v), (0, .long aL), (2, .long bL), (6, .long w97x6), (8, .int w97x8)]) (zml mf175 (by decide)) rfl ?_
          refine zs_lload (pc := 41) t175_41 rfl ?_
          refine zs_lstore (pc := 43) t175_43 (ls' := [(6, .long w100v), (4, .long w97x6), (9, .long w100v), (0, .long aL), (2, .long bL), (8, .int w97x8)]) (zml mf175 (by decide)) rfl ?_
          obtain ⟨w101v, w101e, w101⟩ := ziadd (a := w97x8) (b := Int32.ofInt 1) rfl (show (Int32.ofInt 1).toInt = 1 by decide) (by omega) (by omega)
          refine zs_iinc (pc := 45) t175_45 (ls' := [(8, .int w101v), (6, .long w100v), (4, .long w97x6), (9, .long w100v), (0, .long aL), (2, .long bL)]) (zml mf175 (by decide)) rfl (c := w101v) w101e rfl ?_
          refine zs_goto (pc := 48) t175_48 ?_
          refine zGo.locals (ls' := [(0, .long aL), (2, .long bL), (4, .long w97x6), (6, .long w100v), (8, .int w101v)]) (by simp) ?_
          exact w97ih (w97m - 1) (by omega) w97x6 w100v w101v ⟨by omega, by omega⟩ (by omega)
        by_cases w102 : w97x6.toInt = 0
        · refine zs_lcmp (pc := 26) t175_26 (c := 0) (zlcE rfl ll0 (by omega)) ?_
          refine zs_if_eqT (pc := 27) t175_27 li0 (by decide) ?_
          refine zs_lload (pc := 51) t175_51 rfl ?_
          exact zs_lret (pc := 53) t175_53 mr175 (hQ _ (zrg64 _).1 (zrg64 _).2)
        refine zs_lcmp (pc := 26) t175_26 (c := 1) (zlcG rfl ll0 (by omega)) ?_
        refine zs_if_eqF (pc := 27) t175_27 li1 (by decide) ?_
        refine zs_lload (pc := 30) t175_30 rfl ?_
        refine zs_lload (pc := 32) t175_32 rfl ?_
        obtain ⟨w104v, w104⟩ : ∃ v, w97x4 - w97x4 / w97x6 * w97x6 = v := ⟨_, rfl⟩
        have w104g := zrg64 w104v
        refine zs_lrem (pc := 34) t175_34 (znz64 rfl (by omega)) (c := w104v) w104 ?_
        refine zs_lstore (pc := 35) t175_35 (ls' := [(9, .long w104v), (0, .long aL), (2, .long bL), (4, .long w97x4), (6, .long w97x6), (8, .int w97x8)]) (zml mf175 (by decide)) rfl ?_
        refine zs_lload (pc := 37) t175_37 rfl ?_
        refine zs_lstore (pc := 39) t175_39 (ls' := [(4, .long w97x6), (9, .long w104v), (0, .long aL), (2, .long bL), (6, .long w97x6), (8, .int w97x8)]) (zml mf175 (by decide)) rfl ?_
        refine zs_lload (pc := 41) t175_41 rfl ?_
        refine zs_lstore (pc := 43) t175_43 (ls' := [(6, .long w104v), (4, .long w97x6), (9, .long w104v), (0, .long aL), (2, .long bL), (8, .int w97x8)]) (zml mf175 (by decide)) rfl ?_
        obtain ⟨w105v, w105e, w105⟩ := ziadd (a := w97x8) (b := Int32.ofInt 1) rfl (show (Int32.ofInt 1).toInt = 1 by decide) (by omega) (by omega)
        refine zs_iinc (pc := 45) t175_45 (ls' := [(8, .int w105v), (6, .long w104v), (4, .long w97x6), (9, .long w104v), (0, .long aL), (2, .long bL)]) (zml mf175 (by decide)) rfl (c := w105v) w105e rfl ?_
        refine zs_goto (pc := 48) t175_48 ?_
        refine zGo.locals (ls' := [(0, .long aL), (2, .long bL), (4, .long w97x6), (6, .long w104v), (8, .int w105v)]) (by simp) ?_
        exact w97ih (w97m - 1) (by omega) w97x6 w104v w105v ⟨by omega, by omega⟩ (by omega)
  refine zGo.locals (ls' := [(0, .long aL), (2, .long bL), (4, .long aL), (6, .long bL), (8, .int (0 : Int32))]) (by simp) ?_
  have w106 := li0
  exact w97L ((200 - 0 : Int).toNat) aL bL (0 : Int32) ⟨by decide, by decide⟩ (by omega)
theorem C174 {X : zX} {l : Launch} {M : zM} {Q : Option Value → zM → Prop} {aL bL : Int64} (hs : zSk zMc M) (hI : zIv cLo cHi M) (hQ : ∀ v : Int64, (-9223372036854775808) ≤ v.toInt → v.toInt ≤ 9223372036854775807 → Q (some (.long v)) M) : zCall X l 2 0 0 174 [.long aL, .long bL] M Q := by
  have gaL := zrg64 aL
  have gbL := zrg64 bL
  refine zs_in (by decide) mf174 (Nat.le_of_ble_eq_true rfl) ?_
  show zGo X l 2 0 0 174 0 [(0, .long aL), (2, .long bL)] [] M _
  refine zs_lload_n (pc := 0) t174_0 rfl ?_
  refine zs_lload_n (pc := 1) t174_1 rfl ?_
  refine zs_invS (pc := 2) (as := [.long aL, .long bL]) (st := []) t174_2 (by decide) mf175 rfl rfl ⟨by decide, by decide, Nat.le_of_ble_eq_true rfl, Nat.le_of_ble_eq_true rfl⟩ (C175 hs hI ?_) (fun _ _ q => q)
  intro w1v w1a w1b
  show zGo X l 2 0 0 174 5 [(0, .long aL), (2, .long bL)] [.long w1v] M _
  refine zs_lstore (pc := 5) t174_5 (ls' := [(4, .long w1v), (0, .long aL), (2, .long bL)]) (zml mf174 (by decide)) rfl ?_
  refine zs_lload (pc := 7) t174_7 rfl ?_
  refine zs_lconst (pc := 9) t174_9 (v := 0) (by decide) ?_
  by_cases w2 : w1v.toInt < 0
  · refine zs_lcmp (pc := 10) t174_10 (c := -1) (zlcL rfl ll0 (by omega)) ?_
    refine zs_if_neT (pc := 11) t174_11 lin1 (by decide) ?_
    refine zs_lload_n (pc := 16) t174_16 rfl ?_
    refine zs_lconst (pc := 17) t174_17 (v := 0) (by decide) ?_
    by_cases w3 : bL.toInt < 0
    · refine zs_lcmp (pc := 18) t174_18 (c := -1) (zlcL rfl ll0 (by omega)) ?_
      refine zs_if_geF (pc := 19) t174_19 lin1 (by decide) ?_
      refine zs_lload_n (pc := 22) t174_22 rfl ?_
      obtain ⟨w4v, w4⟩ : ∃ v, -aL = v := ⟨_, rfl⟩
      have w4g := zrg64 w4v
      refine zs_lneg (pc := 23) t174_23 (c := w4v) w4 ?_
      refine zs_lload (pc := 24) t174_24 rfl ?_
      obtain ⟨w5v, w5⟩ : ∃ v, w4v / w1v = v := ⟨_, rfl⟩
      have w5g := zrg64 w5v
      refine zs_ldiv (pc := 26) t174_26 (znz64 rfl (by omega)) (c := w5v) w5 ?_
      refine zs_goto (pc := 27) t174_27 ?_
      exact zs_lret (pc := 34) t174_34 mr174 (hQ _ (zrg64 _).1 (zrg64 _).2)
    by_cases w6 : bL.toInt = 0
    · refine zs_lcmp (pc := 18) t174_18 (c := 0) (zlcE rfl ll0 (by omega)) ?_
      refine zs_if_geT (pc := 19) t174_19 li0 (by decide) ?_
      refine zs_lload_n (pc := 30) t174_30 rfl ?_
      refine zs_lload (pc := 31) t174_31 rfl ?_
      obtain ⟨w7v, w7⟩ : ∃ v, aL / w1v = v := ⟨_, rfl⟩
      have w7g := zrg64 w7v
      refine zs_ldiv (pc := 33) t174_33 (znz64 rfl (by omega)) (c := w7v) w7 ?_
      exact zs_lret (pc := 34) t174_34 mr174 (hQ _ (zrg64 _).1 (zrg64 _).2)
    refine zs_lcmp (pc := 18) t174_18 (c := 1) (zlcG rfl ll0 (by omega)) ?_
    refine zs_if_geT (pc := 19) t174_19 li1 (by decide) ?_
    refine zs_lload_n (pc := 30) t174_30 rfl ?_
    refine zs_lload (pc := 31) t174_31 rfl ?_
    obtain ⟨w9v, w9⟩ : ∃ v, aL / w1v = v := ⟨_, rfl⟩
    have w9g := zrg64 w9v
    refine zs_ldiv (pc := 33) t174_33 (znz64 rfl (by omega)) (c := w9v) w9 ?_
    exact zs_lret (pc := 34) t174_34 mr174 (hQ _ (zrg64 _).1 (zrg64 _).2)
  by_cases w10 : w1v.toInt = 0
  · refine zs_lcmp (pc := 10) t174_10 (c := 0) (zlcE rfl ll0 (by omega)) ?_
    refine zs_if_neF (pc := 11) t174_11 li0 (by decide) ?_
    refine zs_lconst (pc := 14) t174_14 (v := 0) (by decide) ?_
    exact zs_lret (pc := 15) t174_15 mr174 (hQ _ (zrg64 _).1 (zrg64 _).2)
  refine zs_lcmp (pc := 10) t174_10 (c := 1) (zlcG rfl ll0 (by omega)) ?_
  refine zs_if_neT (pc := 11) t174_11 li1 (by decide) ?_
  refine zs_lload_n (pc := 16) t174_16 rfl ?_
  refine zs_lconst (pc := 17) t174_17 (v := 0) (by decide) ?_
  by_cases w12 : bL.toInt < 0
  · refine zs_lcmp (pc := 18) t174_18 (c := -1) (zlcL rfl ll0 (by omega)) ?_
    refine zs_if_geF (pc := 19) t174_19 lin1 (by decide) ?_
    refine zs_lload_n (pc := 22) t174_22 rfl ?_
    obtain ⟨w13v, w13⟩ : ∃ v, -aL = v := ⟨_, rfl⟩
    have w13g := zrg64 w13v
    refine zs_lneg (pc := 23) t174_23 (c := w13v) w13 ?_
    refine zs_lload (pc := 24) t174_24 rfl ?_
    obtain ⟨w14v, w14⟩ : ∃ v, w13v / w1v = v := ⟨_, rfl⟩
    have w14g := zrg64 w14v
    refine zs_ldiv (pc := 26) t174_26 (znz64 rfl (by omega)) (c := w14v) w14 ?_
    refine zs_goto (pc := 27) t174_27 ?_
    exact zs_lret (pc := 34) t174_34 mr174 (hQ _ (zrg64 _).1 (zrg64 _).2)
  by_cases w15 : bL.toInt = 0
  · refine zs_lcmp (pc := 18) t174_18 (c := 0) (zlcE rfl ll0 (by omega)) ?_
    refine zs_if_geT (pc := 19) t174_19 li0 (by decide) ?_
    refine zs_lload_n (pc := 30) t174_30 rfl ?_
    refine zs_lload (pc := 31) t174_31 rfl ?_
    obtain ⟨w16v, w16⟩ : ∃ v, aL / w1v = v := ⟨_, rfl⟩
    have w16g := zrg64 w16v
    refine zs_ldiv (pc := 33) t174_33 (znz64 rfl (by omega)) (c := w16v) w16 ?_
    exact zs_lret (pc := 34) t174_34 mr174 (hQ _ (zrg64 _).1 (zrg64 _).2)
  refine zs_lcmp (pc := 18) t174_18 (c := 1) (zlcG rfl ll0 (by omega)) ?_
  refine zs_if_geT (pc := 19) t174_19 li1 (by decide) ?_
  refine zs_lload_n (pc := 30) t174_30 rfl ?_
  refine zs_lload (pc := 31) t174_31 rfl ?_
  obtain ⟨w18v, w18⟩ : ∃ v, aL / w1v = v := ⟨_, rfl⟩
  have w18g := zrg64 w18v
  refine zs_ldiv (pc := 33) t174_33 (znz64 rfl (by omega)) (c := w18v) w18 ?_
  exact zs_lret (pc := 34) t174_34 mr174 (hQ _ (zrg64 _).1 (zrg64 _).2)
theorem C176 {X : zX} {l : Launch} {M : zM} {Q : Option Value → zM → Prop} {aL bL : Int64} (hs : zSk zMc M) (hI : zIv cLo cHi M) (hQ : ∀ v : Int64, (-9223372036854775808) ≤ v.toInt → v.toInt ≤ 9223372036854775807 → Q (some (.long v)) M) : zCall X l 2 0 0 176 [.long aL, .long bL] M Q := by
  have gaL := zrg64 aL
  have gbL := zrg64 bL
  refine zs_in (by decide) mf176 (Nat.le_of_ble_eq_true rfl) ?_
  show zGo X l 2 0 0 176 0 [(0, .long aL), (2, .long bL)] [] M _
  refine zs_lload_n (pc := 0) t176_0 rfl ?_
  refine zs_lload_n (pc := 1) t176_1 rfl ?_
  refine zs_invS (pc := 2) (as := [.long aL, .long bL]) (st := []) t176_2 (by decide) mf175 rfl rfl ⟨by decide, by decide, Nat.le_of_ble_eq_true rfl, Nat.le_of_ble_eq_true rfl⟩ (C175 hs hI ?_) (fun _ _ q => q)
  intro w1v w1a w1b
  show zGo X l 2 0 0 176 5 [(0, .long aL), (2, .long bL)] [.long w1v] M _
  refine zs_lstore (pc := 5) t176_5 (ls' := [(4, .long w1v), (0, .long aL), (2, .long bL)]) (zml mf176 (by decide)) rfl ?_
  refine zs_lload (pc := 7) t176_7 rfl ?_
  refine zs_lconst (pc := 9) t176_9 (v := 0) (by decide) ?_
  by_cases w2 : w1v.toInt < 0
  · refine zs_lcmp (pc := 10) t176_10 (c := -1) (zlcL rfl ll0 (by omega)) ?_
    refine zs_if_neT (pc := 11) t176_11 lin1 (by decide) ?_
    refine zs_lload_n (pc := 18) t176_18 rfl ?_
    refine zs_invS (pc := 19) (as := [.long bL]) (st := []) t176_19 (by decide) mf136 rfl rfl ⟨by decide, by decide, Nat.le_of_ble_eq_true rfl, Nat.le_of_ble_eq_true rfl⟩ (zs_in (by decide) mf136 (Nat.le_of_ble_eq_true rfl) ?_) (fun _ _ q => q)
    show zGo X l 0 0 0 136 0 [(0, .long bL)] [] M _
    refine zs_lload_n (pc := 0) t136_0 rfl ?_
    refine zs_lconst (pc := 1) t136_1 (v := 0) (by decide) ?_
    by_cases w3 : bL.toInt < 0
    · refine zs_lcmp (pc := 2) t136_2 (c := -1) (zlcL rfl ll0 (by omega)) ?_
      refine zs_if_geF (pc := 3) t136_3 lin1 (by decide) ?_
      refine zs_lload_n (pc := 6) t136_6 rfl ?_
      obtain ⟨w4v, w4⟩ : ∃ v, -bL = v := ⟨_, rfl⟩
      have w4g := zrg64 w4v
      refine zs_lneg (pc := 7) t136_7 (c := w4v) w4 ?_
      refine zs_goto (pc := 8) t136_8 ?_
      refine zs_lret (pc := 12) t136_12 mr136 ?_
      show zGo X l 2 0 0 176 22 [(4, .long w1v), (0, .long aL), (2, .long bL)] [.long w4v] M _
      refine zs_lload (pc := 22) t176_22 rfl ?_
      obtain ⟨w5v, w5⟩ : ∃ v, w4v / w1v = v := ⟨_, rfl⟩
      have w5g := zrg64 w5v
      refine zs_ldiv (pc := 24) t176_24 (znz64 rfl (by omega)) (c := w5v) w5 ?_
      exact zs_lret (pc := 25) t176_25 mr176 (hQ _ (zrg64 _).1 (zrg64 _).2)
    by_cases w6 : bL.toInt = 0
    · refine zs_lcmp (pc := 2) t136_2 (c := 0) (zlcE rfl ll0 (by omega)) ?_
      refine zs_if_geT (pc := 3) t136_3 li0 (by decide) ?_
      refine zs_lload_n (pc := 11) t136_11 rfl ?_
      refine zs_lret (pc := 12) t136_12 mr136 ?_
      show zGo X l 2 0 0 176 22 [(4, .long w1v), (0, .long aL), (2, .long bL)] [.long bL] M _
      refine zs_lload (pc := 22) t176_22 rfl ?_
      obtain ⟨w7v, w7⟩ : ∃ v, bL / w1v = v := ⟨_, rfl⟩
      have w7g := zrg64 w7v
      refine zs_ldiv (pc := 24) t176_24 (znz64 rfl (by omega)) (c := w7v) w7 ?_
      exact zs_lret (pc := 25) t176_25 mr176 (hQ _ (zrg64 _).1 (zrg64 _).2)
    refine zs_lcmp (pc := 2) t136_2 (c := 1) (zlcG rfl ll0 (by omega)) ?_
    refine zs_if_geT (pc := 3) t136_3 li1 (by decide) ?_
    refine zs_lload_n (pc := 11) t136_11 rfl ?_
    refine zs_lret (pc := 12) t136_12 mr136 ?_
    show zGo X l 2 0 0 176 22 [(4, .long w1v), (0, .long aL), (2, .long bL)] [.long bL] M _
    refine zs_lload (pc := 22) t176_22 rfl ?_
    obtain ⟨w9v, w9⟩ : ∃ v, bL / w1v = v := ⟨_, rfl⟩
    have w9g := zrg64 w9v
    refine zs_ldiv (pc := 24) t176_24 (znz64 rfl (by omega)) (c := w9v) w9 ?_
    exact zs_lret (pc := 25) t176_25 mr176 (hQ _ (zrg64 _).1 (zrg64 _).2)
  by_cases w10 : w1v.toInt = 0
  · refine zs_lcmp (pc := 10) t176_10 (c := 0) (zlcE rfl ll0 (by omega)) ?_
    refine zs_if_neF (pc := 11) t176_11 li0 (by decide) ?_
    refine zs_lconst (pc := 14) t176_14 (v := 1) (by decide) ?_
    refine zs_goto (pc := 15) t176_15 ?_
    exact zs_lret (pc := 25) t176_25 mr176 (hQ _ (zrg64 _).1 (zrg64 _).2)
  refine zs_lcmp (pc := 10) t176_10 (c := 1) (zlcG rfl ll0 (by omega)) ?_
  refine zs_if_neT (pc := 11) t176_11 li1 (by decide) ?_
  refine zs_lload_n (pc := 18) t176_18 rfl ?_
  refine zs_invS (pc := 19) (as := [.long bL]) (st := []) t176_19 (by decide) mf136 rfl rfl ⟨by decide, by decide, Nat.le_of_ble_eq_true rfl, Nat.le_of_ble_eq_true rfl⟩ (zs_in (by decide) mf136 (Nat.le_of_ble_eq_true rfl) ?_) (fun _ _ q => q)
  show zGo X l 0 0 0 136 0 [(0, .long bL)] [] M _
  refine zs_lload_n (pc := 0) t136_0 rfl ?_
  refine zs_lconst (pc := 1) t136_1 (v := 0) (by decide) ?_
  by_cases w12 : bL.toInt < 0
  · refine zs_lcmp (pc := 2) t136_2 (c := -1) (zlcL rfl ll0 (by omega)) ?_
    refine zs_if_geF (pc := 3) t136_3 lin1 (by decide) ?_
    refine zs_lload_n (pc := 6) t136_6 rfl ?_
    obtain ⟨w13v, w13⟩ : ∃ v, -bL = v := ⟨_, rfl⟩
    have w13g := zrg64 w13v
    refine zs_lneg (pc := 7) t136_7 (c := w13v) w13 ?_
    refine zs_goto (pc := 8) t136_8 ?_
    refine zs_lret (pc := 12) t136_12 mr136 ?_
    show zGo X l 2 0 0 176 22 [(4, .long w1v), (0, .long aL), (2, .long bL)] [.long w13v] M _
    refine zs_lload (pc := 22) t176_22 rfl ?_
    obtain ⟨w14v, w14⟩ : ∃ v, w13v / w1v = v := ⟨_, rfl⟩
    have w14g := zrg64 w14v
    refine zs_ldiv (pc := 24) t176_24 (znz64 rfl (by omega)) (c := w14v) w14 ?_
    exact zs_lret (pc := 25) t176_25 mr176 (hQ _ (zrg64 _).1 (zrg64 _).2)
  by_cases w15 : bL.toInt = 0
  · refine zs_lcmp (pc := 2) t136_2 (c := 0) (zlcE rfl ll0 (by omega)) ?_
    refine zs_if_geT (pc := 3) t136_3 li0 (by decide) ?_
    refine zs_lload_n (pc := 11) t136_11 rfl ?_
    refine zs_lret (pc := 12) t136_12 mr136 ?_
    show zGo X l 2 0 0 176 22 [(4, .long w1v), (0, .long aL), (2, .long bL)] [.long bL] M _
    refine zs_lload (pc := 22) t176_22 rfl ?_
    obtain ⟨w16v, w16⟩ : ∃ v, bL / w1v = v := ⟨_, rfl⟩
    have w16g := zrg64 w16v
    refine zs_ldiv (pc := 24) t176_24 (znz64 rfl (by omega)) (c := w16v) w16 ?_
    exact zs_lret (pc := 25) t176_25 mr176 (hQ _ (zrg64 _).1 (zrg64 _).2)
  refine zs_lcmp (pc := 2) t136_2 (c := 1) (zlcG rfl ll0 (by omega)) ?_
  refine zs_if_geT (pc := 3) t136_3 li1 (by decide) ?_
  refine zs_lload_n (pc := 11) t136_11 rfl ?_
  refine zs_lret (pc := 12) t136_12 mr136 ?_
  show zGo X l 2 0 0 176 22 [(4, .long w1v), (0, .long aL), (2, .long bL)] [.long bL] M _
  refine zs_lload (pc := 22) t176_22 rfl ?_
  obtain ⟨w18v, w18⟩ : ∃ v, bL / w1v = v := ⟨_, rfl⟩
  have w18g := zrg64 w18v
  refine zs_ldiv (pc := 24) t176_24 (znz64 rfl (by omega)) (c := w18v) w18 ?_
  exact zs_lret (pc := 25) t176_25 mr176 (hQ _ (zrg64 _).1 (zrg64 _).2)
