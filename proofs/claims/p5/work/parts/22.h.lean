theorem C175 {X : zX} {l : Launch} {M : zM} {Q : Option Value → zM → Prop} {aL bL : Int64} (hs : zSk zMc M) (hI : zIv cLo cHi M) (hQ : ∀ v : Int64, (-9223372036854775808) ≤ v.toInt → v.toInt ≤ 9223372036854775807 → Q (some (.long v)) M) : zCall X l 1 0 0 175 [.long aL, .long bL] M Q := by
  have gaL := zrg64 aL
  have gbL := zrg64 bL
  refine zs_in (by decide) mf175 (Nat.le_of_ble_eq_true rfl) ?_
  show zGo X l 1 0 0 175 0 [(0, .long aL), (2, .long bL)] [] M _
  refine zs_lload_n (pc := 0) t175_0 rfl ?_
  refine zs_invS (pc := 1) (as := [.long aL]) (st := []) t175_1 (by decide) mf136 rfl rfl ⟨by decide, by decide, Nat.le_of_ble_eq_true rfl, Nat.le_of_ble_eq_true rfl⟩ (zs_in (by decide) mf136 (Nat.le_of_ble_eq_true rfl) ?_) (fun _ _ q => q)
  show zGo X l 0 0 0 136 0 [(0, .long aL)] [] M _
  refine zs_lload_n (pc := 0) t136_0 rfl ?_
  refine zs_lconst (pc := 1) t136_1 (v := 0) (by decide) ?_
  by_cases w1 : aL.toInt < 0
  · refine zs_lcmp (pc := 2) t136_2 (c := -1) (zlcL rfl ll0 (by omega)) ?_
    refine zs_if_geF (pc := 3) t136_3 lin1 (by decide) ?_
    refine zs_lload_n (pc := 6) t136_6 rfl ?_
    obtain ⟨w2v, w2⟩ : ∃ v, -aL = v := ⟨_, rfl⟩
    have w2g := zrg64 w2v
    refine zs_lneg (pc := 7) t136_7 (c := w2v) w2 ?_
    refine zs_goto (pc := 8) t136_8 ?_
    refine zs_lret (pc := 12) t136_12 mr136 ?_
    show zGo X l 1 0 0 175 4 [(0, .long aL), (2, .long bL)] [.long w2v] M _
    refine zs_lstore (pc := 4) t175_4 (ls' := [(4, .long w2v), (0, .long aL), (2, .long bL)]) (zml mf175 (by decide)) rfl ?_
    refine zs_lload_n (pc := 6) t175_6 rfl ?_
    refine zs_invS (pc := 7) (as := [.long bL]) (st := []) t175_7 (by decide) mf136 rfl rfl ⟨by decide, by decide, Nat.le_of_ble_eq_true rfl, Nat.le_of_ble_eq_true rfl⟩ (zs_in (by decide) mf136 (Nat.le_of_ble_eq_true rfl) ?_) (fun _ _ q => q)
    show zGo X l 0 0 0 136 0 [(0, .long bL)] [] M _
    refine zs_lload_n (pc := 0) t136_0 rfl ?_
    refine zs_lconst (pc := 1) t136_1 (v := 0) (by decide) ?_
    by_cases w3 : bL.toInt < 0
    · refine zs_lcmp (pc := 2) t136_2 (c := -1) (zlcL rfl ll0 (by omega)) ?_
      refine zs_if_geF (pc := 3) t136_3 lin1 (by decide) ?_
      refine zs_lload_n (pc := 6) t136_6 rfl ?_
      obtain ⟨w4v, w4⟩ : ∃ v, -bL = v := ⟨_, rfl⟩
      have w4g := zrg64 w4v
      refine zs_lneg (pc := 7) t136_7 (c := w4v) w4 ?_
      refine zs_goto (pc := 8) t136_8 ?_
      refine zs_lret (pc := 12) t136_12 mr136 ?_
      show zGo X l 1 0 0 175 10 [(4, .long w2v), (0, .long aL), (2, .long bL)] [.long w4v] M _
      refine zs_lstore (pc := 10) t175_10 (ls' := [(6, .long w4v), (4, .long w2v), (0, .long aL), (2, .long bL)]) (zml mf175 (by decide)) rfl ?_
      refine zs_iconst (pc := 12) t175_12 (v := 0) (by decide) ?_
      refine zs_istore (pc := 13) t175_13 (ls' := [(8, .int (0 : Int32)), (6, .long w4v), (4, .long w2v), (0, .long aL), (2, .long bL)]) (zml mf175 (by decide)) rfl ?_
      have w5L : ∀ (m : Nat) (w5x4 : Int64) (w5x6 : Int64) (w5x8 : Int32), (0 ≤ w5x8.toInt ∧ w5x8.toInt ≤ 200) → 200 - w5x8.toInt ≤ (m : Int) → zGo X l 1 0 0 175 15 [(0, .long aL), (2, .long bL), (4, .long w5x4), (6, .long w5x6), (8, .int w5x8)] [] M Q := by
        intro m
        induction m using Nat.strongRecOn with
        | ind w5m w5ih =>
          intro w5x4 w5x6 w5x8 w5b8 w5q
          have w5g4 := zrg64 w5x4
          have w5g6 := zrg64 w5x6
          refine zs_iload (pc := 15) t175_15 rfl ?_
          refine zs_sipush (pc := 17) t175_17 (v := 200) (by decide) ?_
          by_cases w6 : 200 ≤ w5x8.toInt
          · refine zs_icmp_geT (pc := 20) t175_20 rfl li200 (by omega) ?_
            refine zs_lload (pc := 51) t175_51 rfl ?_
            exact zs_lret (pc := 53) t175_53 mr175 (hQ _ (zrg64 _).1 (zrg64 _).2)
          · refine zs_icmp_geF (pc := 20) t175_20 rfl li200 (by omega) ?_
            refine zs_lload (pc := 23) t175_23 rfl ?_
            refine zs_lconst (pc := 25) t175_25 (v := 0) (by decide) ?_
            by_cases w7 : w5x6.toInt < 0
            · refine zs_lcmp (pc := 26) t175_26 (c := -1) (zlcL rfl ll0 (by omega)) ?_
              refine zs_if_eqF (pc := 27) t175_27 lin1 (by decide) ?_
              refine zs_lload (pc := 30) t175_30 rfl ?_
              refine zs_lload (pc := 32) t175_32 rfl ?_
              obtain ⟨w8v, w8⟩ : ∃ v, w5x4 - w5x4 / w5x6 * w5x6 = v := ⟨_, rfl⟩
              have w8g := zrg64 w8v
              refine zs_lrem (pc := 34) t175_34 (znz64 rfl (by omega)) (c := w8v) w8 ?_
              refine zs_lstore (pc := 35) t175_35 (ls' := [(9, .long w8v), (0, .long aL), (2, .long bL), (4, .long w5x4), (6, .long w5x6), (8, .int w5x8)]) (zml mf175 (by decide)) rfl ?_
              refine zs_lload (pc := 37) t175_37 rfl ?_
              refine zs_lstore (pc := 39) t175_39 (ls' := [(4, .long w5x6), (9, .long w8v), (0, .long aL), (2, .long bL), (6, .long w5x6), (8, .int w5x8)]) (zml mf175 (by decide)) rfl ?_
              refine zs_lload (pc := 41) t175_41 rfl ?_
              refine zs_lstore (pc := 43) t175_43 (ls' := [(6, .long w8v), (4, .long w5x6), (9, .long w8v), (0, .long aL), (2, .long bL), (8, .int w5x8)]) (zml mf175 (by decide)) rfl ?_
              obtain ⟨w9v, w9e, w9⟩ := ziadd (a := w5x8) (b := Int32.ofInt 1) rfl (show (Int32.ofInt 1).toInt = 1 by decide) (by omega) (by omega)
              refine zs_iinc (pc := 45) t175_45 (ls' := [(8, .int w9v), (6, .long w8v), (4, .long w5x6), (9, .long w8v), (0, .long aL), (2, .long bL)]) (zml mf175 (by decide)) rfl (c := w9v) w9e rfl ?_
              refine zs_goto (pc := 48) t175_48 ?_
              refine zGo.locals (ls' := [(0, .long aL), (2, .long bL), (4, .long w5x6), (6, .long w8v), (8, .int w9v)]) (by simp) ?_
              exact w5ih (w5m - 1) (by omega) w5x6 w8v w9v ⟨by omega, by omega⟩ (by omega)
            by_cases w10 : w5x6.toInt = 0
            · refine zs_lcmp (pc := 26) t175_26 (c := 0) (zlcE rfl ll0 (by omega)) ?_
              refine zs_if_eqT (pc := 27) t175_27 li0 (by decide) ?_
              refine zs_lload (pc := 51) t175_51 rfl ?_
              exact zs_lret (pc := 53) t175_53 mr175 (hQ _ (zrg64 _).1 (zrg64 _).2)
            refine zs_lcmp (pc := 26) t175_26 (c := 1) (zlcG rfl ll0 (by omega)) ?_
            refine zs_if_eqF (pc := 27) t175_27 li1 (by decide) ?_
            refine zs_lload (pc := 30) t175_30 rfl ?_
            refine zs_lload (pc := 32) t175_32 rfl ?_
            obtain ⟨w12v, w12⟩ : ∃ v, w5x4 - w5x4 / w5x6 * w5x6 = v := ⟨_, rfl⟩
            have w12g := zrg64 w12v
            refine zs_lrem (pc := 34) t175_34 (znz64 rfl (by omega)) (c := w12v) w12 ?_
            refine zs_lstore (pc := 35) t175_35 (ls' := [(9, .long w12v), (0, .long aL), (2, .long bL), (4, .long w5x4), (6, .long w5x6), (8, .int w5x8)]) (zml mf175 (by decide)) rfl ?_
            refine zs_lload (pc := 37) t175_37 rfl ?_
            refine zs_lstore (pc := 39) t175_39 (ls' := [(4, .long w5x6), (9, .long w12v), (0, .long aL), (2, .long bL), (6, .long w5x6), (8, .int w5x8)]) (zml mf175 (by decide)) rfl ?_
            refine zs_lload (pc := 41) t175_41 rfl ?_
            refine zs_lstore (pc := 43) t175_43 (ls' := [(6, .long w12v), (4, .long w5x6), (9, .long w12v), (0, .long aL), (2, .long bL), (8, .int w5x8)]) (zml mf175 (by decide)) rfl ?_
            obtain ⟨w13v, w13e, w13⟩ := ziadd (a := w5x8) (b := Int32.ofInt 1) rfl (show (Int32.ofInt 1).toInt = 1 by decide) (by omega) (by omega)
            refine zs_iinc (pc := 45) t175_45 (ls' := [(8, .int w13v), (6, .long w12v), (4, .long w5x6), (9, .long w12v), (0, .long aL), (2, .long bL)]) (zml mf175 (by decide)) rfl (c := w13v) w13e rfl ?_
            refine zs_goto (pc := 48) t175_48 ?_
            refine zGo.locals (ls' := [(0, .long aL), (2, .long bL), (4, .long w5x6), (6, .long w12v), (8, .int w13v)]) (by simp) ?_
            exact w5ih (w5m - 1) (by omega) w5x6 w12v w13v ⟨by omega, by omega⟩ (by omega)
      refine zGo.locals (ls' := [(0, .long aL), (2, .long bL), (4, .long w2v), (6, .long w4v), (8, .int (0 : Int32))]) (by simp) ?_
      have w14 := li0
      exact w5L ((200 - 0 : Int).toNat) w2v w4v (0 : Int32) ⟨by decide, by decide⟩ (by omega)
    by_cases w15 : bL.toInt = 0
    · refine zs_lcmp (pc := 2) t136_2 (c := 0) (zlcE rfl ll0 (by omega)) ?_
      refine zs_if_geT (pc := 3) t136_3 li0 (by decide) ?_
      refine zs_lload_n (pc := 11) t136_11 rfl ?_
      refine zs_lret (pc := 12) t136_12 mr136 ?_
      show zGo X l 1 0 0 175 10 [(4, .long w2v), (0, .long aL), (2, .long bL)] [.long bL] M _
      refine zs_lstore (pc := 10) t175_10 (ls' := [(6, .long bL), (4, .long w2v), (0, .long aL), (2, .long bL)]) (zml mf175 (by decide)) rfl ?_
      refine zs_iconst (pc := 12) t175_12 (v := 0) (by decide) ?_
      refine zs_istore (pc := 13) t175_13 (ls' := [(8, .int (0 : Int32)), (6, .long bL), (4, .long w2v), (0, .long aL), (2, .long bL)]) (zml mf175 (by decide)) rfl ?_
      have w16L : ∀ (m : Nat) (w16x4 : Int64) (w16x6 : Int64) (w16x8 : Int32), (0 ≤ w16x8.toInt ∧ w16x8.toInt ≤ 200) → 200 - w16x8.toInt ≤ (m : Int) → zGo X l 1 0 0 175 15 [(0, .long aL), (2, .long bL), (4, .long w16x4), (6, .long w16x6), (8, .int w16x8)] [] M Q := by
        intro m
        induction m using Nat.strongRecOn with
        | ind w16m w16ih =>
          intro w16x4 w16x6 w16x8 w16b8 w16q
          have w16g4 := zrg64 w16x4
          have w16g6 := zrg64 w16x6
          refine zs_iload (pc := 15) t175_15 rfl ?_
          refine zs_sipush (pc := 17) t175_17 (v := 200) (by decide) ?_
          by_cases w17 : 200 ≤ w16x8.toInt
          · refine zs_icmp_geT (pc := 20) t175_20 rfl li200 (by omega) ?_
            refine zs_lload (pc := 51) t175_51 rfl ?_
            exact zs_lret (pc := 53) t175_53 mr175 (hQ _ (zrg64 _).1 (zrg64 _).2)
          · refine zs_icmp_geF (pc := 20) t175_20 rfl li200 (by omega) ?_
            refine zs_lload (pc := 23) t175_23 rfl ?_
            refine zs_lconst (pc := 25) t175_25 (v := 0) (by decide) ?_
            by_cases w18 : w16x6.toInt < 0
            · refine zs_lcmp (pc := 26) t175_26 (c := -1) (zlcL rfl ll0 (by omega)) ?_
              refine zs_if_eqF (pc := 27) t175_27 lin1 (by decide) ?_
              refine zs_lload (pc := 30) t175_30 rfl ?_
              refine zs_lload (pc := 32) t175_32 rfl ?_
              obtain ⟨w19v, w19⟩ : ∃ v, w16x4 - w16x4 / w16x6 * w16x6 = v := ⟨_, rfl⟩
              have w19g := zrg64 w19v
              refine zs_lrem (pc := 34) t175_34 (znz64 rfl (by omega)) (c := w19v) w19 ?_
              refine zs_lstore (pc := 35) t175_35 (ls' := [(9, .long w19v), (0, .long aL), (2, .long bL), (4, .long w16x4), (6, .long w16x6), (8, .int w16x8)]) (zml mf175 (by decide)) rfl ?_
              refine zs_lload (pc := 37) t175_37 rfl ?_
              refine zs_lstore (pc := 39) t175_39 (ls' := [(4, .long w16x6), (9, .long w19v), (0, .long aL), (2, .long bL), (6, .long w16x6), (8, .int w16x8)]) (zml mf175 (by decide)) rfl ?_
              refine zs_lload (pc := 41) t175_41 rfl ?_
              refine zs_lstore (pc := 43) t175_43 (ls' := [(6, .long w19v), (4, .long w16x6), (9, .long w19v), (0, .long aL), (2, .long bL), (8, .int w16x8)]) (zml mf175 (by decide)) rfl ?_
              obtain ⟨w20v, w20e, w20⟩ := ziadd (a := w16x8) (b := Int32.ofInt 1) rfl (show (Int32.ofInt 1).toInt = 1 by decide) (by omega) (by omega)
              refine zs_iinc (pc := 45) t175_45 (ls' := [(8, .int w20v), (6, .long w19v), (4, .long w16x6), (9, .long w19v), (0, .long aL), (2, .long bL)]) (zml mf175 (by decide)) rfl (c := w20v) w20e rfl ?_
              refine zs_goto (pc := 48) t175_48 ?_
              refine zGo.locals (ls' := [(0, .long aL), (2, .long bL), (4, .long w16x6), (6, .long w19v), (8, .int w20v)]) (by simp) ?_
              exact w16ih (w16m - 1) (by omega) w16x6 w19v w20v ⟨by omega, by omega⟩ (by omega)
            by_cases w21 : w16x6.toInt = 0
            · refine zs_lcmp (pc := 26) t175_26 (c := 0) (zlcE rfl ll0 (by omega)) ?_
              refine zs_if_eqT (pc := 27) t175_27 li0 (by decide) ?_
              refine zs_lload (pc := 51) t175_51 rfl ?_
              exact zs_lret (pc := 53) t175_53 mr175 (hQ _ (zrg64 _).1 (zrg64 _).2)
            refine zs_lcmp (pc := 26) t175_26 (c := 1) (zlcG rfl ll0 (by omega)) ?_
            refine zs_if_eqF (pc := 27) t175_27 li1 (by decide) ?_
            refine zs_lload (pc := 30) t175_30 rfl ?_
            refine zs_lload (pc := 32) t175_32 rfl ?_
            obtain ⟨w23v, w23⟩ : ∃ v, w16x4 - w16x4 / w16x6 * w16x6 = v := ⟨_, rfl⟩
            have w23g := zrg64 w23v
            refine zs_lrem (pc := 34) t175_34 (znz64 rfl (by omega)) (c := w23v) w23 ?_
            refine zs_lstore (pc := 35) t175_35 (ls' := [(9, .long w23v), (0, .long aL), (2, .long bL), (4, .long w16x4), (6, .long w16x6), (8, .int w16x8)]) (zml mf175 (by decide)) rfl ?_
            refine zs_lload (pc := 37) t175_37 rfl ?_
            refine zs_lstore (pc := 39) t175_39 (ls' := [(4, .long w16x6), (9, .long w23v), (0, .long aL), (2, .long bL), (6, .long w16x6), (8, .int w16x8)]) (zml mf175 (by decide)) rfl ?_
            refine zs_lload (pc := 41) t175_41 rfl ?_
            refine zs_lstore (pc := 43) t175_43 (ls' := [(6, .long w23v), (4, .long w16x6), (9, .long w23v), (0, .long aL), (2, .long bL), (8, .int w16x8)]) (zml mf175 (by decide)) rfl ?_
            obtain ⟨w24v, w24e, w24⟩ := ziadd (a := w16x8) (b := Int32.ofInt 1) rfl (show (Int32.ofInt 1).toInt = 1 by decide) (by omega) (by omega)
            refine zs_iinc (pc := 45) t175_45 (ls' := [(8, .int w24v), (6, .long w23v), (4, .long w16x6), (9, .long w23v), (0, .long aL), (2, .long bL)]) (zml mf175 (by decide)) rfl (c := w24v) w24e rfl ?_
            refine zs_goto (pc := 48) t175_48 ?_
            refine zGo.locals (ls' := [(0, .long aL), (2, .long bL), (4, .long w16x6), (6, .long w23v), (8, .int w24v)]) (by simp) ?_
            exact w16ih (w16m - 1) (by omega) w16x6 w23v w24v ⟨by omega, by omega⟩ (by omega)
      refine zGo.locals (ls' := [(0, .long aL), (2, .long bL), (4, .long w2v), (6, .long bL), (8, .int (0 : Int32))]) (by simp) ?_
      have w25 := li0
      exact w16L ((200 - 0 : Int).toNat) w2v bL (0 : Int32) ⟨by decide, by decide⟩ (by omega)
    refine zs_lcmp (pc := 2) t136_2 (c := 1) (zlcG rfl ll0 (by omega)) ?_
    refine zs_if_geT (pc := 3) t136_3 li1 (by decide) ?_
    refine zs_lload_n (pc := 11) t136_11 rfl ?_
    refine zs_lret (pc := 12) t136_12 mr136 ?_
    show zGo X l 1 0 0 175 10 [(4, .long w2v), (0, .long aL), (2, .long bL)] [.long bL] M _
    refine zs_lstore (pc := 10) t175_10 (ls' := [(6, .long bL), (4, .long w2v), (0, .long aL), (2, .long bL)]) (zml mf175 (by decide)) rfl ?_
    refine zs_iconst (pc := 12) t175_12 (v := 0) (by decide) ?_
    refine zs_istore (pc := 13) t175_13 (ls' := [(8, .int (0 : Int32)), (6, .long bL), (4, .long w2v), (0, .long aL), (2, .long bL)]) (zml mf175 (by decide)) rfl ?_
    have w27L : ∀ (m : Nat) (w27x4 : Int64) (w27x6 : Int64) (w27x8 : Int32), (0 ≤ w27x8.toInt ∧ w27x8.toInt ≤ 200) → 200 - w27x8.toInt ≤ (m : Int) → zGo X l 1 0 0 175 15 [(0, .long aL), (2, .long bL), (4, .long w27x4), (6, .long w27x6), (8, .int w27x8)] [] M Q := by
      intro m
      induction m using Nat.strongRecOn with
      | ind w27m w27ih =>
        intro w27x4 w27x6 w27x8 w27b8 w27q
        have w27g4 := zrg64 w27x4
        have w27g6 := zrg64 w27x6
        refine zs_iload (pc := 15) t175_15 rfl ?_
        refine zs_sipush (pc := 17) t175_17 (v := 200) (by decide) ?_
        by_cases w28 : 200 ≤ w27x8.toInt
        · refine zs_icmp_geT (pc := 20) t175_20 rfl li200 (by omega) ?_
          refine zs_lload (pc := 51) t175_51 rfl ?_
          exact zs_lret (pc := 53) t175_53 mr175 (hQ _ (zrg64 _).1 (zrg64 _).2)
        · refine zs_icmp_geF (pc := 20) t175_20 rfl li200 (by omega) ?_
          refine zs_lload (pc := 23) t175_23 rfl ?_
          refine zs_lconst (pc := 25) t175_25 (v := 0) (by decide) ?_
          by_cases w29 : w27x6.toInt < 0
          · refine zs_lcmp (pc := 26) t175_26 (c := -1) (zlcL rfl ll0 (by omega)) ?_
            refine zs_if_eqF (pc := 27) t175_27 lin1 (by decide) ?_
            refine zs_lload (pc := 30) t175_30 rfl ?_
            refine zs_lload (pc := 32) t175_32 rfl ?_
            obtain ⟨w30v, w30⟩ : ∃ v, w27x4 - w27x4 / w27x6 * w27x6 = v := ⟨_, rfl⟩
            have w30g := zrg64 w30v
            refine zs_lrem (pc := 34) t175_34 (znz64 rfl (by omega)) (c := w30v) w30 ?_
            refine zs_lstore (pc := 35) t175_35 (ls' := [(9, .long w30v), (0, .long aL), (2, .long bL), (4, .long w27x4), (6, .long w27x6), (8, .int w27x8)]) (zml mf175 (by decide)) rfl ?_
            refine zs_lload (pc := 37) t175_37 rfl ?_
            refine zs_lstore (pc := 39) t175_39 (ls' := [(4, .long w27x6), (9, .long w30v), (0, .long aL), (2, .long bL), (6, .long w27x6), (8, .int w27x8)]) (zml mf175 (by decide)) rfl ?_
            refine zs_lload (pc := 41) t175_41 rfl ?_
            refine zs_lstore (pc := 43) t175_43 (ls' := [(6, .long w30v), (4, .long w27x6), (9, .long w30v), (0, .long aL), (2, .long bL), (8, .int w27x8)]) (zml mf175 (by decide)) rfl ?_
            obtain ⟨w31v, w31e, w31⟩ := ziadd (a := w27x8) (b := Int32.ofInt 1) rfl (show (Int32.ofInt 1).toInt = 1 by decide) (by omega) (by omega)
            refine zs_iinc (pc := 45) t175_45 (ls' := [(8, .int w31v), (6, .long w30v), (4, .long w27x6), (9, .long w30v), (0, .long aL), (2, .long bL)]) (zml mf175 (by decide)) rfl (c := w31v) w31e rfl ?_
            refine zs_goto (pc := 48) t175_48 ?_
            refine zGo.locals (ls' := [(0, .long aL), (2, .long bL), (4, .long w27x6), (6, .long w30v), (8, .int w31v)]) (by simp) ?_
            exact w27ih (w27m - 1) (by omega) w27x6 w30v w31v ⟨by omega, by omega⟩ (by omega)
          by_cases w32 : w27x6.toInt = 0
          · refine zs_lcmp (pc := 26) t175_26 (c := 0) (zlcE rfl ll0 (by omega)) ?_
            refine zs_if_eqT (pc := 27) t175_27 li0 (by decide) ?_
            refine zs_lload (pc := 51) t175_51 rfl ?_
            exact zs_lret (pc := 53) t175_53 mr175 (hQ _ (zrg64 _).1 (zrg64 _).2)
          refine zs_lcmp (pc := 26) t175_26 (c := 1) (zlcG rfl ll0 (by omega)) ?_
          refine zs_if_eqF (pc := 27) t175_27 li1 (by decide) ?_
          refine zs_lload (pc := 30) t175_30 rfl ?_
          refine zs_lload (pc := 32) t175_32 rfl ?_
          obtain ⟨w34v, w34⟩ : ∃ v, w27x4 - w27x4 / w27x6 * w27x6 = v := ⟨_, rfl⟩
          have w34g := zrg64 w34v
          refine zs_lrem (pc := 34) t175_34 (znz64 rfl (by omega)) (c := w34v) w34 ?_
          refine zs_lstore (pc := 35) t175_35 (ls' := [(9, .long w34v), (0, .long aL), (2, .long bL), (4, .long w27x4), (6, .long w27x6), (8, .int w27x8)]) (zml mf175 (by decide)) rfl ?_
          refine zs_lload (pc := 37) t175_37 rfl ?_
          refine zs_lstore (pc := 39) t175_39 (ls' := [(4, .long w27x6), (9, .long w34v), (0, .long aL), (2, .long bL), (6, .long w27x6), (8, .int w27x8)]) (zml mf175 (by decide)) rfl ?_
          refine zs_lload (pc := 41) t175_41 rfl ?_
          refine zs_lstore (pc := 43) t175_43 (ls' := [(6, .long w34v), (4, .long w27x6), (9, .long w34v), (0, .long aL), (2, .long bL), (8, .int w27x8)]) (zml mf175 (by decide)) rfl ?_
          obtain ⟨w35v, w35e, w35⟩ := ziadd (a := w27x8) (b := Int32.ofInt 1) rfl (show (Int32.ofInt 1).toInt = 1 by decide) (by omega) (by omega)
          refine zs_iinc (pc := 45) t175_45 (ls' := [(8, .int w35v), (6, .long w34v), (4, .long w27x6), (9, .long w34v), (0, .long aL), (2, .long bL)]) (zml mf175 (by decide)) rfl (c := w35v) w35e rfl ?_
          refine zs_goto (pc := 48) t175_48 ?_
          refine zGo.locals (ls' := [(0, .long aL), (2, .long bL), (4, .long w27x6), (6, .long w34v), (8, .int w35v)]) (by simp) ?_
          exact w27ih (w27m - 1) (by omega) w27x6 w34v w35v ⟨by omega, by omega⟩ (by omega)
    refine zGo.locals (ls' := [(0, .long aL), (2, .long bL), (4, .long w2v), (6, .long bL), (8, .int (0 : Int32))]) (by simp) ?_
    have w36 := li0
    exact w27L ((200 - 0 : Int).toNat) w2v bL (0 : Int32) ⟨by decide, by decide⟩ (by omega)
  by_cases w37 : aL.toInt = 0
  · refine zs_lcmp (pc := 2) t136_2 (c := 0) (zlcE rfl ll0 (by omega)) ?_
    refine zs_if_geT (pc := 3) t136_3 li0 (by decide) ?_
    refine zs_lload_n (pc := 11) t136_11 rfl ?_
    refine zs_lret (pc := 12) t136_12 mr136 ?_
    show zGo X l 1 0 0 175 4 [(0, .long aL), (2, .long bL)] [.long aL] M _
    refine zs_lstore (pc := 4) t175_4 (ls' := [(4, .long aL), (0, .long aL), (2, .long bL)]) (zml mf175 (by decide)) rfl ?_
    refine zs_lload_n (pc := 6) t175_6 rfl ?_
    refine zs_invS (pc := 7) (as := [.long bL]) (st := []) t175_7 (by decide) mf136 rfl rfl ⟨by decide, by decide, Nat.le_of_ble_eq_true rfl, Nat.le_of_ble_eq_true rfl⟩ (zs_in (by decide) mf136 (Nat.le_of_ble_eq_true rfl) ?_) (fun _ _ q => q)
    show zGo X l 0 0 0 136 0 [(0, .long bL)] [] M _
    refine zs_lload_n (pc := 0) t136_0 rfl ?_
    refine zs_lconst (pc := 1) t136_1 (v := 0) (by decide) ?_
    by_cases w38 : bL.toInt < 0
    · refine zs_lcmp (pc := 2) t136_2 (c := -1) (zlcL rfl ll0 (by omega)) ?_
      refine zs_if_geF (pc := 3) t136_3 lin1 (by decide) ?_
      refine zs_lload_n (pc := 6) t136_6 rfl ?_
      obtain ⟨w39v, w39⟩ : ∃ v, -bL = v := ⟨_, rfl⟩
      have w39g := zrg64 w39v
      refine zs_lneg (pc := 7) t136_7 (c := w39v) w39 ?_
      refine zs_goto (pc := 8) t136_8 ?_
      refine zs_lret (pc := 12) t136_12 mr136 ?_
      show zGo X l 1 0 0 175 10 [(4, .long aL), (0, .long aL), (2, .long bL)] [.long w39v] M _
      refine zs_lstore (pc := 10) t175_10 (ls' := [(6, .long w39v), (4, .long aL), (0, .long aL), (2, .long bL)]) (zml mf175 (by decide)) rfl ?_
      refine zs_iconst (pc := 12) t175_12 (v := 0) (by decide) ?_
      refine zs_istore (pc := 13) t175_13 (ls' := [(8, .int (0 : Int32)), (6, .long w39v), (4, .long aL), (0, .long aL), (2, .long bL)]) (zml mf175 (by decide)) rfl ?_
      have w40L : ∀ (m : Nat) (w40x4 : Int64) (w40x6 : Int64) (w40x8 : Int32), (0 ≤ w40x8.toInt ∧ w40x8.toInt ≤ 200) → 200 - w40x8.toInt ≤ (m : Int) → zGo X l 1 0 0 175 15 [(0, .long aL), (2, .long bL), (4, .long w40x4), (6, .long w40x6), (8, .int w40x8)] [] M Q := by
        intro m
        induction m using Nat.strongRecOn with
        | ind w40m w40ih =>
          intro w40x4 w40x6 w40x8 w40b8 w40q
          have w40g4 := zrg64 w40x4
          have w40g6 := zrg64 w40x6
          refine zs_iload (pc := 15) t175_15 rfl ?_
          refine zs_sipush (pc := 17) t175_17 (v := 200) (by decide) ?_
          by_cases w41 : 200 ≤ w40x8.toInt
          · refine zs_icmp_geT (pc := 20) t175_20 rfl li200 (by omega) ?_
            refine zs_lload (pc := 51) t175_51 rfl ?_
            exact zs_lret (pc := 53) t175_53 mr175 (hQ _ (zrg64 _).1 (zrg64 _).2)
          · refine zs_icmp_geF (pc := 20) t175_20 rfl li200 (by omega) ?_
            refine zs_lload (pc := 23) t175_23 rfl ?_
            refine zs_lconst (pc := 25) t175_25 (v := 0) (by decide) ?_
            by_cases w42 : w40x6.toInt < 0
            · refine zs_lcmp (pc := 26) t175_26 (c := -1) (zlcL rfl ll0 (by omega)) ?_
              refine zs_if_eqF (pc := 27) t175_27 lin1 (by decide) ?_
              refine zs_lload (pc := 30) t175_30 rfl ?_
              refine zs_lload (pc := 32) t175_32 rfl ?_
              obtain ⟨w43v, w43⟩ : ∃ v, w40x4 - w40x4 / w40x6 * w40x6 = v := ⟨_, rfl⟩
              have w43g := zrg64 w43v
              refine zs_lrem (pc := 34) t175_34 (znz64 rfl (by omega)) (c := w43v) w43 ?_
              refine zs_lstore (pc := 35) t175_35 (ls' := [(9, .long w43v), (0, .long aL), (2, .long bL), (4, .long w40x4), (6, .long w40x6), (8, .int w40x8)]) (zml mf175 (by decide)) rfl ?_
              refine zs_lload (pc := 37) t175_37 rfl ?_
              refine zs_lstore (pc := 39) t175_39 (ls' := [(4, .long w40x6), (9, .long w43v), (0, .long aL), (2, .long bL), (6, .long w40x6), (8, .int w40x8)]) (zml mf175 (by decide)) rfl ?_
              refine zs_lload (pc := 41) t175_41 rfl ?_
              refine zs_lstore (pc := 43) t175_43 (ls' := [(6, .long w43v), (4, .long w40x6), (9, .long w43v), (0, .long aL), (2, .long bL), (8, .int w40x8)]) (zml mf175 (by decide)) rfl ?_
              obtain ⟨w44v, w44e, w44⟩ := ziadd (a := w40x8) (b := Int32.ofInt 1) rfl (show (Int32.ofInt 1).toInt = 1 by decide) (by omega) (by omega)
              refine zs_iinc (pc := 45) t175_45 (ls' := [(8, .int w44v), (6, .long w43v), (4, .long w40x6), (9, .long w43v), (0, .long aL), (2, .long bL)]) (zml mf175 (by decide)) rfl (c := w44v) w44e rfl ?_
              refine zs_goto (pc := 48) t175_48 ?_
              refine zGo.locals (ls' := [(0, .long aL), (2, .long bL), (4, .long w40x6), (6, .long w43v), (8, .int w44v)]) (by simp) ?_
              exact w40ih (w40m - 1) (by omega) w40x6 w43v w44v ⟨by omega, by omega⟩ (by omega)
            by_cases w45 : w40x6.toInt = 0
            · refine zs_lcmp (pc := 26) t175_26 (c := 0) (zlcE rfl ll0 (by omega)) ?_
              refine zs_if_eqT (pc := 27) t175_27 li0 (by decide) ?_
              refine zs_lload (pc := 51) t175_51 rfl ?_
              exact zs_lret (pc := 53) t175_53 mr175 (hQ _ (zrg64 _).1 (zrg64 _).2)
            refine zs_lcmp (pc := 26) t175_26 (c := 1) (zlcG rfl ll0 (by omega)) ?_
            refine zs_if_eqF (pc := 27) t175_27 li1 (by decide) ?_
            refine zs_lload (pc := 30) t175_30 rfl ?_
            refine zs_lload (pc := 32) t175_32 rfl ?_
            obtain ⟨w47v, w47⟩ : ∃ v, w40x4 - w40x4 / w40x6 * w40x6 = v := ⟨_, rfl⟩
            have w47g := zrg64 w47v
            refine zs_lrem (pc := 34) t175_34 (znz64 rfl (by omega)) (c := w47v) w47 ?_
            refine zs_lstore (pc := 35) t175_35 (ls' := [(9, .long w47v), (0, .long aL), (2, .long bL), (4, .long w40x4), (6, .long w40x6), (8, .int w40x8)]) (zml mf175 (by decide)) rfl ?_
            refine zs_lload (pc := 37) t175_37 rfl ?_
            refine zs_lstore (pc := 39) t175_39 (ls' := [(4, .long w40x6), (9, .long w47v), (0, .long aL), (2, .long bL), (6, .long w40x6), (8, .int w40x8)]) (zml mf175 (by decide)) rfl ?_
            refine zs_lload (pc := 41) t175_41 rfl ?_
            refine zs_lstore (pc := 43) t175_43 (ls' := [(6, .long w47v), (4, .long w40x6), (9, .long w47v), (0, .long aL), (2, .long bL), (8, .int w40x8)]) (zml mf175 (by decide)) rfl ?_
            obtain ⟨w48v, w48e, w48⟩ := ziadd (a := w40x8) (b := Int32.ofInt 1) rfl (show (Int32.ofInt 1).toInt = 1 by decide) (by omega) (by omega)
            refine zs_iinc (pc := 45) t175_45 (ls' := [(8, .int w48v), (6, .long w47v), (4, .long w40x6), (9, .long w47v), (0, .long aL), (2, .long bL)]) (zml mf175 (by decide)) rfl (c := w48v) w48e rfl ?_
            refine zs_goto (pc := 48) t175_48 ?_
            refine zGo.locals (ls' := [(0, .long aL), (2, .long bL), (4, .long w40x6), (6, .long w47v), (8, .int w48v)]) (by simp) ?_
            exact w40ih (w40m - 1) (by omega) w40x6 w47v w48v ⟨by omega, by omega⟩ (by omega)
      refine zGo.locals (ls' := [(0, .long aL), (2, .long bL), (4, .long aL), (6, .long w39v), (8, .int (0 : Int32))]) (by simp) ?_
      have w49 := li0
      exact w40L ((200 - 0 : Int).toNat) aL w39v (0 : Int32) ⟨by decide, by decide⟩ (by omega)
    by_cases w50 : bL.toInt = 0
    · refine zs_lcmp (pc := 2) t136_2 (c := 0) (zlcE rfl ll0 (by omega)) ?_
      refine zs_if_geT (pc := 3) t136_3 li0 (by decide) ?_
      refine zs_lload_n (pc := 11) t136_11 rfl ?_
      refine zs_lret (pc := 12) t136_12 mr136 ?_
      show zGo X l 1 0 0 175 10 [(4, .long aL), (0, .long aL), (2, .long bL)] [.long bL] M _
      refine zs_lstore (pc := 10) t175_10 (ls' := [(6, .long bL), (4, .long aL), (0, .long aL), (2, .long bL)]) (zml mf175 (by decide)) rfl ?_
      refine zs_iconst (pc := 12) t175_12 (v := 0) (by decide) ?_
      refine zs_istore (pc := 13) t175_13 (ls' := [(8, .int (0 : Int32)), (6, .long bL), (4, .long aL), (0, .long aL), (2, .long bL)]) (zml mf175 (by decide)) rfl ?_
      have w51L : ∀ (m : Nat) (w51x4 : Int64) (w51x6 : Int64) (w51x8 : Int32), (0 ≤ w51x8.toInt ∧ w51x8.toInt ≤ 200) → 200 - w51x8.toInt ≤ (m : Int) → zGo X l 1 0 0 175 15 [(0, .long aL), (2, .long bL), (4, .long w51x4), (6, .long w51x6), (8, .int w51x8)] [] M Q := by
        intro m
        induction m using Nat.strongRecOn with
        | ind w51m w51ih =>
          intro w51x4 w51x6 w51x8 w51b8 w51q
          have w51g4 := zrg64 w51x4
          have w51g6 := zrg64 w51x6
          refine zs_iload (pc := 15) t175_15 rfl ?_
          refine zs_sipush (pc := 17) t175_17 (v := 200) (by decide) ?_
          by_cases w52 : 200 ≤ w51x8.toInt
          · refine zs_icmp_geT (pc := 20) t175_20 rfl li200 (by omega) ?_
            refine zs_lload (pc := 51) t175_51 rfl ?_
            exact zs_lret (pc := 53) t175_53 mr175 (hQ _ (zrg64 _).1 (zrg64 _).2)
          · refine zs_icmp_geF (pc := 20) t175_20 rfl li200 (by omega) ?_
            refine zs_lload (pc := 23) t175_23 rfl ?_
            refine zs_lconst (pc := 25) t175_25 (v := 0) (by decide) ?_
            by_cases w53 : w51x6.toInt < 0
            · refine zs_lcmp (pc := 26) t175_26 (c := -1) (zlcL rfl ll0 (by omega)) ?_
              refine zs_if_eqF (pc := 27) t175_27 lin1 (by decide) ?_
              refine zs_lload (pc := 30) t175_30 rfl ?_
              refine zs_lload (pc := 32) t175_32 rfl ?_
              obtain ⟨w54v, w54⟩ : ∃ v, w51x4 - w51x4 / w51x6 * w51x6 = v := ⟨_, rfl⟩
              have w54g := zrg64 w54v
              refine zs_lrem (pc := 34) t175_34 (znz64 rfl (by omega)) (c := w54v) w54 ?_
              refine zs_lstore (pc := 35) t175_35 (ls' := [(9, .long w54v), (0, .long aL), (2, .long bL), (4, .long w51x4), (6, .long w51x6), (8, .int w51x8)]) (zml mf175 (by decide)) rfl ?_
              refine zs_lload (pc := 37) t175_37 rfl ?_
              refine zs_lstore (pc := 39) t175_39 (ls' := [(4, .long w51x6), (9, .long w54v), (0, .long aL), (2, .long bL), (6, .long w51x6), (8, .int w51x8)]) (zml mf175 (by decide)) rfl ?_
              refine zs_lload (pc := 41) t175_41 rfl ?_
              refine zs_lstore (pc := 43) t175_43 (ls' := [(6, .long w54v), (4, .long w51x6), (9, .long w54v), (0, .long aL), (2, .long bL), (8, .int w51x8)]) (zml mf175 (by decide)) rfl ?_
              obtain ⟨w55v, w55e, w55⟩ := ziadd (a := w51x8) (b := Int32.ofInt 1) rfl (show (Int32.ofInt 1).toInt = 1 by decide) (by omega) (by omega)
              refine zs_iinc (pc := 45) t175_45 (ls' := [(8, .int w55v), (6, .long w54v), (4, .long w51x6), (9, .long w54v), (0, .long aL), (2, .long bL)]) (zml mf175 (by decide)) rfl (c := w55v) w55e rfl ?_
              refine zs_goto (pc := 48) t175_48 ?_
              refine zGo.locals (ls' := [(0, .long aL), (2, .long bL), (4, .long w51x6), (6, .long w54v), (8, .int w55v)]) (by simp) ?_
              exact w51ih (w51m - 1) (by omega) w51x6 w54v w55v ⟨by omega, by omega⟩ (by omega)
            by_cases w56 : w51x6.toInt = 0
            · refine zs_lcmp (pc := 26) t175_26 (c := 0) (zlcE rfl ll0 (by omega)) ?_
              refine zs_if_eqT (pc := 27) t175_27 li0 (by decide) ?_
              refine zs_lload (pc := 51) t175_51 rfl ?_
              exact zs_lret (pc := 53) t175_53 mr175 (hQ _ (zrg64 _).1 (zrg64 _).2)
            refine zs_lcmp (pc := 26) t175_26 (c := 1) (zlcG rfl ll0 (by omega)) ?_
            refine zs_if_eqF (pc := 27) t175_27 li1 (by decide) ?_
            refine zs_lload (pc := 30) t175_30 rfl ?_
            refine zs_lload (pc := 32) t175_32 rfl ?_
            obtain ⟨w58v, w58⟩ : ∃ v, w51x4 - w51x4 / w51x6 * w51x6 = v := ⟨_, rfl⟩
            have w58g := zrg64 w58v
            refine zs_lrem (pc := 34) t175_34 (znz64 rfl (by omega)) (c := w58v) w58 ?_
            refine zs_lstore (pc := 35) t175_35 (ls' := [(9, .long w58v), (0, .long aL), (2, .long bL), (4, .long w51x4), (6, .long w51x6), (8, .int w51x8)]) (zml mf175 (by decide)) rfl ?_
            refine zs_lload (pc := 37) t175_37 rfl ?_
            refine zs_lstore (pc := 39) t175_39 (ls' := [(4, .long w51x6), (9, .long w58v), (0, .long aL), (2, .long bL), (6, .long w51x6), (8, .int w51x8)]) (zml mf175 (by decide)) rfl ?_
            refine zs_lload (pc := 41) t175_41 rfl ?_
            refine zs_lstore (pc := 43) t175_43 (ls' := [(6, .long w58v), (4, .long w51x6), (9, .long w58v), (0, .long aL), (2, .long bL), (8, .int w51x8)]) (zml mf175 (by decide)) rfl ?_
            obtain ⟨w59v, w59e, w59⟩ := ziadd (a := w51x8) (b := Int32.ofInt 1) rfl (show (Int32.ofInt 1).toInt = 1 by decide) (by omega) (by omega)
            refine zs_iinc (pc := 45) t175_45 (ls' := [(8, .int w59v), (6, .long w58v), (4, .long w51x6), (9, .long w58v), (0, .long aL), (2, .long bL)]) (zml mf175 (by decide)) rfl (c := w59v) w59e rfl ?_
            refine zs_goto (pc := 48) t175_48 ?_
            refine zGo.locals (ls' := [(0, .long aL), (2, .long bL), (4, .long w51x6), (6, .long w58v), (8, .int w59v)]) (by simp) ?_
            exact w51ih (w51m - 1) (by omega) w51x6 w58v w59v ⟨by omega, by omega⟩ (by omega)
      refine zGo.locals (ls' := [(0, .long aL), (2, .long bL), (4, .long aL), (6, .long bL), (8, .int (0 : Int32))]) (by simp) ?_
      have w60 := li0
      exact w51L ((200 - 0 : Int).toNat) aL bL (0 : Int32) ⟨by decide, by decide⟩ (by omega)
    refine zs_lcmp (pc := 2) t136_2 (c := 1) (zlcG rfl ll0 (by omega)) ?_
    refine zs_if_geT (pc := 3) t136_3 li1 (by decide) ?_
    refine zs_lload_n (pc := 11) t136_11 rfl ?_
    refine zs_lret (pc := 12) t136_12 mr136 ?_
    show zGo X l 1 0 0 175 10 [(4, .long aL), (0, .long aL), (2, .long bL)] [.long bL] M _
    refine zs_lstore (pc := 10) t175_10 (ls' := [(6, .long bL), (4, .long aL), (0, .long aL), (2, .long bL)]) (zml mf175 (by decide)) rfl ?_
    refine zs_iconst (pc := 12) t175_12 (v := 0) (by decide) ?_
    refine zs_istore (pc := 13) t175_13 (ls' := [(8, .int (0 : Int32)), (6, .long bL), (4, .long aL), (0, .long aL), (2, .long bL)]) (zml mf175 (by decide)) rfl ?_
    have w62L : ∀ (m : Nat) (w62x4 : Int64) (w62x6 : Int64) (w62x8 : Int32), (0 ≤ w62x8.toInt ∧ w62x8.toInt ≤ 200) → 200 - w62x8.toInt ≤ (m : Int) → zGo X l 1 0 0 175 15 [(0, .long aL), (2, .long bL), (4, .long w62x4), (6, .long w62x6), (8, .int w62x8)] [] M Q := by
      intro m
      induction m using Nat.strongRecOn with
      | ind w62m w62ih =>
        intro w62x4 w62x6 w62x8 w62b8 w62q
        have w62g4 := zrg64 w62x4
        have w62g6 := zrg64 w62x6
        refine zs_iload (pc := 15) t175_15 rfl ?_
        refine zs_sipush (pc := 17) t175_17 (v := 200) (by decide) ?_
        by_cases w63 : 200 ≤ w62x8.toInt
        · refine zs_icmp_geT (pc := 20) t175_20 rfl li200 (by omega) ?_
          refine zs_lload (pc := 51) t175_51 rfl ?_
          exact zs_lret (pc := 53) t175_53 mr175 (hQ _ (zrg64 _).1 (zrg64 _).2)
        · refine zs_icmp_geF (pc := 20) t175_20 rfl li200 (by omega) ?_
          refine zs_lload (pc := 23) t175_23 rfl ?_
          refine zs_lconst (pc := 25) t175_25 (v := 0) (by decide) ?_
          by_cases w64 : w62x6.toInt < 0
          · refine zs_lcmp (pc := 26) t175_26 (c := -1) (zlcL rfl ll0 (by omega)) ?_
            refine zs_if_eqF (pc := 27) t175_27 lin1 (by decide) ?_
            refine zs_lload (pc := 30) t175_30 rfl ?_
            refine zs_lload (pc := 32) t175_32 rfl ?_
            obtain ⟨w65v, w65⟩ : ∃ v, w62x4 - w62x4 / w62x6 * w62x6 = v := ⟨_, rfl⟩
            have w65g := zrg64 w65v
            refine zs_lrem (pc := 34) t175_34 (znz64 rfl (by omega)) (c := w65v) w65 ?_
            refine zs_lstore (pc := 35) t175_35 (ls' := [(9, .long w65v), (0, .long aL), (2, .long bL), (4, .long w62x4), (6, .long w62x6), (8, .int w62x8)]) (zml mf175 (by decide)) rfl ?_
            refine zs_lload (pc := 37) t175_37 rfl ?_
            refine zs_lstore (pc := 39) t175_39 (ls' := [(4, .long w62x6), (9, .long w65v), (0, .long aL), (2, .long bL), (6, .long w62x6), (8, .int w62x8)]) (zml mf175 (by decide)) rfl ?_
            refine zs_lload (pc := 41) t175_41 rfl ?_
            refine zs_lstore (pc := 43) t175_43 (ls' := [(6, .long w65v), (4, .long w62x6), (9, .long w65v), (0, .long aL), (2, .long bL), (8, .int w62x8)]) (zml mf175 (by decide)) rfl ?_
            obtain ⟨w66v, w66e, w66⟩ := ziadd (a := w62x8) (b := Int32.ofInt 1) rfl (show (Int32.ofInt 1).toInt = 1 by decide) (by omega) (by omega)
            refine zs_iinc (pc := 45) t175_45 (ls' := [(8, .int w66v), (6, .long w65v), (4, .long w62x6), (9, .long w65v), (0, .long aL), (2, .long bL)]) (zml mf175 (by decide)) rfl (c := w66v) w66e rfl ?_
            refine zs_goto (pc := 48) t175_48 ?_
            refine zGo.locals (ls' := [(0, .long aL), (2, .long bL), (4, .long w62x6), (6, .long w65v), (8, .int w66v)]) (by simp) ?_
            exact w62ih (w62m - 1) (by omega) w62x6 w65v w66v ⟨by omega, by omega⟩ (by omega)
          by_cases w67 : w62x6.toInt = 0
          · refine zs_lcmp (pc := 26) t175_26 (c := 0) (zlcE rfl ll0 (by omega)) ?_
            refine zs_if_eqT (pc := 27) t175_27 li0 (by decide) ?_
            refine zs_lload (pc := 51) t175_51 rfl ?_
            exact zs_lret (pc := 53) t175_53 mr175 (hQ _ (zrg64 _).1 (zrg64 _).2)
          refine zs_lcmp (pc := 26) t175_26 (c := 1) (zlcG rfl ll0 (by omega)) ?_
          refine zs_if_eqF (pc := 27) t175_27 li1 (by decide) ?_
          refine zs_lload (pc := 30) t175_30 rfl ?_
          refine zs_lload (pc := 32) t175_32 rfl ?_
          obtain ⟨w69v, w69⟩ : ∃ v, w62x4 - w62x4 / w62x6 * w62x6 = v := ⟨_, rfl⟩
          have w69g := zrg64 w69v
          refine zs_lrem (pc := 34) t175_34 (znz64 rfl (by omega)) (c := w69v) w69 ?_
          refine zs_lstore (pc := 35) t175_35 (ls' := [(9, .long w69v), (0, .long aL), (2, .long bL), (4, .long w62x4), (6, .long w62x6), (8, .int w62x8)]) (zml mf175 (by decide)) rfl ?_
          refine zs_lload (pc := 37) t175_37 rfl ?_
          refine zs_lstore (pc := 39) t175_39 (ls' := [(4, .long w62x6), (9, .long w69v), (0, .long aL), (2, .long bL), (6, .long w62x6), (8, .int w62x8)]) (zml mf175 (by decide)) rfl ?_
          refine zs_lload (pc := 41) t175_41 rfl ?_
          refine zs_lstore (pc := 43) t175_43 (ls' := [(6, .long w69v), (4, .long w62x6), (9, .long w69v), (0, .long aL), (2, .long bL), (8, .int w62x8)]) (zml mf175 (by decide)) rfl ?_
          obtain ⟨w70v, w70e, w70⟩ := ziadd (a := w62x8) (b := Int32.ofInt 1) rfl (show (Int32.ofInt 1).toInt = 1 by decide) (by omega) (by omega)
          refine zs_iinc (pc := 45) t175_45 (ls' := [(8, .int w70v), (6, .long w69v), (4, .long w62x6), (9, .long w69v), (0, .long aL), (2, .long bL)]) (zml mf175 (by decide)) rfl (c := w70v) w70e rfl ?_
          refine zs_goto (pc := 48) t175_48 ?_
          refine zGo.locals (ls' := [(0, .long aL), (2, .long bL), (4, .long w62x6), (6, .long w69v), (8, .int w70v)]) (by simp) ?_
          exact w62ih (w62m - 1) (by omega) w62x6 w69v w70v ⟨by omega, by omega⟩ (by omega)
    refine zGo.locals (ls' := [(0, .long aL), (2, .long bL), (4, .long aL), (6, .long bL), (8, .int (0 : Int32))]) (by simp) ?_
    have w71 := li0
    exact w62L ((200 - 0 : Int).toNat) aL bL (0 : Int32) ⟨by decide, by decide⟩ (by omega)
  refine zs_lcmp (pc := 2) t136_2 (c := 1) (zlcG rfl ll0 (by omega)) ?_
  refine zs_if_geT (pc := 3) t136_3 li1 (by decide) ?_
  refine zs_lload_n (pc := 11) t136_11 rfl ?_
  refine zs_lret (pc := 12) t136_12 mr136 ?_
  show zGo X l 1 0 0 175 4 [(0, .long aL), (2, .long bL)] [.long aL] M _
  refine zs_lstore (pc := 4) t175_4 (ls' := [(4, .long aL), (0, .long aL), (2, .long bL)]) (zml mf175 (by decide)) rfl ?_
  refine zs_lload_n (pc := 6) t175_6 rfl ?_
  refine zs_invS (pc := 7) (as := [.long bL]) (st := []) t175_7 (by decide) mf136 rfl rfl ⟨by decide, by decide, Nat.le_of_ble_eq_true rfl, Nat.le_of_ble_eq_true rfl⟩ (zs_in (by decide) mf136 (Nat.le_of_ble_eq_true rfl) ?_) (fun _ _ q => q)
  show zGo X l 0 0 0 136 0 [(0, .long bL)] [] M _
  refine zs_lload_n (pc := 0) t136_0 rfl ?_
  refine zs_lconst (pc := 1) t136_1 (v := 0) (by decide) ?_
  by_cases w73 : bL.toInt < 0
  · refine zs_lcmp (pc := 2) t136_2 (c := -1) (zlcL rfl ll0 (by omega)) ?_
    refine zs_if_geF (pc := 3) t136_3 lin1 (by decide) ?_
    refine zs_lload_n (pc := 6) t136_6 rfl ?_
    obtain ⟨w74v, w74⟩ : ∃ v, -bL = v := ⟨_, rfl⟩
    have w74g := zrg64 w74v
    refine zs_lneg (pc := 7) t136_7 (c := w74v) w74 ?_
    refine zs_goto (pc := 8) t136_8 ?_
    refine zs_lret (pc := 12) t136_12 mr136 ?_
    show zGo X l 1 0 0 175 10 [(4, .long aL), (0, .long aL), (2, .long bL)] [.long w74v] M _
    refine zs_lstore (pc := 10) t175_10 (ls' := [(6, .long w74v), (4, .long aL), (0, .long aL), (2, .long bL)]) (zml mf175 (by decide)) rfl ?_
    refine zs_iconst (pc := 12) t175_12 (v := 0) (by decide) ?_
    refine zs_istore (pc := 13) t175_13 (ls' := [(8, .int (0 : Int32)), (6, .long w74v), (4, .long aL), (0, .long aL), (2, .long bL)]) (zml mf175 (by decide)) rfl ?_
    have w75L : ∀ (m : Nat) (w75x4 : Int64) (w75x6 : Int64) (w75x8 : Int32), (0 ≤ w75x8.toInt ∧ w75x8.toInt ≤ 200) → 200 - w75x8.toInt ≤ (m : Int) → zGo X l 1 0 0 175 15 [(0, .long aL), (2, .long bL), (4, .long w75x4), (6, .long w75x6), (8, .int w75x8)] [] M Q := by
      intro m
      induction m using Nat.strongRecOn with
      | ind w75m w75ih =>
        intro w75x4 w75x6 w75x8 w75b8 w75q
        have w75g4 := zrg64 w75x4
        have w75g6 := zrg64 w75x6
        refine zs_iload (pc := 15) t175_15 rfl ?_
        refine zs_sipush (pc := 17) t175_17 (v := 200) (by decide) ?_
        by_cases w76 : 200 ≤ w75x8.toInt
        · refine zs_icmp_geT (pc := 20) t175_20 rfl li200 (by omega) ?_
          refine zs_lload (pc := 51) t175_51 rfl ?_
          exact zs_lret (pc := 53) t175_53 mr175 (hQ _ (zrg64 _).1 (zrg64 _).2)
        · refine zs_icmp_geF (pc := 20) t175_20 rfl li200 (by omega) ?_
          refine zs_lload (pc := 23) t175_23 rfl ?_
          refine zs_lconst (pc := 25) t175_25 (v := 0) (by decide) ?_
          by_cases w77 : w75x6.toInt < 0
          · refine zs_lcmp (pc := 26) t175_26 (c := -1) (zlcL rfl ll0 (by omega)) ?_
            refine zs_if_eqF (pc := 27) t175_27 lin1 (by decide) ?_
            refine zs_lload (pc := 30) t175_30 rfl ?_
            refine zs_lload (pc := 32) t175_32 rfl ?_
            obtain ⟨w78v, w78⟩ : ∃ v, w75x4 - w75x4 / w75x6 * w75x6 = v := ⟨_, rfl⟩
            have w78g := zrg64 w78v
            refine zs_lrem (pc := 34) t175_34 (znz64 rfl (by omega)) (c := w78v) w78 ?_
            refine zs_lstore (pc := 35) t175_35 (ls' := [(9, .long w78v), (0, .long aL), (2, .long bL), (4, .long w75x4), (6, .long w75x6), (8, .int w75x8)]) (zml mf175 (by decide)) rfl ?_
            refine zs_lload (pc := 37) t175_37 rfl ?_
            refine zs_lstore (pc := 39) t175_39 (ls' := [(4, .long w75x6), (9, .long w78v), (0, .long aL), (2, .long bL), (6, .long w75x6), (8, .int w75x8)]) (zml mf175 (by decide)) rfl ?_
            refine zs_lload (pc := 41) t175_41 rfl ?_
            refine zs_lstore (pc := 43) t175_43 (ls' := [(6, .long w78v), (4, .long w75x6), (9, .long w78v), (0, .long aL), (2, .long bL), (8, .int w75x8)]) (zml mf175 (by decide)) rfl ?_
            obtain ⟨w79v, w79e, w79⟩ := ziadd (a := w75x8) (b := Int32.ofInt 1) rfl (show (Int32.ofInt 1).toInt = 1 by decide) (by omega) (by omega)
            refine zs_iinc (pc := 45) t175_45 (ls' := [(8, .int w79v), (6, .long w78v), (4, .long w75x6), (9, .long w78v), (0, .long aL), (2, .long bL)]) (zml mf175 (by decide)) rfl (c := w79v) w79e rfl ?_
            refine zs_goto (pc := 48) t175_48 ?_
            refine zGo.locals (ls' := [(0, .long aL), (2, .long bL), (4, .long w75x6), (6, .long w78v), (8, .int w79v)]) (by simp) ?_
            exact w75ih (w75m - 1) (by omega) w75x6 w78v w79v ⟨by omega, by omega⟩ (by omega)
          by_cases w80 : w75x6.toInt = 0
          · refine zs_lcmp (pc := 26) t175_26 (c := 0) (zlcE rfl ll0 (by omega)) ?_
            refine zs_if_eqT (pc := 27) t175_27 li0 (by decide) ?_
            refine zs_lload (pc := 51) t175_51 rfl ?_
            exact zs_lret (pc := 53) t175_53 mr175 (hQ _ (zrg64 _).1 (zrg64 _).2)
          refine zs_lcmp (pc := 26) t175_26 (c := 1) (zlcG rfl ll0 (by omega)) ?_
          refine zs_if_eqF (pc := 27) t175_27 li1 (by decide) ?_
          refine zs_lload (pc := 30) t175_30 rfl ?_
          refine zs_lload (pc := 32) t175_32 rfl ?_
          obtain ⟨w82v, w82⟩ : ∃ v, w75x4 - w75x4 / w75x6 * w75x6 = v := ⟨_, rfl⟩
          have w82g := zrg64 w82v
          refine zs_lrem (pc := 34) t175_34 (znz64 rfl (by omega)) (c := w82v) w82 ?_
          refine zs_lstore (pc := 35) t175_35 (ls' := [(9, .long w82v), (0, .long aL), (2, .long bL), (4, .long w75x4), (6, .long w75x6), (8, .int w75x8)]) (zml mf175 (by decide)) rfl ?_
          refine zs_lload (pc := 37) t175_37 rfl ?_
          refine zs_lstore (pc := 39) t175_39 (ls' := [(4, .long w75x6), (9, .long w82v), (0, .long aL), (2, .long bL), (6, .long w75x6), (8, .int w75x8)]) (zml mf175 (by decide)) rfl ?_
          refine zs_lload (pc := 41) t175_41 rfl ?_
          refine zs_lstore (pc := 43) t175_43 (ls' := [(6, .long w82v), (4, .long w75x6), (9, .long w82v), (0, .long aL), (2, .long bL), (8, .int w75x8)]) (zml mf175 (by decide)) rfl ?_
          obtain ⟨w83v, w83e, w83⟩ := ziadd (a := w75x8) (b := Int32.ofInt 1) rfl (show (Int32.ofInt 1).toInt = 1 by decide) (by omega) (by omega)
          refine zs_iinc (pc := 45) t175_45 (ls' := [(8, .int w83v), (6, .long w82v), (4, .long w75x6), (9, .long w82v), (0, .long aL), (2, .long bL)]) (zml mf175 (by decide)) rfl (c := w83v) w83e rfl ?_
          refine zs_goto (pc := 48) t175_48 ?_
          refine zGo.locals (ls' := [(0, .long aL), (2, .long bL), (4, .long w75x6), (6, .long w82v), (8, .int w83v)]) (by simp) ?_
          exact w75ih (w75m - 1) (by omega) w75x6 w82v w83v ⟨by omega, by omega⟩ (by omega)
    refine zGo.locals (ls' := [(0, .long aL), (2, .long bL), (4, .long aL), (6, .long w74v), (8, .int (0 : Int32))]) (by simp) ?_
    have w84 := li0
    exact w75L ((200 - 0 : Int).toNat) aL w74v (0 : Int32) ⟨by decide, by decide⟩ (by omega)
  by_cases w85 : bL.toInt = 0
  · refine zs_lcmp (pc := 2) t136_2 (c := 0) (zlcE rfl ll0 (by omega)) ?_
    refine zs_if_geT (pc := 3) t136_3 li0 (by decide) ?_
    refine zs_lload_n (pc := 11) t136_11 rfl ?_
    refine zs_lret (pc := 12) t136_12 mr136 ?_
    show zGo X l 1 0 0 175 10 [(4, .long aL), (0, .long aL), (2, .long bL)] [.long bL] M _
    refine zs_lstore (pc := 10) t175_10 (ls' := [(6, .long bL), (4, .long aL), (0, .long aL), (2, .long bL)]) (zml mf175 (by decide)) rfl ?_
    refine zs_iconst (pc := 12) t175_12 (v := 0) (by decide) ?_
    refine zs_istore (pc := 13) t175_13 (ls' := [(8, .int (0 : Int32)), (6, .long bL), (4, .long aL), (0, .long aL), (2, .long bL)]) (zml mf175 (by decide)) rfl ?_
    have w86L : ∀ (m : Nat) (w86x4 : Int64) (w86x6 : Int64) (w86x8 : Int32), (0 ≤ w86x8.toInt ∧ w86x8.toInt ≤ 200) → 200 - w86x8.toInt ≤ (m : Int) → zGo X l 1 0 0 175 15 [(0, .long aL), (2, .long bL), (4, .long w86x4), (6, .long w86x6), (8, .int w86x8)] [] M Q := by
      intro m
      induction m using Nat.strongRecOn with
      | ind w86m w86ih =>
        intro w86x4 w86x6 w86x8 w86b8 w86q
        have w86g4 := zrg64 w86x4
        have w86g6 := zrg64 w86x6
        refine zs_iload (pc := 15) t175_15 rfl ?_
        refine zs_sipush (pc := 17) t175_17 (v := 200) (by decide) ?_
        by_cases w87 : 200 ≤ w86x8.toInt
        · refine zs_icmp_geT (pc := 20) t175_20 rfl li200 (by omega) ?_
          refine zs_lload (pc := 51) t175_51 rfl ?_
          exact zs_lret (pc := 53) t175_53 mr175 (hQ _ (zrg64 _).1 (zrg64 _).2)
        · refine zs_icmp_geF (pc := 20) t175_20 rfl li200 (by omega) ?_
          refine zs_lload (pc := 23) t175_23 rfl ?_
          refine zs_lconst (pc := 25) t175_25 (v := 0) (by decide) ?_
          by_cases w88 : w86x6.toInt < 0
          · refine zs_lcmp (pc := 26) t175_26 (c := -1) (zlcL rfl ll0 (by omega)) ?_
            refine zs_if_eqF (pc := 27) t175_27 lin1 (by decide) ?_
            refine zs_lload (pc := 30) t175_30 rfl ?_
            refine zs_lload (pc := 32) t175_32 rfl ?_
            obtain ⟨w89v, w89⟩ : ∃ v, w86x4 - w86x4 / w86x6 * w86x6 = v := ⟨_, rfl⟩
            have w89g := zrg64 w89v
            refine zs_lrem (pc := 34) t175_34 (znz64 rfl (by omega)) (c := w89v) w89 ?_
            refine zs_lstore (pc := 35) t175_35 (ls' := [(9, .long w89v), (0, .long aL), (2, .long bL), (4, .long w86x4), (6, .long w86x6), (8, .int w86x8)]) (zml mf175 (by decide)) rfl ?_
            refine zs_lload (pc := 37) t175_37 rfl ?_
            refine zs_lstore (pc := 39) t175_39 (ls' := [(4, .long w86x6), (9, .long w89v), (0, .long aL), (2, .long bL), (6, .long w86x6), (8, .int w86x8)]) (zml mf175 (by decide)) rfl ?_
            refine zs_lload (pc := 41) t175_41 rfl ?_
            refine zs_lstore (pc := 43) t175_43 (ls' := [(6, .long w89v), (4, .long w86x6), (9, .long w89v), (0, .long aL), (2, .long bL), (8, .int w86x8)]) (zml mf175 (by decide)) rfl ?_
            obtain ⟨w90v, w90e, w90⟩ := ziadd (a := w86x8) (b := Int32.ofInt 1) rfl (show (Int32.ofInt 1).toInt = 1 by decide) (by omega) (by omega)
            refine zs_iinc (pc := 45) t175_45 (ls' := [(8, .int w90v), (6, .long w89v), (4, .long w86x6), (9, .long w89v), (0, .long aL), (2, .long bL)]) (zml mf175 (by decide)) rfl (c := w90v) w90e rfl ?_
            refine zs_goto (pc := 48) t175_48 ?_
            refine zGo.locals (ls' := [(0, .long aL), (2, .long bL), (4, .long w86x6), (6, .long w89v), (8, .int w90v)]) (by simp) ?_
            exact w86ih (w86m - 1) (by omega) w86x6 w89v w90v ⟨by omega, by omega⟩ (by omega)
          by_cases w91 : w86x6.toInt = 0
          · refine zs_lcmp (pc := 26) t175_26 (c := 0) (zlcE rfl ll0 (by omega)) ?_
            refine zs_if_eqT (pc := 27) t175_27 li0 (by decide) ?_
            refine zs_lload (pc := 51) t175_51 rfl ?_
            exact zs_lret (pc := 53) t175_53 mr175 (hQ _ (zrg64 _).1 (zrg64 _).2)
          refine zs_lcmp (pc := 26) t175_26 (c := 1) (zlcG rfl ll0 (by omega)) ?_
          refine zs_if_eqF (pc := 27) t175_27 li1 (by decide) ?_
          refine zs_lload (pc := 30) t175_30 rfl ?_
          refine zs_lload (pc := 32) t175_32 rfl ?_
          obtain ⟨w93v, w93⟩ : ∃ v, w86x4 - w86x4 / w86x6 * w86x6 = v := ⟨_, rfl⟩
          have w93g := zrg64 w93v
          refine zs_lrem (pc := 34) t175_34 (znz64 rfl (by omega)) (c := w93v) w93 ?_
          refine zs_lstore (pc := 35) t175_35 (ls' := [(9, .long w93v), (0, .long aL), (2, .long bL), (4, .long w86x4), (6, .long w86x6), (8, .int w86x8)]) (zml mf175 (by decide)) rfl ?_
          refine zs_lload (pc := 37) t175_37 rfl ?_
          refine zs_lstore (pc := 39) t175_39 (ls' := [(4, .long w86x6), (9, .long w93v), (0, .long aL), (2, .long bL), (6, .long w86x6), (8, .int w86x8)]) (zml mf175 (by decide)) rfl ?_
          refine zs_lload (pc := 41) t175_41 rfl ?_
          refine zs_lstore (pc := 43) t175_43 (ls' := [(6, .long w93v), (4, .long w86x6), (9, .long w93v), (0, .long aL), (2, .long bL), (8, .int w86x8)]) (zml mf175 (by decide)) rfl ?_
          obtain ⟨w94v, w94e, w94⟩ := ziadd (a := w86x8) (b := Int32.ofInt 1) rfl (show (Int32.ofInt 1).toInt = 1 by decide) (by omega) (by omega)
          refine zs_iinc (pc := 45) t175_45 (ls' := [(8, .int w94v), (6, .long w93v), (4, .long w86x6), (9, .long w93v), (0, .long aL), (2, .long bL)]) (zml mf175 (by decide)) rfl (c := w94v) w94e rfl ?_
          refine zs_goto (pc := 48) t175_48 ?_
          refine zGo.locals (ls' := [(0, .long aL), (2, .long bL), (4, .long w86x6), (6, .long w93v), (8, .int w94v)]) (by simp) ?_
          exact w86ih (w86m - 1) (by omega) w86x6 w93v w94v ⟨by omega, by omega⟩ (by omega)
    refine zGo.locals (ls' := [(0, .long aL), (2, .long bL), (4, .long aL), (6, .long bL), (8, .int (0 : Int32))]) (by simp) ?_
    have w95 := li0
    exact w86L ((200 - 0 : Int).toNat) aL bL (0 : Int32) ⟨by decide, by decide⟩ (by omega)
  refine zs_lcmp (pc := 2) t136_2 (c := 1) (zlcG rfl ll0 (by omega)) ?_
  refine zs_if_geT (pc := 3) t136_3 li1 (by decide) ?_
  refine zs_lload_n (pc := 11) t136_11 rfl ?_
  refine zs_lret (pc := 12) t136_12 mr136 ?_
  show zGo X l 1 0 0 175 10 [(4, .long aL), (0, .long aL), (2, .long bL)] [.long bL] M _
  refine zs_lstore (pc := 10) t175_10 (ls' := [(6, .long bL), (4, .long aL), (0, .long aL), (2, .long bL)]) (zml mf175 (by decide)) rfl ?_
  refine zs_iconst (pc := 12) t175_12 (v := 0) (by decide) ?_
  refine zs_istore (pc := 13) t175_13 (ls' := [(8, .int (0 : Int32)), (6, .long bL), (4, .long aL), (0, .long aL), (2, .long bL)]) (zml mf175 (by decide)) rfl ?_
  have w97L : ∀ (m : Nat) (w97x4 : Int64) (w97x6 : Int64) (w97x8 : Int32), (0 ≤ w97x8.toInt ∧ w97x8.toInt ≤ 200) → 200 - w97x8.toInt ≤ (m : Int) → zGo X l 1 0 0 175 15 [(0, .long aL), (2, .long bL), (4, .long w97x4), (6, .long w97x6), (8, .int w97x8)] [] M Q := by
    intro m
    induction m using Nat.strongRecOn with
    | ind w97m w97ih =>
      intro w97x4 w97x6 w97x8 w97b8 w97q
      have w97g4 := zrg64 w97x4
      have w97g6 := zrg64 w97x6
      refine zs_iload (pc := 15) t175_15 rfl ?_
      refine zs_sipush (pc := 17) t175_17 (v := 200) (by decide) ?_
      by_cases w98 : 200 ≤ w97x8.toInt
      · refine zs_icmp_geT (pc := 20) t175_20 rfl li200 (by omega) ?_
        refine zs_lload (pc := 51) t175_51 rfl ?_
        exact zs_lret (pc := 53) t175_53 mr175 (hQ _ (zrg64 _).1 (zrg64 _).2)
      · refine zs_icmp_geF (pc := 20) t175_20 rfl li200 (by omega) ?_
        refine zs_lload (pc := 23) t175_23 rfl ?_
        refine zs_lconst (pc := 25) t175_25 (v := 0) (by decide) ?_
        by_cases w99 : w97x6.toInt < 0
        · refine zs_lcmp (pc := 26) t175_26 (c := -1) (zlcL rfl ll0 (by omega)) ?_
          refine zs_if_eqF (pc := 27) t175_27 lin1 (by decide) ?_
          refine zs_lload (pc := 30) t175_30 rfl ?_
          refine zs_lload (pc := 32) t175_32 rfl ?_
          obtain ⟨w100v, w100⟩ : ∃ v, w97x4 - w97x4 / w97x6 * w97x6 = v := ⟨_, rfl⟩
          have w100g := zrg64 w100v
          refine zs_lrem (pc := 34) t175_34 (znz64 rfl (by omega)) (c := w100v) w100 ?_
          refine zs_lstore (pc := 35) t175_35 (ls' := [(9, .long w100v), (0, .long aL), (2, .long bL), (4, .long w97x4), (6, .long w97x6), (8, .int w97x8)]) (zml mf175 (by decide)) rfl ?_
          refine zs_lload (pc := 37) t175_37 rfl ?_
          refine zs_lstore (pc := 39) t175_39 (ls' := [(4, .long w97x6), (9, .long w100v), (0, .long aL), (2, .long bL), (6, .long w97x6), (8, .int w97x8)]) (zml mf175 (by decide)) rfl ?_
          refine zs_lload (pc := 41) t175_41 rfl ?_
          refine zs_lstore (pc := 43) t175_43 (ls' := [(6, .long w100v), (4, .long w97x6), (9, .long w100v), (0, .long aL), (2, .long bL), (8, .int w97x8)]) (zml mf175 (by decide)) rfl ?_
          obtain ⟨w101v, w101e, w101⟩ := ziadd (a := w97x8) (b := Int32.ofInt 1) rfl (show (Int32.ofInt 1).toInt = 1 by decide) (by omega) (by omega)
          refine zs_iinc (pc := 45) t175_45 (ls' := [(8, .int w101v), (6, .long w100v), (4, .long w97x6), (9, .long w100v), (0, .long aL), (2, .long bL)]) (zml mf175 (by decide)) rfl (c := w101v) w101e rfl ?_
          refine zs_goto (pc := 48) t175_48 ?_
          refine zGo.locals (ls' := [(0, .long aL), (2, .long bL), (4, .long w97x6), (6, .long w100v), (8, .int w101v)]) (by simp) ?_
          exact w97ih (w97m - 1) (by omega) w97x6 w100v w101v ⟨by omega, by omega⟩ (by omega)
        by_cases w102 : w97x6.toInt = 0
        · refine zs_lcmp (pc := 26) t175_26 (c := 0) (zlcE rfl ll0 (by omega)) ?_
          refine zs_if_eqT (pc := 27) t175_27 li0 (by decide) ?_
          refine zs_lload (pc := 51) t175_51 rfl ?_
          exact zs_lret (pc := 53) t175_53 mr175 (hQ _ (zrg64 _).1 (zrg64 _).2)
        refine zs_lcmp (pc := 26) t175_26 (c := 1) (zlcG rfl ll0 (by omega)) ?_
        refine zs_if_eqF (pc := 27) t175_27 li1 (by decide) ?_
        refine zs_lload (pc := 30) t175_30 rfl ?_
        refine zs_lload (pc := 32) t175_32 rfl ?_
        obtain ⟨w104v, w104⟩ : ∃ v, w97x4 - w97x4 / w97x6 * w97x6 = v := ⟨_, rfl⟩
        have w104g := zrg64 w104v
        refine zs_lrem (pc := 34) t175_34 (znz64 rfl (by omega)) (c := w104v) w104 ?_
        refine zs_lstore (pc := 35) t175_35 (ls' := [(9, .long w104v), (0, .long aL), (2, .long bL), (4, .long w97x4), (6, .long w97x6), (8, .int w97x8)]) (zml mf175 (by decide)) rfl ?_
        refine zs_lload (pc := 37) t175_37 rfl ?_
        refine zs_lstore (pc := 39) t175_39 (ls' := [(4, .long w97x6), (9, .long w104v), (0, .long aL), (2, .long bL), (6, .long w97x6), (8, .int w97x8)]) (zml mf175 (by decide)) rfl ?_
        refine zs_lload (pc := 41) t175_41 rfl ?_
        refine zs_lstore (pc := 43) t175_43 (ls' := [(6, .long w104v), (4, .long w97x6), (9, .long w104v), (0, .long aL), (2, .long bL), (8, .int w97x8)]) (zml mf175 (by decide)) rfl ?_
        obtain ⟨w105v, w105e, w105⟩ := ziadd (a := w97x8) (b := Int32.ofInt 1) rfl (show (Int32.ofInt 1).toInt = 1 by decide) (by omega) (by omega)
        refine zs_iinc (pc := 45) t175_45 (ls' := [(8, .int w105v), (6, .long w104v), (4, .long w97x6), (9, .long w104v), (0, .long aL), (2, .long bL)]) (zml mf175 (by decide)) rfl (c := w105v) w105e rfl ?_
        refine zs_goto (pc := 48) t175_48 ?_
        refine zGo.locals (ls' := [(0, .long aL), (2, .long bL), (4, .long w97x6), (6, .long w104v), (8, .int w105v)]) (by simp) ?_
        exact w97ih (w97m - 1) (by omega) w97x6 w104v w105v ⟨by omega, by omega⟩ (by omega)
  refine zGo.locals (ls' := [(0, .long aL), (2, .long bL), (4, .long aL), (6, .long bL), (8, .int (0 : Int32))]) (by simp) ?_
  have w106 := li0
  exact w97L ((200 - 0 : Int).toNat) aL bL (0 : Int32) ⟨by decide, by decide⟩ (by omega)
theorem C174 {X : zX} {l : Launch} {M : zM} {Q : Option Value → zM → Prop} {aL bL : Int64} (hs : zSk zMc M) (hI : zIv cLo cHi M) (hQ : ∀ v : Int64, (-9223372036854775808) ≤ v.toInt → v.toInt ≤ 9223372036854775807 → Q (some (.long v)) M) : zCall X l 2 0 0 174 [.long aL, .long bL] M Q := by
  have gaL := zrg64 aL
  have gbL := zrg64 bL
  refine zs_in (by decide) mf174 (Nat.le_of_ble_eq_true rfl) ?_
  show zGo X l 2 0 0 174 0 [(0, .long aL), (2, .long bL)] [] M _
  refine zs_lload_n (pc := 0) t174_0 rfl ?_
  refine zs_lload_n (pc := 1) t174_1 rfl ?_
  refine zs_invS (pc := 2) (as := [.long aL, .long bL]) (st := []) t174_2 (by decide) mf175 rfl rfl ⟨by decide, by decide, Nat.le_of_ble_eq_true rfl, Nat.le_of_ble_eq_true rfl⟩ (C175 hs hI ?_) (fun _ _ q => q)
  intro w1v w1a w1b
  show zGo X l 2 0 0 174 5 [(0, .long aL), (2, .long bL)] [.long w1v] M _
  refine zs_lstore (pc := 5) t174_5 (ls' := [(4, .long w1v), (0, .long aL), (2, .long bL)]) (zml mf174 (by decide)) rfl ?_
  refine zs_lload (pc := 7) t174_7 rfl ?_
  refine zs_lconst (pc := 9) t174_9 (v := 0) (by decide) ?_
  by_cases w2 : w1v.toInt < 0
  · refine zs_lcmp (pc := 10) t174_10 (c := -1) (zlcL rfl ll0 (by omega)) ?_
    refine zs_if_neT (pc := 11) t174_11 lin1 (by decide) ?_
    refine zs_lload_n (pc := 16) t174_16 rfl ?_
    refine zs_lconst (pc := 17) t174_17 (v := 0) (by decide) ?_
    by_cases w3 : bL.toInt < 0
    · refine zs_lcmp (pc := 18) t174_18 (c := -1) (zlcL rfl ll0 (by omega)) ?_
      refine zs_if_geF (pc := 19) t174_19 lin1 (by decide) ?_
      refine zs_lload_n (pc := 22) t174_22 rfl ?_
      obtain ⟨w4v, w4⟩ : ∃ v, -aL = v := ⟨_, rfl⟩
      have w4g := zrg64 w4v
      refine zs_lneg (pc := 23) t174_23 (c := w4v) w4 ?_
      refine zs_lload (pc := 24) t174_24 rfl ?_
      obtain ⟨w5v, w5⟩ : ∃ v, w4v / w1v = v := ⟨_, rfl⟩
      have w5g := zrg64 w5v
      refine zs_ldiv (pc := 26) t174_26 (znz64 rfl (by omega)) (c := w5v) w5 ?_
      refine zs_goto (pc := 27) t174_27 ?_
      exact zs_lret (pc := 34) t174_34 mr174 (hQ _ (zrg64 _).1 (zrg64 _).2)
    by_cases w6 : bL.toInt = 0
    · refine zs_lcmp (pc := 18) t174_18 (c := 0) (zlcE rfl ll0 (by omega)) ?_
      refine zs_if_geT (pc := 19) t174_19 li0 (by decide) ?_
      refine zs_lload_n (pc := 30) t174_30 rfl ?_
      refine zs_lload (pc := 31) t174_31 rfl ?_
      obtain ⟨w7v, w7⟩ : ∃ v, aL / w1v = v := ⟨_, rfl⟩
      have w7g := zrg64 w7v
      refine zs_ldiv (pc := 33) t174_33 (znz64 rfl (by omega)) (c := w7v) w7 ?_
      exact zs_lret (pc := 34) t174_34 mr174 (hQ _ (zrg64 _).1 (zrg64 _).2)
    refine zs_lcmp (pc := 18) t174_18 (c := 1) (zlcG rfl ll0 (by omega)) ?_
    refine zs_if_geT (pc := 19) t174_19 li1 (by decide) ?_
    refine zs_lload_n (pc := 30) t174_30 rfl ?_
    refine zs_lload (pc := 31) t174_31 rfl ?_
    obtain ⟨w9v, w9⟩ : ∃ v, aL / w1v = v := ⟨_, rfl⟩
    have w9g := zrg64 w9v
    refine zs_ldiv (pc := 33) t174_33 (znz64 rfl (by omega)) (c := w9v) w9 ?_
    exact zs_lret (pc := 34) t174_34 mr174 (hQ _ (zrg64 _).1 (zrg64 _).2)
  by_cases w10 : w1v.toInt = 0
  · refine zs_lcmp (pc := 10) t174_10 (c := 0) (zlcE rfl ll0 (by omega)) ?_
    refine zs_if_neF (pc := 11) t174_11 li0 (by decide) ?_
    refine zs_lconst (pc := 14) t174_14 (v := 0) (by decide) ?_
    exact zs_lret (pc := 15) t174_15 mr174 (hQ _ (zrg64 _).1 (zrg64 _).2)
  refine zs_lcmp (pc := 10) t174_10 (c := 1) (zlcG rfl ll0 (by omega)) ?_
  refine zs_if_neT (pc := 11) t174_11 li1 (by decide) ?_
  refine zs_lload_n (pc := 16) t174_16 rfl ?_
  refine zs_lconst (pc := 17) t174_17 (v := 0) (by decide) ?_
  by_cases w12 : bL.toInt < 0
  · refine zs_lcmp (pc := 18) t174_18 (c := -1) (zlcL rfl ll0 (by omega)) ?_
    refine zs_if_geF (pc := 19) t174_19 lin1 (by decide) ?_
    refine zs_lload_n (pc := 22) t174_22 rfl ?_
    obtain ⟨w13v, w13⟩ : ∃ v, -aL = v := ⟨_, rfl⟩
    have w13g := zrg64 w13v
    refine zs_lneg (pc := 23) t174_23 (c := w13v) w13 ?_
    refine zs_lload (pc := 24) t174_24 rfl ?_
    obtain ⟨w14v, w14⟩ : ∃ v, w13v / w1v = v := ⟨_, rfl⟩
    have w14g := zrg64 w14v
    refine zs_ldiv (pc := 26) t174_26 (znz64 rfl (by omega)) (c := w14v) w14 ?_
    refine zs_goto (pc := 27) t174_27 ?_
    exact zs_lret (pc := 34) t174_34 mr174 (hQ _ (zrg64 _).1 (zrg64 _).2)
  by_cases w15 : bL.toInt = 0
  · refine zs_lcmp (pc := 18) t174_18 (c := 0) (zlcE rfl ll0 (by omega)) ?_
    refine zs_if_geT (pc := 19) t174_19 li0 (by decide) ?_
    refine zs_lload_n (pc := 30) t174_30 rfl ?_
    refine zs_lload (pc := 31) t174_31 rfl ?_
    obtain ⟨w16v, w16⟩ : ∃ v, aL / w1v = v := ⟨_, rfl⟩
    have w16g := zrg64 w16v
    refine zs_ldiv (pc := 33) t174_33 (znz64 rfl (by omega)) (c := w16v) w16 ?_
    exact zs_lret (pc := 34) t174_34 mr174 (hQ _ (zrg64 _).1 (zrg64 _).2)
  refine zs_lcmp (pc := 18) t174_18 (c := 1) (zlcG rfl ll0 (by omega)) ?_
  refine zs_if_geT (pc := 19) t174_19 li1 (by decide) ?_
  refine zs_lload_n (pc := 30) t174_30 rfl ?_
  refine zs_lload (pc := 31) t174_31 rfl ?_
  obtain ⟨w18v, w18⟩ : ∃ v, aL / w1v = v := ⟨_, rfl⟩
  have w18g := zrg64 w18v
  refine zs_ldiv (pc := 33) t174_33 (znz64 rfl (by omega)) (c := w18v) w18 ?_
  exact zs_lret (pc := 34) t174_34 mr174 (hQ _ (zrg64 _).1 (zrg64 _).2)
theorem C176 {X : zX} {l : Launch} {M : zM} {Q : Option Value → zM → Prop} {aL bL : Int64} (hs : zSk zMc M) (hI : zIv cLo cHi M) (hQ : ∀ v : Int64, (-9223372036854775808) ≤ v.toInt → v.toInt ≤ 9223372036854775807 → Q (some (.long v)) M) : zCall X l 2 0 0 176 [.long aL, .long bL] M Q := by
  have gaL := zrg64 aL
  have gbL := zrg64 bL
  refine zs_in (by decide) mf176 (Nat.le_of_ble_eq_true rfl) ?_
  show zGo X l 2 0 0 176 0 [(0, .long aL), (2, .long bL)] [] M _
  refine zs_lload_n (pc := 0) t176_0 rfl ?_
  refine zs_lload_n (pc := 1) t176_1 rfl ?_
  refine zs_invS (pc := 2) (as := [.long aL, .long bL]) (st := []) t176_2 (by decide) mf175 rfl rfl ⟨by decide, by decide, Nat.le_of_ble_eq_true rfl, Nat.le_of_ble_eq_true rfl⟩ (C175 hs hI ?_) (fun _ _ q => q)
  intro w1v w1a w1b
  show zGo X l 2 0 0 176 5 [(0, .long aL), (2, .long bL)] [.long w1v] M _
  refine zs_lstore (pc := 5) t176_5 (ls' := [(4, .long w1v), (0, .long aL), (2, .long bL)]) (zml mf176 (by decide)) rfl ?_
  refine zs_lload (pc := 7) t176_7 rfl ?_
  refine zs_lconst (pc := 9) t176_9 (v := 0) (by decide) ?_
  by_cases w2 : w1v.toInt < 0
  · refine zs_lcmp (pc := 10) t176_10 (c := -1) (zlcL rfl ll0 (by omega)) ?_
    refine zs_if_neT (pc := 11) t176_11 lin1 (by decide) ?_
    refine zs_lload_n (pc := 18) t176_18 rfl ?_
    refine zs_invS (pc := 19) (as := [.long bL]) (st := []) t176_19 (by decide) mf136 rfl rfl ⟨by decide, by decide, Nat.le_of_ble_eq_true rfl, Nat.le_of_ble_eq_true rfl⟩ (zs_in (by decide) mf136 (Nat.le_of_ble_eq_true rfl) ?_) (fun _ _ q => q)
    show zGo X l 0 0 0 136 0 [(0, .long bL)] [] M _
    refine zs_lload_n (pc := 0) t136_0 rfl ?_
    refine zs_lconst (pc := 1) t136_1 (v := 0) (by decide) ?_
    by_cases w3 : bL.toInt < 0
    · refine zs_lcmp (pc := 2) t136_2 (c := -1) (zlcL rfl ll0 (by omega)) ?_
      refine zs_if_geF (pc := 3) t136_3 lin1 (by decide) ?_
      refine zs_lload_n (pc := 6) t136_6 rfl ?_
      obtain ⟨w4v, w4⟩ : ∃ v, -bL = v := ⟨_, rfl⟩
      have w4g := zrg64 w4v
      refine zs_lneg (pc := 7) t136_7 (c := w4v) w4 ?_
      refine zs_goto (pc := 8) t136_8 ?_
      refine zs_lret (pc := 12) t136_12 mr136 ?_
      show zGo X l 2 0 0 176 22 [(4, .long w1v), (0, .long aL), (2, .long bL)] [.long w4v] M _
      refine zs_lload (pc := 22) t176_22 rfl ?_
      obtain ⟨w5v, w5⟩ : ∃ v, w4v / w1v = v := ⟨_, rfl⟩
      have w5g := zrg64 w5v
      refine zs_ldiv (pc := 24) t176_24 (znz64 rfl (by omega)) (c := w5v) w5 ?_
      exact zs_lret (pc := 25) t176_25 mr176 (hQ _ (zrg64 _).1 (zrg64 _).2)
    by_cases w6 : bL.toInt = 0
    · refine zs_lcmp (pc := 2) t136_2 (c := 0) (zlcE rfl ll0 (by omega)) ?_
      refine zs_if_geT (pc := 3) t136_3 li0 (by decide) ?_
      refine zs_lload_n (pc := 11) t136_11 rfl ?_
      refine zs_lret (pc := 12) t136_12 mr136 ?_
      show zGo X l 2 0 0 176 22 [(4, .long w1v), (0, .long aL), (2, .long bL)] [.long bL] M _
      refine zs_lload (pc := 22) t176_22 rfl ?_
      obtain ⟨w7v, w7⟩ : ∃ v, bL / w1v = v := ⟨_, rfl⟩
      have w7g := zrg64 w7v
      refine zs_ldiv (pc := 24) t176_24 (znz64 rfl (by omega)) (c := w7v) w7 ?_
      exact zs_lret (pc := 25) t176_25 mr176 (hQ _ (zrg64 _).1 (zrg64 _).2)
    refine zs_lcmp (pc := 2) t136_2 (c := 1) (zlcG rfl ll0 (by omega)) ?_
    refine zs_if_geT (pc := 3) t136_3 li1 (by decide) ?_
    refine zs_lload_n (pc := 11) t136_11 rfl ?_
    refine zs_lret (pc := 12) t136_12 mr136 ?_
    show zGo X l 2 0 0 176 22 [(4, .long w1v), (0, .long aL), (2, .long bL)] [.long bL] M _
    refine zs_lload (pc := 22) t176_22 rfl ?_
    obtain ⟨w9v, w9⟩ : ∃ v, bL / w1v = v := ⟨_, rfl⟩
    have w9g := zrg64 w9v
    refine zs_ldiv (pc := 24) t176_24 (znz64 rfl (by omega)) (c := w9v) w9 ?_
    exact zs_lret (pc := 25) t176_25 mr176 (hQ _ (zrg64 _).1 (zrg64 _).2)
  by_cases w10 : w1v.toInt = 0
  · refine zs_lcmp (pc := 10) t176_10 (c := 0) (zlcE rfl ll0 (by omega)) ?_
    refine zs_if_neF (pc := 11) t176_11 li0 (by decide) ?_
    refine zs_lconst (pc := 14) t176_14 (v := 1) (by decide) ?_
    refine zs_goto (pc := 15) t176_15 ?_
    exact zs_lret (pc := 25) t176_25 mr176 (hQ _ (zrg64 _).1 (zrg64 _).2)
  refine zs_lcmp (pc := 10) t176_10 (c := 1) (zlcG rfl ll0 (by omega)) ?_
  refine zs_if_neT (pc := 11) t176_11 li1 (by decide) ?_
  refine zs_lload_n (pc := 18) t176_18 rfl ?_
  refine zs_invS (pc := 19) (as := [.long bL]) (st := []) t176_19 (by decide) mf136 rfl rfl ⟨by decide, by decide, Nat.le_of_ble_eq_true rfl, Nat.le_of_ble_eq_true rfl⟩ (zs_in (by decide) mf136 (Nat.le_of_ble_eq_true rfl) ?_) (fun _ _ q => q)
  show zGo X l 0 0 0 136 0 [(0, .long bL)] [] M _
  refine zs_lload_n (pc := 0) t136_0 rfl ?_
  refine zs_lconst (pc := 1) t136_1 (v := 0) (by decide) ?_
  by_cases w12 : bL.toInt < 0
  · refine zs_lcmp (pc := 2) t136_2 (c := -1) (zlcL rfl ll0 (by omega)) ?_
    refine zs_if_geF (pc := 3) t136_3 lin1 (by decide) ?_
    refine zs_lload_n (pc := 6) t136_6 rfl ?_
    obtain ⟨w13v, w13⟩ : ∃ v, -bL = v := ⟨_, rfl⟩
    have w13g := zrg64 w13v
    refine zs_lneg (pc := 7) t136_7 (c := w13v) w13 ?_
    refine zs_goto (pc := 8) t136_8 ?_
    refine zs_lret (pc := 12) t136_12 mr136 ?_
    show zGo X l 2 0 0 176 22 [(4, .long w1v), (0, .long aL), (2, .long bL)] [.long w13v] M _
    refine zs_lload (pc := 22) t176_22 rfl ?_
    obtain ⟨w14v, w14⟩ : ∃ v, w13v / w1v = v := ⟨_, rfl⟩
    have w14g := zrg64 w14v
    refine zs_ldiv (pc := 24) t176_24 (znz64 rfl (by omega)) (c := w14v) w14 ?_
    exact zs_lret (pc := 25) t176_25 mr176 (hQ _ (zrg64 _).1 (zrg64 _).2)
  by_cases w15 : bL.toInt = 0
  · refine zs_lcmp (pc := 2) t136_2 (c := 0) (zlcE rfl ll0 (by omega)) ?_
    refine zs_if_geT (pc := 3) t136_3 li0 (by decide) ?_
    refine zs_lload_n (pc := 11) t136_11 rfl ?_
    refine zs_lret (pc := 12) t136_12 mr136 ?_
    show zGo X l 2 0 0 176 22 [(4, .long w1v), (0, .long aL), (2, .long bL)] [.long bL] M _
    refine zs_lload (pc := 22) t176_22 rfl ?_
    obtain ⟨w16v, w16⟩ : ∃ v, bL / w1v = v := ⟨_, rfl⟩
    have w16g := zrg64 w16v
    refine zs_ldiv (pc := 24) t176_24 (znz64 rfl (by omega)) (c := w16v) w16 ?_
    exact zs_lret (pc := 25) t176_25 mr176 (hQ _ (zrg64 _).1 (zrg64 _).2)
  refine zs_lcmp (pc := 2) t136_2 (c := 1) (zlcG rfl ll0 (by omega)) ?_
  refine zs_if_geT (pc := 3) t136_3 li1 (by decide) ?_
  refine zs_lload_n (pc := 11) t136_11 rfl ?_
  refine zs_lret (pc := 12) t136_12 mr136 ?_
  show zGo X l 2 0 0 176 22 [(4, .long w1v), (0, .long aL), (2, .long bL)] [.long bL] M _
  refine zs_lload (pc := 22) t176_22 rfl ?_
  obtain ⟨w18v, w18⟩ : ∃ v, bL / w1v = v := ⟨_, rfl⟩
  have w18g := zrg64 w18v
  refine zs_ldiv (pc := 24) t176_24 (znz64 rfl (by omega)) (c := w18v) w18 ?_
  exact zs_lret (pc := 25) t176_25 mr176 (hQ _ (zrg64 _).1 (zrg64 _).2)
theorem C220_6 {X : zX} {l : Launch} {M : zM} {Q : Option Value → zM → Prop} {a : Int32} (hs : zSk zMc M) (hI : zIv cLo cHi M) (ha : 0 ≤ a.toInt ∧ a.toInt ≤ 65535) (hQ : ∀ M', zSk zMc M' → zIv cLo cHi M' → zFr [(6, 6, some 10), (335, 335, none)] M M' → Q none M') : zCall X l 0 0 0 220 [.ref 6, .int a] M Q := by
  have ga := zrg a
  refine zs_in (by decide) mf220 (Nat.le_of_ble_eq_true rfl) ?_
  show zGo X l 0 0 0 220 0 [(0, .ref 6), (1, .int a)] [] M _
  refine zs_aload_n (pc := 0) t220_0 rfl ?_
  have w1 := ib6_10 hI
  refine zs_get (pc := 1) t220_1 (by decide) (zk1 (hs.k fk_zMc_6)) (zfvi rfl rfl) ?_
  refine zs_sipush (pc := 4) t220_4 (v := 128) (by decide) ?_
  by_cases w2 : 128 ≤ (zI M 6 10).toInt
  · refine zs_icmp_geT (pc := 7) t220_7 rfl li128 (by omega) ?_
    exact zs_vret (pc := 31) t220_31 mr220 (hQ _ hs hI (zFr.refl))
  · refine zs_icmp_geF (pc := 7) t220_7 rfl li128 (by omega) ?_
    refine zs_aload_n (pc := 10) t220_10 rfl ?_
    refine zs_get (pc := 11) t220_11 (by decide) (zk1 (hs.k fk_zMc_6)) (hs.p rfl fv_zMc_6_9) ?_
    refine zs_aload_n (pc := 14) t220_14 rfl ?_
    refine zs_get (pc := 15) t220_15 (by decide) (zk1 (hs.k fk_zMc_6)) (zfvi rfl rfl) ?_
    refine zs_iload_n (pc := 18) t220_18 rfl ?_
    obtain ⟨w3v, w3e⟩ : ∃ v, a.toInt8.toInt32 = v := ⟨_, rfl⟩
    have w3 : (-128) ≤ w3v.toInt ∧ w3v.toInt ≤ 127 := by rw [← w3e]; exact znb _
    refine zs_i2b (pc := 19) t220_19 (c := w3v) w3e ?_
    obtain ⟨w4n, w4⟩ : ∃ n : Nat, (zI M 6 10).toInt = (n : Int) := ⟨(zI M 6 10).toInt.toNat, by omega⟩
    obtain ⟨w5v, w5e⟩ : ∃ v, vp_nar .byte w3v = v := ⟨_, rfl⟩
    have w5 : -128 ≤ w5v.toInt ∧ w5v.toInt ≤ 127 := by rw [← w5e]; exact znb _
    have w6 : zIv cLo cHi (zsI M 335 w4n w5v) := zIv.put hI (show (-128) ≤ w5v.toInt ∧ w5v.toInt ≤ 127 from ⟨by omega, by omega⟩)
    refine zs_bastB (pc := 20) t220_20 (j := w4n) (by decide) (zk1 (hs.k fk_zMc_335)) w4 (zk2 (hs.k fk_zMc_335) (by omega)) w5e ?_
    refine zs_aload_n (pc := 21) t220_21 rfl ?_
    refine zs_dup (pc := 22) t220_22 rfl ?_
    refine zs_get (pc := 23) t220_23 (by decide) (zk1 (hs.k fk_zMc_6)) (zfvi rfl ((zIo (by decide)).trans rfl)) ?_
    refine zs_iconst (pc := 26) t220_26 (v := 1) (by decide) ?_
    obtain ⟨w7v, w7e, w7⟩ := ziadd (a := (zI M 6 10)) (b := (1 : Int32)) rfl li1 (by omega) (by omega)
    refine zs_iadd (pc := 27) t220_27 (c := w7v) w7e ?_
    have w8 : zIv cLo cHi (zsI (zsI M 335 w4n w5v) 6 10 w7v) := zIv.put w6 (show 0 ≤ w7v.toInt ∧ w7v.toInt ≤ 128 from ⟨by omega, by omega⟩)
    refine zs_putI (pc := 28) t220_28 (zk1 (hs.k fk_zMc_6)) rfl ?_
    exact zs_vret (pc := 31) t220_31 mr220 (hQ _ hs w8 (((zFr.refl).put rfl).put rfl))
theorem C221_6 {X : zX} {l : Launch} {M : zM} {Q : Option Value → zM → Prop} {a : Int32} (hs : zSk zMc M) (hI : zIv cLo cHi M) (hQ : ∀ M', zSk zMc M' → zIv cLo cHi M' → zFr [(6, 6, some 10), (335, 335, none)] M M' → Q none M') : zCall X l 1 0 0 221 [.ref 6, .int a] M Q := by
  have ga := zrg a
  refine zs_in (by decide) mf221 (Nat.le_of_ble_eq_true rfl) ?_
  show zGo X l 1 0 0 221 0 [(0, .ref 6), (1, .int a)] [] M _
  refine zs_sipush (pc := 0) t221_0 (v := 1000) (by decide) ?_
  refine zs_istore_n (pc := 3) t221_3 (ls' := [(2, .int (1000 : Int32)), (0, .ref 6), (1, .int a)]) (zml mf221 (by decide)) rfl ?_
  have w1L : ∀ (m : Nat) (w1x2 : Int32) (w1M : zM), (0 ≤ w1x2.toInt ∧ w1x2.toInt ≤ 1000) → zSk zMc w1M → zIv cLo cHi w1M → zFr [(6, 6, some 10), (335, 335, none)] M w1M → w1x2.toInt ≤ (m : Int) → zGo X l 1 0 0 221 4 [(0, .ref 6), (1, .int a), (2, .int w1x2)] [] w1M Q := by
    intro m
    induction m using Nat.strongRecOn with
    | ind w1m w1ih =>
      intro w1x2 w1M w1b2 w1s w1I w1F w1q
      refine zs_iload_n (pc := 4) t221_4 rfl ?_
      refine zs_iconst (pc := 5) t221_5 (v := 1) (by decide) ?_
      by_cases w2 : w1x2.toInt < 1
      · refine zs_icmp_ltT (pc := 6) t221_6 rfl li1 (by omega) ?_
        exact zs_vret (pc := 41) t221_41 mr221 (hQ _ w1s w1I ((zFr.refl).trans (w1F.mono rfl)))
      · refine zs_icmp_ltF (pc := 6) t221_6 rfl li1 (by omega) ?_
        refine zs_iload_n (pc := 9) t221_9 rfl ?_
        refine zs_iload_n (pc := 10) t221_10 rfl ?_
        by_cases w3 : w1x2.toInt ≤ a.toInt
        · refine zs_icmp_geT (pc := 11) t221_11 rfl rfl (by omega) ?_
          refine zs_aload_n (pc := 19) t221_19 rfl ?_
          refine zs_bipush (pc := 20) t221_20 (v := 48) (by decide) ?_
          refine zs_iload_n (pc := 22) t221_22 rfl ?_
          refine zs_iload_n (pc := 23) t221_23 rfl ?_
          obtain ⟨w4v, w4⟩ : ∃ v, a / w1x2 = v := ⟨_, rfl⟩
          have w4g := zrg w4v
          refine zs_idiv (pc := 24) t221_24 (znz rfl (by omega)) (c := w4v) w4 ?_
          refine zs_bipush (pc := 25) t221_25 (v := 10) (by decide) ?_
          obtain ⟨w5v, w5⟩ : ∃ v, w4v - w4v / (10 : Int32) * (10 : Int32) = v := ⟨_, rfl⟩
          have w5g := zrg w5v
          refine zs_irem (pc := 27) t221_27 (by decide) (c := w5v) w5 ?_
          obtain ⟨w6v, w6⟩ : ∃ v, v = (48 : Int32) + w5v := ⟨_, rfl⟩
          have w6g := zrg w6v
          refine zs_iadd (pc := 28) t221_28 (c := w6v) w6.symm ?_
          obtain ⟨w7v, w7e⟩ : ∃ v, (w6v.toUInt32 % 65536).toInt32 = v := ⟨_, rfl⟩
          have w7 : 0 ≤ w7v.toInt ∧ w7v.toInt ≤ 65535 := by rw [← w7e]; exact znc16 _
          refine zs_i2c (pc := 29) t221_29 (c := w7v) w7e ?_
          refine zs_invV (pc := 30) (k := 6) (as' := [.int w7v]) (st := []) t221_30 mf220 rfl rfl (Or.inl ⟨by decide, (zk1 (w1s.k fk_zMc_6))⟩) ⟨by decide, by decide, Nat.le_of_ble_eq_true rfl, Nat.le_of_ble_eq_true rfl⟩ (C220_6 w1s w1I ⟨by omega, by omega⟩ ?_) (fun _ _ q => q)
          intro w8M w8s w8I w8F
          show zGo X l 1 0 0 221 33 [(0, .ref 6), (1, .int a), (2, .int w1x2)] [] w8M _
          refine zs_iload_n (pc := 33) t221_33 rfl ?_
          refine zs_bipush (pc := 34) t221_34 (v := 10) (by decide) ?_
          obtain ⟨w9v, w9⟩ : ∃ v, w1x2 / (10 : Int32) = v := ⟨_, rfl⟩
          have w9g : w9v.toInt = w1x2.toInt / 10 := by rw [← w9]; exact zdivp rfl li10 (by omega) (by decide)
          refine zs_idiv (pc := 36) t221_36 (by decide) (c := w9v) w9 ?_
          refine zs_istore_n (pc := 37) t221_37 (ls' := [(2, .int w9v), (0, .ref 6), (1, .int a)]) (zml mf221 (by decide)) rfl ?_
          refine zs_goto (pc := 38) t221_38 ?_
          refine zGo.locals (ls' := [(0, .ref 6), (1, .int a), (2, .int w9v)]) (by simp) ?_
          exact w1ih (w1m - 1) (by omega) w9v w8M ⟨by omega, by omega⟩ w8s w8I (((zFr.refl).trans (w1F.mono rfl)).trans (w8F.mono rfl)) (by omega)
        · refine zs_icmp_geF (pc := 11) t221_11 rfl rfl (by omega) ?_
          refine zs_iload_n (pc := 14) t221_14 rfl ?_
          refine zs_iconst (pc := 15) t221_15 (v := 1) (by decide) ?_
          by_cases w10 : w1x2.toInt ≠ 1
          · refine zs_icmp_neT (pc := 16) t221_16 rfl li1 (by omega) ?_
            refine zs_iload_n (pc := 33) t221_33 rfl ?_
            refine zs_bipush (pc := 34) t221_34 (v := 10) (by decide) ?_
            obtain ⟨w11v, w11⟩ : ∃ v, w1x2 / (10 : Int32) = v := ⟨_, rfl⟩
            have w11g : w11v.toInt = w1x2.toInt / 10 := by rw [← w11]; exact zdivp rfl li10 (by omega) (by decide)
            refine zs_idiv (pc := 36) t221_36 (by decide) (c := w11v) w11 ?_
            refine zs_istore_n (pc := 37) t221_37 (ls' := [(2, .int w11v), (0, .ref 6), (1, .int a)]) (zml mf221 (by decide)) rfl ?_
            refine zs_goto (pc := 38) t221_38 ?_
            refine zGo.locals (ls' := [(0, .ref 6), (1, .int a), (2, .int w11v)]) (by simp) ?_
            exact w1ih (w1m - 1) (by omega) w11v w1M ⟨by omega, by omega⟩ w1s w1I ((zFr.refl).trans (w1F.mono rfl)) (by omega)
          · refine zs_icmp_neF (pc := 16) t221_16 rfl li1 (by omega) ?_
            refine zs_aload_n (pc := 19) t221_19 rfl ?_
            refine zs_bipush (pc := 20) t221_20 (v := 48) (by decide) ?_
            refine zs_iload_n (pc := 22) t221_22 rfl ?_
            refine zs_iload_n (pc := 23) t221_23 rfl ?_
            obtain ⟨w12v, w12⟩ : ∃ v, a / w1x2 = v := ⟨_, rfl⟩
            have w12g := zrg w12v
            refine zs_idiv (pc := 24) t221_24 (znz rfl (by omega)) (c := w12v) w12 ?_
            refine zs_bipush (pc := 25) t221_25 (v := 10) (by decide) ?_
            obtain ⟨w13v, w13⟩ : ∃ v, w12v - w12v / (10 : Int32) * (10 : Int32) = v := ⟨_, rfl⟩
            have w13g := zrg w13v
            refine zs_irem (pc := 27) t221_27 (by decide) (c := w13v) w13 ?_
            obtain ⟨w14v, w14⟩ : ∃ v, v = (48 : Int32) + w13v := ⟨_, rfl⟩
            have w14g := zrg w14v
            refine zs_iadd (pc := 28) t221_28 (c := w14v) w14.symm ?_
            obtain ⟨w15v, w15e⟩ : ∃ v, (w14v.toUInt32 % 65536).toInt32 = v := ⟨_, rfl⟩
            have w15 : 0 ≤ w15v.toInt ∧ w15v.toInt ≤ 65535 := by rw [← w15e]; exact znc16 _
            refine zs_i2c (pc := 29) t221_29 (c := w15v) w15e ?_
            refine zs_invV (pc := 30) (k := 6) (as' := [.int w15v]) (st := []) t221_30 mf220 rfl rfl (Or.inl ⟨by decide, (zk1 (w1s.k fk_zMc_6))⟩) ⟨by decide, by decide, Nat.le_of_ble_eq_true rfl, Nat.le_of_ble_eq_true rfl⟩ (C220_6 w1s w1I ⟨by omega, by omega⟩ ?_) (fun _ _ q => q)
            intro w16M w16s w16I w16F
            show zGo X l 1 0 0 221 33 [(0, .ref 6), (1, .int a), (2, .int w1x2)] [] w16M _
            refine zs_iload_n (pc := 33) t221_33 rfl ?_
            refine zs_bipush (pc := 34) t221_34 (v := 10) (by decide) ?_
            obtain ⟨w17v, w17⟩ : ∃ v, w1x2 / (10 : Int32) = v := ⟨_, rfl⟩
            have w17g : w17v.toInt = w1x2.toInt / 10 := by rw [← w17]; exact zdivp rfl li10 (by omega) (by decide)
            refine zs_idiv (pc := 36) t221_36 (by decide) (c := w17v) w17 ?_
            refine zs_istore_n (pc := 37) t221_37 (ls' := [(2, .int w17v), (0, .ref 6), (1, .int a)]) (zml mf221 (by decide)) rfl ?_
            refine zs_goto (pc := 38) t221_38 ?_
            refine zGo.locals (ls' := [(0, .ref 6), (1, .int a), (2, .int w17v)]) (by simp) ?_
            exact w1ih (w1m - 1) (by omega) w17v w16M ⟨by omega, by omega⟩ w16s w16I (((zFr.refl).trans (w1F.mono rfl)).trans (w16F.mono rfl)) (by omega)
  refine zGo.locals (ls' := [(0, .ref 6), (1, .int a), (2, .int (1000 : Int32))]) (by simp) ?_
  have w18 := li1000
  exact w1L ((1000 : Int).toNat) (1000 : Int32) M ⟨by decide, by decide⟩ hs hI zFr.refl (by omega)
theorem C222_6 {X : zX} {l : Launch} {M : zM} {Q : Option Value → zM → Prop} {a b c : Int32} (hs : zSk zMc M) (hI : zIv cLo cHi M) (ha : 0 ≤ a.toInt ∧ a.toInt ≤ 65535) (hb : 0 ≤ b.toInt ∧ b.toInt ≤ 8) (hc : 0 ≤ c.toInt ∧ c.toInt ≤ 8) (hQ : ∀ M', zSk zMc M' → zIv cLo cHi M' → zFr [(6, 6, some 10), (335, 335, none)] M M' → Q none M') : zCall X l 2 0 0 222 [.ref 6, .int a, .int b, .int c] M Q := by
  have ga := zrg a
  have gb := zrg b
  have gc := zrg c
  refine zs_in (by decide) mf222 (Nat.le_of_ble_eq_true rfl) ?_
  show zGo X l 2 0 0 222 0 [(0, .ref 6), (1, .int a), (2, .int b), (3, .int c)] [] M _
  refine zs_aload_n (pc := 0) t222_0 rfl ?_
  refine zs_iload_n (pc := 1) t222_1 rfl ?_
  refine zs_invV (pc := 2) (k := 6) (as' := [.int a]) (st := []) t222_2 mf220 rfl rfl (Or.inl ⟨by decide, (zk1 (hs.k fk_zMc_6))⟩) ⟨by decide, by decide, Nat.le_of_ble_eq_true rfl, Nat.le_of_ble_eq_true rfl⟩ (C220_6 hs hI ⟨by omega, by omega⟩ ?_) (fun _ _ q => q)
  intro w1M w1s w1I w1F
  show zGo X l 2 0 0 222 5 [(0, .ref 6), (1, .int a), (2, .int b), (3, .int c)] [] w1M _
  refine zs_iload_n (pc := 5) t222_5 rfl ?_
  refine zs_istore (pc := 6) t222_6 (ls' := [(4, .int b), (0, .ref 6), (1, .int a), (2, .int b), (3, .int c)]) (zml mf222 (by decide)) rfl ?_
  have w2L : ∀ (m : Nat) (w2x4 : Int32) (w2M : zM), (0 ≤ w2x4.toInt ∧ w2x4.toInt ≤ 9) → zSk zMc w2M → zIv cLo cHi w2M → zFr [(6, 6, some 10), (335, 335, none)] w1M w2M → 9 - w2x4.toInt ≤ (m : Int) → zGo X l 2 0 0 222 8 [(0, .ref 6), (1, .int a), (2, .int b), (3, .int c), (4, .int w2x4)] [] w2M Q := by
    intro m
    induction m using Nat.strongRecOn with
    | ind w2m w2ih =>
      intro w2x4 w2M w2b4 w2s w2I w2F w2q
      refine zs_iload (pc := 8) t222_8 rfl ?_
      refine zs_iload_n (pc := 10) t222_10 rfl ?_
      by_cases w3 : c.toInt < w2x4.toInt
      · refine zs_icmp_gtT (pc := 11) t222_11 rfl rfl (by omega) ?_
        exact zs_vret (pc := 50) t222_50 mr222 (hQ _ w2s w2I (((zFr.refl).trans (w1F.mono rfl)).trans (w2F.mono rfl)))
      · refine zs_icmp_gtF (pc := 11) t222_11 rfl rfl (by omega) ?_
        refine zs_aload_n (pc := 14) t222_14 rfl ?_
        refine zs_aload_n (pc := 15) t222_15 rfl ?_
        refine zs_get (pc := 16) t222_16 (by decide) (zk1 (w2s.k fk_zMc_6)) (w2s.p rfl fv_zMc_6_0) ?_
        refine zs_iload (pc := 19) t222_19 rfl ?_
        refine zs_invV (pc := 21) (k := 7) (as' := [.int w2x4]) (st := [.ref 6]) t222_21 mf96 rfl rfl (Or.inl ⟨by decide, (zk1 (w2s.k fk_zMc_7))⟩) ⟨by decide, by decide, Nat.le_of_ble_eq_true rfl, Nat.le_of_ble_eq_true rfl⟩ (zs_in (by decide) mf96 (Nat.le_of_ble_eq_true rfl) ?_) (fun _ _ q => q)
        show zGo X l 0 0 0 96 0 [(0, .ref 7), (1, .int w2x4)] [] w2M _
        refine zs_iload_n (pc := 0) t96_0 rfl ?_
        refine zs_if_ltF (pc := 1) t96_1 rfl (by omega) ?_
        refine zs_iload_n (pc := 4) t96_4 rfl ?_
        refine zs_bipush (pc := 5) t96_5 (v := 9) (by decide) ?_
        refine zs_icmp_geF (pc := 7) t96_7 rfl li9 (by omega) ?_
        refine zs_aload_n (pc := 10) t96_10 rfl ?_
        refine zs_get (pc := 11) t96_11 (by decide) (zk1 (w2s.k fk_zMc_7)) (w2s.p rfl fv_zMc_7_12) ?_
        refine zs_iload_n (pc := 14) t96_14 rfl ?_
        obtain ⟨w4n, w4⟩ : ∃ n : Nat, w2x4.toInt = (n : Int) := ⟨w2x4.toInt.toNat, by omega⟩
        have w5 := ib17 hI w4n
        refine zs_iald (pc := 15) t96_15 (j := w4n) (by decide) (zk1 (w2s.k fk_zMc_17)) w4 (zk2 (w2s.k fk_zMc_17) (by omega)) ((w2F 17 w4n rfl).trans ((w1F 17 w4n rfl).trans rfl)) ?_
        refine zs_goto (pc := 16) t96_16 ?_
        refine zs_iret (pc := 20) t96_20 mr96 rfl ?_
        show zGo X l 2 0 0 222 24 [(0, .ref 6), (1, .int a), (2, .int b), (3, .int c), (4, .int w2x4)] [.int (zI M 17 w4n), .ref 6] w2M _
        refine zs_invV (pc := 24) (k := 6) (as' := [.int (zI M 17 w4n)]) (st := []) t222_24 mf221 rfl rfl (Or.inl ⟨by decide, (zk1 (w2s.k fk_zMc_6))⟩) ⟨by decide, by decide, Nat.le_of_ble_eq_true rfl, Nat.le_of_ble_eq_true rfl⟩ (C221_6 w2s w2I ?_) (fun _ _ q => q)
        intro w6M w6s w6I w6F
        show zGo X l 2 0 0 222 27 [(0, .ref 6), (1, .int a), (2, .int b), (3, .int c), (4, .int w2x4)] [] w6M _
        refine zs_aload_n (pc := 27) t222_27 rfl ?_
        refine zs_iload (pc := 28) t222_28 rfl ?_
        refine zs_iload_n (pc := 30) t222_30 rfl ?_
        by_cases w7 : c.toInt ≤ w2x4.toInt
        · refine zs_icmp_geT (pc := 31) t222_31 rfl rfl (by omega) ?_
          refine zs_bipush (pc := 39) t222_39 (v := 59) (by decide) ?_
          refine zs_invV (pc := 41) (k := 6) (as' := [.int (59 : Int32)]) (st := []) t222_41 mf220 rfl rfl (Or.inl ⟨by decide, (zk1 (w6s.k fk_zMc_6))⟩) ⟨by decide, by decide, Nat.le_of_ble_eq_true rfl, Nat.le_of_ble_eq_true rfl⟩ (C220_6 w6s w6I ⟨by decide, by decide⟩ ?_) (fun _ _ q => q)
          intro w8M w8s w8I w8F
          show zGo X l 2 0 0 222 44 [(0, .ref 6), (1, .int a), (2, .int b), (3, .int c), (4, .int w2x4)] [] w8M _
          obtain ⟨w9v, w9e, w9⟩ := ziadd (a := w2x4) (b := Int32.ofInt 1) rfl (show (Int32.ofInt 1).toInt = 1 by decide) (by omega) (by omega)
          refine zs_iinc (pc := 44) t222_44 (ls' := [(4, .int w9v), (0, .ref 6), (1, .int a), (2, .int b), (3, .int c)]) (zml mf222 (by decide)) rfl (c := w9v) w9e rfl ?_
          refine zs_goto (pc := 47) t222_47 ?_
          refine zGo.locals (ls' := [(0, .ref 6), (1, .int a), (2, .int b), (3, .int c), (4, .int w9v)]) (by simp) ?_
          exact w2ih (w2m - 1) (by omega) w9v w8M ⟨by omega, by omega⟩ w8s w8I ((((zFr.refl).trans (w2F.mono rfl)).trans (w6F.mono rfl)).trans (w8F.mono rfl)) (by omega)
        · refine zs_icmp_geF (pc := 31) t222_31 rfl rfl (by omega) ?_
          refine zs_bipush (pc := 34) t222_34 (v := 44) (by decide) ?_
          refine zs_goto (pc := 36) t222_36 ?_
          refine zs_invV (pc := 41) (k := 6) (as' := [.int (44 : Int32)]) (st := []) t222_41 mf220 rfl rfl (Or.inl ⟨by decide, (zk1 (w6s.k fk_zMc_6))⟩) ⟨by decide, by decide, Nat.le_of_ble_eq_true rfl, Nat.le_of_ble_eq_true rfl⟩ (C220_6 w6s w6I ⟨by decide, by decide⟩ ?_) (fun _ _ q => q)
          intro w10M w10s w10I w10F
          show zGo X l 2 0 0 222 44 [(0, .ref 6), (1, .int a), (2, .int b), (3, .int c), (4, .int w2x4)] [] w10M _
          obtain ⟨w11v, w11e, w11⟩ := ziadd (a := w2x4) (b := Int32.ofInt 1) rfl (show (Int32.ofInt 1).toInt = 1 by decide) (by omega) (by omega)
          refine zs_iinc (pc := 44) t222_44 (ls' := [(4, .int w11v), (0, .ref 6), (1, .int a), (2, .int b), (3, .int c)]) (zml mf222 (by decide)) rfl (c := w11v) w11e rfl ?_
          refine zs_goto (pc := 47) t222_47 ?_
          refine zGo.locals (ls' := [(0, .ref 6), (1, .int a), (2, .int b), (3, .int c), (4, .int w11v)]) (by simp) ?_
          exact w2ih (w2m - 1) (by omega) w11v w10M ⟨by omega, by omega⟩ w10s w10I ((((zFr.refl).trans (w2F.mono rfl)).trans (w6F.mono rfl)).trans (w10F.mono rfl)) (by omega)
  refine zGo.locals (ls' := [(0, .ref 6), (1, .int a), (2, .int b), (3, .int c), (4, .int b)]) (by simp) ?_
  exact w2L ((9 - b.toInt : Int).toNat) b w1M ⟨by omega, by omega⟩ w1s w1I zFr.refl (by omega)
theorem C89_6 {X : zX} {l : Launch} {M : zM} {Q : Option Value → zM → Prop} {a b c : Int32} (hs : zSk zMc M) (hI : zIv cLo cHi M) (hQ : ∀ (M' : zM) (v : Int32), zSk zMc M' → zIv cLo cHi M' → zFr [(6, 335, none)] M M' → (-2147483648) ≤ v.toInt → v.toInt ≤ 2147483647 → Q (some (.int v)) M') : zCall X l 4 0 0 89 [.ref 6, .int a, .int b, .int c] M Q := by
  have ga := zrg a
  have gb := zrg b
  have gc := zrg c
  refine zs_in (by decide) mf89 (Nat.le_of_ble_eq_true rfl) ?_
  show zGo X l 4 0 0 89 0 [(0, .ref 6), (1, .int a), (2, .int b), (3, .int c)] [] M _
  refine zs_aload_n (pc := 0) t89_0 rfl ?_
  refine zs_get (pc := 1) t89_1 (by decide) (zk1 (hs.k fk_zMc_6)) (hs.p rfl fv_zMc_6_0) ?_
  refine zs_iload_n (pc := 4) t89_4 rfl ?_
  refine zs_iload_n (pc := 5) t89_5 rfl ?_
  refine zs_iload_n (pc := 6) t89_6 rfl ?_
  refine zs_invV (pc := 7) (k := 7) (as' := [.int a, .int b, .int c]) (st := []) t89_7 mf51 rfl rfl (Or.inl ⟨by decide, (zk1 (hs.k fk_zMc_7))⟩) ⟨by decide, by decide, Nat.le_of_ble_eq_true rfl, Nat.le_of_ble_eq_true rfl⟩ (zs_in (by decide) mf51 (Nat.le_of_ble_eq_true rfl) ?_) (fun _ _ q => q)
  show zGo X l 1 0 0 51 0 [(0, .ref 7), (1, .int a), (2, .int b), (3, .int c)] [] M _
  refine zs_aload_n (pc := 0) t51_0 rfl ?_
  refine zs_iload_n (pc := 1) t51_1 rfl ?_
  refine zs_invV (pc := 2) (k := 7) (as' := [.int a]) (st := []) t51_2 mf41 rfl rfl (Or.inl ⟨by decide, (zk1 (hs.k fk_zMc_7))⟩) ⟨by decide, by decide, Nat.le_of_ble_eq_true rfl, Nat.le_of_ble_eq_true rfl⟩ (zs_in (by decide) mf41 (Nat.le_of_ble_eq_true rfl) ?_) (fun _ _ q => q)
  show zGo X l 0 0 0 41 0 [(0, .ref 7), (1, .int a)] [] M _
  refine zs_iload_n (pc := 0) t41_0 rfl ?_
  by_cases w1 : a.toInt < 0
  · refine zs_if_ltT (pc := 1) t41_1 rfl (by omega) ?_
    refine zs_iconst (pc := 16) t41_16 (v := 0) (by decide) ?_
    refine zs_iret (pc := 17) t41_17 mr41 (by decide) ?_
    show zGo X l 1 0 0 51 5 [(0, .ref 7), (1, .int a), (2, .int b), (3, .int c)] [.int (0 : Int32)] M _
    refine zs_if_eqT (pc := 5) t51_5 li0 (by decide) ?_
    refine zs_iconst (pc := 39) t51_39 (v := 0) (by decide) ?_
    refine zs_iret (pc := 40) t51_40 mr51 (by decide) ?_
    show zGo X l 4 0 0 89 10 [(0, .ref 6), (1, .int a), (2, .int b), (3, .int c)] [.int (0 : Int32)] M _
    refine zs_if_neF (pc := 10) t89_10 li0 (by decide) ?_
    refine zs_iconst (pc := 13) t89_13 (v := -1) (by decide) ?_
    exact zs_iret (pc := 14) t89_14 mr89 (by decide) (hQ _ _ hs hI (zFr.refl) (zrg _).1 (zrg _).2)
  · refine zs_if_ltF (pc := 1) t41_1 rfl (by omega) ?_
    refine zs_iload_n (pc := 4) t41_4 rfl ?_
    refine zs_aload_n (pc := 5) t41_5 rfl ?_
    have w2 := ib7_0 hI
    refine zs_get (pc := 6) t41_6 (by decide) (zk1 (hs.k fk_zMc_7)) (zfvi rfl rfl) ?_
    by_cases w3 : (zI M 7 0).toInt ≤ a.toInt
    · refine zs_icmp_geT (pc := 9) t41_9 rfl rfl (by omega) ?_
      refine zs_iconst (pc := 16) t41_16 (v := 0) (by decide) ?_
      refine zs_iret (pc := 17) t41_17 mr41 (by decide) ?_
      show zGo X l 1 0 0 51 5 [(0, .ref 7), (1, .int a), (2, .int b), (3, .int c)] [.int (0 : Int32)] M _
      refine zs_if_eqT (pc := 5) t51_5 li0 (by decide) ?_
      refine zs_iconst (pc := 39) t51_39 (v := 0) (by decide) ?_
      refine zs_iret (pc := 40) t51_40 mr51 (by decide) ?_
      show zGo X l 4 0 0 89 10 [(0, .ref 6), (1, .int a), (2, .int b), (3, .int c)] [.int (0 : Int32)] M _
      refine zs_if_neF (pc := 10) t89_10 li0 (by decide) ?_
      refine zs_iconst (pc := 13) t89_13 (v := -1) (by decide) ?_
      exact zs_iret (pc := 14) t89_14 mr89 (by decide) (hQ _ _ hs hI (zFr.refl) (zrg _).1 (zrg _).2)
    · refine zs_icmp_geF (pc := 9) t41_9 rfl rfl (by omega) ?_
      refine zs_iconst (pc := 12) t41_12 (v := 1) (by decide) ?_
      refine zs_goto (pc := 13) t41_13 ?_
      refine zs_iret (pc := 17) t41_17 mr41 (by decide) ?_
      show zGo X l 1 0 0 51 5 [(0, .ref 7), (1, .int a), (2, .int b), (3, .int c)] [.int (1 : Int32)] M _
      refine zs_if_eqF (pc := 5) t51_5 li1 (by decide) ?_
      refine zs_iload_n (pc := 8) t51_8 rfl ?_
      refine zs_invS (pc := 9) (as := [.int b]) (st := []) t51_9 (by decide) mf42 rfl rfl ⟨by decide, by decide, Nat.le_of_ble_eq_true rfl, Nat.le_of_ble_eq_true rfl⟩ (zs_in (by decide) mf42 (Nat.le_of_ble_eq_true rfl) ?_) (fun _ _ q => q)
      show zGo X l 0 0 0 42 0 [(0, .int b)] [] M _
      refine zs_iload_n (pc := 0) t42_0 rfl ?_
      refine zs_sipush (pc := 1) t42_1 (v := -9999) (by decide) ?_
      by_cases w4 : b.toInt < (-9999)
      · refine zs_icmp_ltT (pc := 4) t42_4 rfl lin9999 (by omega) ?_
        refine zs_iconst (pc := 18) t42_18 (v := 0) (by decide) ?_
        refine zs_iret (pc := 19) t42_19 mr42 (by decide) ?_
        show zGo X l 1 0 0 51 12 [(0, .ref 7), (1, .int a), (2, .int b), (3, .int c)] [.int (0 : Int32)] M _
        refine zs_if_eqT (pc := 12) t51_12 li0 (by decide) ?_
        refine zs_iconst (pc := 39) t51_39 (v := 0) (by decide) ?_
        refine zs_iret (pc := 40) t51_40 mr51 (by decide) ?_
        show zGo X l 4 0 0 89 10 [(0, .ref 6), (1, .int a), (2, .int b), (3, .int c)] [.int (0 : Int32)] M _
        refine zs_if_neF (pc := 10) t89_10 li0 (by decide) ?_
        refine zs_iconst (pc := 13) t89_13 (v := -1) (by decide) ?_
        exact zs_iret (pc := 14) t89_14 mr89 (by decide) (hQ _ _ hs hI (zFr.refl) (zrg _).1 (zrg _).2)
      · refine zs_icmp_ltF (pc := 4) t42_4 rfl lin9999 (by omega) ?_
        refine zs_iload_n (pc := 7) t42_7 rfl ?_
        refine zs_sipush (pc := 8) t42_8 (v := 9999) (by decide) ?_
        by_cases w5 : 9999 < b.toInt
        · refine zs_icmp_gtT (pc := 11) t42_11 rfl li9999 (by omega) ?_
          refine zs_iconst (pc := 18) t42_18 (v := 0) (by decide) ?_
          refine zs_iret (pc := 19) t42_19 mr42 (by decide) ?_
          show zGo X l 1 0 0 51 12 [(0, .ref 7), (1, .int a), (2, .int b), (3, .int c)] [.int (0 : Int32)] M _
          refine zs_if_eqT (pc := 12) t51_12 li0 (by decide) ?_
          refine zs_iconst (pc := 39) t51_39 (v := 0) (by decide) ?_
          refine zs_iret (pc := 40) t51_40 mr51 (by decide) ?_
          show zGo X l 4 0 0 89 10 [(0, .ref 6), (1, .int a), (2, .int b), (3, .int c)] [.int (0 : Int32)] M _
          refine zs_if_neF (pc := 10) t89_10 li0 (by decide) ?_
          refine zs_iconst (pc := 13) t89_13 (v := -1) (by decide) ?_
          exact zs_iret (pc := 14) t89_14 mr89 (by decide) (hQ _ _ hs hI (zFr.refl) (zrg _).1 (zrg _).2)
        · refine zs_icmp_gtF (pc := 11) t42_11 rfl li9999 (by omega) ?_
          refine zs_iconst (pc := 14) t42_14 (v := 1) (by decide) ?_
          refine zs_goto (pc := 15) t42_15 ?_
          refine zs_iret (pc := 19) t42_19 mr42 (by decide) ?_
          show zGo X l 1 0 0 51 12 [(0, .ref 7), (1, .int a), (2, .int b), (3, .int c)] [.int (1 : Int32)] M _
          refine zs_if_eqF (pc := 12) t51_12 li1 (by decide) ?_
          refine zs_iload_n (pc := 15) t51_15 rfl ?_
          refine zs_iconst (pc := 16) t51_16 (v := 0) (by decide) ?_
          refine zs_sipush (pc := 17) t51_17 (v := 999) (by decide) ?_
          refine zs_invS (pc := 20) (as := [.int c, .int (0 : Int32), .int (999 : Int32)]) (st := []) t51_20 (by decide) mf39 rfl rfl ⟨by decide, by decide, Nat.le_of_ble_eq_true rfl, Nat.le_of_ble_eq_true rfl⟩ (zs_in (by decide) mf39 (Nat.le_of_ble_eq_true rfl) ?_) (fun _ _ q => q)
          show zGo X l 0 0 0 39 0 [(0, .int c), (1, .int (0 : Int32)), (2, .int (999 : Int32))] [] M _
          refine zs_iload_n (pc := 0) t39_0 rfl ?_
          refine zs_iload_n (pc := 1) t39_1 rfl ?_
          by_cases w6 : c.toInt < 0
          · refine zs_icmp_ltT (pc := 2) t39_2 rfl li0 (by omega) ?_
            refine zs_iconst (pc := 14) t39_14 (v := 0) (by decide) ?_
            refine zs_iret (pc := 15) t39_15 mr39 (by decide) ?_
            show zGo X l 1 0 0 51 23 [(0, .ref 7), (1, .int a), (2, .int b), (3, .int c)] [.int (0 : Int32)] M _
            refine zs_if_eqT (pc := 23) t51_23 li0 (by decide) ?_
            refine zs_iconst (pc := 39) t51_39 (v := 0) (by decide) ?_
            refine zs_iret (pc := 40) t51_40 mr51 (by decide) ?_
            show zGo X l 4 0 0 89 10 [(0, .ref 6), (1, .int a), (2, .int b), (3, .int c)] [.int (0 : Int32)] M _
            refine zs_if_neF (pc := 10) t89_10 li0 (by decide) ?_
            refine zs_iconst (pc := 13) t89_13 (v := -1) (by decide) ?_
            exact zs_iret (pc := 14) t89_14 mr89 (by decide) (hQ _ _ hs hI (zFr.refl) (zrg _).1 (zrg _).2)
          · refine zs_icmp_ltF (pc := 2) t39_2 rfl li0 (by omega) ?_
            refine zs_iload_n (pc := 5) t39_5 rfl ?_
            refine zs_iload_n (pc := 6) t39_6 rfl ?_
            by_cases w7 : 999 < c.toInt
            · refine zs_icmp_gtT (pc := 7) t39_7 rfl li999 (by omega) ?_
              refine zs_iconst (pc := 14) t39_14 (v := 0) (by decide) ?_
              refine zs_iret (pc := 15) t39_15 mr39 (by decide) ?_
              show zGo X l 1 0 0 51 23 [(0, .ref 7), (1, .int a), (2, .int b), (3, .int c)] [.int (0 : Int32)] M _
              refine zs_if_eqT (pc := 23) t51_23 li0 (by decide) ?_
              refine zs_iconst (pc := 39) t51_39 (v := 0) (by decide) ?_
              refine zs_iret (pc := 40) t51_40 mr51 (by decide) ?_
              show zGo X l 4 0 0 89 10 [(0, .ref 6), (1, .int a), (2, .int b), (3, .int c)] [.int (0 : Int32)] M _
              refine zs_if_neF (pc := 10) t89_10 li0 (by decide) ?_
              refine zs_iconst (pc := 13) t89_13 (v := -1) (by decide) ?_
              exact zs_iret (pc := 14) t89_14 mr89 (by decide) (hQ _ _ hs hI (zFr.refl) (zrg _).1 (zrg _).2)
            · refine zs_icmp_gtF (pc := 7) t39_7 rfl li999 (by omega) ?_
              refine zs_iconst (pc := 10) t39_10 (v := 1) (by decide) ?_
              refine zs_goto (pc := 11) t39_11 ?_
              refine zs_iret (pc := 15) t39_15 mr39 (by decide) ?_
              show zGo X l 1 0 0 51 23 [(0, .ref 7), (1, .int a), (2, .int b), (3, .int c)] [.int (1 : Int32)] M _
              refine zs_if_eqF (pc := 23) t51_23 li1 (by decide) ?_
              refine zs_aload_n (pc := 26) t51_26 rfl ?_
              have w8 := ib7_3 hI
              refine zs_get (pc := 27) t51_27 (by decide) (zk1 (hs.k fk_zMc_7)) (zfvi rfl rfl) ?_
              refine zs_bipush (pc := 30) t51_30 (v := 60) (by decide) ?_
              by_cases w9 : 60 ≤ (zI M 7 3).toInt
              · refine zs_icmp_geT (pc := 32) t51_32 rfl li60 (by omega) ?_
                refine zs_iconst (pc := 39) t51_39 (v := 0) (by decide) ?_
                refine zs_iret (pc := 40) t51_40 mr51 (by decide) ?_
                show zGo X l 4 0 0 89 10 [(0, .ref 6), (1, .int a), (2, .int b), (3, .int c)] [.int (0 : Int32)] M _
                refine zs_if_neF (pc := 10) t89_10 li0 (by decide) ?_
                refine zs_iconst (pc := 13) t89_13 (v := -1) (by decide) ?_
                exact zs_iret (pc := 14) t89_14 mr89 (by decide) (hQ _ _ hs hI (zFr.refl) (zrg _).1 (zrg _).2)
              · refine zs_icmp_geF (pc := 32) t51_32 rfl li60 (by omega) ?_
                refine zs_iconst (pc := 35) t51_35 (v := 1) (by decide) ?_
                refine zs_goto (pc := 36) t51_36 ?_
                refine zs_iret (pc := 40) t51_40 mr51 (by decide) ?_
                show zGo X l 4 0 0 89 10 [(0, .ref 6), (1, .int a), (2, .int b), (3, .int c)] [.int (1 : Int32)] M _
                refine zs_if_neT (pc := 10) t89_10 li1 (by decide) ?_
                refine zs_aload_n (pc := 15) t89_15 rfl ?_
                refine zs_get (pc := 16) t89_16 (by decide) (zk1 (hs.k fk_zMc_6)) (hs.p rfl fv_zMc_6_2) ?_
                refine zs_aload_n (pc := 19) t89_19 rfl ?_
                refine zs_get (pc := 20) t89_20 (by decide) (zk1 (hs.k fk_zMc_6)) (hs.p rfl fv_zMc_6_0) ?_
                refine zs_invV (pc := 23) (k := 31) (as' := [.ref 7]) (st := []) t89_23 mf58 rfl rfl (Or.inl ⟨by decide, (zk1 (hs.k fk_zMc_31))⟩) ⟨by decide, by decide, Nat.le_of_ble_eq_true rfl, Nat.le_of_ble_eq_true rfl⟩ (C58_31_7 hs hI ?_) (fun _ _ q => q)
                intro w10M w10s w10I w10F
                show zGo X l 4 0 0 89 26 [(0, .ref 6), (1, .int a), (2, .int b), (3, .int c)] [] w10M _
                refine zs_aload_n (pc := 26) t89_26 rfl ?_
                refine zs_invV (pc := 27) (k := 6) (as' := []) (st := []) t89_27 mf59 rfl rfl (Or.inl ⟨by decide, (zk1 (w10s.k fk_zMc_6))⟩) ⟨by decide, by decide, Nat.le_of_ble_eq_true rfl, Nat.le_of_ble_eq_true rfl⟩ (zs_in (by decide) mf59 (Nat.le_of_ble_eq_true rfl) ?_) (fun _ _ q => q)
                show zGo X l 1 0 0 59 0 [(0, .ref 6)] [] w10M _
                refine zs_aload_n (pc := 0) t59_0 rfl ?_
                refine zs_get (pc := 1) t59_1 (by decide) (zk1 (w10s.k fk_zMc_6)) (w10s.p rfl fv_zMc_6_6) ?_
                refine zs_invV (pc := 4) (k := 164) (as' := []) (st := []) t59_4 mf60 rfl rfl (Or.inl ⟨by decide, (zk1 (w10s.k fk_zMc_164))⟩) ⟨by decide, by decide, Nat.le_of_ble_eq_true rfl, Nat.le_of_ble_eq_true rfl⟩ (zs_in (by decide) mf60 (Nat.le_of_ble_eq_true rfl) ?_) (fun _ _ q => q)
                show zGo X l 0 0 0 60 0 [(0, .ref 164)] [] w10M _
                refine zs_aload_n (pc := 0) t60_0 rfl ?_
                refine zs_iconst (pc := 1) t60_1 (v := 0) (by decide) ?_
                have w11 : zIv cLo cHi (zsI w10M 164 0 (0 : Int32)) := zIv.put w10I (show 0 ≤ (0 : Int32).toInt ∧ (0 : Int32).toInt ≤ 1 from ⟨by decide, by decide⟩)
                refine zs_putI (pc := 2) t60_2 (zk1 (w10s.k fk_zMc_164)) (by decide) ?_
                refine zs_vret (pc := 5) t60_5 mr60 ?_
                show zGo X l 1 0 0 59 7 [(0, .ref 6)] [] (zsI w10M 164 0 (0 : Int32)) _
                refine zs_aload_n (pc := 7) t59_7 rfl ?_
                refine zs_get (pc := 8) t59_8 (by decide) (zk1 (w10s.k fk_zMc_6)) (w10s.p rfl fv_zMc_6_7) ?_
                refine zs_invV (pc := 11) (k := 325) (as' := []) (st := []) t59_11 mf61 rfl rfl (Or.inl ⟨by decide, (zk1 (w10s.k fk_zMc_325))⟩) ⟨by decide, by decide, Nat.le_of_ble_eq_true rfl, Nat.le_of_ble_eq_true rfl⟩ (zs_in (by decide) mf61 (Nat.le_of_ble_eq_true rfl) ?_) (fun _ _ q => q)
                show zGo X l 0 0 0 61 0 [(0, .ref 325)] [] (zsI w10M 164 0 (0 : Int32)) _
                refine zs_aload_n (pc := 0) t61_0 rfl ?_
                refine zs_iconst (pc := 1) t61_1 (v := 0) (by decide) ?_
                have w12 : zIv cLo cHi (zsI (zsI w10M 164 0 (0 : Int32)) 325 0 (0 : Int32)) := zIv.put w11 (show 0 ≤ (0 : Int32).toInt ∧ (0 : Int32).toInt ≤ 1 from ⟨by decide, by decide⟩)
                refine zs_putI (pc := 2) t61_2 (zk1 (w10s.k fk_zMc_325)) (by decide) ?_
                refine zs_vret (pc := 5) t61_5 mr61 ?_
                show zGo X l 1 0 0 59 14 [(0, .ref 6)] [] (zsI (zsI w10M 164 0 (0 : Int32)) 325 0 (0 : Int32)) _
                refine zs_vret (pc := 14) t59_14 mr59 ?_
                show zGo X l 4 0 0 89 30 [(0, .ref 6), (1, .int a), (2, .int b), (3, .int c)] [] (zsI (zsI w10M 164 0 (0 : Int32)) 325 0 (0 : Int32)) _
                refine zs_aload_n (pc := 30) t89_30 rfl ?_
                refine zs_get (pc := 31) t89_31 (by decide) (zk1 (w10s.k fk_zMc_6)) (w10s.p rfl fv_zMc_6_0) ?_
                refine zs_iload_n (pc := 34) t89_34 rfl ?_
                refine zs_iload_n (pc := 35) t89_35 rfl ?_
                refine zs_iload_n (pc := 36) t89_36 rfl ?_
                refine zs_bipush (pc := 37) t89_37 (v := -2) (by decide) ?_
                refine zs_invV (pc := 39) (k := 7) (as' := [.int a, .int b, .int c, .int (-2 : Int32)]) (st := []) t89_39 mf50 rfl rfl (Or.inl ⟨by decide, (zk1 (w10s.k fk_zMc_7))⟩) ⟨by decide, by decide, Nat.le_of_ble_eq_true rfl, Nat.le_of_ble_eq_true rfl⟩ (C50_7 w10s w12 ?_) (fun _ _ q => q)
                intro w13M w13v w13s w13I w13F w13a w13b
                show zGo X l 4 0 0 89 42 [(0, .ref 6), (1, .int a), (2, .int b), (3, .int c)] [.int w13v] w13M _
                exact zs_iret (pc := 42) t89_42 mr89 rfl (hQ _ _ w13s w13I (((((zFr.refl).trans (w10F.mono rfl)).put rfl).put rfl).trans (w13F.mono rfl)) (zrg _).1 (zrg _).2)
theorem C90_6 {X : zX} {l : Launch} {M : zM} {Q : Option Value → zM → Prop} {a : Int32} (hs : zSk zMc M) (hI : zIv cLo cHi M) (hQ : ∀ (M' : zM) (v : Int32), zSk zMc M' → zIv cLo cHi M' → zFr [(6, 335, none)] M M' → (-2147483648) ≤ v.toInt → v.toInt ≤ 2147483647 → Q (some (.int v)) M') : zCall X l 4 0 0 90 [.ref 6, .int a] M Q := by
  have ga := zrg a
  refine zs_in (by decide) mf90 (Nat.le_of_ble_eq_true rfl) ?_
  show zGo X l 4 0 0 90 0 [(0, .ref 6), (1, .int a)] [] M _
  refine zs_aload_n (pc := 0) t90_0 rfl ?_
  refine zs_get (pc := 1) t90_1 (by decide) (zk1 (hs.k fk_zMc_6)) (hs.p rfl fv_zMc_6_0) ?_
  refine zs_iload_n (pc := 4) t90_4 rfl ?_
  refine zs_invV (pc := 5) (k := 7) (as' := [.int a]) (st := []) t90_5 mf91 rfl rfl (Or.inl ⟨by decide, (zk1 (hs.k fk_zMc_7))⟩) ⟨by decide, by decide, Nat.le_of_ble_eq_true rfl, Nat.le_of_ble_eq_true rfl⟩ (zs_in (by decide) mf91 (Nat.le_of_ble_eq_true rfl) ?_) (fun _ _ q => q)
  show zGo X l 0 0 0 91 0 [(0, .ref 7), (1, .int a)] [] M _
  refine zs_iload_n (pc := 0) t91_0 rfl ?_
  by_cases w1 : a.toInt < 0
  · refine zs_if_ltT (pc := 1) t91_1 rfl (by omega) ?_
    refine zs_iconst (pc := 16) t91_16 (v := 0) (by decide) ?_
    refine zs_iret (pc := 17) t91_17 mr91 (by decide) ?_
    show zGo X l 4 0 0 90 8 [(0, .ref 6), (1, .int a)] [.int (0 : Int32)] M _
    refine zs_if_eqT (pc := 8) t90_8 li0 (by decide) ?_
    refine zs_iconst (pc := 23) t90_23 (v := -1) (by decide) ?_
    exact zs_iret (pc := 24) t90_24 mr90 (by decide) (hQ _ _ hs hI (zFr.refl) (zrg _).1 (zrg _).2)
  · refine zs_if_ltF (pc := 1) t91_1 rfl (by omega) ?_
    refine zs_iload_n (pc := 4) t91_4 rfl ?_
    refine zs_aload_n (pc := 5) t91_5 rfl ?_
    have w2 := ib7_3 hI
    refine zs_get (pc := 6) t91_6 (by decide) (zk1 (hs.k fk_zMc_7)) (zfvi rfl rfl) ?_
    by_cases w3 : (zI M 7 3).toInt ≤ a.toInt
    · refine zs_icmp_geT (pc := 9) t91_9 rfl rfl (by omega) ?_
      refine zs_iconst (pc := 16) t91_16 (v := 0) (by decide) ?_
      refine zs_iret (pc := 17) t91_17 mr91 (by decide) ?_
      show zGo X l 4 0 0 90 8 [(0, .ref 6), (1, .int a)] [.int (0 : Int32)] M _
      refine zs_if_eqT (pc := 8) t90_8 li0 (by decide) ?_
      refine zs_iconst (pc := 23) t90_23 (v := -1) (by decide) ?_
      exact zs_iret (pc := 24) t90_24 mr90 (by decide) (hQ _ _ hs hI (zFr.refl) (zrg _).1 (zrg _).2)
    · refine zs_icmp_geF (pc := 9) t91_9 rfl rfl (by omega) ?_
      refine zs_iconst (pc := 12) t91_12 (v := 1) (by decide) ?_
      refine zs_goto (pc := 13) t91_13 ?_
      refine zs_iret (pc := 17) t91_17 mr91 (by decide) ?_
      show zGo X l 4 0 0 90 8 [(0, .ref 6), (1, .int a)] [.int (1 : Int32)] M _
      refine zs_if_eqF (pc := 8) t90_8 li1 (by decide) ?_
      refine zs_aload_n (pc := 11) t90_11 rfl ?_
      refine zs_get (pc := 12) t90_12 (by decide) (zk1 (hs.k fk_zMc_6)) (hs.p rfl fv_zMc_6_0) ?_
      refine zs_get (pc := 15) t90_15 (by decide) (zk1 (hs.k fk_zMc_7)) (hs.p rfl fv_zMc_7_6) ?_
      refine zs_iload_n (pc := 18) t90_18 rfl ?_
      obtain ⟨w4n, w4⟩ : ∃ n : Nat, a.toInt = (n : Int) := ⟨a.toInt.toNat, by omega⟩
      have w5 := ib12 hI w4n
      refine zs_iald (pc := 19) t90_19 (j := w4n) (by decide) (zk1 (hs.k fk_zMc_12)) w4 (zk2 (hs.k fk_zMc_12) (by omega)) rfl ?_
      by_cases w6 : 0 ≤ (zI M 12 w4n).toInt
      · refine zs_if_geT (pc := 20) t90_20 rfl (by omega) ?_
        refine zs_aload_n (pc := 25) t90_25 rfl ?_
        refine zs_get (pc := 26) t90_26 (by decide) (zk1 (hs.k fk_zMc_6)) (hs.p rfl fv_zMc_6_2) ?_
        refine zs_aload_n (pc := 29) t90_29 rfl ?_
        refine zs_get (pc := 30) t90_30 (by decide) (zk1 (hs.k fk_zMc_6)) (hs.p rfl fv_zMc_6_0) ?_
        refine zs_invV (pc := 33) (k := 31) (as' := [.ref 7]) (st := []) t90_33 mf58 rfl rfl (Or.inl ⟨by decide, (zk1 (hs.k fk_zMc_31))⟩) ⟨by decide, by decide, Nat.le_of_ble_eq_true rfl, Nat.le_of_ble_eq_true rfl⟩ (C58_31_7 hs hI ?_) (fun _ _ q => q)
        intro w7M w7s w7I w7F
        show zGo X l 4 0 0 90 36 [(0, .ref 6), (1, .int a)] [] w7M _
        refine zs_aload_n (pc := 36) t90_36 rfl ?_
        refine zs_invV (pc := 37) (k := 6) (as' := []) (st := []) t90_37 mf59 rfl rfl (Or.inl ⟨by decide, (zk1 (w7s.k fk_zMc_6))⟩) ⟨by decide, by decide, Nat.le_of_ble_eq_true rfl, Nat.le_of_ble_eq_true rfl⟩ (zs_in (by decide) mf59 (Nat.le_of_ble_eq_true rfl) ?_) (fun _ _ q => q)
        show zGo X l 1 0 0 59 0 [(0, .ref 6)] [] w7M _
        refine zs_aload_n (pc := 0) t59_0 rfl ?_
        refine zs_get (pc := 1) t59_1 (by decide) (zk1 (w7s.k fk_zMc_6)) (w7s.p rfl fv_zMc_6_6) ?_
        refine zs_invV (pc := 4) (k := 164) (as' := []) (st := []) t59_4 mf60 rfl rfl (Or.inl ⟨by decide, (zk1 (w7s.k fk_zMc_164))⟩) ⟨by decide, by decide, Nat.le_of_ble_eq_true rfl, Nat.le_of_ble_eq_true rfl⟩ (zs_in (by decide) mf60 (Nat.le_of_ble_eq_true rfl) ?_) (fun _ _ q => q)
        show zGo X l 0 0 0 60 0 [(0, .ref 164)] [] w7M _
        refine zs_aload_n (pc := 0) t60_0 rfl ?_
        refine zs_iconst (pc := 1) t60_1 (v := 0) (by decide) ?_
        have w8 : zIv cLo cHi (zsI w7M 164 0 (0 : Int32)) := zIv.put w7I (show 0 ≤ (0 : Int32).toInt ∧ (0 : Int32).toInt ≤ 1 from ⟨by decide, by decide⟩)
        refine zs_putI (pc := 2) t60_2 (zk1 (w7s.k fk_zMc_164)) (by decide) ?_
        refine zs_vret (pc := 5) t60_5 mr60 ?_
        show zGo X l 1 0 0 59 7 [(0, .ref 6)] [] (zsI w7M 164 0 (0 : Int32)) _
        refine zs_aload_n (pc := 7) t59_7 rfl ?_
        refine zs_get (pc := 8) t59_8 (by decide) (zk1 (w7s.k fk_zMc_6)) (w7s.p rfl fv_zMc_6_7) ?_
        refine zs_invV (pc := 11) (k := 325) (as' := []) (st := []) t59_11 mf61 rfl rfl (Or.inl ⟨by decide, (zk1 (w7s.k fk_zMc_325))⟩) ⟨by decide, by decide, Nat.le_of_ble_eq_true rfl, Nat.le_of_ble_eq_true rfl⟩ (zs_in (by decide) mf61 (Nat.le_of_ble_eq_true rfl) ?_) (fun _ _ q => q)
        show zGo X l 0 0 0 61 0 [(0, .ref 325)] [] (zsI w7M 164 0 (0 : Int32)) _
        refine zs_aload_n (pc := 0) t61_0 rfl ?_
        refine zs_iconst (pc := 1) t61_1 (v := 0) (by decide) ?_
        have w9 : zIv cLo cHi (zsI (zsI w7M 164 0 (0 : Int32)) 325 0 (0 : Int32)) := zIv.put w8 (show 0 ≤ (0 : Int32).toInt ∧ (0 : Int32).toInt ≤ 1 from ⟨by decide, by decide⟩)
        refine zs_putI (pc := 2) t61_2 (zk1 (w7s.k fk_zMc_325)) (by decide) ?_
        refine zs_vret (pc := 5) t61_5 mr61 ?_
        show zGo X l 1 0 0 59 14 [(0, .ref 6)] [] (zsI (zsI w7M 164 0 (0 : Int32)) 325 0 (0 : Int32)) _
        refine zs_vret (pc := 14) t59_14 mr59 ?_
        show zGo X l 4 0 0 90 40 [(0, .ref 6), (1, .int a)] [] (zsI (zsI w7M 164 0 (0 : Int32)) 325 0 (0 : Int32)) _
        refine zs_aload_n (pc := 40) t90_40 rfl ?_
        refine zs_get (pc := 41) t90_41 (by decide) (zk1 (w7s.k fk_zMc_6)) (w7s.p rfl fv_zMc_6_0) ?_
        refine zs_get (pc := 44) t90_44 (by decide) (zk1 (w7s.k fk_zMc_7)) (w7s.p rfl fv_zMc_7_6) ?_
        refine zs_iload_n (pc := 47) t90_47 rfl ?_
        refine zs_iconst (pc := 48) t90_48 (v := -1) (by decide) ?_
        obtain ⟨w10n, w10⟩ : ∃ n : Nat, a.toInt = (n : Int) := ⟨a.toInt.toNat, by omega⟩
        have w11 : zIv cLo cHi (zsI (zsI (zsI w7M 164 0 (0 : Int32)) 325 0 (0 : Int32)) 12 w10n (-1 : Int32)) := zIv.put w9 (show (-2147483648) ≤ (-1 : Int32).toInt ∧ (-1 : Int32).toInt ≤ 2147483647 from (zrg (-1 : Int32)))
        refine zs_iast (pc := 49) t90_49 (j := w10n) (by decide) (zk1 (w7s.k fk_zMc_12)) w10 (zk2 (w7s.k fk_zMc_12) (by omega)) ?_
        refine zs_aload_n (pc := 50) t90_50 rfl ?_
        refine zs_get (pc := 51) t90_51 (by decide) (zk1 (w7s.k fk_zMc_6)) (w7s.p rfl fv_zMc_6_0) ?_
        refine zs_invV (pc := 54) (k := 7) (as' := []) (st := []) t90_54 mf92 rfl rfl (Or.inl ⟨by decide, (zk1 (w7s.k fk_zMc_7))⟩) ⟨by decide, by decide, Nat.le_of_ble_eq_true rfl, Nat.le_of_ble_eq_true rfl⟩ (C92_7 w7s w11 ?_) (fun _ _ q => q)
        intro w12v w12a w12b
        show zGo X l 4 0 0 90 57 [(0, .ref 6), (1, .int a)] [.int w12v] (zsI (zsI (zsI w7M 164 0 (0 : Int32)) 325 0 (0 : Int32)) 12 w10n (-1 : Int32)) _
        exact zs_iret (pc := 57) t90_57 mr90 rfl (hQ _ _ w7s w11 (((((zFr.refl).trans (w7F.mono rfl)).put rfl).put rfl).put rfl) (zrg _).1 (zrg _).2)
      · refine zs_if_geF (pc := 20) t90_20 rfl (by omega) ?_
        refine zs_iconst (pc := 23) t90_23 (v := -1) (by decide) ?_
        exact zs_iret (pc := 24) t90_24 mr90 (by decide) (hQ _ _ hs hI (zFr.refl) (zrg _).1 (zrg _).2)
theorem C94_6 {X : zX} {l : Launch} {M : zM} {Q : Option Value → zM → Prop} {a : Int32} (hs : zSk zMc M) (hI : zIv cLo cHi M) (hQ : ∀ (M' : zM) (v : Int32), zSk zMc M' → zIv cLo cHi M' → zFr [(6, 335, none)] M M' → (-2147483648) ≤ v.toInt → v.toInt ≤ 2147483647 → Q (some (.int v)) M') : zCall X l 4 0 0 94 [.ref 6, .int a] M Q := by
  have ga := zrg a
  refine zs_in (by decide) mf94 (Nat.le_of_ble_eq_true rfl) ?_
  show zGo X l 4 0 0 94 0 [(0, .ref 6), (1, .int a)] [] M _
  refine zs_aload_n (pc := 0) t94_0 rfl ?_
  refine zs_get (pc := 1) t94_1 (by decide) (zk1 (hs.k fk_zMc_6)) (hs.p rfl fv_zMc_6_0) ?_
  refine zs_iload_n (pc := 4) t94_4 rfl ?_
  refine zs_invV (pc := 5) (k := 7) (as' := [.int a]) (st := []) t94_5 mf41 rfl rfl (Or.inl ⟨by decide, (zk1 (hs.k fk_zMc_7))⟩) ⟨by decide, by decide, Nat.le_of_ble_eq_true rfl, Nat.le_of_ble_eq_true rfl⟩ (zs_in (by decide) mf41 (Nat.le_of_ble_eq_true rfl) ?_) (fun _ _ q => q)
  show zGo X l 0 0 0 41 0 [(0, .ref 7), (1, .int a)] [] M _
  refine zs_iload_n (pc := 0) t41_0 rfl ?_
  by_cases w1 : a.toInt < 0
  · refine zs_if_ltT (pc := 1) t41_1 rfl (by omega) ?_
    refine zs_iconst (pc := 16) t41_16 (v := 0) (by decide) ?_
    refine zs_iret (pc := 17) t41_17 mr41 (by decide) ?_
    show zGo X l 4 0 0 94 8 [(0, .ref 6), (1, .int a)] [.int (0 : Int32)] M _
    refine zs_if_neF (pc := 8) t94_8 li0 (by decide) ?_
    refine zs_iconst (pc := 11) t94_11 (v := -1) (by decide) ?_
    exact zs_iret (pc := 12) t94_12 mr94 (by decide) (hQ _ _ hs hI (zFr.refl) (zrg _).1 (zrg _).2)
  · refine zs_if_ltF (pc := 1) t41_1 rfl (by omega) ?_
    refine zs_iload_n (pc := 4) t41_4 rfl ?_
    refine zs_aload_n (pc := 5) t41_5 rfl ?_
    have w2 := ib7_0 hI
    refine zs_get (pc := 6) t41_6 (by decide) (zk1 (hs.k fk_zMc_7)) (zfvi rfl rfl) ?_
    by_cases w3 : (zI M 7 0).toInt ≤ a.toInt
    · refine zs_icmp_geT (pc := 9) t41_9 rfl rfl (by omega) ?_
      refine zs_iconst (pc := 16) t41_16 (v := 0) (by decide) ?_
      refine zs_iret (pc := 17) t41_17 mr41 (by decide) ?_
      show zGo X l 4 0 0 94 8 [(0, .ref 6), (1, .int a)] [.int (0 : Int32)] M _
      refine zs_if_neF (pc := 8) t94_8 li0 (by decide) ?_
      refine zs_iconst (pc := 11) t94_11 (v := -1) (by decide) ?_
      exact zs_iret (pc := 12) t94_12 mr94 (by decide) (hQ _ _ hs hI (zFr.refl) (zrg _).1 (zrg _).2)
    · refine zs_icmp_geF (pc := 9) t41_9 rfl rfl (by omega) ?_
      refine zs_iconst (pc := 12) t41_12 (v := 1) (by decide) ?_
      refine zs_goto (pc := 13) t41_13 ?_
      refine zs_iret (pc := 17) t41_17 mr41 (by decide) ?_
      show zGo X l 4 0 0 94 8 [(0, .ref 6), (1, .int a)] [.int (1 : Int32)] M _
      refine zs_if_neT (pc := 8) t94_8 li1 (by decide) ?_
      refine zs_aload_n (pc := 13) t94_13 rfl ?_
      refine zs_get (pc := 14) t94_14 (by decide) (zk1 (hs.k fk_zMc_6)) (hs.p rfl fv_zMc_6_2) ?_
      refine zs_aload_n (pc := 17) t94_17 rfl ?_
      refine zs_get (pc := 18) t94_18 (by decide) (zk1 (hs.k fk_zMc_6)) (hs.p rfl fv_zMc_6_0) ?_
      refine zs_invV (pc := 21) (k := 31) (as' := [.ref 7]) (st := []) t94_21 mf58 rfl rfl (Or.inl ⟨by decide, (zk1 (hs.k fk_zMc_31))⟩) ⟨by decide, by decide, Nat.le_of_ble_eq_true rfl, Nat.le_of_ble_eq_true rfl⟩ (C58_31_7 hs hI ?_) (fun _ _ q => q)
      intro w4M w4s w4I w4F
      show zGo X l 4 0 0 94 24 [(0, .ref 6), (1, .int a)] [] w4M _
      refine zs_aload_n (pc := 24) t94_24 rfl ?_
      refine zs_invV (pc := 25) (k := 6) (as' := []) (st := []) t94_25 mf59 rfl rfl (Or.inl ⟨by decide, (zk1 (w4s.k fk_zMc_6))⟩) ⟨by decide, by decide, Nat.le_of_ble_eq_true rfl, Nat.le_of_ble_eq_true rfl⟩ (zs_in (by decide) mf59 (Nat.le_of_ble_eq_true rfl) ?_) (fun _ _ q => q)
      show zGo X l 1 0 0 59 0 [(0, .ref 6)] [] w4M _
      refine zs_aload_n (pc := 0) t59_0 rfl ?_
      refine zs_get (pc := 1) t59_1 (by decide) (zk1 (w4s.k fk_zMc_6)) (w4s.p rfl fv_zMc_6_6) ?_
      refine zs_invV (pc := 4) (k := 164) (as' := []) (st := []) t59_4 mf60 rfl rfl (Or.inl ⟨by decide, (zk1 (w4s.k fk_zMc_164))⟩) ⟨by decide, by decide, Nat.le_of_ble_eq_true rfl, Nat.le_of_ble_eq_true rfl⟩ (zs_in (by decide) mf60 (Nat.le_of_ble_eq_true rfl) ?_) (fun _ _ q => q)
      show zGo X l 0 0 0 60 0 [(0, .ref 164)] [] w4M _
      refine zs_aload_n (pc := 0) t60_0 rfl ?_
      refine zs_iconst (pc := 1) t60_1 (v := 0) (by decide) ?_
      have w5 : zIv cLo cHi (zsI w4M 164 0 (0 : Int32)) := zIv.put w4I (show 0 ≤ (0 : Int32).toInt ∧ (0 : Int32).toInt ≤ 1 from ⟨by decide, by decide⟩)
      refine zs_putI (pc := 2) t60_2 (zk1 (w4s.k fk_zMc_164)) (by decide) ?_
      refine zs_vret (pc := 5) t60_5 mr60 ?_
      show zGo X l 1 0 0 59 7 [(0, .ref 6)] [] (zsI w4M 164 0 (0 : Int32)) _
      refine zs_aload_n (pc := 7) t59_7 rfl ?_
      refine zs_get (pc := 8) t59_8 (by decide) (zk1 (w4s.k fk_zMc_6)) (w4s.p rfl fv_zMc_6_7) ?_
      refine zs_invV (pc := 11) (k := 325) (as' := []) (st := []) t59_11 mf61 rfl rfl (Or.inl ⟨by decide, (zk1 (w4s.k fk_zMc_325))⟩) ⟨by decide, by decide, Nat.le_of_ble_eq_true rfl, Nat.le_of_ble_eq_true rfl⟩ (zs_in (by decide) mf61 (Nat.le_of_ble_eq_true rfl) ?_) (fun _ _ q => q)
      show zGo X l 0 0 0 61 0 [(0, .ref 325)] [] (zsI w4M 164 0 (0 : Int32)) _
      refine zs_aload_n (pc := 0) t61_0 rfl ?_
      refine zs_iconst (pc := 1) t61_1 (v := 0) (by decide) ?_
      have w6 : zIv cLo cHi (zsI (zsI w4M 164 0 (0 : Int32)) 325 0 (0 : Int32)) := zIv.put w5 (show 0 ≤ (0 : Int32).toInt ∧ (0 : Int32).toInt ≤ 1 from ⟨by decide, by decide⟩)
      refine zs_putI (pc := 2) t61_2 (zk1 (w4s.k fk_zMc_325)) (by decide) ?_
      refine zs_vret (pc := 5) t61_5 mr61 ?_
      show zGo X l 1 0 0 59 14 [(0, .ref 6)] [] (zsI (zsI w4M 164 0 (0 : Int32)) 325 0 (0 : Int32)) _
      refine zs_vret (pc := 14) t59_14 mr59 ?_
      show zGo X l 4 0 0 94 28 [(0, .ref 6), (1, .int a)] [] (zsI (zsI w4M 164 0 (0 : Int32)) 325 0 (0 : Int32)) _
      refine zs_aload_n (pc := 28) t94_28 rfl ?_
      refine zs_get (pc := 29) t94_29 (by decide) (zk1 (w4s.k fk_zMc_6)) (w4s.p rfl fv_zMc_6_0) ?_
      refine zs_get (pc := 32) t94_32 (by decide) (zk1 (w4s.k fk_zMc_7)) (w4s.p rfl fv_zMc_7_2) ?_
      refine zs_iload_n (pc := 35) t94_35 rfl ?_
      refine zs_aload_n (pc := 36) t94_36 rfl ?_
      refine zs_get (pc := 37) t94_37 (by decide) (zk1 (w4s.k fk_zMc_6)) (w4s.p rfl fv_zMc_6_0) ?_
      refine zs_get (pc := 40) t94_40 (by decide) (zk1 (w4s.k fk_zMc_7)) (w4s.p rfl fv_zMc_7_2) ?_
      refine zs_iload_n (pc := 43) t94_43 rfl ?_
      obtain ⟨w7n, w7⟩ : ∃ n : Nat, a.toInt = (n : Int) := ⟨a.toInt.toNat, by omega⟩
      have w8 := ib9 hI w7n
      refine zs_bald (pc := 44) t94_44 (j := w7n) (Or.inr (zk1 (w4s.k fk_zMc_9))) w7 (zk2 (w4s.k fk_zMc_9) (by omega)) ((zIo (by decide)).trans ((zIo (by decide)).trans ((w4F 9 w7n rfl).trans rfl))) ?_
      by_cases w9 : (zI M 9 w7n).toInt ≠ 0
      · refine zs_if_neT (pc := 45) t94_45 rfl (by omega) ?_
        refine zs_iconst (pc := 52) t94_52 (v := 0) (by decide) ?_
        have w10e : vp_nar .boolean (0 : Int32) = (0 : Int32) := by decide
        have w11 : zIv cLo cHi (zsI (zsI (zsI w4M 164 0 (0 : Int32)) 325 0 (0 : Int32)) 9 w7n (0 : Int32)) := zIv.put w6 (show 0 ≤ (0 : Int32).toInt ∧ (0 : Int32).toInt ≤ 1 from ⟨by decide, by decide⟩)
        refine zs_bastZ (pc := 53) t94_53 (j := w7n) (by decide) (zk1 (w4s.k fk_zMc_9)) w7 (zk2 (w4s.k fk_zMc_9) (by omega)) w10e ?_
        refine zs_aload_n (pc := 54) t94_54 rfl ?_
        refine zs_get (pc := 55) t94_55 (by decide) (zk1 (w4s.k fk_zMc_6)) (w4s.p rfl fv_zMc_6_0) ?_
        refine zs_get (pc := 58) t94_58 (by decide) (zk1 (w4s.k fk_zMc_7)) (w4s.p rfl fv_zMc_7_2) ?_
        refine zs_iload_n (pc := 61) t94_61 rfl ?_
        refine zs_bald (pc := 62) t94_62 (j := w7n) (Or.inr (zk1 (w4s.k fk_zMc_9))) w7 (zk2 (w4s.k fk_zMc_9) (by omega)) zIs ?_
        refine zs_if_eqT (pc := 63) t94_63 li0 (by decide) ?_
        refine zs_iconst (pc := 70) t94_70 (v := 0) (by decide) ?_
        exact zs_iret (pc := 71) t94_71 mr94 (by decide) (hQ _ _ w4s w11 (((((zFr.refl).trans (w4F.mono rfl)).put rfl).put rfl).put rfl) (zrg _).1 (zrg _).2)
      · refine zs_if_neF (pc := 45) t94_45 rfl (by omega) ?_
        refine zs_iconst (pc := 48) t94_48 (v := 1) (by decide) ?_
        refine zs_goto (pc := 49) t94_49 ?_
        have w12e : vp_nar .boolean (1 : Int32) = (1 : Int32) := by decide
        have w13 : zIv cLo cHi (zsI (zsI (zsI w4M 164 0 (0 : Int32)) 325 0 (0 : Int32)) 9 w7n (1 : Int32)) := zIv.put w6 (show 0 ≤ (1 : Int32).toInt ∧ (1 : Int32).toInt ≤ 1 from ⟨by decide, by decide⟩)
        refine zs_bastZ (pc := 53) t94_53 (j := w7n) (by decide) (zk1 (w4s.k fk_zMc_9)) w7 (zk2 (w4s.k fk_zMc_9) (by omega)) w12e ?_
        refine zs_aload_n (pc := 54) t94_54 rfl ?_
        refine zs_get (pc := 55) t94_55 (by decide) (zk1 (w4s.k fk_zMc_6)) (w4s.p rfl fv_zMc_6_0) ?_
        refine zs_get (pc := 58) t94_58 (by decide) (zk1 (w4s.k fk_zMc_7)) (w4s.p rfl fv_zMc_7_2) ?_
        refine zs_iload_n (pc := 61) t94_61 rfl ?_
        refine zs_bald (pc := 62) t94_62 (j := w7n) (Or.inr (zk1 (w4s.k fk_zMc_9))) w7 (zk2 (w4s.k fk_zMc_9) (by omega)) zIs ?_
        refine zs_if_eqF (pc := 63) t94_63 li1 (by decide) ?_
        refine zs_iconst (pc := 66) t94_66 (v := 1) (by decide) ?_
        refine zs_goto (pc := 67) t94_67 ?_
        exact zs_iret (pc := 71) t94_71 mr94 (by decide) (hQ _ _ w4s w13 (((((zFr.refl).trans (w4F.mono rfl)).put rfl).put rfl).put rfl) (zrg _).1 (zrg _).2)
