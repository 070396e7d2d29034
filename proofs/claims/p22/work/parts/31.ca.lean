theorem K298 {X : zX} {l : Launch} {M : zM} {Q : Option Value → zM → Prop} {a : Int32} {aL bL : Int64} (hs : zSk zMm M) (hI : zIv mLo mHi M) (x0 : bL.toInt ≠ 0) (hQ : ∀ v : Int64, Q (some (.long v)) M) : zCall X l 1 0 0 298 [.long aL, .long bL, .int a] M Q := by
  have ga := zrg a
  have gaL := zrg64 aL
  have gbL := zrg64 bL
  refine zs_in (by decide) mf298 (Nat.le_of_ble_eq_true rfl) ?_
  show zGo X l 1 0 0 298 0 [(0, .long aL), (2, .long bL), (4, .int a)] [] M _
  refine zs_lload_n (pc := 0) t298_0 rfl ?_
  refine zs_lconst (pc := 1) t298_1 (v := 0) (by decide) ?_
  by_cases w1 : bL.toInt < 0
  · refine zs_lcmp (pc := 2) t298_2 (c := -1) (zlcL rfl ll0 (by omega)) ?_
    refine zs_if_geF (pc := 3) t298_3 lin1 (by decide) ?_
    refine zs_lload_n (pc := 6) t298_6 rfl ?_
    refine zs_lload_n (pc := 7) t298_7 rfl ?_
    refine zs_invS (pc := 8) (as := [.long aL, .long bL]) (st := []) t298_8 (by decide) mf299 rfl rfl ⟨by decide, by decide, Nat.le_of_ble_eq_true rfl, Nat.le_of_ble_eq_true rfl⟩ (K299 hs hI (by omega) ?_) (fun _ _ q => q)
    intro w2v w2x0
    have w2g := zrg64 w2v
    show zGo X l 1 0 0 298 11 [(0, .long aL), (2, .long bL), (4, .int a)] [.long w2v] M _
    obtain ⟨w3v, w3⟩ : ∃ v, -w2v = v := ⟨_, rfl⟩
    have w3g := zrg64 w3v
    have w3z := zlneg0 w3
    refine zs_lneg (pc := 11) t298_11 (c := w3v) w3 ?_
    refine zs_goto (pc := 12) t298_12 ?_
    refine zs_lstore (pc := 20) t298_20 (ls' := [(5, .long w3v), (0, .long aL), (2, .long bL), (4, .int a)]) (zml mf298 (by decide)) rfl ?_
    refine zs_iload (pc := 22) t298_22 rfl ?_
    by_cases w4 : a.toInt ≠ 0
    · refine zs_if_neT (pc := 24) t298_24 rfl (by omega) ?_
      refine zs_lload_n (pc := 34) t298_34 rfl ?_
      refine zs_lload (pc := 35) t298_35 rfl ?_
      obtain ⟨w5v, w5⟩ : ∃ v, bL / w3v = v := ⟨_, rfl⟩
      have w5g := zrg64 w5v
      refine zs_ldiv (pc := 37) t298_37 (znz64 rfl (by omega)) (c := w5v) w5 ?_
      exact zs_lret (pc := 38) t298_38 mr298 (hQ _)
    · refine zs_if_neF (pc := 24) t298_24 rfl (by omega) ?_
      refine zs_lload_n (pc := 27) t298_27 rfl ?_
      refine zs_lload (pc := 28) t298_28 rfl ?_
      obtain ⟨w6v, w6⟩ : ∃ v, aL / w3v = v := ⟨_, rfl⟩
      have w6g := zrg64 w6v
      refine zs_ldiv (pc := 30) t298_30 (znz64 rfl (by omega)) (c := w6v) w6 ?_
      refine zs_goto (pc := 31) t298_31 ?_
      exact zs_lret (pc := 38) t298_38 mr298 (hQ _)
  by_cases w7 : bL.toInt = 0
  · refine zs_lcmp (pc := 2) t298_2 (c := 0) (zlcE rfl ll0 (by omega)) ?_
    refine zs_if_geT (pc := 3) t298_3 li0 (by decide) ?_
    refine zs_lload_n (pc := 15) t298_15 rfl ?_
    refine zs_lload_n (pc := 16) t298_16 rfl ?_
    refine zs_invS (pc := 17) (as := [.long aL, .long bL]) (st := []) t298_17 (by decide) mf299 rfl rfl ⟨by decide, by decide, Nat.le_of_ble_eq_true rfl, Nat.le_of_ble_eq_true rfl⟩ (K299 hs hI (by omega) ?_) (fun _ _ q => q)
    intro w8v w8x0
    have w8g := zrg64 w8v
    show zGo X l 1 0 0 298 20 [(0, .long aL), (2, .long bL), (4, .int a)] [.long w8v] M _
    refine zs_lstore (pc := 20) t298_20 (ls' := [(5, .long w8v), (0, .long aL), (2, .long bL), (4, .int a)]) (zml mf298 (by decide)) rfl ?_
    refine zs_iload (pc := 22) t298_22 rfl ?_
    by_cases w9 : a.toInt ≠ 0
    · refine zs_if_neT (pc := 24) t298_24 rfl (by omega) ?_
      refine zs_lload_n (pc := 34) t298_34 rfl ?_
      refine zs_lload (pc := 35) t298_35 rfl ?_
      obtain ⟨w10v, w10⟩ : ∃ v, bL / w8v = v := ⟨_, rfl⟩
      have w10g := zrg64 w10v
      refine zs_ldiv (pc := 37) t298_37 (znz64 rfl (by omega)) (c := w10v) w10 ?_
      exact zs_lret (pc := 38) t298_38 mr298 (hQ _)
    · refine zs_if_neF (pc := 24) t298_24 rfl (by omega) ?_
      refine zs_lload_n (pc := 27) t298_27 rfl ?_
      refine zs_lload (pc := 28) t298_28 rfl ?_
      obtain ⟨w11v, w11⟩ : ∃ v, aL / w8v = v := ⟨_, rfl⟩
      have w11g := zrg64 w11v
      refine zs_ldiv (pc := 30) t298_30 (znz64 rfl (by omega)) (c := w11v) w11 ?_
      refine zs_goto (pc := 31) t298_31 ?_
      exact zs_lret (pc := 38) t298_38 mr298 (hQ _)
  refine zs_lcmp (pc := 2) t298_2 (c := 1) (zlcG rfl ll0 (by omega)) ?_
  refine zs_if_geT (pc := 3) t298_3 li1 (by decide) ?_
  refine zs_lload_n (pc := 15) t298_15 rfl ?_
  refine zs_lload_n (pc := 16) t298_16 rfl ?_
  refine zs_invS (pc := 17) (as := [.long aL, .long bL]) (st := []) t298_17 (by decide) mf299 rfl rfl ⟨by decide, by decide, Nat.le_of_ble_eq_true rfl, Nat.le_of_ble_eq_true rfl⟩ (K299 hs hI (by omega) ?_) (fun _ _ q => q)
  intro w13v w13x0
  have w13g := zrg64 w13v
  show zGo X l 1 0 0 298 20 [(0, .long aL), (2, .long bL), (4, .int a)] [.long w13v] M _
  refine zs_lstore (pc := 20) t298_20 (ls' := [(5, .long w13v), (0, .long aL), (2, .long bL), (4, .int a)]) (zml mf298 (by decide)) rfl ?_
  refine zs_iload (pc := 22) t298_22 rfl ?_
  by_cases w14 : a.toInt ≠ 0
  · refine zs_if_neT (pc := 24) t298_24 rfl (by omega) ?_
    refine zs_lload_n (pc := 34) t298_34 rfl ?_
    refine zs_lload (pc := 35) t298_35 rfl ?_
    obtain ⟨w15v, w15⟩ : ∃ v, bL / w13v = v := ⟨_, rfl⟩
    have w15g := zrg64 w15v
    refine zs_ldiv (pc := 37) t298_37 (znz64 rfl (by omega)) (c := w15v) w15 ?_
    exact zs_lret (pc := 38) t298_38 mr298 (hQ _)
  · refine zs_if_neF (pc := 24) t298_24 rfl (by omega) ?_
    refine zs_lload_n (pc := 27) t298_27 rfl ?_
    refine zs_lload (pc := 28) t298_28 rfl ?_
    obtain ⟨w16v, w16⟩ : ∃ v, aL / w13v = v := ⟨_, rfl⟩
    have w16g := zrg64 w16v
    refine zs_ldiv (pc := 30) t298_30 (znz64 rfl (by omega)) (c := w16v) w16 ?_
    refine zs_goto (pc := 31) t298_31 ?_
    exact zs_lret (pc := 38) t298_38 mr298 (hQ _)
