theorem O98 {X : zX} {l : Launch} {M : zM} {Q : Option Value → zM → Prop} (hs : zSk zMc M) (hI : zIv cLo cHi M) {F : Nat → Int} (x0 : zSo M 7 F) (x1 : zWF F) (hQ : ∀ v : Int32, (v.toInt = (zI M 6 12).toInt) → Q (some (.int v)) M) : zCall X l 0 0 0 98 [.ref 6] M Q := by
  refine zs_in (by decide) mf98 (Nat.le_of_ble_eq_true rfl) ?_
  show zGo X l 0 0 0 98 0 [(0, .ref 6)] [] M _
  have f0 := x0.1
  have w1 := ib7_0 hI
  have w2 : (zI M 7 0).toInt = (zI M 7 0).toInt := (congrArg Int32.toInt rfl).trans rfl
  have w3 := ib7_3 hI
  have w4 : (zI M 7 3).toInt = (zI M 7 3).toInt := (congrArg Int32.toInt rfl).trans rfl
  have w5 := ib7_8 hI
  have w6 : (zI M 7 8).toInt = (zI M 7 8).toInt := (congrArg Int32.toInt rfl).trans rfl
  have f1 := x1.1
  have f3 := x1.2.2.2
  have f2 := (show (zI M 7 0).toInt = F 0 ∧ (zI M 7 3).toInt = F 1 ∧ (zI M 7 8).toInt = F 2 from ⟨x0.1.1, x0.1.2.1, x0.1.2.2.1⟩)
  refine zs_aload_n (pc := 0) t98_0 rfl ?_
  have w7 := zrg (zI M 6 12)
  refine zs_get (pc := 1) t98_1 (by decide) (zk1 (hs.k fk_zMc_6)) (zfvi rfl rfl) ?_
  exact zs_iret (pc := 4) t98_4 mr98 rfl (hQ _ (by omega))
theorem O99 {X : zX} {l : Launch} {M : zM} {Q : Option Value → zM → Prop} {a : Int32} (hs : zSk zMc M) (hI : zIv cLo cHi M) {F : Nat → Int} {n : Int} (x0 : zSo M 7 F) (x1 : zWF F) (x2 : (zI M 31 2).toInt = n) (hQ : ∀ v : Int32, ((a.toInt = 0 ∧ v.toInt = F 0) ∨ (a.toInt = 1 ∧ v.toInt = pct (zalv F) (F 0).toNat) ∨ (a.toInt = 2 ∧ v.toInt = F 1) ∨ (a.toInt = 3 ∧ v.toInt = pct (zctb F) (F 1).toNat) ∨ (a.toInt = 4 ∧ v.toInt = F 2) ∨ (5 ≤ a.toInt ∧ a.toInt ≤ 13 ∧ v.toInt = F (a.toInt).toNat) ∨ (a.toInt = 14 ∧ v.toInt = n) ∨ (a.toInt = 15 ∧ v.toInt = (zI M 155 1).toInt) ∨ ((a.toInt < 0 ∨ 15 < a.toInt) ∧ v.toInt = -1)) → Q (some (.int v)) M) : zCall X l 3 0 0 99 [.ref 6, .int a] M Q := by
  have ga := zrg a
  refine zs_in (by decide) mf99 (Nat.le_of_ble_eq_true rfl) ?_
  show zGo X l 3 0 0 99 0 [(0, .ref 6), (1, .int a)] [] M _
  have f0 := x0.1
  have w1 := ib7_0 hI
  have w2 : (zI M 7 0).toInt = (zI M 7 0).toInt := (congrArg Int32.toInt rfl).trans rfl
  have w3 := ib7_3 hI
  have w4 : (zI M 7 3).toInt = (zI M 7 3).toInt := (congrArg Int32.toInt rfl).trans rfl
  have w5 := ib7_8 hI
  have w6 : (zI M 7 8).toInt = (zI M 7 8).toInt := (congrArg Int32.toInt rfl).trans rfl
  have f1 := x1.1
  have f3 := x1.2.2.2
  have f2 := (show (zI M 7 0).toInt = F 0 ∧ (zI M 7 3).toInt = F 1 ∧ (zI M 7 8).toInt = F 2 from ⟨x0.1.1, x0.1.2.1, x0.1.2.2.1⟩)
  refine zs_iload_n (pc := 0) t99_0 rfl ?_
  refine zs_iconst (pc := 1) t99_1 (v := 5) (by decide) ?_
  by_cases w7 : a.toInt < 5
  · refine zs_icmp_ltT (pc := 2) t99_2 rfl li5 (by omega) ?_
    refine zs_iload_n (pc := 22) t99_22 rfl ?_
    by_cases w8 : a.toInt = 0
    · refine zs_tswI (pc := 23) t99_23 ((rfl : a.toInt = a.toInt).trans w8) (by decide) rfl (pc2 := 100) rfl ?_
      refine zs_aload_n (pc := 100) t99_100 rfl ?_
      refine zs_get (pc := 101) t99_101 (by decide) (zk1 (hs.k fk_zMc_6)) (hs.p rfl fv_zMc_6_0) ?_
      refine zs_get (pc := 104) t99_104 (by decide) (zk1 (hs.k fk_zMc_7)) (zfvi rfl rfl) ?_
      exact zs_iret (pc := 107) t99_107 mr99 rfl (hQ _ (by first | exact Or.inl ⟨by omega, by omega⟩ | exact Or.inr (Or.inl ⟨by omega, by omega⟩) | exact Or.inr (Or.inr (Or.inl ⟨by omega, by omega⟩)) | exact Or.inr (Or.inr (Or.inr (Or.inl ⟨by omega, by omega⟩))) | exact Or.inr (Or.inr (Or.inr (Or.inr (Or.inl ⟨by omega, by omega⟩)))) | exact Or.inr (Or.inr (Or.inr (Or.inr (Or.inr (Or.inl ⟨by omega, by omega, by omega⟩))))) | exact Or.inr (Or.inr (Or.inr (Or.inr (Or.inr (Or.inr (Or.inl ⟨by omega, by omega⟩)))))) | exact Or.inr (Or.inr (Or.inr (Or.inr (Or.inr (Or.inr (Or.inr (Or.inl ⟨by omega, by omega⟩))))))) | exact Or.inr (Or.inr (Or.inr (Or.inr (Or.inr (Or.inr (Or.inr (Or.inr (⟨by omega, by omega⟩))))))))))
    by_cases w9 : a.toInt = 1
    · refine zs_tswI (pc := 23) t99_23 ((rfl : a.toInt = a.toInt).trans w9) (by decide) rfl (pc2 := 108) rfl ?_
      refine zs_aload_n (pc := 108) t99_108 rfl ?_
      refine zs_get (pc := 109) t99_109 (by decide) (zk1 (hs.k fk_zMc_6)) (hs.p rfl fv_zMc_6_0) ?_
      refine zs_invV (pc := 112) (k := 7) (as' := []) (st := []) t99_112 mf100 rfl rfl (Or.inl ⟨by decide, (zk1 (hs.k fk_zMc_7))⟩) ⟨by decide, by decide, Nat.le_of_ble_eq_true rfl, Nat.le_of_ble_eq_true rfl⟩ (X100_7 hs hI x0 x1 ?_) (fun _ _ q => q)
      intro w10v w10x0 w10a w10b
      show zGo X l 3 0 0 99 115 [(0, .ref 6), (1, .int a)] [.int w10v] M _
      exact zs_iret (pc := 115) t99_115 mr99 rfl (hQ _ (by first | exact Or.inl ⟨by omega, by omega⟩ | exact Or.inr (Or.inl ⟨by omega, by omega⟩) | exact Or.inr (Or.inr (Or.inl ⟨by omega, by omega⟩)) | exact Or.inr (Or.inr (Or.inr (Or.inl ⟨by omega, by omega⟩))) | exact Or.inr (Or.inr (Or.inr (Or.inr (Or.inl ⟨by omega, by omega⟩)))) | exact Or.inr (Or.inr (Or.inr (Or.inr (Or.inr (Or.inl ⟨by omega, by omega, by omega⟩))))) | exact Or.inr (Or.inr (Or.inr (Or.inr (Or.inr (Or.inr (Or.inl ⟨by omega, by omega⟩)))))) | exact Or.inr (Or.inr (Or.inr (Or.inr (Or.inr (Or.inr (Or.inr (Or.inl ⟨by omega, by omega⟩))))))) | exact Or.inr (Or.inr (Or.inr (Or.inr (Or.inr (Or.inr (Or.inr (Or.inr (⟨by omega, by omega⟩))))))))))
    by_cases w11 : a.toInt = 2
    · refine zs_tswI (pc := 23) t99_23 ((rfl : a.toInt = a.toInt).trans w11) (by decide) rfl (pc2 := 116) rfl ?_
      refine zs_aload_n (pc := 116) t99_116 rfl ?_
      refine zs_get (pc := 117) t99_117 (by decide) (zk1 (hs.k fk_zMc_6)) (hs.p rfl fv_zMc_6_0) ?_
      refine zs_get (pc := 120) t99_120 (by decide) (zk1 (hs.k fk_zMc_7)) (zfvi rfl rfl) ?_
      exact zs_iret (pc := 123) t99_123 mr99 rfl (hQ _ (by first | exact Or.inl ⟨by omega, by omega⟩ | exact Or.inr (Or.inl ⟨by omega, by omega⟩) | exact Or.inr (Or.inr (Or.inl ⟨by omega, by omega⟩)) | exact Or.inr (Or.inr (Or.inr (Or.inl ⟨by omega, by omega⟩))) | exact Or.inr (Or.inr (Or.inr (Or.inr (Or.inl ⟨by omega, by omega⟩)))) | exact Or.inr (Or.inr (Or.inr (Or.inr (Or.inr (Or.inl ⟨by omega, by omega, by omega⟩))))) | exact Or.inr (Or.inr (Or.inr (Or.inr (Or.inr (Or.inr (Or.inl ⟨by omega, by omega⟩)))))) | exact Or.inr (Or.inr (Or.inr (Or.inr (Or.inr (Or.inr (Or.inr (Or.inl ⟨by omega, by omega⟩))))))) | exact Or.inr (Or.inr (Or.inr (Or.inr (Or.inr (Or.inr (Or.inr (Or.inr (⟨by omega, by omega⟩))))))))))
    by_cases w12 : a.toInt = 3
    · refine zs_tswI (pc := 23) t99_23 ((rfl : a.toInt = a.toInt).trans w12) (by decide) rfl (pc2 := 124) rfl ?_
      refine zs_aload_n (pc := 124) t99_124 rfl ?_
      refine zs_get (pc := 125) t99_125 (by decide) (zk1 (hs.k fk_zMc_6)) (hs.p rfl fv_zMc_6_0) ?_
      refine zs_invV (pc := 128) (k := 7) (as' := []) (st := []) t99_128 mf92 rfl rfl (Or.inl ⟨by decide, (zk1 (hs.k fk_zMc_7))⟩) ⟨by decide, by decide, Nat.le_of_ble_eq_true rfl, Nat.le_of_ble_eq_true rfl⟩ (X92_7 hs hI x0 x1 ?_) (fun _ _ q => q)
      intro w13v w13x0 w13a w13b
      show zGo X l 3 0 0 99 131 [(0, .ref 6), (1, .int a)] [.int w13v] M _
      exact zs_iret (pc := 131) t99_131 mr99 rfl (hQ _ (by first | exact Or.inl ⟨by omega, by omega⟩ | exact Or.inr (Or.inl ⟨by omega, by omega⟩) | exact Or.inr (Or.inr (Or.inl ⟨by omega, by omega⟩)) | exact Or.inr (Or.inr (Or.inr (Or.inl ⟨by omega, by omega⟩))) | exact Or.inr (Or.inr (Or.inr (Or.inr (Or.inl ⟨by omega, by omega⟩)))) | exact Or.inr (Or.inr (Or.inr (Or.inr (Or.inr (Or.inl ⟨by omega, by omega, by omega⟩))))) | exact Or.inr (Or.inr (Or.inr (Or.inr (Or.inr (Or.inr (Or.inl ⟨by omega, by omega⟩)))))) | exact Or.inr (Or.inr (Or.inr (Or.inr (Or.inr (Or.inr (Or.inr (Or.inl ⟨by omega, by omega⟩))))))) | exact Or.inr (Or.inr (Or.inr (Or.inr (Or.inr (Or.inr (Or.inr (Or.inr (⟨by omega, by omega⟩))))))))))
    by_cases w14 : a.toInt = 4
    · refine zs_tswI (pc := 23) t99_23 ((rfl : a.toInt = a.toInt).trans w14) (by decide) rfl (pc2 := 132) rfl ?_
      refine zs_aload_n (pc := 132) t99_132 rfl ?_
      refine zs_get (pc := 133) t99_133 (by decide) (zk1 (hs.k fk_zMc_6)) (hs.p rfl fv_zMc_6_0) ?_
      refine zs_get (pc := 136) t99_136 (by decide) (zk1 (hs.k fk_zMc_7)) (zfvi rfl rfl) ?_
      exact zs_iret (pc := 139) t99_139 mr99 rfl (hQ _ (by first | exact Or.inl ⟨by omega, by omega⟩ | exact Or.inr (Or.inl ⟨by omega, by omega⟩) | exact Or.inr (Or.inr (Or.inl ⟨by omega, by omega⟩)) | exact Or.inr (Or.inr (Or.inr (Or.inl ⟨by omega, by omega⟩))) | exact Or.inr (Or.inr (Or.inr (Or.inr (Or.inl ⟨by omega, by omega⟩)))) | exact Or.inr (Or.inr (Or.inr (Or.inr (Or.inr (Or.inl ⟨by omega, by omega, by omega⟩))))) | exact Or.inr (Or.inr (Or.inr (Or.inr (Or.inr (Or.inr (Or.inl ⟨by omega, by omega⟩)))))) | exact Or.inr (Or.inr (Or.inr (Or.inr (Or.inr (Or.inr (Or.inr (Or.inl ⟨by omega, by omega⟩))))))) | exact Or.inr (Or.inr (Or.inr (Or.inr (Or.inr (Or.inr (Or.inr (Or.inr (⟨by omega, by omega⟩))))))))))
    refine zs_tswD (pc := 23) t99_23 rfl (by omega) (pc2 := 156) rfl ?_
    refine zs_iconst (pc := 156) t99_156 (v := -1) (by decide) ?_
    have w15 : (-1 : Int32).toInt = (-1) := lin1
    exact zs_iret (pc := 157) t99_157 mr99 (by decide) (hQ _ (by first | exact Or.inl ⟨by omega, by omega⟩ | exact Or.inr (Or.inl ⟨by omega, by omega⟩) | exact Or.inr (Or.inr (Or.inl ⟨by omega, by omega⟩)) | exact Or.inr (Or.inr (Or.inr (Or.inl ⟨by omega, by omega⟩))) | exact Or.inr (Or.inr (Or.inr (Or.inr (Or.inl ⟨by omega, by omega⟩)))) | exact Or.inr (Or.inr (Or.inr (Or.inr (Or.inr (Or.inl ⟨by omega, by omega, by omega⟩))))) | exact Or.inr (Or.inr (Or.inr (Or.inr (Or.inr (Or.inr (Or.inl ⟨by omega, by omega⟩)))))) | exact Or.inr (Or.inr (Or.inr (Or.inr (Or.inr (Or.inr (Or.inr (Or.inl ⟨by omega, by omega⟩))))))) | exact Or.inr (Or.inr (Or.inr (Or.inr (Or.inr (Or.inr (Or.inr (Or.inr (⟨by omega, by omega⟩))))))))))
  · refine zs_icmp_ltF (pc := 2) t99_2 rfl li5 (by omega) ?_
    refine zs_iload_n (pc := 5) t99_5 rfl ?_
    refine zs_bipush (pc := 6) t99_6 (v := 14) (by decide) ?_
    by_cases w16 : 14 ≤ a.toInt
    · refine zs_icmp_geT (pc := 8) t99_8 rfl li14 (by omega) ?_
      refine zs_iload_n (pc := 22) t99_22 rfl ?_
      by_cases w17 : a.toInt = 14
      · refine zs_tswI (pc := 23) t99_23 ((rfl : a.toInt = a.toInt).trans w17) (by decide) rfl (pc2 := 140) rfl ?_
        refine zs_aload_n (pc := 140) t99_140 rfl ?_
        refine zs_get (pc := 141) t99_141 (by decide) (zk1 (hs.k fk_zMc_6)) (hs.p rfl fv_zMc_6_2) ?_
        refine zs_invV (pc := 144) (k := 31) (as' := []) (st := []) t99_144 mf101 rfl rfl (Or.inl ⟨by decide, (zk1 (hs.k fk_zMc_31))⟩) ⟨by decide, by decide, Nat.le_of_ble_eq_true rfl, Nat.le_of_ble_eq_true rfl⟩ (zs_in (by decide) mf101 (Nat.le_of_ble_eq_true rfl) ?_) (fun _ _ q => q)
        show zGo X l 0 0 0 101 0 [(0, .ref 31)] [] M _
        refine zs_aload_n (pc := 0) t101_0 rfl ?_
        have w18 := ib31_2 hI
        refine zs_get (pc := 1) t101_1 (by decide) (zk1 (hs.k fk_zMc_31)) (zfvi rfl rfl) ?_
        refine zs_iret (pc := 4) t101_4 mr101 rfl ?_
        show zGo X l 3 0 0 99 147 [(0, .ref 6), (1, .int a)] [.int (zI M 31 2)] M _
        exact zs_iret (pc := 147) t99_147 mr99 rfl (hQ _ (by first | exact Or.inl ⟨by omega, by omega⟩ | exact Or.inr (Or.inl ⟨by omega, by omega⟩) | exact Or.inr (Or.inr (Or.inl ⟨by omega, by omega⟩)) | exact Or.inr (Or.inr (Or.inr (Or.inl ⟨by omega, by omega⟩))) | exact Or.inr (Or.inr (Or.inr (Or.inr (Or.inl ⟨by omega, by omega⟩)))) | exact Or.inr (Or.inr (Or.inr (Or.inr (Or.inr (Or.inl ⟨by omega, by omega, by omega⟩))))) | exact Or.inr (Or.inr (Or.inr (Or.inr (Or.inr (Or.inr (Or.inl ⟨by omega, by omega⟩)))))) | exact Or.inr (Or.inr (Or.inr (Or.inr (Or.inr (Or.inr (Or.inr (Or.inl ⟨by omega, by omega⟩))))))) | exact Or.inr (Or.inr (Or.inr (Or.inr (Or.inr (Or.inr (Or.inr (Or.inr (⟨by omega, by omega⟩))))))))))
      by_cases w19 : a.toInt = 15
      · refine zs_tswI (pc := 23) t99_23 ((rfl : a.toInt = a.toInt).trans w19) (by decide) rfl (pc2 := 148) rfl ?_
        refine zs_aload_n (pc := 148) t99_148 rfl ?_
        refine zs_get (pc := 149) t99_149 (by decide) (zk1 (hs.k fk_zMc_6)) (hs.p rfl fv_zMc_6_3) ?_
        refine zs_invV (pc := 152) (k := 155) (as' := []) (st := []) t99_152 mf17 rfl rfl (Or.inl ⟨by decide, (zk1 (hs.k fk_zMc_155))⟩) ⟨by decide, by decide, Nat.le_of_ble_eq_true rfl, Nat.le_of_ble_eq_true rfl⟩ (zs_in (by decide) mf17 (Nat.le_of_ble_eq_true rfl) ?_) (fun _ _ q => q)
        show zGo X l 0 0 0 17 0 [(0, .ref 155)] [] M _
        refine zs_aload_n (pc := 0) t17_0 rfl ?_
        have w20 := ib155_1 hI
        refine zs_get (pc := 1) t17_1 (by decide) (zk1 (hs.k fk_zMc_155)) (zfvi rfl rfl) ?_
        refine zs_iret (pc := 4) t17_4 mr17 rfl ?_
        show zGo X l 3 0 0 99 155 [(0, .ref 6), (1, .int a)] [.int (zI M 155 1)] M _
        exact zs_iret (pc := 155) t99_155 mr99 rfl (hQ _ (by first | exact Or.inl ⟨by omega, by omega⟩ | exact Or.inr (Or.inl ⟨by omega, by omega⟩) | exact Or.inr (Or.inr (Or.inl ⟨by omega, by omega⟩)) | exact Or.inr (Or.inr (Or.inr (Or.inl ⟨by omega, by omega⟩))) | exact Or.inr (Or.inr (Or.inr (Or.inr (Or.inl ⟨by omega, by omega⟩)))) | exact Or.inr (Or.inr (Or.inr (Or.inr (Or.inr (Or.inl ⟨by omega, by omega, by omega⟩))))) | exact Or.inr (Or.inr (Or.inr (Or.inr (Or.inr (Or.inr (Or.inl ⟨by omega, by omega⟩)))))) | exact Or.inr (Or.inr (Or.inr (Or.inr (Or.inr (Or.inr (Or.inr (Or.inl ⟨by omega, by omega⟩))))))) | exact Or.inr (Or.inr (Or.inr (Or.inr (Or.inr (Or.inr (Or.inr (Or.inr (⟨by omega, by omega⟩))))))))))
      refine zs_tswD (pc := 23) t99_23 rfl (by omega) (pc2 := 156) rfl ?_
      refine zs_iconst (pc := 156) t99_156 (v := -1) (by decide) ?_
      have w21 : (-1 : Int32).toInt = (-1) := lin1
      exact zs_iret (pc := 157) t99_157 mr99 (by decide) (hQ _ (by first | exact Or.inl ⟨by omega, by omega⟩ | exact Or.inr (Or.inl ⟨by omega, by omega⟩) | exact Or.inr (Or.inr (Or.inl ⟨by omega, by omega⟩)) | exact Or.inr (Or.inr (Or.inr (Or.inl ⟨by omega, by omega⟩))) | exact Or.inr (Or.inr (Or.inr (Or.inr (Or.inl ⟨by omega, by omega⟩)))) | exact Or.inr (Or.inr (Or.inr (Or.inr (Or.inr (Or.inl ⟨by omega, by omega, by omega⟩))))) | exact Or.inr (Or.inr (Or.inr (Or.inr (Or.inr (Or.inr (Or.inl ⟨by omega, by omega⟩)))))) | exact Or.inr (Or.inr (Or.inr (Or.inr (Or.inr (Or.inr (Or.inr (Or.inl ⟨by omega, by omega⟩))))))) | exact Or.inr (Or.inr (Or.inr (Or.inr (Or.inr (Or.inr (Or.inr (Or.inr (⟨by omega, by omega⟩))))))))))
    · refine zs_icmp_geF (pc := 8) t99_8 rfl li14 (by omega) ?_
      refine zs_aload_n (pc := 11) t99_11 rfl ?_
      refine zs_get (pc := 12) t99_12 (by decide) (zk1 (hs.k fk_zMc_6)) (hs.p rfl fv_zMc_6_0) ?_
      refine zs_iload_n (pc := 15) t99_15 rfl ?_
      refine zs_iconst (pc := 16) t99_16 (v := 5) (by decide) ?_
      obtain ⟨w22v, w22e, w22⟩ := zisub (a := a) (b := (5 : Int32)) rfl li5 (by omega) (by omega)
      refine zs_isub (pc := 17) t99_17 (c := w22v) w22e ?_
      refine zs_invV (pc := 18) (k := 7) (as' := [.int w22v]) (st := []) t99_18 mf96 rfl rfl (Or.inl ⟨by decide, (zk1 (hs.k fk_zMc_7))⟩) ⟨by decide, by decide, Nat.le_of_ble_eq_true rfl, Nat.le_of_ble_eq_true rfl⟩ (zs_in (by decide) mf96 (Nat.le_of_ble_eq_true rfl) ?_) (fun _ _ q => q)
      show zGo X l 0 0 0 96 0 [(0, .ref 7), (1, .int w22v)] [] M _
      refine zs_iload_n (pc := 0) t96_0 rfl ?_
      refine zs_if_ltF (pc := 1) t96_1 w22 (by omega) ?_
      refine zs_iload_n (pc := 4) t96_4 rfl ?_
      refine zs_bipush (pc := 5) t96_5 (v := 9) (by decide) ?_
      refine zs_icmp_geF (pc := 7) t96_7 w22 li9 (by omega) ?_
      refine zs_aload_n (pc := 10) t96_10 rfl ?_
      refine zs_get (pc := 11) t96_11 (by decide) (zk1 (hs.k fk_zMc_7)) (hs.p rfl fv_zMc_7_12) ?_
      refine zs_iload_n (pc := 14) t96_14 rfl ?_
      obtain ⟨w23n, w23⟩ : ∃ n : Nat, w22v.toInt = (n : Int) := ⟨w22v.toInt.toNat, by omega⟩
      have w24 := ib17 hI w23n
      have w25 : (zI M 17 w23n).toInt = F a.toInt.toNat := (x0.2.2.2.2.1 w23n (by omega)).trans (by rw [show 5 + w23n = a.toInt.toNat by omega])
      refine zs_iald (pc := 15) t96_15 (j := w23n) (by decide) (zk1 (hs.k fk_zMc_17)) w23 (zk2 (hs.k fk_zMc_17) (by omega)) rfl ?_
      refine zs_goto (pc := 16) t96_16 ?_
      refine zs_iret (pc := 20) t96_20 mr96 rfl ?_
      show zGo X l 3 0 0 99 21 [(0, .ref 6), (1, .int a)] [.int (zI M 17 w23n)] M _
      exact zs_iret (pc := 21) t99_21 mr99 rfl (hQ _ (by first | exact Or.inl ⟨by omega, by omega⟩ | exact Or.inr (Or.inl ⟨by omega, by omega⟩) | exact Or.inr (Or.inr (Or.inl ⟨by omega, by omega⟩)) | exact Or.inr (Or.inr (Or.inr (Or.inl ⟨by omega, by omega⟩))) | exact Or.inr (Or.inr (Or.inr (Or.inr (Or.inl ⟨by omega, by omega⟩)))) | exact Or.inr (Or.inr (Or.inr (Or.inr (Or.inr (Or.inl ⟨by omega, by omega, by omega⟩))))) | exact Or.inr (Or.inr (Or.inr (Or.inr (Or.inr (Or.inr (Or.inl ⟨by omega, by omega⟩)))))) | exact Or.inr (Or.inr (Or.inr (Or.inr (Or.inr (Or.inr (Or.inr (Or.inl ⟨by omega, by omega⟩))))))) | exact Or.inr (Or.inr (Or.inr (Or.inr (Or.inr (Or.inr (Or.inr (Or.inr (⟨by omega, by omega⟩))))))))))
theorem O102 {X : zX} {l : Launch} {M : zM} {Q : Option Value → zM → Prop} {a b : Int32} (hs : zSk zMc M) (hI : zIv cLo cHi M) {F : Nat → Int} (x0 : zSo M 7 F) (x1 : zWF F) (hQ : ∀ v : Int32, (((a.toInt < 0 ∨ F 0 ≤ a.toInt) ∧ v.toInt = -1) ∨ (0 ≤ a.toInt ∧ a.toInt < F 0 ∧ ((b.toInt = 0 ∧ v.toInt = F (14 + 2 * (a.toInt).toNat)) ∨ (b.toInt = 1 ∧ v.toInt = F (15 + 2 * (a.toInt).toNat)) ∨ (b.toInt = 2 ∧ v.toInt = pct (zcqB F 30 a.toInt) (F 1).toNat) ∨ ((b.toInt < 0 ∨ 2 < b.toInt) ∧ v.toInt = -1)))) → Q (some (.int v)) M) : zCall X l 3 0 0 102 [.ref 6, .int a, .int b] M Q := by
  have ga := zrg a
  have gb := zrg b
  refine zs_in (by decide) mf102 (Nat.le_of_ble_eq_true rfl) ?_
  show zGo X l 3 0 0 102 0 [(0, .ref 6), (1, .int a), (2, .int b)] [] M _
  have f0 := x0.1
  have w1 := ib7_0 hI
  have w2 : (zI M 7 0).toInt = (zI M 7 0).toInt := (congrArg Int32.toInt rfl).trans rfl
  have w3 := ib7_3 hI
  have w4 : (zI M 7 3).toInt = (zI M 7 3).toInt := (congrArg Int32.toInt rfl).trans rfl
  have w5 := ib7_8 hI
  have w6 : (zI M 7 8).toInt = (zI M 7 8).toInt := (congrArg Int32.toInt rfl).trans rfl
  have f1 := x1.1
  have f3 := x1.2.2.2
  have f2 := (show (zI M 7 0).toInt = F 0 ∧ (zI M 7 3).toInt = F 1 ∧ (zI M 7 8).toInt = F 2 from ⟨x0.1.1, x0.1.2.1, x0.1.2.2.1⟩)
  refine zs_aload_n (pc := 0) t102_0 rfl ?_
  refine zs_get (pc := 1) t102_1 (by decide) (zk1 (hs.k fk_zMc_6)) (hs.p rfl fv_zMc_6_0) ?_
  refine zs_iload_n (pc := 4) t102_4 rfl ?_
  refine zs_invV (pc := 5) (k := 7) (as' := [.int a]) (st := []) t102_5 mf41 rfl rfl (Or.inl ⟨by decide, (zk1 (hs.k fk_zMc_7))⟩) ⟨by decide, by decide, Nat.le_of_ble_eq_true rfl, Nat.le_of_ble_eq_true rfl⟩ (zs_in (by decide) mf41 (Nat.le_of_ble_eq_true rfl) ?_) (fun _ _ q => q)
  show zGo X l 0 0 0 41 0 [(0, .ref 7), (1, .int a)] [] M _
  refine zs_iload_n (pc := 0) t41_0 rfl ?_
  by_cases w7 : a.toInt < 0
  · refine zs_if_ltT (pc := 1) t41_1 rfl (by omega) ?_
    refine zs_iconst (pc := 16) t41_16 (v := 0) (by decide) ?_
    refine zs_iret (pc := 17) t41_17 mr41 (by decide) ?_
    show zGo X l 3 0 0 102 8 [(0, .ref 6), (1, .int a), (2, .int b)] [.int (0 : Int32)] M _
    refine zs_if_neF (pc := 8) t102_8 li0 (by decide) ?_
    refine zs_iconst (pc := 11) t102_11 (v := -1) (by decide) ?_
    have w8 : (-1 : Int32).toInt = (-1) := lin1
    exact zs_iret (pc := 12) t102_12 mr102 (by decide) (hQ _ (by omega))
  · refine zs_if_ltF (pc := 1) t41_1 rfl (by omega) ?_
    refine zs_iload_n (pc := 4) t41_4 rfl ?_
    refine zs_aload_n (pc := 5) t41_5 rfl ?_
    refine zs_get (pc := 6) t41_6 (by decide) (zk1 (hs.k fk_zMc_7)) (zfvi rfl rfl) ?_
    by_cases w9 : (zI M 7 0).toInt ≤ a.toInt
    · refine zs_icmp_geT (pc := 9) t41_9 rfl rfl (by omega) ?_
      refine zs_iconst (pc := 16) t41_16 (v := 0) (by decide) ?_
      refine zs_iret (pc := 17) t41_17 mr41 (by decide) ?_
      show zGo X l 3 0 0 102 8 [(0, .ref 6), (1, .int a), (2, .int b)] [.int (0 : Int32)] M _
      refine zs_if_neF (pc := 8) t102_8 li0 (by decide) ?_
      refine zs_iconst (pc := 11) t102_11 (v := -1) (by decide) ?_
      have w10 : (-1 : Int32).toInt = (-1) := lin1
      exact zs_iret (pc := 12) t102_12 mr102 (by decide) (hQ _ (by omega))
    · refine zs_icmp_geF (pc := 9) t41_9 rfl rfl (by omega) ?_
      refine zs_iconst (pc := 12) t41_12 (v := 1) (by decide) ?_
      refine zs_goto (pc := 13) t41_13 ?_
      refine zs_iret (pc := 17) t41_17 mr41 (by decide) ?_
      show zGo X l 3 0 0 102 8 [(0, .ref 6), (1, .int a), (2, .int b)] [.int (1 : Int32)] M _
      refine zs_if_neT (pc := 8) t102_8 li1 (by decide) ?_
      refine zs_iload_n (pc := 13) t102_13 rfl ?_
      by_cases w11 : b.toInt = 0
      · refine zs_tswI (pc := 14) t102_14 ((rfl : b.toInt = b.toInt).trans w11) (by decide) rfl (pc2 := 40) rfl ?_
        refine zs_aload_n (pc := 40) t102_40 rfl ?_
        refine zs_get (pc := 41) t102_41 (by decide) (zk1 (hs.k fk_zMc_6)) (hs.p rfl fv_zMc_6_0) ?_
        refine zs_get (pc := 44) t102_44 (by decide) (zk1 (hs.k fk_zMc_7)) (hs.p rfl fv_zMc_7_1) ?_
        refine zs_iload_n (pc := 47) t102_47 rfl ?_
        obtain ⟨w12n, w12⟩ : ∃ n : Nat, a.toInt = (n : Int) := ⟨(a.toInt).toNat, by omega⟩
        have w13 := zrg (zI M 8 w12n)
        have w14 : (zI M 8 w12n).toInt = F (14 + 2 * w12n) ∧ (zI M 9 w12n).toInt = F (15 + 2 * w12n) := x0.2.1 w12n (by omega)
        have w15 := x1.2.1 w12n (by omega)
        refine zs_iald (pc := 48) t102_48 (j := w12n) (by decide) (zk1 (hs.k fk_zMc_8)) (show a.toInt = ((w12n : Nat) : Int) by omega) (zk2 (hs.k fk_zMc_8) (by omega)) rfl ?_
        exact zs_iret (pc := 49) t102_49 mr102 rfl (hQ _ (by rw [show a.toInt.toNat = w12n by omega]; omega))
      by_cases w16 : b.toInt = 1
      · refine zs_tswI (pc := 14) t102_14 ((rfl : b.toInt = b.toInt).trans w16) (by decide) rfl (pc2 := 50) rfl ?_
        refine zs_aload_n (pc := 50) t102_50 rfl ?_
        refine zs_get (pc := 51) t102_51 (by decide) (zk1 (hs.k fk_zMc_6)) (hs.p rfl fv_zMc_6_0) ?_
        refine zs_get (pc := 54) t102_54 (by decide) (zk1 (hs.k fk_zMc_7)) (hs.p rfl fv_zMc_7_2) ?_
        refine zs_iload_n (pc := 57) t102_57 rfl ?_
        obtain ⟨w17n, w17⟩ : ∃ n : Nat, a.toInt = (n : Int) := ⟨(a.toInt).toNat, by omega⟩
        have w18 := ib9 hI w17n
        have w19 : (zI M 8 w17n).toInt = F (14 + 2 * w17n) ∧ (zI M 9 w17n).toInt = F (15 + 2 * w17n) := x0.2.1 w17n (by omega)
        have w20 := x1.2.1 w17n (by omega)
        refine zs_bald (pc := 58) t102_58 (j := w17n) (Or.inr (zk1 (hs.k fk_zMc_9))) (show a.toInt = ((w17n : Nat) : Int) by omega) (zk2 (hs.k fk_zMc_9) (by omega)) rfl ?_
        by_cases w21 : (zI M 9 w17n).toInt = 0
        · refine zs_if_eqT (pc := 59) t102_59 rfl (by omega) ?_
          refine zs_iconst (pc := 66) t102_66 (v := 0) (by decide) ?_
          have w22 : (0 : Int32).toInt = 0 := li0
          exact zs_iret (pc := 67) t102_67 mr102 (by decide) (hQ _ (by rw [show a.toInt.toNat = w17n by omega]; omega))
        · refine zs_if_eqF (pc := 59) t102_59 rfl (by omega) ?_
          refine zs_iconst (pc := 62) t102_62 (v := 1) (by decide) ?_
          refine zs_goto (pc := 63) t102_63 ?_
          have w23 : (1 : Int32).toInt = 1 := li1
          exact zs_iret (pc := 67) t102_67 mr102 (by decide) (hQ _ (by rw [show a.toInt.toNat = w17n by omega]; omega))
      by_cases w24 : b.toInt = 2
      · refine zs_tswI (pc := 14) t102_14 ((rfl : b.toInt = b.toInt).trans w24) (by decide) rfl (pc2 := 68) rfl ?_
        refine zs_aload_n (pc := 68) t102_68 rfl ?_
        refine zs_get (pc := 69) t102_69 (by decide) (zk1 (hs.k fk_zMc_6)) (hs.p rfl fv_zMc_6_0) ?_
        refine zs_iload_n (pc := 72) t102_72 rfl ?_
        refine zs_invV (pc := 73) (k := 7) (as' := [.int a]) (st := []) t102_73 mf103 rfl rfl (Or.inl ⟨by decide, (zk1 (hs.k fk_zMc_7))⟩) ⟨by decide, by decide, Nat.le_of_ble_eq_true rfl, Nat.le_of_ble_eq_true rfl⟩ (X103_7 hs hI x0 x1 ?_) (fun _ _ q => q)
        intro w25v w25x0 w25a w25b
        show zGo X l 3 0 0 102 76 [(0, .ref 6), (1, .int a), (2, .int b)] [.int w25v] M _
        exact zs_iret (pc := 76) t102_76 mr102 rfl (hQ _ (by omega))
      refine zs_tswD (pc := 14) t102_14 rfl (by omega) (pc2 := 77) rfl ?_
      refine zs_iconst (pc := 77) t102_77 (v := -1) (by decide) ?_
      have w26 : (-1 : Int32).toInt = (-1) := lin1
      exact zs_iret (pc := 78) t102_78 mr102 (by decide) (hQ _ (by omega))
theorem O147 {X : zX} {l : Launch} {M : zM} {Q : Option Value → zM → Prop} {a b c : Int32} (hs : zSk zMc M) (hI : zIv cLo cHi M) {F : Nat → Int} (x0 : zSo M 7 F) (x1 : zWF F) (hQ : ∀ v : Int32, (((a.toInt < 0 ∨ F 0 ≤ a.toInt ∨ b.toInt < -99 ∨ 99 < b.toInt ∨ c.toInt < -99 ∨ 99 < c.toInt) ∧ v.toInt = -100000) ∨ (0 ≤ a.toInt ∧ a.toInt < F 0 ∧ -99 ≤ b.toInt ∧ b.toInt ≤ 99 ∧ -99 ≤ c.toInt ∧ c.toInt ≤ 99 ∧ v.toInt = pLf F (a.toInt).toNat b.toInt c.toInt)) → Q (some (.int v)) M) : zCall X l 2 0 0 147 [.ref 6, .int a, .int b, .int c] M Q := by
  have ga := zrg a
  have gb := zrg b
  have gc := zrg c
  refine zs_in (by decide) mf147 (Nat.le_of_ble_eq_true rfl) ?_
  show zGo X l 2 0 0 147 0 [(0, .ref 6), (1, .int a), (2, .int b), (3, .int c)] [] M _
  have f0 := x0.1
  have w1 := ib7_0 hI
  have w2 : (zI M 7 0).toInt = (zI M 7 0).toInt := (congrArg Int32.toInt rfl).trans rfl
  have w3 := ib7_3 hI
  have w4 : (zI M 7 3).toInt = (zI M 7 3).toInt := (congrArg Int32.toInt rfl).trans rfl
  have w5 := ib7_8 hI
  have w6 : (zI M 7 8).toInt = (zI M 7 8).toInt := (congrArg Int32.toInt rfl).trans rfl
  have f1 := x1.1
  have f3 := x1.2.2.2
  have f2 := (show (zI M 7 0).toInt = F 0 ∧ (zI M 7 3).toInt = F 1 ∧ (zI M 7 8).toInt = F 2 from ⟨x0.1.1, x0.1.2.1, x0.1.2.2.1⟩)
  refine zs_aload_n (pc := 0) t147_0 rfl ?_
  refine zs_get (pc := 1) t147_1 (by decide) (zk1 (hs.k fk_zMc_6)) (hs.p rfl fv_zMc_6_0) ?_
  refine zs_iload_n (pc := 4) t147_4 rfl ?_
  refine zs_invV (pc := 5) (k := 7) (as' := [.int a]) (st := []) t147_5 mf41 rfl rfl (Or.inl ⟨by decide, (zk1 (hs.k fk_zMc_7))⟩) ⟨by decide, by decide, Nat.le_of_ble_eq_true rfl, Nat.le_of_ble_eq_true rfl⟩ (zs_in (by decide) mf41 (Nat.le_of_ble_eq_true rfl) ?_) (fun _ _ q => q)
  show zGo X l 0 0 0 41 0 [(0, .ref 7), (1, .int a)] [] M _
  refine zs_iload_n (pc := 0) t41_0 rfl ?_
  by_cases w7 : a.toInt < 0
  · refine zs_if_ltT (pc := 1) t41_1 rfl (by omega) ?_
    refine zs_iconst (pc := 16) t41_16 (v := 0) (by decide) ?_
    refine zs_iret (pc := 17) t41_17 mr41 (by decide) ?_
    show zGo X l 2 0 0 147 8 [(0, .ref 6), (1, .int a), (2, .int b), (3, .int c)] [.int (0 : Int32)] M _
    refine zs_if_eqT (pc := 8) t147_8 li0 (by decide) ?_
    refine zs_ldc (pc := 35) t147_35 (v := -100000) rfl (by decide) ?_
    have w8 : (-100000 : Int32).toInt = (-100000) := lin100000
    exact zs_iret (pc := 37) t147_37 mr147 (by decide) (hQ _ (by omega))
  · refine zs_if_ltF (pc := 1) t41_1 rfl (by omega) ?_
    refine zs_iload_n (pc := 4) t41_4 rfl ?_
    refine zs_aload_n (pc := 5) t41_5 rfl ?_
    refine zs_get (pc := 6) t41_6 (by decide) (zk1 (hs.k fk_zMc_7)) (zfvi rfl rfl) ?_
    by_cases w9 : (zI M 7 0).toInt ≤ a.toInt
    · refine zs_icmp_geT (pc := 9) t41_9 rfl rfl (by omega) ?_
      refine zs_iconst (pc := 16) t41_16 (v := 0) (by decide) ?_
      refine zs_iret (pc := 17) t41_17 mr41 (by decide) ?_
      show zGo X l 2 0 0 147 8 [(0, .ref 6), (1, .int a), (2, .int b), (3, .int c)] [.int (0 : Int32)] M _
      refine zs_if_eqT (pc := 8) t147_8 li0 (by decide) ?_
      refine zs_ldc (pc := 35) t147_35 (v := -100000) rfl (by decide) ?_
      have w10 : (-100000 : Int32).toInt = (-100000) := lin100000
      exact zs_iret (pc := 37) t147_37 mr147 (by decide) (hQ _ (by omega))
    · refine zs_icmp_geF (pc := 9) t41_9 rfl rfl (by omega) ?_
      refine zs_iconst (pc := 12) t41_12 (v := 1) (by decide) ?_
      refine zs_goto (pc := 13) t41_13 ?_
      refine zs_iret (pc := 17) t41_17 mr41 (by decide) ?_
      show zGo X l 2 0 0 147 8 [(0, .ref 6), (1, .int a), (2, .int b), (3, .int c)] [.int (1 : Int32)] M _
      refine zs_if_eqF (pc := 8) t147_8 li1 (by decide) ?_
      refine zs_iload_n (pc := 11) t147_11 rfl ?_
      refine zs_bipush (pc := 12) t147_12 (v := -99) (by decide) ?_
      by_cases w11 : b.toInt < (-99)
      · refine zs_icmp_ltT (pc := 14) t147_14 rfl lin99 (by omega) ?_
        refine zs_ldc (pc := 35) t147_35 (v := -100000) rfl (by decide) ?_
        have w12 : (-100000 : Int32).toInt = (-100000) := lin100000
        exact zs_iret (pc := 37) t147_37 mr147 (by decide) (hQ _ (by omega))
      · refine zs_icmp_ltF (pc := 14) t147_14 rfl lin99 (by omega) ?_
        refine zs_iload_n (pc := 17) t147_17 rfl ?_
        refine zs_bipush (pc := 18) t147_18 (v := 99) (by decide) ?_
        by_cases w13 : 99 < b.toInt
        · refine zs_icmp_gtT (pc := 20) t147_20 rfl li99 (by omega) ?_
          refine zs_ldc (pc := 35) t147_35 (v := -100000) rfl (by decide) ?_
          have w14 : (-100000 : Int32).toInt = (-100000) := lin100000
          exact zs_iret (pc := 37) t147_37 mr147 (by decide) (hQ _ (by omega))
        · refine zs_icmp_gtF (pc := 20) t147_20 rfl li99 (by omega) ?_
          refine zs_iload_n (pc := 23) t147_23 rfl ?_
          refine zs_bipush (pc := 24) t147_24 (v := -99) (by decide) ?_
          by_cases w15 : c.toInt < (-99)
          · refine zs_icmp_ltT (pc := 26) t147_26 rfl lin99 (by omega) ?_
            refine zs_ldc (pc := 35) t147_35 (v := -100000) rfl (by decide) ?_
            have w16 : (-100000 : Int32).toInt = (-100000) := lin100000
            exact zs_iret (pc := 37) t147_37 mr147 (by decide) (hQ _ (by omega))
          · refine zs_icmp_ltF (pc := 26) t147_26 rfl lin99 (by omega) ?_
            refine zs_iload_n (pc := 29) t147_29 rfl ?_
            refine zs_bipush (pc := 30) t147_30 (v := 99) (by decide) ?_
            by_cases w17 : c.toInt ≤ 99
            · refine zs_icmp_leT (pc := 32) t147_32 rfl li99 (by omega) ?_
              refine zs_aload_n (pc := 38) t147_38 rfl ?_
              refine zs_get (pc := 39) t147_39 (by decide) (zk1 (hs.k fk_zMc_6)) (hs.p rfl fv_zMc_6_0) ?_
              refine zs_iload_n (pc := 42) t147_42 rfl ?_
              refine zs_iload_n (pc := 43) t147_43 rfl ?_
              refine zs_invV (pc := 44) (k := 7) (as' := [.int a, .int b]) (st := []) t147_44 mf53 rfl rfl (Or.inl ⟨by decide, (zk1 (hs.k fk_zMc_7))⟩) ⟨by decide, by decide, Nat.le_of_ble_eq_true rfl, Nat.le_of_ble_eq_true rfl⟩ (X53_7 hs hI x0 x1 ?_) (fun _ _ q => q)
              intro w18v w18x0
              obtain ⟨w19n, w19⟩ : ∃ n : Nat, a.toInt = (n : Int) := ⟨(a.toInt).toNat, by omega⟩
              have w20 := x1.2.1 w19n (by omega)
              have w20b := pLf.b (l := w19n) (t := b.toInt) (k := c.toInt) w20.1 w20.2.1 (by omega) (by omega) (by omega) (by omega)
              have w18q := w18x0 w19n (by omega) (by omega) (by omega) (by omega)
              have w18g := zrg w18v
              show zGo X l 2 0 0 147 47 [(0, .ref 6), (1, .int a), (2, .int b), (3, .int c)] [.int w18v] M _
              refine zs_aload_n (pc := 47) t147_47 rfl ?_
              refine zs_get (pc := 48) t147_48 (by decide) (zk1 (hs.k fk_zMc_6)) (hs.p rfl fv_zMc_6_0) ?_
              refine zs_iload_n (pc := 51) t147_51 rfl ?_
              refine zs_iload_n (pc := 52) t147_52 rfl ?_
              refine zs_invV (pc := 53) (k := 7) (as' := [.int a, .int c]) (st := [.int w18v]) t147_53 mf55 rfl rfl (Or.inl ⟨by decide, (zk1 (hs.k fk_zMc_7))⟩) ⟨by decide, by decide, Nat.le_of_ble_eq_true rfl, Nat.le_of_ble_eq_true rfl⟩ (X55_7 hs hI x0 x1 ?_) (fun _ _ q => q)
              intro w21v w21x0
              have w22 := x1.2.1 w19n (by omega)
              have w22b := pLf.b (l := w19n) (t := b.toInt) (k := c.toInt) w22.1 w22.2.1 (by omega) (by omega) (by omega) (by omega)
              have w21q := w21x0 w19n (by omega) (by omega) (by omega) (by omega)
              have w21g := zrg w21v
              show zGo X l 2 0 0 147 56 [(0, .ref 6), (1, .int a), (2, .int b), (3, .int c)] [.int w21v, .int w18v] M _
              obtain ⟨w23v, w23e, w23⟩ := ziadd (a := w18v) (b := w21v) rfl rfl (by omega) (by omega)
              refine zs_iadd (pc := 56) t147_56 (c := w23v) w23e ?_
              have w24 : w23v.toInt = (w18v.toInt + w21v.toInt) := w23
              exact zs_iret (pc := 57) t147_57 mr147 rfl (hQ _ (by rw [show a.toInt.toNat = w19n by omega]; unfold pLf; omega))
            · refine zs_icmp_leF (pc := 32) t147_32 rfl li99 (by omega) ?_
              refine zs_ldc (pc := 35) t147_35 (v := -100000) rfl (by decide) ?_
              have w25 : (-100000 : Int32).toInt = (-100000) := lin100000
              exact zs_iret (pc := 37) t147_37 mr147 (by decide) (hQ _ (by omega))
theorem X211_7 {X : zX} {l : Launch} {M : zM} {Q : Option Value → zM → Prop} {a b : Int32} (hs : zSk zMc M) (hI : zIv cLo cHi M) {F : Nat → Int} (x0 : zSo M 7 F) (x1 : zWF F) (hQ : ∀ v : Int32, (v.toInt = pct (zwin F a.toInt b.toInt) (F 1).toNat) → 0 ≤ v.toInt → v.toInt ≤ 60 → Q (some (.int v)) M) : zCall X l 1 0 0 211 [.ref 7, .int a, .int b] M Q := by
  have ga := zrg a
  have gb := zrg b
  refine zs_in (by decide) mf211 (Nat.le_of_ble_eq_true rfl) ?_
  show zGo X l 1 0 0 211 0 [(0, .ref 7), (1, .int a), (2, .int b)] [] M _
  have f0 := x0.1
  have w1 := ib7_0 hI
  have w2 : (zI M 7 0).toInt = (zI M 7 0).toInt := (congrArg Int32.toInt rfl).trans rfl
  have w3 := ib7_3 hI
  have w4 : (zI M 7 3).toInt = (zI M 7 3).toInt := (congrArg Int32.toInt rfl).trans rfl
  have w5 := ib7_8 hI
  have w6 : (zI M 7 8).toInt = (zI M 7 8).toInt := (congrArg Int32.toInt rfl).trans rfl
  have f1 := x1.1
  have f3 := x1.2.2.2
  have f2 := (show (zI M 7 0).toInt = F 0 ∧ (zI M 7 3).toInt = F 1 ∧ (zI M 7 8).toInt = F 2 from ⟨x0.1.1, x0.1.2.1, x0.1.2.2.1⟩)
  refine zs_iconst (pc := 0) t211_0 (v := 0) (by decide) ?_
  refine zs_istore_n (pc := 1) t211_1 (ls' := [(3, .int (0 : Int32)), (0, .ref 7), (1, .int a), (2, .int b)]) (zml mf211 (by decide)) rfl ?_
  refine zs_iconst (pc := 2) t211_2 (v := 0) (by decide) ?_
  refine zs_istore (pc := 3) t211_3 (ls' := [(4, .int (0 : Int32)), (3, .int (0 : Int32)), (0, .ref 7), (1, .int a), (2, .int b)]) (zml mf211 (by decide)) rfl ?_
  have w7L : ∀ (m : Nat) (w7x3 : Int32) (w7x4 : Int32), (0 ≤ w7x3.toInt ∧ w7x3.toInt ≤ 60) → (0 ≤ w7x4.toInt ∧ w7x4.toInt ≤ 60) → (w7x3.toInt ≤ w7x4.toInt) → (w7x4.toInt ≤ F 1) → (∀ k : Nat, (k : Int) = w7x4.toInt → w7x3.toInt = pct (zwin F a.toInt b.toInt) k) → 60 - w7x4.toInt ≤ (m : Int) → zGo X l 1 0 0 211 5 [(0, .ref 7), (1, .int a), (2, .int b), (3, .int w7x3), (4, .int w7x4)] [] M Q := by
    intro m
    induction m using Nat.strongRecOn with
    | ind w7m w7ih =>
      intro w7x3 w7x4 w7b3 w7b4 w7r0 w7r1 w7t0 w7q
      refine zs_iload (pc := 5) t211_5 rfl ?_
      refine zs_aload_n (pc := 7) t211_7 rfl ?_
      refine zs_get (pc := 8) t211_8 (by decide) (zk1 (hs.k fk_zMc_7)) (zfvi rfl rfl) ?_
      by_cases w8 : (zI M 7 3).toInt ≤ w7x4.toInt
      · refine zs_icmp_geT (pc := 11) t211_11 rfl rfl (by omega) ?_
        refine zs_iload_n (pc := 53) t211_53 rfl ?_
        exact zs_iret (pc := 54) t211_54 mr211 rfl (hQ _ (by have q := w7t0 (F 1).toNat (by omega); omega) (by omega) (by omega))
      · refine zs_icmp_geF (pc := 11) t211_11 rfl rfl (by omega) ?_
        refine zs_aload_n (pc := 14) t211_14 rfl ?_
        refine zs_get (pc := 15) t211_15 (by decide) (zk1 (hs.k fk_zMc_7)) (hs.p rfl fv_zMc_7_2) ?_
        refine zs_aload_n (pc := 18) t211_18 rfl ?_
        refine zs_get (pc := 19) t211_19 (by decide) (zk1 (hs.k fk_zMc_7)) (hs.p rfl fv_zMc_7_4) ?_
        refine zs_iload (pc := 22) t211_22 rfl ?_
        obtain ⟨w9n, w9⟩ : ∃ n : Nat, w7x4.toInt = (n : Int) := ⟨(w7x4.toInt).toNat, by omega⟩
        have w10 := ib10 hI w9n
        have w11 : (zI M 10 w9n).toInt = F (30 + 4 * w9n) ∧ (zI M 11 w9n).toInt = F (31 + 4 * w9n) ∧ (zI M 12 w9n).toInt = F (32 + 4 * w9n) ∧ (zI M 13 w9n).toInt = F (33 + 4 * w9n) := x0.2.2.1 w9n (by omega)
        have w12 := x1.2.2.1 w9n (by omega)
        refine zs_iald (pc := 24) t211_24 (j := w9n) (by decide) (zk1 (hs.k fk_zMc_10)) (show w7x4.toInt = ((w9n : Nat) : Int) by omega) (zk2 (hs.k fk_zMc_10) (by omega)) rfl ?_
        obtain ⟨w13n, w13⟩ : ∃ n : Nat, (zI M 10 w9n).toInt = (n : Int) := ⟨((zI M 10 w9n).toInt).toNat, by omega⟩
        have w14 := ib9 hI w13n
        have w15 : (zI M 8 w13n).toInt = F (14 + 2 * w13n) ∧ (zI M 9 w13n).toInt = F (15 + 2 * w13n) := x0.2.1 w13n (by omega)
        have w16 := x1.2.1 w13n (by omega)
        refine zs_bald (pc := 25) t211_25 (j := w13n) (Or.inr (zk1 (hs.k fk_zMc_9))) (show (zI M 10 w9n).toInt = ((w13n : Nat) : Int) by omega) (zk2 (hs.k fk_zMc_9) (by omega)) rfl ?_
        by_cases w17 : (zI M 9 w13n).toInt = 0
        · refine zs_if_eqT (pc := 26) t211_26 rfl (by omega) ?_
          obtain ⟨w18v, w18e, w18⟩ := ziadd (a := w7x4) (b := Int32.ofInt 1) rfl (show (Int32.ofInt 1).toInt = 1 by decide) (by omega) (by omega)
          refine zs_iinc (pc := 47) t211_47 (ls' := [(4, .int w18v), (0, .ref 7), (1, .int a), (2, .int b), (3, .int w7x3)]) (zml mf211 (by decide)) rfl (c := w18v) w18e rfl ?_
          refine zs_goto (pc := 50) t211_50 ?_
          refine zGo.locals (ls' := [(0, .ref 7), (1, .int a), (2, .int b), (3, .int w7x3), (4, .int w18v)]) (by simp) ?_
          have w19 := w18
          exact w7ih (w7m - 1) (by omega) w7x3 w18v ⟨by omega, by omega⟩ ⟨by omega, by omega⟩ (by omega) (by omega) (fun k hk => by obtain rfl : k = w9n + 1 := (by omega); first | exact pct.up (n := w9n) (fun k hk => w7t0 k (by omega)) (zwin.y (l := w13n) (by omega) (by omega) (by omega) (by omega)) (by omega) rfl | exact pct.no (n := w9n) (fun k hk => w7t0 k (by omega)) (zwin.n (l := w13n) (by omega) (by omega)) (by omega) rfl) (by omega)
        · refine zs_if_eqF (pc := 26) t211_26 rfl (by omega) ?_
          refine zs_aload_n (pc := 29) t211_29 rfl ?_
          refine zs_get (pc := 30) t211_30 (by decide) (zk1 (hs.k fk_zMc_7)) (hs.p rfl fv_zMc_7_6) ?_
          refine zs_iload (pc := 33) t211_33 rfl ?_
          have w20 := zrg (zI M 12 w9n)
          have w21 : (zI M 10 w9n).toInt = F (30 + 4 * w9n) ∧ (zI M 11 w9n).toInt = F (31 + 4 * w9n) ∧ (zI M 12 w9n).toInt = F (32 + 4 * w9n) ∧ (zI M 13 w9n).toInt = F (33 + 4 * w9n) := x0.2.2.1 w9n (by omega)
          have w22 := x1.2.2.1 w9n (by omega)
          refine zs_iald (pc := 35) t211_35 (j := w9n) (by decide) (zk1 (hs.k fk_zMc_12)) (show w7x4.toInt = ((w9n : Nat) : Int) by omega) (zk2 (hs.k fk_zMc_12) (by omega)) rfl ?_
          refine zs_iload_n (pc := 36) t211_36 rfl ?_
          refine zs_iload_n (pc := 37) t211_37 rfl ?_
          refine zs_invS (pc := 38) (as := [.int (zI M 12 w9n), .int a, .int b]) (st := []) t211_38 (by decide) mf39 rfl rfl ⟨by decide, by decide, Nat.le_of_ble_eq_true rfl, Nat.le_of_ble_eq_true rfl⟩ (zs_in (by decide) mf39 (Nat.le_of_ble_eq_true rfl) ?_) (fun _ _ q => q)
          show zGo X l 0 0 0 39 0 [(0, .int (zI M 12 w9n)), (1, .int a), (2, .int b)] [] M _
          refine zs_iload_n (pc := 0) t39_0 rfl ?_
          refine zs_iload_n (pc := 1) t39_1 rfl ?_
          by_cases w23 : (zI M 12 w9n).toInt < a.toInt
          · refine zs_icmp_ltT (pc := 2) t39_2 rfl rfl (by omega) ?_
            refine zs_iconst (pc := 14) t39_14 (v := 0) (by decide) ?_
            refine zs_iret (pc := 15) t39_15 mr39 (by decide) ?_
            show zGo X l 1 0 0 211 41 [(0, .ref 7), (1, .int a), (2, .int b), (3, .int w7x3), (4, .int w7x4)] [.int (0 : Int32)] M _
            refine zs_if_eqT (pc := 41) t211_41 li0 (by decide) ?_
            obtain ⟨w24v, w24e, w24⟩ := ziadd (a := w7x4) (b := Int32.ofInt 1) rfl (show (Int32.ofInt 1).toInt = 1 by decide) (by omega) (by omega)
            refine zs_iinc (pc := 47) t211_47 (ls' := [(4, .int w24v), (0, .ref 7), (1, .int a), (2, .int b), (3, .int w7x3)]) (zml mf211 (by decide)) rfl (c := w24v) w24e rfl ?_
            refine zs_goto (pc := 50) t211_50 ?_
            refine zGo.locals (ls' := [(0, .ref 7), (1, .int a), (2, .int b), (3, .int w7x3), (4, .int w24v)]) (by simp) ?_
            have w25 := w24
            exact w7ih (w7m - 1) (by omega) w7x3 w24v ⟨by omega, by omega⟩ ⟨by omega, by omega⟩ (by omega) (by omega) (fun k hk => by obtain rfl : k = w9n + 1 := (by omega); first | exact pct.up (n := w9n) (fun k hk => w7t0 k (by omega)) (zwin.y (l := w13n) (by omega) (by omega) (by omega) (by omega)) (by omega) rfl | exact pct.no (n := w9n) (fun k hk => w7t0 k (by omega)) (zwin.n (l := w13n) (by omega) (by omega)) (by omega) rfl) (by omega)
          · refine zs_icmp_ltF (pc := 2) t39_2 rfl rfl (by omega) ?_
            refine zs_iload_n (pc := 5) t39_5 rfl ?_
            refine zs_iload_n (pc := 6) t39_6 rfl ?_
            by_cases w26 : b.toInt < (zI M 12 w9n).toInt
            · refine zs_icmp_gtT (pc := 7) t39_7 rfl rfl (by omega) ?_
              refine zs_iconst (pc := 14) t39_14 (v := 0) (by decide) ?_
              refine zs_iret (pc := 15) t39_15 mr39 (by decide) ?_
              show zGo X l 1 0 0 211 41 [(0, .ref 7), (1, .int a), (2, .int b), (3, .int w7x3), (4, .int w7x4)] [.int (0 : Int32)] M _
              refine zs_if_eqT (pc := 41) t211_41 li0 (by decide) ?_
              obtain ⟨w27v, w27e, w27⟩ := ziadd (a := w7x4) (b := Int32.ofInt 1) rfl (show (Int32.ofInt 1).toInt = 1 by decide) (by omega) (by omega)
              refine zs_iinc (pc := 47) t211_47 (ls' := [(4, .int w27v), (0, .ref 7), (1, .int a), (2, .int b), (3, .int w7x3)]) (zml mf211 (by decide)) rfl (c := w27v) w27e rfl ?_
              refine zs_goto (pc := 50) t211_50 ?_
              refine zGo.locals (ls' := [(0, .ref 7), (1, .int a), (2, .int b), (3, .int w7x3), (4, .int w27v)]) (by simp) ?_
              have w28 := w27
              exact w7ih (w7m - 1) (by omega) w7x3 w27v ⟨by omega, by omega⟩ ⟨by omega, by omega⟩ (by omega) (by omega) (fun k hk => by obtain rfl : k = w9n + 1 := (by omega); first | exact pct.up (n := w9n) (fun k hk => w7t0 k (by omega)) (zwin.y (l := w13n) (by omega) (by omega) (by omega) (by omega)) (by omega) rfl | exact pct.no (n := w9n) (fun k hk => w7t0 k (by omega)) (zwin.n (l := w13n) (by omega) (by omega)) (by omega) rfl) (by omega)
            · refine zs_icmp_gtF (pc := 7) t39_7 rfl rfl (by omega) ?_
              refine zs_iconst (pc := 10) t39_10 (v := 1) (by decide) ?_
              refine zs_goto (pc := 11) t39_11 ?_
              refine zs_iret (pc := 15) t39_15 mr39 (by decide) ?_
              show zGo X l 1 0 0 211 41 [(0, .ref 7), (1, .int a), (2, .int b), (3, .int w7x3), (4, .int w7x4)] [.int (1 : Int32)] M _
              refine zs_if_eqF (pc := 41) t211_41 li1 (by decide) ?_
              obtain ⟨w29v, w29e, w29⟩ := ziadd (a := w7x3) (b := Int32.ofInt 1) rfl (show (Int32.ofInt 1).toInt = 1 by decide) (by omega) (by omega)
              refine zs_iinc (pc := 44) t211_44 (ls' := [(3, .int w29v), (0, .ref 7), (1, .int a), (2, .int b), (4, .int w7x4)]) (zml mf211 (by decide)) rfl (c := w29v) w29e rfl ?_
              obtain ⟨w30v, w30e, w30⟩ := ziadd (a := w7x4) (b := Int32.ofInt 1) rfl (show (Int32.ofInt 1).toInt = 1 by decide) (by omega) (by omega)
              refine zs_iinc (pc := 47) t211_47 (ls' := [(4, .int w30v), (3, .int w29v), (0, .ref 7), (1, .int a), (2, .int b)]) (zml mf211 (by decide)) rfl (c := w30v) w30e rfl ?_
              refine zs_goto (pc := 50) t211_50 ?_
              refine zGo.locals (ls' := [(0, .ref 7), (1, .int a), (2, .int b), (3, .int w29v), (4, .int w30v)]) (by simp) ?_
              have w31 := w29
              have w32 := w30
              exact w7ih (w7m - 1) (by omega) w29v w30v ⟨by omega, by omega⟩ ⟨by omega, by omega⟩ (by omega) (by omega) (fun k hk => by obtain rfl : k = w9n + 1 := (by omega); first | exact pct.up (n := w9n) (fun k hk => w7t0 k (by omega)) (zwin.y (l := w13n) (by omega) (by omega) (by omega) (by omega)) (by omega) rfl | exact pct.no (n := w9n) (fun k hk => w7t0 k (by omega)) (zwin.n (l := w13n) (by omega) (by omega)) (by omega) rfl) (by omega)
  refine zGo.locals (ls' := [(0, .ref 7), (1, .int a), (2, .int b), (3, .int (0 : Int32)), (4, .int (0 : Int32))]) (by simp) ?_
  have w33 := li0
  have w34 := li0
  exact w7L ((60 - 0 : Int).toNat) (0 : Int32) (0 : Int32) ⟨by decide, by decide⟩ ⟨by decide, by decide⟩ (by omega) (by omega) (fun k hk => by obtain rfl : k = 0 := (by omega); rfl) (by omega)
theorem O210 {X : zX} {l : Launch} {M : zM} {Q : Option Value → zM → Prop} {a b : Int32} (hs : zSk zMc M) (hI : zIv cLo cHi M) {F : Nat → Int} (x0 : zSo M 7 F) (x1 : zWF F) (hQ : ∀ v : Int32, (zWnP F a.toInt b.toInt v.toInt) → Q (some (.int v)) M) : zCall X l 2 0 0 210 [.ref 6, .int a, .int b] M Q := by
  have ga := zrg a
  have gb := zrg b
  refine zs_in (by decide) mf210 (Nat.le_of_ble_eq_true rfl) ?_
  show zGo X l 2 0 0 210 0 [(0, .ref 6), (1, .int a), (2, .int b)] [] M _
  have f0 := x0.1
  have w1 := ib7_0 hI
  have w2 : (zI M 7 0).toInt = (zI M 7 0).toInt := (congrArg Int32.toInt rfl).trans rfl
  have w3 := ib7_3 hI
  have w4 : (zI M 7 3).toInt = (zI M 7 3).toInt := (congrArg Int32.toInt rfl).trans rfl
  have w5 := ib7_8 hI
  have w6 : (zI M 7 8).toInt = (zI M 7 8).toInt := (congrArg Int32.toInt rfl).trans rfl
  have f1 := x1.1
  have f3 := x1.2.2.2
  have f2 := (show (zI M 7 0).toInt = F 0 ∧ (zI M 7 3).toInt = F 1 ∧ (zI M 7 8).toInt = F 2 from ⟨x0.1.1, x0.1.2.1, x0.1.2.2.1⟩)
  refine zs_iload_n (pc := 0) t210_0 rfl ?_
  refine zs_iconst (pc := 1) t210_1 (v := 1) (by decide) ?_
  refine zs_sipush (pc := 2) t210_2 (v := 1000) (by decide) ?_
  refine zs_invS (pc := 5) (as := [.int a, .int (1 : Int32), .int (1000 : Int32)]) (st := []) t210_5 (by decide) mf39 rfl rfl ⟨by decide, by decide, Nat.le_of_ble_eq_true rfl, Nat.le_of_ble_eq_true rfl⟩ (zs_in (by decide) mf39 (Nat.le_of_ble_eq_true rfl) ?_) (fun _ _ q => q)
  show zGo X l 0 0 0 39 0 [(0, .int a), (1, .int (1 : Int32)), (2, .int (1000 : Int32))] [] M _
  refine zs_iload_n (pc := 0) t39_0 rfl ?_
  refine zs_iload_n (pc := 1) t39_1 rfl ?_
  by_cases w7 : a.toInt < 1
  · refine zs_icmp_ltT (pc := 2) t39_2 rfl li1 (by omega) ?_
    refine zs_iconst (pc := 14) t39_14 (v := 0) (by decide) ?_
    refine zs_iret (pc := 15) t39_15 mr39 (by decide) ?_
    show zGo X l 2 0 0 210 8 [(0, .ref 6), (1, .int a), (2, .int b)] [.int (0 : Int32)] M _
    refine zs_if_eqT (pc := 8) t210_8 li0 (by decide) ?_
    refine zs_iconst (pc := 20) t210_20 (v := -1) (by decide) ?_
    have w8 : (-1 : Int32).toInt = (-1) := lin1
    exact zs_iret (pc := 21) t210_21 mr210 (by decide) (hQ _ (Or.inl ⟨by omega, by omega⟩))
  · refine zs_icmp_ltF (pc := 2) t39_2 rfl li1 (by omega) ?_
    refine zs_iload_n (pc := 5) t39_5 rfl ?_
    refine zs_iload_n (pc := 6) t39_6 rfl ?_
    by_cases w9 : 1000 < a.toInt
    · refine zs_icmp_gtT (pc := 7) t39_7 rfl li1000 (by omega) ?_
      refine zs_iconst (pc := 14) t39_14 (v := 0) (by decide) ?_
      refine zs_iret (pc := 15) t39_15 mr39 (by decide) ?_
      show zGo X l 2 0 0 210 8 [(0, .ref 6), (1, .int a), (2, .int b)] [.int (0 : Int32)] M _
      refine zs_if_eqT (pc := 8) t210_8 li0 (by decide) ?_
      refine zs_iconst (pc := 20) t210_20 (v := -1) (by decide) ?_
      have w10 : (-1 : Int32).toInt = (-1) := lin1
      exact zs_iret (pc := 21) t210_21 mr210 (by decide) (hQ _ (Or.inl ⟨by omega, by omega⟩))
    · refine zs_icmp_gtF (pc := 7) t39_7 rfl li1000 (by omega) ?_
      refine zs_iconst (pc := 10) t39_10 (v := 1) (by decide) ?_
      refine zs_goto (pc := 11) t39_11 ?_
      refine zs_iret (pc := 15) t39_15 mr39 (by decide) ?_
      show zGo X l 2 0 0 210 8 [(0, .ref 6), (1, .int a), (2, .int b)] [.int (1 : Int32)] M _
      refine zs_if_eqF (pc := 8) t210_8 li1 (by decide) ?_
      refine zs_iload_n (pc := 11) t210_11 rfl ?_
      refine zs_iconst (pc := 12) t210_12 (v := 0) (by decide) ?_
      refine zs_iconst (pc := 13) t210_13 (v := 1) (by decide) ?_
      refine zs_invS (pc := 14) (as := [.int b, .int (0 : Int32), .int (1 : Int32)]) (st := []) t210_14 (by decide) mf39 rfl rfl ⟨by decide, by decide, Nat.le_of_ble_eq_true rfl, Nat.le_of_ble_eq_true rfl⟩ (zs_in (by decide) mf39 (Nat.le_of_ble_eq_true rfl) ?_) (fun _ _ q => q)
      show zGo X l 0 0 0 39 0 [(0, .int b), (1, .int (0 : Int32)), (2, .int (1 : Int32))] [] M _
      refine zs_iload_n (pc := 0) t39_0 rfl ?_
      refine zs_iload_n (pc := 1) t39_1 rfl ?_
      by_cases w11 : b.toInt < 0
      · refine zs_icmp_ltT (pc := 2) t39_2 rfl li0 (by omega) ?_
        refine zs_iconst (pc := 14) t39_14 (v := 0) (by decide) ?_
        refine zs_iret (pc := 15) t39_15 mr39 (by decide) ?_
        show zGo X l 2 0 0 210 17 [(0, .ref 6), (1, .int a), (2, .int b)] [.int (0 : Int32)] M _
        refine zs_if_neF (pc := 17) t210_17 li0 (by decide) ?_
        refine zs_iconst (pc := 20) t210_20 (v := -1) (by decide) ?_
        have w12 : (-1 : Int32).toInt = (-1) := lin1
        exact zs_iret (pc := 21) t210_21 mr210 (by decide) (hQ _ (Or.inl ⟨by omega, by omega⟩))
      · refine zs_icmp_ltF (pc := 2) t39_2 rfl li0 (by omega) ?_
        refine zs_iload_n (pc := 5) t39_5 rfl ?_
        refine zs_iload_n (pc := 6) t39_6 rfl ?_
        by_cases w13 : 1 < b.toInt
        · refine zs_icmp_gtT (pc := 7) t39_7 rfl li1 (by omega) ?_
          refine zs_iconst (pc := 14) t39_14 (v := 0) (by decide) ?_
          refine zs_iret (pc := 15) t39_15 mr39 (by decide) ?_
          show zGo X l 2 0 0 210 17 [(0, .ref 6), (1, .int a), (2, .int b)] [.int (0 : Int32)] M _
          refine zs_if_neF (pc := 17) t210_17 li0 (by decide) ?_
          refine zs_iconst (pc := 20) t210_20 (v := -1) (by decide) ?_
          have w14 : (-1 : Int32).toInt = (-1) := lin1
          exact zs_iret (pc := 21) t210_21 mr210 (by decide) (hQ _ (Or.inl ⟨by omega, by omega⟩))
        · refine zs_icmp_gtF (pc := 7) t39_7 rfl li1 (by omega) ?_
          refine zs_iconst (pc := 10) t39_10 (v := 1) (by decide) ?_
          refine zs_goto (pc := 11) t39_11 ?_
          refine zs_iret (pc := 15) t39_15 mr39 (by decide) ?_
          show zGo X l 2 0 0 210 17 [(0, .ref 6), (1, .int a), (2, .int b)] [.int (1 : Int32)] M _
          refine zs_if_neT (pc := 17) t210_17 li1 (by decide) ?_
          refine zs_iconst (pc := 22) t210_22 (v := 0) (by decide) ?_
          refine zs_istore_n (pc := 23) t210_23 (ls' := [(3, .int (0 : Int32)), (0, .ref 6), (1, .int a), (2, .int b)]) (zml mf210 (by decide)) rfl ?_
          refine zs_aload_n (pc := 24) t210_24 rfl ?_
          refine zs_get (pc := 25) t210_25 (by decide) (zk1 (hs.k fk_zMc_6)) (hs.p rfl fv_zMc_6_0) ?_
          refine zs_iconst (pc := 28) t210_28 (v := 0) (by decide) ?_
          refine zs_iload_n (pc := 29) t210_29 rfl ?_
          refine zs_iconst (pc := 30) t210_30 (v := 1) (by decide) ?_
          obtain ⟨w15v, w15e, w15⟩ := zisub (a := a) (b := (1 : Int32)) rfl li1 (by omega) (by omega)
          refine zs_isub (pc := 31) t210_31 (c := w15v) w15e ?_
          have w16 : (0 : Int32).toInt = 0 := li0
          have w17 : w15v.toInt = (a.toInt - 1) := w15
          refine zs_invV (pc := 32) (k := 7) (as' := [.int (0 : Int32), .int w15v]) (st := []) t210_32 mf211 rfl rfl (Or.inl ⟨by decide, (zk1 (hs.k fk_zMc_7))⟩) ⟨by decide, by decide, Nat.le_of_ble_eq_true rfl, Nat.le_of_ble_eq_true rfl⟩ (X211_7 hs hI x0 x1 ?_) (fun _ _ q => q)
          intro w18v w18x0 w18a w18b
          have w19 : (0 : Int32).toInt = 0 := li0
          have w20 : w15v.toInt = (a.toInt - 1) := w15
          have w18y : w18v.toInt = cW F a.toInt 0 := by
            rw [w18x0, show (0 : Int32).toInt = 0 by decide, show w15v.toInt = 0 + a.toInt - 1 by omega]
            rfl
          show zGo X l 2 0 0 210 35 [(3, .int (0 : Int32)), (0, .ref 6), (1, .int a), (2, .int b)] [.int w18v] M _
          refine zs_istore (pc := 35) t210_35 (ls' := [(4, .int w18v), (3, .int (0 : Int32)), (0, .ref 6), (1, .int a), (2, .int b)]) (zml mf210 (by decide)) rfl ?_
          refine zs_iconst (pc := 37) t210_37 (v := 0) (by decide) ?_
          refine zs_istore (pc := 38) t210_38 (ls' := [(5, .int (0 : Int32)), (4, .int w18v), (3, .int (0 : Int32)), (0, .ref 6), (1, .int a), (2, .int b)]) (zml mf210 (by decide)) rfl ?_
          have w21L : ∀ (m : Nat) (w21x3 : Int32) (w21x4 : Int32) (w21x5 : Int32), (0 ≤ w21x3.toInt ∧ w21x3.toInt ≤ 999) → (0 ≤ w21x4.toInt ∧ w21x4.toInt ≤ 60) → (0 ≤ w21x5.toInt ∧ w21x5.toInt ≤ 60) → (w21x5.toInt ≤ F 1) → (w21x4.toInt = cW F a.toInt w21x3.toInt ∧ 0 ≤ w21x3.toInt ∧ w21x3.toInt + a.toInt ≤ 1000 ∧ zWc F a.toInt w21x3.toInt w21x4.toInt w21x5.toInt) → 60 - w21x5.toInt ≤ (m : Int) → zGo X l 2 0 0 210 40 [(0, .ref 6), (1, .int a), (2, .int b), (3, .int w21x3), (4, .int w21x4), (5, .int w21x5)] [] M Q := by
            intro m
            induction m using Nat.strongRecOn with
            | ind w21m w21ih =>
              intro w21x3 w21x4 w21x5 w21b3 w21b4 w21b5 w21r0 w21t0 w21q
              refine zs_iload (pc := 40) t210_40 rfl ?_
              refine zs_aload_n (pc := 42) t210_42 rfl ?_
              refine zs_get (pc := 43) t210_43 (by decide) (zk1 (hs.k fk_zMc_6)) (hs.p rfl fv_zMc_6_0) ?_
              refine zs_get (pc := 46) t210_46 (by decide) (zk1 (hs.k fk_zMc_7)) (zfvi rfl rfl) ?_
              by_cases w22 : (zI M 7 3).toInt ≤ w21x5.toInt
              · refine zs_icmp_geT (pc := 49) t210_49 rfl rfl (by omega) ?_
                refine zs_iload_n (pc := 126) t210_126 rfl ?_
                by_cases w23 : b.toInt ≠ 0
                · refine zs_if_neT (pc := 127) t210_127 rfl (by omega) ?_
                  refine zs_iload (pc := 134) t210_134 rfl ?_
                  exact zs_iret (pc := 136) t210_136 mr210 rfl (hQ _ (zWnP.c (x := w21x3.toInt) (m := w21x4.toInt) (by omega) (by omega) (by omega) (by omega) (by omega) (by omega) w21t0.1 (by rw [show F 1 = w21x5.toInt by omega]; exact w21t0.2.2.2) (by omega)))
                · refine zs_if_neF (pc := 127) t210_127 rfl (by omega) ?_
                  refine zs_iload_n (pc := 130) t210_130 rfl ?_
                  refine zs_goto (pc := 131) t210_131 ?_
                  exact zs_iret (pc := 136) t210_136 mr210 rfl (hQ _ (zWnP.c (x := w21x3.toInt) (m := w21x4.toInt) (by omega) (by omega) (by omega) (by omega) (by omega) (by omega) w21t0.1 (by rw [show F 1 = w21x5.toInt by omega]; exact w21t0.2.2.2) (by omega)))
              · refine zs_icmp_geF (pc := 49) t210_49 rfl rfl (by omega) ?_
                refine zs_aload_n (pc := 52) t210_52 rfl ?_
                refine zs_get (pc := 53) t210_53 (by decide) (zk1 (hs.k fk_zMc_6)) (hs.p rfl fv_zMc_6_0) ?_
                refine zs_get (pc := 56) t210_56 (by decide) (zk1 (hs.k fk_zMc_7)) (hs.p rfl fv_zMc_7_6) ?_
                refine zs_iload (pc := 59) t210_59 rfl ?_
                obtain ⟨w24n, w24⟩ : ∃ n : Nat, w21x5.toInt = (n : Int) := ⟨(w21x5.toInt).toNat, by omega⟩
                have w25 := zrg (zI M 12 w24n)
                have w26 : (zI M 10 w24n).toInt = F (30 + 4 * w24n) ∧ (zI M 11 w24n).toInt = F (31 + 4 * w24n) ∧ (zI M 12 w24n).toInt = F (32 + 4 * w24n) ∧ (zI M 13 w24n).toInt = F (33 + 4 * w24n) := x0.2.2.1 w24n (by omega)
                have w27 := x1.2.2.1 w24n (by omega)
                refine zs_iald (pc := 61) t210_61 (j := w24n) (by decide) (zk1 (hs.k fk_zMc_12)) (show w21x5.toInt = ((w24n : Nat) : Int) by omega) (zk2 (hs.k fk_zMc_12) (by omega)) rfl ?_
                refine zs_iload_n (pc := 62) t210_62 rfl ?_
                obtain ⟨w28v, w28e, w28⟩ := zisub (a := (zI M 12 w24n)) (b := a) rfl rfl (by omega) (by omega)
                refine zs_isub (pc := 63) t210_63 (c := w28v) w28e ?_
                refine zs_iconst (pc := 64) t210_64 (v := 1) (by decide) ?_
                obtain ⟨w29v, w29e, w29⟩ := ziadd (a := w28v) (b := (1 : Int32)) w28 li1 (by omega) (by omega)
                refine zs_iadd (pc := 65) t210_65 (c := w29v) w29e ?_
                refine zs_istore (pc := 66) t210_66 (ls' := [(6, .int w29v), (0, .ref 6), (1, .int a), (2, .int b), (3, .int w21x3), (4, .int w21x4), (5, .int w21x5)]) (zml mf210 (by decide)) rfl ?_
                refine zs_iload (pc := 68) t210_68 rfl ?_
                by_cases w30 : 0 < (((zI M 12 w24n).toInt - a.toInt) + 1)
                · refine zs_if_gtT (pc := 70) t210_70 w29 (by omega) ?_
                  refine zs_aload_n (pc := 76) t210_76 rfl ?_
                  refine zs_get (pc := 77) t210_77 (by decide) (zk1 (hs.k fk_zMc_6)) (hs.p rfl fv_zMc_6_0) ?_
                  refine zs_iload (pc := 80) t210_80 rfl ?_
                  refine zs_iload (pc := 82) t210_82 rfl ?_
                  refine zs_iload_n (pc := 84) t210_84 rfl ?_
                  obtain ⟨w31v, w31e, w31⟩ := ziadd (a := w29v) (b := a) w29 rfl (by omega) (by omega)
                  refine zs_iadd (pc := 85) t210_85 (c := w31v) w31e ?_
                  refine zs_iconst (pc := 86) t210_86 (v := 1) (by decide) ?_
                  obtain ⟨w32v, w32e, w32⟩ := zisub (a := w31v) (b := (1 : Int32)) w31 li1 (by omega) (by omega)
                  refine zs_isub (pc := 87) t210_87 (c := w32v) w32e ?_
                  have w33 : w29v.toInt = (((zI M 12 w24n).toInt - a.toInt) + 1) := w29
                  have w34 : w32v.toInt = (((((zI M 12 w24n).toInt - a.toInt) + 1) + a.toInt) - 1) := w32
                  refine zs_invV (pc := 88) (k := 7) (as' := [.int w29v, .int w32v]) (st := []) t210_88 mf211 rfl rfl (Or.inl ⟨by decide, (zk1 (hs.k fk_zMc_7))⟩) ⟨by decide, by decide, Nat.le_of_ble_eq_true rfl, Nat.le_of_ble_eq_true rfl⟩ (X211_7 hs hI x0 x1 ?_) (fun _ _ q => q)
                  intro w35v w35x0 w35a w35b
                  have w36 : w29v.toInt = (((zI M 12 w24n).toInt - a.toInt) + 1) := w29
                  have w37 : w32v.toInt = (((((zI M 12 w24n).toInt - a.toInt) + 1) + a.toInt) - 1) := w32
                  have w35y : w35v.toInt = cW F a.toInt (F (32 + 4 * w24n) - a.toInt + 1) := by
                    rw [w35x0, show w29v.toInt = (F (32 + 4 * w24n) - a.toInt + 1) by omega, show w32v.toInt = (F (32 + 4 * w24n) - a.toInt + 1) + a.toInt - 1 by omega]
                    rfl
                  show zGo X l 2 0 0 210 91 [(6, .int w29v), (0, .ref 6), (1, .int a), (2, .int b), (3, .int w21x3), (4, .int w21x4), (5, .int w21x5)] [.int w35v] M _
                  refine zs_istore (pc := 91) t210_91 (ls' := [(7, .int w35v), (6, .int w29v), (0, .ref 6), (1, .int a), (2, .int b), (3, .int w21x3), (4, .int w21x4), (5, .int w21x5)]) (zml mf210 (by decide)) rfl ?_
                  refine zs_iload (pc := 93) t210_93 rfl ?_
                  refine zs_iload (pc := 95) t210_95 rfl ?_
                  by_cases w38 : w21x4.toInt < w35v.toInt
                  · refine zs_icmp_gtT (pc := 97) t210_97 rfl rfl (by omega) ?_
                    refine zs_iload (pc := 113) t210_113 rfl ?_
                    refine zs_istore (pc := 115) t210_115 (ls' := [(4, .int w35v), (7, .int w35v), (6, .int w29v), (0, .ref 6), (1, .int a), (2, .int b), (3, .int w21x3), (5, .int w21x5)]) (zml mf210 (by decide)) rfl ?_
                    refine zs_iload (pc := 117) t210_117 rfl ?_
                    refine zs_istore_n (pc := 119) t210_119 (ls' := [(3, .int w29v), (4, .int w35v), (7, .int w35v), (6, .int w29v), (0, .ref 6), (1, .int a), (2, .int b), (5, .int w21x5)]) (zml mf210 (by decide)) rfl ?_
                    obtain ⟨w39v, w39e, w39⟩ := ziadd (a := w21x5) (b := Int32.ofInt 1) rfl (show (Int32.ofInt 1).toInt = 1 by decide) (by omega) (by omega)
                    refine zs_iinc (pc := 120) t210_120 (ls' := [(5, .int w39v), (3, .int w29v), (4, .int w35v), (7, .int w35v), (6, .int w29v), (0, .ref 6), (1, .int a), (2, .int b)]) (zml mf210 (by decide)) rfl (c := w39v) w39e rfl ?_
                    refine zs_goto (pc := 123) t210_123 ?_
                    refine zGo.locals (ls' := [(0, .ref 6), (1, .int a), (2, .int b), (3, .int w29v), (4, .int w35v), (5, .int w39v)]) (by simp) ?_
                    have w40 := w29
                    have w41 := w39
                    have w42 : w29v.toInt = (((zI M 12 w24n).toInt - a.toInt) + 1) := w29
                    exact w21ih (w21m - 1) (by omega) w29v w35v w39v ⟨by omega, by omega⟩ ⟨by omega, by omega⟩ ⟨by omega, by omega⟩ (by omega) ⟨(by rw [show w29v.toInt = (F (32 + 4 * w24n) - a.toInt + 1) by omega]; omega), by omega, by omega, zWc.up (h := w24n) w21t0.2.2.2 (by omega) (by omega) (by omega) (by omega)⟩ (by omega)
                  · refine zs_icmp_gtF (pc := 97) t210_97 rfl rfl (by omega) ?_
                    refine zs_iload (pc := 100) t210_100 rfl ?_
                    refine zs_iload (pc := 102) t210_102 rfl ?_
                    by_cases w43 : w35v.toInt ≠ w21x4.toInt
                    · refine zs_icmp_neT (pc := 104) t210_104 rfl rfl (by omega) ?_
                      obtain ⟨w44v, w44e, w44⟩ := ziadd (a := w21x5) (b := Int32.ofInt 1) rfl (show (Int32.ofInt 1).toInt = 1 by decide) (by omega) (by omega)
                      refine zs_iinc (pc := 120) t210_120 (ls' := [(5, .int w44v), (7, .int w35v), (6, .int w29v), (0, .ref 6), (1, .int a), (2, .int b), (3, .int w21x3), (4, .int w21x4)]) (zml mf210 (by decide)) rfl (c := w44v) w44e rfl ?_
                      refine zs_goto (pc := 123) t210_123 ?_
                      refine zGo.locals (ls' := [(0, .ref 6), (1, .int a), (2, .int b), (3, .int w21x3), (4, .int w21x4), (5, .int w44v)]) (by simp) ?_
                      have w45 := w44
                      exact w21ih (w21m - 1) (by omega) w21x3 w21x4 w44v ⟨by omega, by omega⟩ ⟨by omega, by omega⟩ ⟨by omega, by omega⟩ (by omega) ⟨w21t0.1, by omega, by omega, zWc.up (h := w24n) w21t0.2.2.2 (by omega) (by omega) (by omega) (by omega)⟩ (by omega)
                    · refine zs_icmp_neF (pc := 104) t210_104 rfl rfl (by omega) ?_
                      refine zs_iload (pc := 107) t210_107 rfl ?_
                      refine zs_iload_n (pc := 109) t210_109 rfl ?_
                      by_cases w46 : w21x3.toInt ≤ (((zI M 12 w24n).toInt - a.toInt) + 1)
                      · refine zs_icmp_geT (pc := 110) t210_110 w29 rfl (by omega) ?_
                        obtain ⟨w47v, w47e, w47⟩ := ziadd (a := w21x5) (b := Int32.ofInt 1) rfl (show (Int32.ofInt 1).toInt = 1 by decide) (by omega) (by omega)
                        refine zs_iinc (pc := 120) t210_120 (ls' := [(5, .int w47v), (7, .int w35v), (6, .int w29v), (0, .ref 6), (1, .int a), (2, .int b), (3, .int w21x3), (4, .int w21x4)]) (zml mf210 (by decide)) rfl (c := w47v) w47e rfl ?_
                        refine zs_goto (pc := 123) t210_123 ?_
                        refine zGo.locals (ls' := [(0, .ref 6), (1, .int a), (2, .int b), (3, .int w21x3), (4, .int w21x4), (5, .int w47v)]) (by simp) ?_
                        have w48 := w47
                        exact w21ih (w21m - 1) (by omega) w21x3 w21x4 w47v ⟨by omega, by omega⟩ ⟨by omega, by omega⟩ ⟨by omega, by omega⟩ (by omega) ⟨w21t0.1, by omega, by omega, zWc.up (h := w24n) w21t0.2.2.2 (by omega) (by omega) (by omega) (by omega)⟩ (by omega)
                      · refine zs_icmp_geF (pc := 110) t210_110 w29 rfl (by omega) ?_
                        refine zs_iload (pc := 113) t210_113 rfl ?_
                        refine zs_istore (pc := 115) t210_115 (ls' := [(4, .int w35v), (7, .int w35v), (6, .int w29v), (0, .ref 6), (1, .int a), (2, .int b), (3, .int w21x3), (5, .int w21x5)]) (zml mf210 (by decide)) rfl ?_
                        refine zs_iload (pc := 117) t210_117 rfl ?_
                        refine zs_istore_n (pc := 119) t210_119 (ls' := [(3, .int w29v), (4, .int w35v), (7, .int w35v), (6, .int w29v), (0, .ref 6), (1, .int a), (2, .int b), (5, .int w21x5)]) (zml mf210 (by decide)) rfl ?_
                        obtain ⟨w49v, w49e, w49⟩ := ziadd (a := w21x5) (b := Int32.ofInt 1) rfl (show (Int32.ofInt 1).toInt = 1 by decide) (by omega) (by omega)
                        refine zs_iinc (pc := 120) t210_120 (ls' := [(5, .int w49v), (3, .int w29v), (4, .int w35v), (7, .int w35v), (6, .int w29v), (0, .ref 6), (1, .int a), (2, .int b)]) (zml mf210 (by decide)) rfl (c := w49v) w49e rfl ?_
                        refine zs_goto (pc := 123) t210_123 ?_
                        refine zGo.locals (ls' := [(0, .ref 6), (1, .int a), (2, .int b), (3, .int w29v), (4, .int w35v), (5, .int w49v)]) (by simp) ?_
                        have w50 := w29
                        have w51 := w49
                        have w52 : w29v.toInt = (((zI M 12 w24n).toInt - a.toInt) + 1) := w29
                        exact w21ih (w21m - 1) (by omega) w29v w35v w49v ⟨by omega, by omega⟩ ⟨by omega, by omega⟩ ⟨by omega, by omega⟩ (by omega) ⟨(by rw [show w29v.toInt = (F (32 + 4 * w24n) - a.toInt + 1) by omega]; omega), by omega, by omega, zWc.up (h := w24n) w21t0.2.2.2 (by omega) (by omega) (by omega) (by omega)⟩ (by omega)
                · refine zs_if_gtF (pc := 70) t210_70 w29 (by omega) ?_
                  refine zs_goto (pc := 73) t210_73 ?_
                  obtain ⟨w53v, w53e, w53⟩ := ziadd (a := w21x5) (b := Int32.ofInt 1) rfl (show (Int32.ofInt 1).toInt = 1 by decide) (by omega) (by omega)
                  refine zs_iinc (pc := 120) t210_120 (ls' := [(5, .int w53v), (6, .int w29v), (0, .ref 6), (1, .int a), (2, .int b), (3, .int w21x3), (4, .int w21x4)]) (zml mf210 (by decide)) rfl (c := w53v) w53e rfl ?_
                  refine zs_goto (pc := 123) t210_123 ?_
                  refine zGo.locals (ls' := [(0, .ref 6), (1, .int a), (2, .int b), (3, .int w21x3), (4, .int w21x4), (5, .int w53v)]) (by simp) ?_
                  have w54 := w53
                  exact w21ih (w21m - 1) (by omega) w21x3 w21x4 w53v ⟨by omega, by omega⟩ ⟨by omega, by omega⟩ ⟨by omega, by omega⟩ (by omega) ⟨w21t0.1, by omega, by omega, zWc.up (h := w24n) w21t0.2.2.2 (by omega) (by omega) (by omega) (by omega)⟩ (by omega)
          refine zGo.locals (ls' := [(0, .ref 6), (1, .int a), (2, .int b), (3, .int (0 : Int32)), (4, .int w18v), (5, .int (0 : Int32))]) (by simp) ?_
          have w55 := li0
          have w56 := li0
          exact w21L ((60 - 0 : Int).toNat) (0 : Int32) w18v (0 : Int32) ⟨by decide, by decide⟩ ⟨by omega, by omega⟩ ⟨by decide, by decide⟩ (by omega) ⟨(by rw [show (0 : Int32).toInt = 0 from li0]; omega), by omega, by omega, zWc.z (by omega) (by omega) (by omega)⟩ (by omega)
theorem X220_6 {X : zX} {l : Launch} {M : zM} {Q : Option Value → zM → Prop} {a : Int32} (hs : zSk zMc M) (hI : zIv cLo cHi M) {c : zWt} (ha : 0 ≤ a.toInt ∧ a.toInt ≤ 65535) (u0 : a.toInt ≤ 127) (u1 : (zI M 6 10).toInt ≤ 127) (x0 : zWr M 6 10 335 c) (hQ : ∀ M', zSk zMc M' → zIv cLo cHi M' → zFr [(6, 6, some 10), (335, 335, none)] M M' → ((zI M' 6 10).toInt = (zI M 6 10).toInt + 1) → (zWr M' 6 10 335 (wS c a.toInt)) → Q none M') : zCall X l 0 0 0 220 [.ref 6, .int a] M Q := by
  have ga := zrg a
  refine zs_in (by decide) mf220 (Nat.le_of_ble_eq_true rfl) ?_
  show zGo X l 0 0 0 220 0 [(0, .ref 6), (1, .int a)] [] M _
  have g0 := x0.1
  refine zs_aload_n (pc := 0) t220_0 rfl ?_
  have w1 := ib6_10 hI
  refine zs_get (pc := 1) t220_1 (by decide) (zk1 (hs.k fk_zMc_6)) (zfvi rfl rfl) ?_
  refine zs_sipush (pc := 4) t220_4 (v := 128) (by decide) ?_
  refine zs_icmp_geF (pc := 7) t220_7 rfl li128 (by omega) ?_
  refine zs_aload_n (pc := 10) t220_10 rfl ?_
  refine zs_get (pc := 11) t220_11 (by decide) (zk1 (hs.k fk_zMc_6)) (hs.p rfl fv_zMc_6_9) ?_
  refine zs_aload_n (pc := 14) t220_14 rfl ?_
  refine zs_get (pc := 15) t220_15 (by decide) (zk1 (hs.k fk_zMc_6)) (zfvi rfl rfl) ?_
  refine zs_iload_n (pc := 18) t220_18 rfl ?_
  obtain ⟨w2v, w2e⟩ : ∃ v, a.toInt8.toInt32 = v := ⟨_, rfl⟩
  have w2x := zi2b rfl (by omega) (by omega) w2e
  have w2 : (-128) ≤ w2v.toInt ∧ w2v.toInt ≤ 127 := by rw [← w2e]; exact znb _
  refine zs_i2b (pc := 19) t220_19 (c := w2v) w2e ?_
  obtain ⟨w3n, w3⟩ : ∃ n : Nat, (zI M 6 10).toInt = (n : Int) := ⟨((zI M 6 10).toInt).toNat, by omega⟩
  obtain ⟨w4v, w4e⟩ : ∃ v, vp_nar .byte w2v = v := ⟨_, rfl⟩
  have w4 : -128 ≤ w4v.toInt ∧ w4v.toInt ≤ 127 := by rw [← w4e]; exact znb _
  have w5 : zIv cLo cHi (zsI M 335 w3n w4v) := zIv.put hI (show (-128) ≤ w4v.toInt ∧ w4v.toInt ≤ 127 from ⟨by omega, by omega⟩)
  refine zs_bastB (pc := 20) t220_20 (j := w3n) (by decide) (zk1 (hs.k fk_zMc_335)) (show (zI M 6 10).toInt = ((w3n : Nat) : Int) by omega) (zk2 (hs.k fk_zMc_335) (by omega)) w4e ?_
  refine zs_aload_n (pc := 21) t220_21 rfl ?_
  refine zs_dup (pc := 22) t220_22 rfl ?_
  refine zs_get (pc := 23) t220_23 (by decide) (zk1 (hs.k fk_zMc_6)) (zfvi rfl ((zIo (by decide)).trans rfl)) ?_
  refine zs_iconst (pc := 26) t220_26 (v := 1) (by decide) ?_
  obtain ⟨w6v, w6e, w6⟩ := ziadd (a := (zI M 6 10)) (b := (1 : Int32)) rfl li1 (by omega) (by omega)
  refine zs_iadd (pc := 27) t220_27 (c := w6v) w6e ?_
  have w7 : zIv cLo cHi (zsI (zsI M 335 w3n w4v) 6 10 w6v) := zIv.put w5 (show 0 ≤ w6v.toInt ∧ w6v.toInt ≤ 128 from ⟨by omega, by omega⟩)
  refine zs_putI (pc := 28) t220_28 (zk1 (hs.k fk_zMc_6)) rfl ?_
  have w8 : (zI (zsI (zsI M 335 w3n w4v) 6 10 w6v) 6 10).toInt = ((zI M 6 10).toInt + 1) := (congrArg Int32.toInt zIs).trans w6
  have w10 : w6v.toInt = ((zI M 6 10).toInt + 1) := w6
  have w9 : w4v.toInt = a.toInt := by rw [← w4e, znar (by omega) (by omega)]; omega
  exact zs_vret (pc := 31) t220_31 mr220 (hQ _ hs w7 (((zFr.refl).put rfl).put rfl) (by omega) (zWr.put (n := w3n) x0 (by decide) (by omega) w9 (by omega) (by omega) (by omega)))
theorem X221_6 {X : zX} {l : Launch} {M : zM} {Q : Option Value → zM → Prop} {a : Int32} (hs : zSk zMc M) (hI : zIv cLo cHi M) {c : zWt} (ha : 0 ≤ a.toInt ∧ a.toInt ≤ 9999) (u0 : (zI M 6 10).toInt ≤ 123) (x0 : zWr M 6 10 335 c) (hQ : ∀ M', zSk zMc M' → zIv cLo cHi M' → zFr [(6, 6, some 10), (335, 335, none)] M M' → ((zI M' 6 10).toInt ≤ (zI M 6 10).toInt + 4) → (zWr M' 6 10 335 (wN c a.toInt)) → Q none M') : zCall X l 1 0 0 221 [.ref 6, .int a] M Q := by
  have ga := zrg a
  refine zs_in (by decide) mf221 (Nat.le_of_ble_eq_true rfl) ?_
  show zGo X l 1 0 0 221 0 [(0, .ref 6), (1, .int a)] [] M _
  refine zs_sipush (pc := 0) t221_0 (v := 1000) (by decide) ?_
  refine zs_istore_n (pc := 3) t221_3 (ls' := [(2, .int (1000 : Int32)), (0, .ref 6), (1, .int a)]) (zml mf221 (by decide)) rfl ?_
  refine zs_iload_n (pc := 4) t221_4 rfl ?_
  refine zs_iconst (pc := 5) t221_5 (v := 1) (by decide) ?_
  refine zs_icmp_ltF (pc := 6) t221_6 li1000 li1 (by decide) ?_
  refine zs_iload_n (pc := 9) t221_9 rfl ?_
  refine zs_iload_n (pc := 10) t221_10 rfl ?_
  by_cases w1 : 1000 ≤ a.toInt
  · refine zs_icmp_geT (pc := 11) t221_11 rfl li1000 (by omega) ?_
    refine zs_aload_n (pc := 19) t221_19 rfl ?_
    refine zs_bipush (pc := 20) t221_20 (v := 48) (by decide) ?_
    refine zs_iload_n (pc := 22) t221_22 rfl ?_
    refine zs_iload_n (pc := 23) t221_23 rfl ?_
    obtain ⟨w2v, w2⟩ : ∃ v, a / (1000 : Int32) = v := ⟨_, rfl⟩
    have w2g : w2v.toInt = a.toInt / 1000 := by rw [← w2]; exact zdivp rfl li1000 (by omega) (by decide)
    refine zs_idiv (pc := 24) t221_24 (by decide) (c := w2v) w2 ?_
    refine zs_bipush (pc := 25) t221_25 (v := 10) (by decide) ?_
    obtain ⟨w3v, w3⟩ : ∃ v, w2v - w2v / (10 : Int32) * (10 : Int32) = v := ⟨_, rfl⟩
    have w3g : 0 ≤ w3v.toInt ∧ w3v.toInt ≤ 9 := by rw [← w3]; exact zrem rfl li10 (by omega) (by decide)
    have w3r : w3v.toInt = w2v.toInt % 10 := by rw [← w3]; exact zremE rfl li10 (by omega) (by decide)
    refine zs_irem (pc := 27) t221_27 (by decide) (c := w3v) w3 ?_
    obtain ⟨w4v, w4e, w4⟩ := ziadd (a := (48 : Int32)) (b := w3v) li48 rfl (by omega) (by omega)
    refine zs_iadd (pc := 28) t221_28 (c := w4v) w4e ?_
    obtain ⟨w5v, w5e⟩ : ∃ v, (w4v.toUInt32 % 65536).toInt32 = v := ⟨_, rfl⟩
    have w5 : w5v.toInt = (48 + w3v.toInt) := zi2c w4 (by omega) (by omega) w5e
    refine zs_i2c (pc := 29) t221_29 (c := w5v) w5e ?_
    have w6 : w5v.toInt = (48 + w3v.toInt) := w5
    have w7 : w5v.toInt = (48 + w3v.toInt) := w5
    have w8 := ib6_10 hI
    have w9 : (zI M 6 10).toInt = (zI M 6 10).toInt := (congrArg Int32.toInt rfl).trans rfl
    have w10 : (zI M 6 10).toInt = (zI M 6 10).toInt := (congrArg Int32.toInt rfl).trans rfl
    refine zs_invV (pc := 30) (k := 6) (as' := [.int w5v]) (st := []) t221_30 mf220 rfl rfl (Or.inl ⟨by decide, (zk1 (hs.k fk_zMc_6))⟩) ⟨by decide, by decide, Nat.le_of_ble_eq_true rfl, Nat.le_of_ble_eq_true rfl⟩ (X220_6 hs hI ⟨by omega, by omega⟩ (by omega) (by omega) x0 ?_) (fun _ _ q => q)
    intro w11M w11s w11I w11F w11t0 w11x0
    have w12 := ib6_10 w11I
    show zGo X l 1 0 0 221 33 [(2, .int (1000 : Int32)), (0, .ref 6), (1, .int a)] [] w11M _
    have w11y : zWr w11M 6 10 335 (wS c (48 + a.toInt / 1000 % 10)) := by
      have q := w11x0
      rw [show w5v.toInt = (48 + a.toInt / 1000 % 10) by first | decide | omega] at q
      exact q
    refine zs_iload_n (pc := 33) t221_33 rfl ?_
    refine zs_bipush (pc := 34) t221_34 (v := 10) (by decide) ?_
    refine zs_idiv (pc := 36) t221_36 (by decide) (c := 100) (by decide) ?_
    refine zs_istore_n (pc := 37) t221_37 (ls' := [(2, .int (100 : Int32)), (0, .ref 6), (1, .int a)]) (zml mf221 (by decide)) rfl ?_
    refine zs_goto (pc := 38) t221_38 ?_
    refine zs_iload_n (pc := 4) t221_4 rfl ?_
    refine zs_iconst (pc := 5) t221_5 (v := 1) (by decide) ?_
    refine zs_icmp_ltF (pc := 6) t221_6 li100 li1 (by decide) ?_
    refine zs_iload_n (pc := 9) t221_9 rfl ?_
    refine zs_iload_n (pc := 10) t221_10 rfl ?_
    refine zs_icmp_geT (pc := 11) t221_11 rfl li100 (by omega) ?_
    refine zs_aload_n (pc := 19) t221_19 rfl ?_
    refine zs_bipush (pc := 20) t221_20 (v := 48) (by decide) ?_
    refine zs_iload_n (pc := 22) t221_22 rfl ?_
    refine zs_iload_n (pc := 23) t221_23 rfl ?_
    obtain ⟨w13v, w13⟩ : ∃ v, a / (100 : Int32) = v := ⟨_, rfl⟩
    have w13g : w13v.toInt = a.toInt / 100 := by rw [← w13]; exact zdivp rfl li100 (by omega) (by decide)
    refine zs_idiv (pc := 24) t221_24 (by decide) (c := w13v) w13 ?_
    refine zs_bipush (pc := 25) t221_25 (v := 10) (by decide) ?_
    obtain ⟨w14v, w14⟩ : ∃ v, w13v - w13v / (10 : Int32) * (10 : Int32) = v := ⟨_, rfl⟩
    have w14g : 0 ≤ w14v.toInt ∧ w14v.toInt ≤ 9 := by rw [← w14]; exact zrem rfl li10 (by omega) (by decide)
    have w14r : w14v.toInt = w13v.toInt % 10 := by rw [← w14]; exact zremE rfl li10 (by omega) (by decide)
    refine zs_irem (pc := 27) t221_27 (by decide) (c := w14v) w14 ?_
    obtain ⟨w15v, w15e, w15⟩ := ziadd (a := (48 : Int32)) (b := w14v) li48 rfl (by omega) (by omega)
    refine zs_iadd (pc := 28) t221_28 (c := w15v) w15e ?_
    obtain ⟨w16v, w16e⟩ : ∃ v, (w15v.toUInt32 % 65536).toInt32 = v := ⟨_, rfl⟩
    have w16 : w16v.toInt = (48 + w14v.toInt) := zi2c w15 (by omega) (by omega) w16e
    refine zs_i2c (pc := 29) t221_29 (c := w16v) w16e ?_
    have w17 : w16v.toInt = (48 + w14v.toInt) := w16
    have w18 : w16v.toInt = (48 + w14v.toInt) := w16
    have w19 : (zI w11M 6 10).toInt = (zI w11M 6 10).toInt := (congrArg Int32.toInt rfl).trans rfl
    have w20 : (zI w11M 6 10).toInt = (zI w11M 6 10).toInt := (congrArg Int32.toInt rfl).trans rfl
    refine zs_invV (pc := 30) (k := 6) (as' := [.int w16v]) (st := []) t221_30 mf220 rfl rfl (Or.inl ⟨by decide, (zk1 (w11s.k fk_zMc_6))⟩) ⟨by decide, by decide, Nat.le_of_ble_eq_true rfl, Nat.le_of_ble_eq_true rfl⟩ (X220_6 w11s w11I ⟨by omega, by omega⟩ (by omega) (by omega) w11y ?_) (fun _ _ q => q)
    intro w21M w21s w21I w21F w21t0 w21x0
    have w22 := ib6_10 w21I
    show zGo X l 1 0 0 221 33 [(2, .int (100 : Int32)), (0, .ref 6), (1, .int a)] [] w21M _
    have w21y : zWr w21M 6 10 335 (wS (wS c (48 + a.toInt / 1000 % 10)) (48 + a.toInt / 100 % 10)) := by
      have q := w21x0
      rw [show w16v.toInt = (48 + a.toInt / 100 % 10) by first | decide | omega] at q
      exact q
    refine zs_iload_n (pc := 33) t221_33 rfl ?_
    refine zs_bipush (pc := 34) t221_34 (v := 10) (by decide) ?_
    refine zs_idiv (pc := 36) t221_36 (by decide) (c := 10) (by decide) ?_
    refine zs_istore_n (pc := 37) t221_37 (ls' := [(2, .int (10 : Int32)), (0, .ref 6), (1, .int a)]) (zml mf221 (by decide)) rfl ?_
    refine zs_goto (pc := 38) t221_38 ?_
    refine zs_iload_n (pc := 4) t221_4 rfl ?_
    refine zs_iconst (pc := 5) t221_5 (v := 1) (by decide) ?_
    refine zs_icmp_ltF (pc := 6) t221_6 li10 li1 (by decide) ?_
    refine zs_iload_n (pc := 9) t221_9 rfl ?_
    refine zs_iload_n (pc := 10) t221_10 rfl ?_
    refine zs_icmp_geT (pc := 11) t221_11 rfl li10 (by omega) ?_
    refine zs_aload_n (pc := 19) t221_19 rfl ?_
    refine zs_bipush (pc := 20) t221_20 (v := 48) (by decide) ?_
    refine zs_iload_n (pc := 22) t221_22 rfl ?_
    refine zs_iload_n (pc := 23) t221_23 rfl ?_
    obtain ⟨w23v, w23⟩ : ∃ v, a / (10 : Int32) = v := ⟨_, rfl⟩
    have w23g : w23v.toInt = a.toInt / 10 := by rw [← w23]; exact zdivp rfl li10 (by omega) (by decide)
    refine zs_idiv (pc := 24) t221_24 (by decide) (c := w23v) w23 ?_
    refine zs_bipush (pc := 25) t221_25 (v := 10) (by decide) ?_
    obtain ⟨w24v, w24⟩ : ∃ v, w23v - w23v / (10 : Int32) * (10 : Int32) = v := ⟨_, rfl⟩
    have w24g : 0 ≤ w24v.toInt ∧ w24v.toInt ≤ 9 := by rw [← w24]; exact zrem rfl li10 (by omega) (by decide)
    have w24r : w24v.toInt = w23v.toInt % 10 := by rw [← w24]; exact zremE rfl li10 (by omega) (by decide)
    refine zs_irem (pc := 27) t221_27 (by decide) (c := w24v) w24 ?_
    obtain ⟨w25v, w25e, w25⟩ := ziadd (a := (48 : Int32)) (b := w24v) li48 rfl (by omega) (by omega)
    refine zs_iadd (pc := 28) t221_28 (c := w25v) w25e ?_
    obtain ⟨w26v, w26e⟩ : ∃ v, (w25v.toUInt32 % 65536).toInt32 = v := ⟨_, rfl⟩
    have w26 : w26v.toInt = (48 + w24v.toInt) := zi2c w25 (by omega) (by omega) w26e
    refine zs_i2c (pc := 29) t221_29 (c := w26v) w26e ?_
    have w27 : w26v.toInt = (48 + w24v.toInt) := w26
    have w28 : w26v.toInt = (48 + w24v.toInt) := w26
    have w29 : (zI w21M 6 10).toInt = (zI w21M 6 10).toInt := (congrArg Int32.toInt rfl).trans rfl
    have w30 : (zI w21M 6 10).toInt = (zI w21M 6 10).toInt := (congrArg Int32.toInt rfl).trans rfl
    refine zs_invV (pc := 30) (k := 6) (as' := [.int w26v]) (st := []) t221_30 mf220 rfl rfl (Or.inl ⟨by decide, (zk1 (w21s.k fk_zMc_6))⟩) ⟨by decide, by decide, Nat.le_of_ble_eq_true rfl, Nat.le_of_ble_eq_true rfl⟩ (X220_6 w21s w21I ⟨by omega, by omega⟩ (by omega) (by omega) w21y ?_) (fun _ _ q => q)
    intro w31M w31s w31I w31F w31t0 w31x0
    have w32 := ib6_10 w31I
    show zGo X l 1 0 0 221 33 [(2, .int (10 : Int32)), (0, .ref 6), (1, .int a)] [] w31M _
    have w31y : zWr w31M 6 10 335 (wS (wS (wS c (48 + a.toInt / 1000 % 10)) (48 + a.toInt / 100 % 10)) (48 + a.toInt / 10 % 10)) := by
      have q := w31x0
      rw [show w26v.toInt = (48 + a.toInt / 10 % 10) by first | decide | omega] at q
      exact q
    refine zs_iload_n (pc := 33) t221_33 rfl ?_
    refine zs_bipush (pc := 34) t221_34 (v := 10) (by decide) ?_
    refine zs_idiv (pc := 36) t221_36 (by decide) (c := 1) (by decide) ?_
    refine zs_istore_n (pc := 37) t221_37 (ls' := [(2, .int (1 : Int32)), (0, .ref 6), (1, .int a)]) (zml mf221 (by decide)) rfl ?_
    refine zs_goto (pc := 38) t221_38 ?_
    refine zs_iload_n (pc := 4) t221_4 rfl ?_
    refine zs_iconst (pc := 5) t221_5 (v := 1) (by decide) ?_
    refine zs_icmp_ltF (pc := 6) t221_6 li1 li1 (by decide) ?_
    refine zs_iload_n (pc := 9) t221_9 rfl ?_
    refine zs_iload_n (pc := 10) t221_10 rfl ?_
    refine zs_icmp_geT (pc := 11) t221_11 rfl li1 (by omega) ?_
    refine zs_aload_n (pc := 19) t221_19 rfl ?_
    refine zs_bipush (pc := 20) t221_20 (v := 48) (by decide) ?_
    refine zs_iload_n (pc := 22) t221_22 rfl ?_
    refine zs_iload_n (pc := 23) t221_23 rfl ?_
    obtain ⟨w33v, w33⟩ : ∃ v, a / (1 : Int32) = v := ⟨_, rfl⟩
    have w33g : w33v.toInt = a.toInt / 1 := by rw [← w33]; exact zdivp rfl li1 (by omega) (by decide)
    refine zs_idiv (pc := 24) t221_24 (by decide) (c := w33v) w33 ?_
    refine zs_bipush (pc := 25) t221_25 (v := 10) (by decide) ?_
    obtain ⟨w34v, w34⟩ : ∃ v, w33v - w33v / (10 : Int32) * (10 : Int32) = v := ⟨_, rfl⟩
    have w34g : 0 ≤ w34v.toInt ∧ w34v.toInt ≤ 9 := by rw [← w34]; exact zrem rfl li10 (by omega) (by decide)
    have w34r : w34v.toInt = w33v.toInt % 10 := by rw [← w34]; exact zremE rfl li10 (by omega) (by decide)
    refine zs_irem (pc := 27) t221_27 (by decide) (c := w34v) w34 ?_
    obtain ⟨w35v, w35e, w35⟩ := ziadd (a := (48 : Int32)) (b := w34v) li48 rfl (by omega) (by omega)
    refine zs_iadd (pc := 28) t221_28 (c := w35v) w35e ?_
    obtain ⟨w36v, w36e⟩ : ∃ v, (w35v.toUInt32 % 65536).toInt32 = v := ⟨_, rfl⟩
    have w36 : w36v.toInt = (48 + w34v.toInt) := zi2c w35 (by omega) (by omega) w36e
    refine zs_i2c (pc := 29) t221_29 (c := w36v) w36e ?_
    have w37 : w36v.toInt = (48 + w34v.toInt) := w36
    have w38 : w36v.toInt = (48 + w34v.toInt) := w36
    have w39 : (zI w31M 6 10).toInt = (zI w31M 6 10).toInt := (congrArg Int32.toInt rfl).trans rfl
    have w40 : (zI w31M 6 10).toInt = (zI w31M 6 10).toInt := (congrArg Int32.toInt rfl).trans rfl
    refine zs_invV (pc := 30) (k := 6) (as' := [.int w36v]) (st := []) t221_30 mf220 rfl rfl (Or.inl ⟨by decide, (zk1 (w31s.k fk_zMc_6))⟩) ⟨by decide, by decide, Nat.le_of_ble_eq_true rfl, Nat.le_of_ble_eq_true rfl⟩ (X220_6 w31s w31I ⟨by omega, by omega⟩ (by omega) (by omega) w31y ?_) (fun _ _ q => q)
    intro w41M w41s w41I w41F w41t0 w41x0
    have w42 := ib6_10 w41I
    show zGo X l 1 0 0 221 33 [(2, .int (1 : Int32)), (0, .ref 6), (1, .int a)] [] w41M _
    have w41y : zWr w41M 6 10 335 (wS (wS (wS (wS c (48 + a.toInt / 1000 % 10)) (48 + a.toInt / 100 % 10)) (48 + a.toInt / 10 % 10)) (48 + a.toInt / 1 % 10)) := by
      have q := w41x0
      rw [show w36v.toInt = (48 + a.toInt / 1 % 10) by first | decide | omega] at q
      exact q
    refine zs_iload_n (pc := 33) t221_33 rfl ?_
    refine zs_bipush (pc := 34) t221_34 (v := 10) (by decide) ?_
    refine zs_idiv (pc := 36) t221_36 (by decide) (c := 0) (by decide) ?_
    refine zs_istore_n (pc := 37) t221_37 (ls' := [(2, .int (0 : Int32)), (0, .ref 6), (1, .int a)]) (zml mf221 (by decide)) rfl ?_
    refine zs_goto (pc := 38) t221_38 ?_
    refine zs_iload_n (pc := 4) t221_4 rfl ?_
    refine zs_iconst (pc := 5) t221_5 (v := 1) (by decide) ?_
    refine zs_icmp_ltT (pc := 6) t221_6 li0 li1 (by decide) ?_
    have w43 : (zI w41M 6 10).toInt = (zI w41M 6 10).toInt := (congrArg Int32.toInt rfl).trans rfl
    exact zs_vret (pc := 41) t221_41 mr221 (hQ _ w41s w41I (((((zFr.refl).trans (w11F.mono rfl)).trans (w21F.mono rfl)).trans (w31F.mono rfl)).trans (w41F.mono rfl)) (by omega) (by rw [wN.k4 (by omega)]; exact w41y))
  · refine zs_icmp_geF (pc := 11) t221_11 rfl li1000 (by omega) ?_
    refine zs_iload_n (pc := 14) t221_14 rfl ?_
    refine zs_iconst (pc := 15) t221_15 (v := 1) (by decide) ?_
    refine zs_icmp_neT (pc := 16) t221_16 li1000 li1 (by decide) ?_
    refine zs_iload_n (pc := 33) t221_33 rfl ?_
    refine zs_bipush (pc := 34) t221_34 (v := 10) (by decide) ?_
    refine zs_idiv (pc := 36) t221_36 (by decide) (c := 100) (by decide) ?_
    refine zs_istore_n (pc := 37) t221_37 (ls' := [(2, .int (100 : Int32)), (0, .ref 6), (1, .int a)]) (zml mf221 (by decide)) rfl ?_
    refine zs_goto (pc := 38) t221_38 ?_
    refine zs_iload_n (pc := 4) t221_4 rfl ?_
    refine zs_iconst (pc := 5) t221_5 (v := 1) (by decide) ?_
    refine zs_icmp_ltF (pc := 6) t221_6 li100 li1 (by decide) ?_
    refine zs_iload_n (pc := 9) t221_9 rfl ?_
    refine zs_iload_n (pc := 10) t221_10 rfl ?_
    by_cases w44 : 100 ≤ a.toInt
    · refine zs_icmp_geT (pc := 11) t221_11 rfl li100 (by omega) ?_
      refine zs_aload_n (pc := 19) t221_19 rfl ?_
      refine zs_bipush (pc := 20) t221_20 (v := 48) (by decide) ?_
      refine zs_iload_n (pc := 22) t221_22 rfl ?_
      refine zs_iload_n (pc := 23) t221_23 rfl ?_
      obtain ⟨w45v, w45⟩ : ∃ v, a / (100 : Int32) = v := ⟨_, rfl⟩
      have w45g : w45v.toInt = a.toInt / 100 := by rw [← w45]; exact zdivp rfl li100 (by omega) (by decide)
      refine zs_idiv (pc := 24) t221_24 (by decide) (c := w45v) w45 ?_
      refine zs_bipush (pc := 25) t221_25 (v := 10) (by decide) ?_
      obtain ⟨w46v, w46⟩ : ∃ v, w45v - w45v / (10 : Int32) * (10 : Int32) = v := ⟨_, rfl⟩
      have w46g : 0 ≤ w46v.toInt ∧ w46v.toInt ≤ 9 := by rw [← w46]; exact zrem rfl li10 (by omega) (by decide)
      have w46r : w46v.toInt = w45v.toInt % 10 := by rw [← w46]; exact zremE rfl li10 (by omega) (by decide)
      refine zs_irem (pc := 27) t221_27 (by decide) (c := w46v) w46 ?_
      obtain ⟨w47v, w47e, w47⟩ := ziadd (a := (48 : Int32)) (b := w46v) li48 rfl (by omega) (by omega)
      refine zs_iadd (pc := 28) t221_28 (c := w47v) w47e ?_
      obtain ⟨w48v, w48e⟩ : ∃ v, (w47v.toUInt32 % 65536).toInt32 = v := ⟨_, rfl⟩
      have w48 : w48v.toInt = (48 + w46v.toInt) := zi2c w47 (by omega) (by omega) w48e
      refine zs_i2c (pc := 29) t221_29 (c := w48v) w48e ?_
      have w49 : w48v.toInt = (48 + w46v.toInt) := w48
      have w50 : w48v.toInt = (48 + w46v.toInt) := w48
      have w51 := ib6_10 hI
      have w52 : (zI M 6 10).toInt = (zI M 6 10).toInt := (congrArg Int32.toInt rfl).trans rfl
      have w53 : (zI M 6 10).toInt = (zI M 6 10).toInt := (congrArg Int32.toInt rfl).trans rfl
      refine zs_invV (pc := 30) (k := 6) (as' := [.int w48v]) (st := []) t221_30 mf220 rfl rfl (Or.inl ⟨by decide, (zk1 (hs.k fk_zMc_6))⟩) ⟨by decide, by decide, Nat.le_of_ble_eq_true rfl, Nat.le_of_ble_eq_true rfl⟩ (X220_6 hs hI ⟨by omega, by omega⟩ (by omega) (by omega) x0 ?_) (fun _ _ q => q)
      intro w54M w54s w54I w54F w54t0 w54x0
      have w55 := ib6_10 w54I
      show zGo X l 1 0 0 221 33 [(2, .int (100 : Int32)), (0, .ref 6), (1, .int a)] [] w54M _
      have w54y : zWr w54M 6 10 335 (wS c (48 + a.toInt / 100 % 10)) := by
        have q := w54x0
        rw [show w48v.toInt = (48 + a.toInt / 100 % 10) by first | decide | omega] at q
        exact q
      refine zs_iload_n (pc := 33) t221_33 rfl ?_
      refine zs_bipush (pc := 34) t221_34 (v := 10) (by decide) ?_
      refine zs_idiv (pc := 36) t221_36 (by decide) (c := 10) (by decide) ?_
      refine zs_istore_n (pc := 37) t221_37 (ls' := [(2, .int (10 : Int32)), (0, .ref 6), (1, .int a)]) (zml mf221 (by decide)) rfl ?_
      refine zs_goto (pc := 38) t221_38 ?_
      refine zs_iload_n (pc := 4) t221_4 rfl ?_
      refine zs_iconst (pc := 5) t221_5 (v := 1) (by decide) ?_
      refine zs_icmp_ltF (pc := 6) t221_6 li10 li1 (by decide) ?_
      refine zs_iload_n (pc := 9) t221_9 rfl ?_
      refine zs_iload_n (pc := 10) t221_10 rfl ?_
      refine zs_icmp_geT (pc := 11) t221_11 rfl li10 (by omega) ?_
      refine zs_aload_n (pc := 19) t221_19 rfl ?_
      refine zs_bipush (pc := 20) t221_20 (v := 48) (by decide) ?_
      refine zs_iload_n (pc := 22) t221_22 rfl ?_
      refine zs_iload_n (pc := 23) t221_23 rfl ?_
      obtain ⟨w56v, w56⟩ : ∃ v, a / (10 : Int32) = v := ⟨_, rfl⟩
      have w56g : w56v.toInt = a.toInt / 10 := by rw [← w56]; exact zdivp rfl li10 (by omega) (by decide)
      refine zs_idiv (pc := 24) t221_24 (by decide) (c := w56v) w56 ?_
      refine zs_bipush (pc := 25) t221_25 (v := 10) (by decide) ?_
      obtain ⟨w57v, w57⟩ : ∃ v, w56v - w56v / (10 : Int32) * (10 : Int32) = v := ⟨_, rfl⟩
      have w57g : 0 ≤ w57v.toInt ∧ w57v.toInt ≤ 9 := by rw [← w57]; exact zrem rfl li10 (by omega) (by decide)
      have w57r : w57v.toInt = w56v.toInt % 10 := by rw [← w57]; exact zremE rfl li10 (by omega) (by decide)
      refine zs_irem (pc := 27) t221_27 (by decide) (c := w57v) w57 ?_
      obtain ⟨w58v, w58e, w58⟩ := ziadd (a := (48 : Int32)) (b := w57v) li48 rfl (by omega) (by omega)
      refine zs_iadd (pc := 28) t221_28 (c := w58v) w58e ?_
      obtain ⟨w59v, w59e⟩ : ∃ v, (w58v.toUInt32 % 65536).toInt32 = v := ⟨_, rfl⟩
      have w59 : w59v.toInt = (48 + w57v.toInt) := zi2c w58 (by omega) (by omega) w59e
      refine zs_i2c (pc := 29) t221_29 (c := w59v) w59e ?_
      have w60 : w59v.toInt = (48 + w57v.toInt) := w59
      have w61 : w59v.toInt = (48 + w57v.toInt) := w59
      have w62 : (zI w54M 6 10).toInt = (zI w54M 6 10).toInt := (congrArg Int32.toInt rfl).trans rfl
      have w63 : (zI w54M 6 10).toInt = (zI w54M 6 10).toInt := (congrArg Int32.toInt rfl).trans rfl
      refine zs_invV (pc := 30) (k := 6) (as' := [.int w59v]) (st := []) t221_30 mf220 rfl rfl (Or.inl ⟨by decide, (zk1 (w54s.k fk_zMc_6))⟩) ⟨by decide, by decide, Nat.le_of_ble_eq_true rfl, Nat.le_of_ble_eq_true rfl⟩ (X220_6 w54s w54I ⟨by omega, by omega⟩ (by omega) (by omega) w54y ?_) (fun _ _ q => q)
      intro w64M w64s w64I w64F w64t0 w64x0
      have w65 := ib6_10 w64I
      show zGo X l 1 0 0 221 33 [(2, .int (10 : Int32)), (0, .ref 6), (1, .int a)] [] w64M _
      have w64y : zWr w64M 6 10 335 (wS (wS c (48 + a.toInt / 100 % 10)) (48 + a.toInt / 10 % 10)) := by
        have q := w64x0
        rw [show w59v.toInt = (48 + a.toInt / 10 % 10) by first | decide | omega] at q
        exact q
      refine zs_iload_n (pc := 33) t221_33 rfl ?_
      refine zs_bipush (pc := 34) t221_34 (v := 10) (by decide) ?_
      refine zs_idiv (pc := 36) t221_36 (by decide) (c := 1) (by decide) ?_
      refine zs_istore_n (pc := 37) t221_37 (ls' := [(2, .int (1 : Int32)), (0, .ref 6), (1, .int a)]) (zml mf221 (by decide)) rfl ?_
      refine zs_goto (pc := 38) t221_38 ?_
      refine zs_iload_n (pc := 4) t221_4 rfl ?_
      refine zs_iconst (pc := 5) t221_5 (v := 1) (by decide) ?_
      refine zs_icmp_ltF (pc := 6) t221_6 li1 li1 (by decide) ?_
      refine zs_iload_n (pc := 9) t221_9 rfl ?_
      refine zs_iload_n (pc := 10) t221_10 rfl ?_
      refine zs_icmp_geT (pc := 11) t221_11 rfl li1 (by omega) ?_
      refine zs_aload_n (pc := 19) t221_19 rfl ?_
      refine zs_bipush (pc := 20) t221_20 (v := 48) (by decide) ?_
      refine zs_iload_n (pc := 22) t221_22 rfl ?_
      refine zs_iload_n (pc := 23) t221_23 rfl ?_
      obtain ⟨w66v, w66⟩ : ∃ v, a / (1 : Int32) = v := ⟨_, rfl⟩
      have w66g : w66v.toInt = a.toInt / 1 := by rw [← w66]; exact zdivp rfl li1 (by omega) (by decide)
      refine zs_idiv (pc := 24) t221_24 (by decide) (c := w66v) w66 ?_
      refine zs_bipush (pc := 25) t221_25 (v := 10) (by decide) ?_
      obtain ⟨w67v, w67⟩ : ∃ v, w66v - w66v / (10 : Int32) * (10 : Int32) = v := ⟨_, rfl⟩
      have w67g : 0 ≤ w67v.toInt ∧ w67v.toInt ≤ 9 := by rw [← w67]; exact zrem rfl li10 (by omega) (by decide)
      have w67r : w67v.toInt = w66v.toInt % 10 := by rw [← w67]; exact zremE rfl li10 (by omega) (by decide)
      refine zs_irem (pc := 27) t221_27 (by decide) (c := w67v) w67 ?_
      obtain ⟨w68v, w68e, w68⟩ := ziadd (a := (48 : Int32)) (b := w67v) li48 rfl (by omega) (by omega)
      refine zs_iadd (pc := 28) t221_28 (c := w68v) w68e ?_
      obtain ⟨w69v, w69e⟩ : ∃ v, (w68v.toUInt32 % 65536).toInt32 = v := ⟨_, rfl⟩
      have w69 : w69v.toInt = (48 + w67v.toInt) := zi2c w68 (by omega) (by omega) w69e
      refine zs_i2c (pc := 29) t221_29 (c := w69v) w69e ?_
      have w70 : w69v.toInt = (48 + w67v.toInt) := w69
      have w71 : w69v.toInt = (48 + w67v.toInt) := w69
      have w72 : (zI w64M 6 10).toInt = (zI w64M 6 10).toInt := (congrArg Int32.toInt rfl).trans rfl
      have w73 : (zI w64M 6 10).toInt = (zI w64M 6 10).toInt := (congrArg Int32.toInt rfl).trans rfl
      refine zs_invV (pc := 30) (k := 6) (as' := [.int w69v]) (st := []) t221_30 mf220 rfl rfl (Or.inl ⟨by decide, (zk1 (w64s.k fk_zMc_6))⟩) ⟨by decide, by decide, Nat.le_of_ble_eq_true rfl, Nat.le_of_ble_eq_true rfl⟩ (X220_6 w64s w64I ⟨by omega, by omega⟩ (by omega) (by omega) w64y ?_) (fun _ _ q => q)
      intro w74M w74s w74I w74F w74t0 w74x0
      have w75 := ib6_10 w74I
      show zGo X l 1 0 0 221 33 [(2, .int (1 : Int32)), (0, .ref 6), (1, .int a)] [] w74M _
      have w74y : zWr w74M 6 10 335 (wS (wS (wS c (48 + a.toInt / 100 % 10)) (48 + a.toInt / 10 % 10)) (48 + a.toInt / 1 % 10)) := by
        have q := w74x0
        rw [show w69v.toInt = (48 + a.toInt / 1 % 10) by first | decide | omega] at q
        exact q
      refine zs_iload_n (pc := 33) t221_33 rfl ?_
      refine zs_bipush (pc := 34) t221_34 (v := 10) (by decide) ?_
      refine zs_idiv (pc := 36) t221_36 (by decide) (c := 0) (by decide) ?_
      refine zs_istore_n (pc := 37) t221_37 (ls' := [(2, .int (0 : Int32)), (0, .ref 6), (1, .int a)]) (zml mf221 (by decide)) rfl ?_
      refine zs_goto (pc := 38) t221_38 ?_
      refine zs_iload_n (pc := 4) t221_4 rfl ?_
      refine zs_iconst (pc := 5) t221_5 (v := 1) (by decide) ?_
      refine zs_icmp_ltT (pc := 6) t221_6 li0 li1 (by decide) ?_
      have w76 : (zI w74M 6 10).toInt = (zI w74M 6 10).toInt := (congrArg Int32.toInt rfl).trans rfl
      exact zs_vret (pc := 41) t221_41 mr221 (hQ _ w74s w74I ((((zFr.refl).trans (w54F.mono rfl)).trans (w64F.mono rfl)).trans (w74F.mono rfl)) (by omega) (by rw [wN.k3 (by omega) (by omega)]; exact w74y))
    · refine zs_icmp_geF (pc := 11) t221_11 rfl li100 (by omega) ?_
      refine zs_iload_n (pc := 14) t221_14 rfl ?_
      refine zs_iconst (pc := 15) t221_15 (v := 1) (by decide) ?_
      refine zs_icmp_neT (pc := 16) t221_16 li100 li1 (by decide) ?_
      refine zs_iload_n (pc := 33) t221_33 rfl ?_
      refine zs_bipush (pc := 34) t221_34 (v := 10) (by decide) ?_
      refine zs_idiv (pc := 36) t221_36 (by decide) (c := 10) (by decide) ?_
      refine zs_istore_n (pc := 37) t221_37 (ls' := [(2, .int (10 : Int32)), (0, .ref 6), (1, .int a)]) (zml mf221 (by decide)) rfl ?_
      refine zs_goto (pc := 38) t221_38 ?_
      refine zs_iload_n (pc := 4) t221_4 rfl ?_
      refine zs_iconst (pc := 5) t221_5 (v := 1) (by decide) ?_
      refine zs_icmp_ltF (pc := 6) t221_6 li10 li1 (by decide) ?_
      refine zs_iload_n (pc := 9) t221_9 rfl ?_
      refine zs_iload_n (pc := 10) t221_10 rfl ?_
      by_cases w77 : 10 ≤ a.toInt
      · refine zs_icmp_geT (pc := 11) t221_11 rfl li10 (by omega) ?_
        refine zs_aload_n (pc := 19) t221_19 rfl ?_
        refine zs_bipush (pc := 20) t221_20 (v := 48) (by decide) ?_
        refine zs_iload_n (pc := 22) t221_22 rfl ?_
        refine zs_iload_n (pc := 23) t221_23 rfl ?_
        obtain ⟨w78v, w78⟩ : ∃ v, a / (10 : Int32) = v := ⟨_, rfl⟩
        have w78g : w78v.toInt = a.toInt / 10 := by rw [← w78]; exact zdivp rfl li10 (by omega) (by decide)
        refine zs_idiv (pc := 24) t221_24 (by decide) (c := w78v) w78 ?_
        refine zs_bipush (pc := 25) t221_25 (v := 10) (by decide) ?_
        obtain ⟨w79v, w79⟩ : ∃ v, w78v - w78v / (10 : Int32) * (10 : Int32) = v := ⟨_, rfl⟩
        have w79g : 0 ≤ w79v.toInt ∧ w79v.toInt ≤ 9 := by rw [← w79]; exact zrem rfl li10 (by omega) (by decide)
        have w79r : w79v.toInt = w78v.toInt % 10 := by rw [← w79]; exact zremE rfl li10 (by omega) (by decide)
        refine zs_irem (pc := 27) t221_27 (by decide) (c := w79v) w79 ?_
        obtain ⟨w80v, w80e, w80⟩ := ziadd (a := (48 : Int32)) (b := w79v) li48 rfl (by omega) (by omega)
        refine zs_iadd (pc := 28) t221_28 (c := w80v) w80e ?_
        obtain ⟨w81v, w81e⟩ : ∃ v, (w80v.toUInt32 % 65536).toInt32 = v := ⟨_, rfl⟩
        have w81 : w81v.toInt = (48 + w79v.toInt) := zi2c w80 (by omega) (by omega) w81e
        refine zs_i2c (pc := 29) t221_29 (c := w81v) w81e ?_
        have w82 : w81v.toInt = (48 + w79v.toInt) := w81
        have w83 : w81v.toInt = (48 + w79v.toInt) := w81
        have w84 := ib6_10 hI
        have w85 : (zI M 6 10).toInt = (zI M 6 10).toInt := (congrArg Int32.toInt rfl).trans rfl
        have w86 : (zI M 6 10).toInt = (zI M 6 10).toInt := (congrArg Int32.toInt rfl).trans rfl
        refine zs_invV (pc := 30) (k := 6) (as' := [.int w81v]) (st := []) t221_30 mf220 rfl rfl (Or.inl ⟨by decide, (zk1 (hs.k fk_zMc_6))⟩) ⟨by decide, by decide, Nat.le_of_ble_eq_true rfl, Nat.le_of_ble_eq_true rfl⟩ (X220_6 hs hI ⟨by omega, by omega⟩ (by omega) (by omega) x0 ?_) (fun _ _ q => q)
        intro w87M w87s w87I w87F w87t0 w87x0
        have w88 := ib6_10 w87I
        show zGo X l 1 0 0 221 33 [(2, .int (10 : Int32)), (0, .ref 6), (1, .int a)] [] w87M _
        have w87y : zWr w87M 6 10 335 (wS c (48 + a.toInt / 10 % 10)) := by
          have q := w87x0
          rw [show w81v.toInt = (48 + a.toInt / 10 % 10) by first | decide | omega] at q
          exact q
        refine zs_iload_n (pc := 33) t221_33 rfl ?_
        refine zs_bipush (pc := 34) t221_34 (v := 10) (by decide) ?_
        refine zs_idiv (pc := 36) t221_36 (by decide) (c := 1) (by decide) ?_
        refine zs_istore_n (pc := 37) t221_37 (ls' := [(2, .int (1 : Int32)), (0, .ref 6), (1, .int a)]) (zml mf221 (by decide)) rfl ?_
        refine zs_goto (pc := 38) t221_38 ?_
        refine zs_iload_n (pc := 4) t221_4 rfl ?_
        refine zs_iconst (pc := 5) t221_5 (v := 1) (by decide) ?_
        refine zs_icmp_ltF (pc := 6) t221_6 li1 li1 (by decide) ?_
        refine zs_iload_n (pc := 9) t221_9 rfl ?_
        refine zs_iload_n (pc := 10) t221_10 rfl ?_
        refine zs_icmp_geT (pc := 11) t221_11 rfl li1 (by omega) ?_
        refine zs_aload_n (pc := 19) t221_19 rfl ?_
        refine zs_bipush (pc := 20) t221_20 (v := 48) (by decide) ?_
        refine zs_iload_n (pc := 22) t221_22 rfl ?_
        refine zs_iload_n (pc := 23) t221_23 rfl ?_
        obtain ⟨w89v, w89⟩ : ∃ v, a / (1 : Int32) = v := ⟨_, rfl⟩
        have w89g : w89v.toInt = a.toInt / 1 := by rw [← w89]; exact zdivp rfl li1 (by omega) (by decide)
        refine zs_idiv (pc := 24) t221_24 (by decide) (c := w89v) w89 ?_
        refine zs_bipush (pc := 25) t221_25 (v := 10) (by decide) ?_
        obtain ⟨w90v, w90⟩ : ∃ v, w89v - w89v / (10 : Int32) * (10 : Int32) = v := ⟨_, rfl⟩
        have w90g : 0 ≤ w90v.toInt ∧ w90v.toInt ≤ 9 := by rw [← w90]; exact zrem rfl li10 (by omega) (by decide)
        have w90r : w90v.toInt = w89v.toInt % 10 := by rw [← w90]; exact zremE rfl li10 (by omega) (by decide)
        refine zs_irem (pc := 27) t221_27 (by decide) (c := w90v) w90 ?_
        obtain ⟨w91v, w91e, w91⟩ := ziadd (a := (48 : Int32)) (b := w90v) li48 rfl (by omega) (by omega)
        refine zs_iadd (pc := 28) t221_28 (c := w91v) w91e ?_
        obtain ⟨w92v, w92e⟩ : ∃ v, (w91v.toUInt32 % 65536).toInt32 = v := ⟨_, rfl⟩
        have w92 : w92v.toInt = (48 + w90v.toInt) := zi2c w91 (by omega) (by omega) w92e
        refine zs_i2c (pc := 29) t221_29 (c := w92v) w92e ?_
        have w93 : w92v.toInt = (48 + w90v.toInt) := w92
        have w94 : w92v.toInt = (48 + w90v.toInt) := w92
        have w95 : (zI w87M 6 10).toInt = (zI w87M 6 10).toInt := (congrArg Int32.toInt rfl).trans rfl
        have w96 : (zI w87M 6 10).toInt = (zI w87M 6 10).toInt := (congrArg Int32.toInt rfl).trans rfl
        refine zs_invV (pc := 30) (k := 6) (as' := [.int w92v]) (st := []) t221_30 mf220 rfl rfl (Or.inl ⟨by decide, (zk1 (w87s.k fk_zMc_6))⟩) ⟨by decide, by decide, Nat.le_of_ble_eq_true rfl, Nat.le_of_ble_eq_true rfl⟩ (X220_6 w87s w87I ⟨by omega, by omega⟩ (by omega) (by omega) w87y ?_) (fun _ _ q => q)
        intro w97M w97s w97I w97F w97t0 w97x0
        have w98 := ib6_10 w97I
        show zGo X l 1 0 0 221 33 [(2, .int (1 : Int32)), (0, .ref 6), (1, .int a)] [] w97M _
        have w97y : zWr w97M 6 10 335 (wS (wS c (48 + a.toInt / 10 % 10)) (48 + a.toInt / 1 % 10)) := by
          have q := w97x0
          rw [show w92v.toInt = (48 + a.toInt / 1 % 10) by first | decide | omega] at q
          exact q
        refine zs_iload_n (pc := 33) t221_33 rfl ?_
        refine zs_bipush (pc := 34) t221_34 (v := 10) (by decide) ?_
        refine zs_idiv (pc := 36) t221_36 (by decide) (c := 0) (by decide) ?_
        refine zs_istore_n (pc := 37) t221_37 (ls' := [(2, .int (0 : Int32)), (0, .ref 6), (1, .int a)]) (zml mf221 (by decide)) rfl ?_
        refine zs_goto (pc := 38) t221_38 ?_
        refine zs_iload_n (pc := 4) t221_4 rfl ?_
        refine zs_iconst (pc := 5) t221_5 (v := 1) (by decide) ?_
        refine zs_icmp_ltT (pc := 6) t221_6 li0 li1 (by decide) ?_
        have w99 : (zI w97M 6 10).toInt = (zI w97M 6 10).toInt := (congrArg Int32.toInt rfl).trans rfl
        exact zs_vret (pc := 41) t221_41 mr221 (hQ _ w97s w97I (((zFr.refl).trans (w87F.mono rfl)).trans (w97F.mono rfl)) (by omega) (by rw [wN.k2 (by omega) (by omega)]; exact w97y))
      · refine zs_icmp_geF (pc := 11) t221_11 rfl li10 (by omega) ?_
        refine zs_iload_n (pc := 14) t221_14 rfl ?_
        refine zs_iconst (pc := 15) t221_15 (v := 1) (by decide) ?_
        refine zs_icmp_neT (pc := 16) t221_16 li10 li1 (by decide) ?_
        refine zs_iload_n (pc := 33) t221_33 rfl ?_
        refine zs_bipush (pc := 34) t221_34 (v := 10) (by decide) ?_
        refine zs_idiv (pc := 36) t221_36 (by decide) (c := 1) (by decide) ?_
        refine zs_istore_n (pc := 37) t221_37 (ls' := [(2, .int (1 : Int32)), (0, .ref 6), (1, .int a)]) (zml mf221 (by decide)) rfl ?_
        refine zs_goto (pc := 38) t221_38 ?_
        refine zs_iload_n (pc := 4) t221_4 rfl ?_
        refine zs_iconst (pc := 5) t221_5 (v := 1) (by decide) ?_
        refine zs_icmp_ltF (pc := 6) t221_6 li1 li1 (by decide) ?_
        refine zs_iload_n (pc := 9) t221_9 rfl ?_
        refine zs_iload_n (pc := 10) t221_10 rfl ?_
        by_cases w100 : 1 ≤ a.toInt
        · refine zs_icmp_geT (pc := 11) t221_11 rfl li1 (by omega) ?_
          refine zs_aload_n (pc := 19) t221_19 rfl ?_
          refine zs_bipush (pc := 20) t221_20 (v := 48) (by decide) ?_
          refine zs_iload_n (pc := 22) t221_22 rfl ?_
          refine zs_iload_n (pc := 23) t221_23 rfl ?_
          obtain ⟨w101v, w101⟩ : ∃ v, a / (1 : Int32) = v := ⟨_, rfl⟩
          have w101g : w101v.toInt = a.toInt / 1 := by rw [← w101]; exact zdivp rfl li1 (by omega) (by decide)
          refine zs_idiv (pc := 24) t221_24 (by decide) (c := w101v) w101 ?_
          refine zs_bipush (pc := 25) t221_25 (v := 10) (by decide) ?_
          obtain ⟨w102v, w102⟩ : ∃ v, w101v - w101v / (10 : Int32) * (10 : Int32) = v := ⟨_, rfl⟩
          have w102g : 0 ≤ w102v.toInt ∧ w102v.toInt ≤ 9 := by rw [← w102]; exact zrem rfl li10 (by omega) (by decide)
          have w102r : w102v.toInt = w101v.toInt % 10 := by rw [← w102]; exact zremE rfl li10 (by omega) (by decide)
          refine zs_irem (pc := 27) t221_27 (by decide) (c := w102v) w102 ?_
          obtain ⟨w103v, w103e, w103⟩ := ziadd (a := (48 : Int32)) (b := w102v) li48 rfl (by omega) (by omega)
          refine zs_iadd (pc := 28) t221_28 (c := w103v) w103e ?_
          obtain ⟨w104v, w104e⟩ : ∃ v, (w103v.toUInt32 % 65536).toInt32 = v := ⟨_, rfl⟩
          have w104 : w104v.toInt = (48 + w102v.toInt) := zi2c w103 (by omega) (by omega) w104e
          refine zs_i2c (pc := 29) t221_29 (c := w104v) w104e ?_
          have w105 : w104v.toInt = (48 + w102v.toInt) := w104
          have w106 : w104v.toInt = (48 + w102v.toInt) := w104
          have w107 := ib6_10 hI
          have w108 : (zI M 6 10).toInt = (zI M 6 10).toInt := (congrArg Int32.toInt rfl).trans rfl
          have w109 : (zI M 6 10).toInt = (zI M 6 10).toInt := (congrArg Int32.toInt rfl).trans rfl
          refine zs_invV (pc := 30) (k := 6) (as' := [.int w104v]) (st := []) t221_30 mf220 rfl rfl (Or.inl ⟨by decide, (zk1 (hs.k fk_zMc_6))⟩) ⟨by decide, by decide, Nat.le_of_ble_eq_true rfl, Nat.le_of_ble_eq_true rfl⟩ (X220_6 hs hI ⟨by omega, by omega⟩ (by omega) (by omega) x0 ?_) (fun _ _ q => q)
          intro w110M w110s w110I w110F w110t0 w110x0
          have w111 := ib6_10 w110I
          show zGo X l 1 0 0 221 33 [(2, .int (1 : Int32)), (0, .ref 6), (1, .int a)] [] w110M _
          have w110y : zWr w110M 6 10 335 (wS c (48 + a.toInt / 1 % 10)) := by
            have q := w110x0
            rw [show w104v.toInt = (48 + a.toInt / 1 % 10) by first | decide | omega] at q
            exact q
          refine zs_iload_n (pc := 33) t221_33 rfl ?_
          refine zs_bipush (pc := 34) t221_34 (v := 10) (by decide) ?_
          refine zs_idiv (pc := 36) t221_36 (by decide) (c := 0) (by decide) ?_
          refine zs_istore_n (pc := 37) t221_37 (ls' := [(2, .int (0 : Int32)), (0, .ref 6), (1, .int a)]) (zml mf221 (by decide)) rfl ?_
          refine zs_goto (pc := 38) t221_38 ?_
          refine zs_iload_n (pc := 4) t221_4 rfl ?_
          refine zs_iconst (pc := 5) t221_5 (v := 1) (by decide) ?_
          refine zs_icmp_ltT (pc := 6) t221_6 li0 li1 (by decide) ?_
          have w112 : (zI w110M 6 10).toInt = (zI w110M 6 10).toInt := (congrArg Int32.toInt rfl).trans rfl
          exact zs_vret (pc := 41) t221_41 mr221 (hQ _ w110s w110I ((zFr.refl).trans (w110F.mono rfl)) (by omega) (by rw [wN.k1 (by omega)]; exact w110y))
        · refine zs_icmp_geF (pc := 11) t221_11 rfl li1 (by omega) ?_
          refine zs_iload_n (pc := 14) t221_14 rfl ?_
          refine zs_iconst (pc := 15) t221_15 (v := 1) (by decide) ?_
          refine zs_icmp_neF (pc := 16) t221_16 li1 li1 (by decide) ?_
          refine zs_aload_n (pc := 19) t221_19 rfl ?_
          refine zs_bipush (pc := 20) t221_20 (v := 48) (by decide) ?_
          refine zs_iload_n (pc := 22) t221_22 rfl ?_
          refine zs_iload_n (pc := 23) t221_23 rfl ?_
          obtain ⟨w113v, w113⟩ : ∃ v, a / (1 : Int32) = v := ⟨_, rfl⟩
          have w113g : w113v.toInt = a.toInt / 1 := by rw [← w113]; exact zdivp rfl li1 (by omega) (by decide)
          refine zs_idiv (pc := 24) t221_24 (by decide) (c := w113v) w113 ?_
          refine zs_bipush (pc := 25) t221_25 (v := 10) (by decide) ?_
          obtain ⟨w114v, w114⟩ : ∃ v, w113v - w113v / (10 : Int32) * (10 : Int32) = v := ⟨_, rfl⟩
          have w114g : 0 ≤ w114v.toInt ∧ w114v.toInt ≤ 9 := by rw [← w114]; exact zrem rfl li10 (by omega) (by decide)
          have w114r : w114v.toInt = w113v.toInt % 10 := by rw [← w114]; exact zremE rfl li10 (by omega) (by decide)
          refine zs_irem (pc := 27) t221_27 (by decide) (c := w114v) w114 ?_
          obtain ⟨w115v, w115e, w115⟩ := ziadd (a := (48 : Int32)) (b := w114v) li48 rfl (by omega) (by omega)
          refine zs_iadd (pc := 28) t221_28 (c := w115v) w115e ?_
          obtain ⟨w116v, w116e⟩ : ∃ v, (w115v.toUInt32 % 65536).toInt32 = v := ⟨_, rfl⟩
          have w116 : w116v.toInt = (48 + w114v.toInt) := zi2c w115 (by omega) (by omega) w116e
          refine zs_i2c (pc := 29) t221_29 (c := w116v) w116e ?_
          have w117 : w116v.toInt = (48 + w114v.toInt) := w116
          have w118 : w116v.toInt = (48 + w114v.toInt) := w116
          have w119 := ib6_10 hI
          have w120 : (zI M 6 10).toInt = (zI M 6 10).toInt := (congrArg Int32.toInt rfl).trans rfl
          have w121 : (zI M 6 10).toInt = (zI M 6 10).toInt := (congrArg Int32.toInt rfl).trans rfl
          refine zs_invV (pc := 30) (k := 6) (as' := [.int w116v]) (st := []) t221_30 mf220 rfl rfl (Or.inl ⟨by decide, (zk1 (hs.k fk_zMc_6))⟩) ⟨by decide, by decide, Nat.le_of_ble_eq_true rfl, Nat.le_of_ble_eq_true rfl⟩ (X220_6 hs hI ⟨by omega, by omega⟩ (by omega) (by omega) x0 ?_) (fun _ _ q => q)
          intro w122M w122s w122I w122F w122t0 w122x0
          have w123 := ib6_10 w122I
          show zGo X l 1 0 0 221 33 [(2, .int (1 : Int32)), (0, .ref 6), (1, .int a)] [] w122M _
          have w122y : zWr w122M 6 10 335 (wS c (48 + a.toInt / 1 % 10)) := by
            have q := w122x0
            rw [show w116v.toInt = (48 + a.toInt / 1 % 10) by first | decide | omega] at q
            exact q
          refine zs_iload_n (pc := 33) t221_33 rfl ?_
          refine zs_bipush (pc := 34) t221_34 (v := 10) (by decide) ?_
          refine zs_idiv (pc := 36) t221_36 (by decide) (c := 0) (by decide) ?_
          refine zs_istore_n (pc := 37) t221_37 (ls' := [(2, .int (0 : Int32)), (0, .ref 6), (1, .int a)]) (zml mf221 (by decide)) rfl ?_
          refine zs_goto (pc := 38) t221_38 ?_
          refine zs_iload_n (pc := 4) t221_4 rfl ?_
          refine zs_iconst (pc := 5) t221_5 (v := 1) (by decide) ?_
          refine zs_icmp_ltT (pc := 6) t221_6 li0 li1 (by decide) ?_
          have w124 : (zI w122M 6 10).toInt = (zI w122M 6 10).toInt := (congrArg Int32.toInt rfl).trans rfl
          exact zs_vret (pc := 41) t221_41 mr221 (hQ _ w122s w122I ((zFr.refl).trans (w122F.mono rfl)) (by omega) (by rw [wN.k1 (by omega)]; exact w122y))
