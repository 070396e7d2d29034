theorem R344 {X : zX} {l : Launch} {M : zM} {Q : Option Value → zM → Prop} {a : Int32} (hs : zSk zMm M) (hI : zIv mLo mHi M) {F : Nat → Int} {H : Nat → Nat → Int} {n : Int} {K : Nat → Nat → Int} {T : Nat → Int} {A : aT} {i : Nat} (pR : zPR M) (pC : zPC M) (pF : zPF M) (ha : 0 ≤ a.toInt ∧ a.toInt ≤ 76) (x0 : zRw M 0 F) (x1 : zHM M H n) (x2 : zKM M K T) (x3 : zWF F) (x4 : zBt M 362 i A) (x5 : a.toInt = 4 * (i : Int)) (hQ : ∀ (M' : zM) (v : Int32), zSk zMm M' → zIv mLo mHi M' → zFr [(337, 337, none), (336, 336, some 1), (336, 336, some 3)] M M' → zJ M' 351 = zJ M 351 → zPR M' → zPC M' → zPF M' → ((v.toInt = -1 ∧ aDo A F = none ∧ zSM M' F H n K T) ∨ (v.toInt ≠ -1 ∧ ∃ G, aDo A F = some G ∧ zSM M' G (pushH F H) (nP n) K T)) → Q (some (.int v)) M') : zCall X l 4 0 0 344 [.ref 336, .int a] M Q := by
  have ga := zrg a
  refine zs_in (by decide) mf344 (Nat.le_of_ble_eq_true rfl) ?_
  show zGo X l 4 0 0 344 0 [(0, .ref 336), (1, .int a)] [] M _
  have f1 := x3.1
  have f3 := x3.2.2.2
  have w1 := ibA0 hI
  have w2 : (zI M 337 0).toInt = (zI M 337 0).toInt := (congrArg Int32.toInt rfl).trans rfl
  have e0 : (zI M 337 0).toInt = F 0 := x0.at (by decide) (by decide) (by decide)
  have w3 := ibA1 hI
  have w4 : (zI M 337 1).toInt = (zI M 337 1).toInt := (congrArg Int32.toInt rfl).trans rfl
  have e1 : (zI M 337 1).toInt = F 1 := x0.at (by decide) (by decide) (by decide)
  have w5 := ibA2 hI
  have w6 : (zI M 337 2).toInt = (zI M 337 2).toInt := (congrArg Int32.toInt rfl).trans rfl
  have e2 : (zI M 337 2).toInt = F 2 := x0.at (by decide) (by decide) (by decide)
  obtain ⟨L, y0, y1, y2⟩ := A
  have yl : (zI M 362 (4 * i)).toInt = L := x4.1
  have y160 : (zI M 362 (4 * i + 1)).toInt = y0 := x4.2.1
  have y161 : L = 104 → (zI M 362 (4 * i + 2)).toInt = y1 ∧ (zI M 362 (4 * i + 3)).toInt = y2 := x4.2.2.1
  have yc : L = 104 ∨ L = 120 ∨ L = 100 ∨ L = 110 := x4.2.2.2
  refine zs_aload_n (pc := 0) t344_0 rfl ?_
  refine zs_get (pc := 1) t344_1 (by decide) (zk1 (hs.k fk_zMm_336)) (hs.p rfl fv_zMm_336_46) ?_
  refine zs_iload_n (pc := 4) t344_4 rfl ?_
  obtain ⟨w7n, w7⟩ : ∃ n : Nat, a.toInt = (n : Int) := ⟨(a.toInt).toNat, by omega⟩
  have w8 := zrg (zI M 362 w7n)
  have w9 : w7n = 4 * i → (zI M 362 w7n).toInt = L := fun q => by rw [q]; exact yl
  have w10 : w7n = 4 * i + 1 → (zI M 362 w7n).toInt = y0 := fun q => by rw [q]; exact y160
  have w11 : L = 104 ∧ w7n = 4 * i + 2 → (zI M 362 w7n).toInt = y1 := fun q => by rw [q.2]; exact (y161 q.1).1
  have w12 : L = 104 ∧ w7n = 4 * i + 3 → (zI M 362 w7n).toInt = y2 := fun q => by rw [q.2]; exact (y161 q.1).2
  refine zs_iald (pc := 5) t344_5 (j := w7n) (by decide) (zk1 (hs.k fk_zMm_362)) (show a.toInt = ((w7n : Nat) : Int) by omega) (zk2 (hs.k fk_zMm_362) (by omega)) rfl ?_
  by_cases w13 : (zI M 362 w7n).toInt = 100
  · refine zs_lsw (pc := 6) t344_6 (off := 76) ((rfl : (zI M 362 w7n).toInt = (zI M 362 w7n).toInt).trans w13) rfl (pc2 := 82) rfl ?_
    refine zs_aload_n (pc := 82) t344_82 rfl ?_
    refine zs_aload_n (pc := 83) t344_83 rfl ?_
    refine zs_get (pc := 84) t344_84 (by decide) (zk1 (hs.k fk_zMm_336)) (hs.p rfl fv_zMm_336_46) ?_
    refine zs_iload_n (pc := 87) t344_87 rfl ?_
    refine zs_iconst (pc := 88) t344_88 (v := 1) (by decide) ?_
    obtain ⟨w14v, w14e, w14⟩ := ziadd (a := a) (b := (1 : Int32)) rfl li1 (by omega) (by omega)
    refine zs_iadd (pc := 89) t344_89 (c := w14v) w14e ?_
    have w15 := zrg (zI M 362 (1 + w7n))
    have w16 : (1 + w7n) = 4 * i → (zI M 362 (1 + w7n)).toInt = L := fun q => by rw [q]; exact yl
    have w17 : (1 + w7n) = 4 * i + 1 → (zI M 362 (1 + w7n)).toInt = y0 := fun q => by rw [q]; exact y160
    have w18 : L = 104 ∧ (1 + w7n) = 4 * i + 2 → (zI M 362 (1 + w7n)).toInt = y1 := fun q => by rw [q.2]; exact (y161 q.1).1
    have w19 : L = 104 ∧ (1 + w7n) = 4 * i + 3 → (zI M 362 (1 + w7n)).toInt = y2 := fun q => by rw [q.2]; exact (y161 q.1).2
    refine zs_iald (pc := 90) t344_90 (j := (1 + w7n)) (by decide) (zk1 (hs.k fk_zMm_362)) (show w14v.toInt = (((1 + w7n) : Nat) : Int) by omega) (zk2 (hs.k fk_zMm_362) (by omega)) rfl ?_
    refine zs_invV (pc := 91) (k := 336) (as' := [.int (zI M 362 (1 + w7n))]) (st := []) t344_91 mf333 rfl rfl (Or.inl ⟨by decide, (zk1 (hs.k fk_zMm_336))⟩) ⟨by decide, by decide, Nat.le_of_ble_eq_true rfl, Nat.le_of_ble_eq_true rfl⟩ (R333 hs hI pR pC pF x0 x1 x2 x3 ?_) (fun _ _ q => q)
    intro w20M w20v w20s w20I w20F w20J w20PR w20PC w20PF w20x0
    have w20g := zrg w20v
    show zGo X l 4 0 0 344 94 [(0, .ref 336), (1, .int a)] [.int w20v] w20M _
    have w21 := w20x0
    rw [show (zI M 362 (1 + w7n)).toInt = y0 by omega] at w21
    exact zs_iret (pc := 94) t344_94 mr344 rfl (hQ _ _ w20s w20I ((zFr.refl).trans (w20F.mono rfl)) w20J w20PR w20PC w20PF (by
        rcases w21 with ⟨q1, q2, q3⟩ | ⟨q1, q2, q3, q4⟩
        · exact Or.inl ⟨by omega, aDo.dn (by omega) (by omega), q3⟩
        · exact Or.inr ⟨by have z := (x3.2.1 y0.toNat (by omega)).2.2; omega, _, aDo.dy (by omega) ⟨q1, q2⟩, (by rw [q3] at q4; exact q4)⟩))
  by_cases w22 : (zI M 362 w7n).toInt = 104
  · refine zs_lsw (pc := 6) t344_6 (off := 34) ((rfl : (zI M 362 w7n).toInt = (zI M 362 w7n).toInt).trans w22) rfl (pc2 := 40) rfl ?_
    refine zs_aload_n (pc := 40) t344_40 rfl ?_
    refine zs_aload_n (pc := 41) t344_41 rfl ?_
    refine zs_get (pc := 42) t344_42 (by decide) (zk1 (hs.k fk_zMm_336)) (hs.p rfl fv_zMm_336_46) ?_
    refine zs_iload_n (pc := 45) t344_45 rfl ?_
    refine zs_iconst (pc := 46) t344_46 (v := 1) (by decide) ?_
    obtain ⟨w23v, w23e, w23⟩ := ziadd (a := a) (b := (1 : Int32)) rfl li1 (by omega) (by omega)
    refine zs_iadd (pc := 47) t344_47 (c := w23v) w23e ?_
    have w24 := zrg (zI M 362 (1 + w7n))
    have w25 : (1 + w7n) = 4 * i → (zI M 362 (1 + w7n)).toInt = L := fun q => by rw [q]; exact yl
    have w26 : (1 + w7n) = 4 * i + 1 → (zI M 362 (1 + w7n)).toInt = y0 := fun q => by rw [q]; exact y160
    have w27 : L = 104 ∧ (1 + w7n) = 4 * i + 2 → (zI M 362 (1 + w7n)).toInt = y1 := fun q => by rw [q.2]; exact (y161 q.1).1
    have w28 : L = 104 ∧ (1 + w7n) = 4 * i + 3 → (zI M 362 (1 + w7n)).toInt = y2 := fun q => by rw [q.2]; exact (y161 q.1).2
    refine zs_iald (pc := 48) t344_48 (j := (1 + w7n)) (by decide) (zk1 (hs.k fk_zMm_362)) (show w23v.toInt = (((1 + w7n) : Nat) : Int) by omega) (zk2 (hs.k fk_zMm_362) (by omega)) rfl ?_
    refine zs_aload_n (pc := 49) t344_49 rfl ?_
    refine zs_get (pc := 50) t344_50 (by decide) (zk1 (hs.k fk_zMm_336)) (hs.p rfl fv_zMm_336_46) ?_
    refine zs_iload_n (pc := 53) t344_53 rfl ?_
    refine zs_iconst (pc := 54) t344_54 (v := 2) (by decide) ?_
    obtain ⟨w29v, w29e, w29⟩ := ziadd (a := a) (b := (2 : Int32)) rfl li2 (by omega) (by omega)
    refine zs_iadd (pc := 55) t344_55 (c := w29v) w29e ?_
    have w30 := zrg (zI M 362 (2 + w7n))
    have w31 : (2 + w7n) = 4 * i → (zI M 362 (2 + w7n)).toInt = L := fun q => by rw [q]; exact yl
    have w32 : (2 + w7n) = 4 * i + 1 → (zI M 362 (2 + w7n)).toInt = y0 := fun q => by rw [q]; exact y160
    have w33 : L = 104 ∧ (2 + w7n) = 4 * i + 2 → (zI M 362 (2 + w7n)).toInt = y1 := fun q => by rw [q.2]; exact (y161 q.1).1
    have w34 : L = 104 ∧ (2 + w7n) = 4 * i + 3 → (zI M 362 (2 + w7n)).toInt = y2 := fun q => by rw [q.2]; exact (y161 q.1).2
    refine zs_iald (pc := 56) t344_56 (j := (2 + w7n)) (by decide) (zk1 (hs.k fk_zMm_362)) (show w29v.toInt = (((2 + w7n) : Nat) : Int) by omega) (zk2 (hs.k fk_zMm_362) (by omega)) rfl ?_
    refine zs_aload_n (pc := 57) t344_57 rfl ?_
    refine zs_get (pc := 58) t344_58 (by decide) (zk1 (hs.k fk_zMm_336)) (hs.p rfl fv_zMm_336_46) ?_
    refine zs_iload_n (pc := 61) t344_61 rfl ?_
    refine zs_iconst (pc := 62) t344_62 (v := 3) (by decide) ?_
    obtain ⟨w35v, w35e, w35⟩ := ziadd (a := a) (b := (3 : Int32)) rfl li3 (by omega) (by omega)
    refine zs_iadd (pc := 63) t344_63 (c := w35v) w35e ?_
    have w36 := zrg (zI M 362 (3 + w7n))
    have w37 : (3 + w7n) = 4 * i → (zI M 362 (3 + w7n)).toInt = L := fun q => by rw [q]; exact yl
    have w38 : (3 + w7n) = 4 * i + 1 → (zI M 362 (3 + w7n)).toInt = y0 := fun q => by rw [q]; exact y160
    have w39 : L = 104 ∧ (3 + w7n) = 4 * i + 2 → (zI M 362 (3 + w7n)).toInt = y1 := fun q => by rw [q.2]; exact (y161 q.1).1
    have w40 : L = 104 ∧ (3 + w7n) = 4 * i + 3 → (zI M 362 (3 + w7n)).toInt = y2 := fun q => by rw [q.2]; exact (y161 q.1).2
    refine zs_iald (pc := 64) t344_64 (j := (3 + w7n)) (by decide) (zk1 (hs.k fk_zMm_362)) (show w35v.toInt = (((3 + w7n) : Nat) : Int) by omega) (zk2 (hs.k fk_zMm_362) (by omega)) rfl ?_
    refine zs_invV (pc := 65) (k := 336) (as' := [.int (zI M 362 (1 + w7n)), .int (zI M 362 (2 + w7n)), .int (zI M 362 (3 + w7n))]) (st := []) t344_65 mf331 rfl rfl (Or.inl ⟨by decide, (zk1 (hs.k fk_zMm_336))⟩) ⟨by decide, by decide, Nat.le_of_ble_eq_true rfl, Nat.le_of_ble_eq_true rfl⟩ (R331 hs hI pR pC pF x0 x1 x2 x3 ?_) (fun _ _ q => q)
    intro w41M w41v w41s w41I w41F w41J w41PR w41PC w41PF w41x0
    have w41g := zrg w41v
    show zGo X l 4 0 0 344 68 [(0, .ref 336), (1, .int a)] [.int w41v] w41M _
    have w42 := w41x0
    rw [show (zI M 362 (1 + w7n)).toInt = y0 by omega, show (zI M 362 (2 + w7n)).toInt = y1 by omega, show (zI M 362 (3 + w7n)).toInt = y2 by omega] at w42
    exact zs_iret (pc := 68) t344_68 mr344 rfl (hQ _ _ w41s w41I ((zFr.refl).trans (w41F.mono rfl)) w41J w41PR w41PC w41PF (by
        rcases w42 with ⟨q1, q2, q3⟩ | ⟨q1, q2, q3⟩
        · exact Or.inl ⟨by omega, aDo.hn (by omega) (by omega), q3⟩
        · exact Or.inr ⟨by omega, _, aDo.hy (by omega) q1, q3⟩))
  by_cases w43 : (zI M 362 w7n).toInt = 120
  · refine zs_lsw (pc := 6) t344_6 (off := 63) ((rfl : (zI M 362 w7n).toInt = (zI M 362 w7n).toInt).trans w43) rfl (pc2 := 69) rfl ?_
    refine zs_aload_n (pc := 69) t344_69 rfl ?_
    refine zs_aload_n (pc := 70) t344_70 rfl ?_
    refine zs_get (pc := 71) t344_71 (by decide) (zk1 (hs.k fk_zMm_336)) (hs.p rfl fv_zMm_336_46) ?_
    refine zs_iload_n (pc := 74) t344_74 rfl ?_
    refine zs_iconst (pc := 75) t344_75 (v := 1) (by decide) ?_
    obtain ⟨w44v, w44e, w44⟩ := ziadd (a := a) (b := (1 : Int32)) rfl li1 (by omega) (by omega)
    refine zs_iadd (pc := 76) t344_76 (c := w44v) w44e ?_
    have w45 := zrg (zI M 362 (1 + w7n))
    have w46 : (1 + w7n) = 4 * i → (zI M 362 (1 + w7n)).toInt = L := fun q => by rw [q]; exact yl
    have w47 : (1 + w7n) = 4 * i + 1 → (zI M 362 (1 + w7n)).toInt = y0 := fun q => by rw [q]; exact y160
    have w48 : L = 104 ∧ (1 + w7n) = 4 * i + 2 → (zI M 362 (1 + w7n)).toInt = y1 := fun q => by rw [q.2]; exact (y161 q.1).1
    have w49 : L = 104 ∧ (1 + w7n) = 4 * i + 3 → (zI M 362 (1 + w7n)).toInt = y2 := fun q => by rw [q.2]; exact (y161 q.1).2
    refine zs_iald (pc := 77) t344_77 (j := (1 + w7n)) (by decide) (zk1 (hs.k fk_zMm_362)) (show w44v.toInt = (((1 + w7n) : Nat) : Int) by omega) (zk2 (hs.k fk_zMm_362) (by omega)) rfl ?_
    refine zs_invV (pc := 78) (k := 336) (as' := [.int (zI M 362 (1 + w7n))]) (st := []) t344_78 mf332 rfl rfl (Or.inl ⟨by decide, (zk1 (hs.k fk_zMm_336))⟩) ⟨by decide, by decide, Nat.le_of_ble_eq_true rfl, Nat.le_of_ble_eq_true rfl⟩ (R332 hs hI pR pC pF x0 x1 x2 x3 ?_) (fun _ _ q => q)
    intro w50M w50v w50s w50I w50F w50J w50PR w50PC w50PF w50x0
    have w50g := zrg w50v
    show zGo X l 4 0 0 344 81 [(0, .ref 336), (1, .int a)] [.int w50v] w50M _
    have w51 := w50x0
    rw [show (zI M 362 (1 + w7n)).toInt = y0 by omega] at w51
    exact zs_iret (pc := 81) t344_81 mr344 rfl (hQ _ _ w50s w50I ((zFr.refl).trans (w50F.mono rfl)) w50J w50PR w50PC w50PF (by
        rcases w51 with ⟨q1, q2, q3⟩ | ⟨q1, q2, q3, q4, q5⟩
        · exact Or.inl ⟨by omega, aDo.xn (by omega) (by omega), q3⟩
        · exact Or.inr ⟨by have z := pct.nn (P := zctb (uS F (32 + 4 * y0.toNat) (-1))) ((uS F (32 + 4 * y0.toNat) (-1)) 1).toNat; omega, _, aDo.xy (by omega) ⟨q1, q2, q3⟩, q5⟩))
  refine zs_lsw (pc := 6) t344_6 (off := 89) rfl (by unfold zlsel; repeat (first | rfl | (rw [if_neg (by omega)]; unfold zlsel))) (pc2 := 95) rfl ?_
  refine zs_aload_n (pc := 95) t344_95 rfl ?_
  refine zs_aload_n (pc := 96) t344_96 rfl ?_
  refine zs_get (pc := 97) t344_97 (by decide) (zk1 (hs.k fk_zMm_336)) (hs.p rfl fv_zMm_336_46) ?_
  refine zs_iload_n (pc := 100) t344_100 rfl ?_
  refine zs_iconst (pc := 101) t344_101 (v := 1) (by decide) ?_
  obtain ⟨w52v, w52e, w52⟩ := ziadd (a := a) (b := (1 : Int32)) rfl li1 (by omega) (by omega)
  refine zs_iadd (pc := 102) t344_102 (c := w52v) w52e ?_
  have w53 := zrg (zI M 362 (1 + w7n))
  have w54 : (1 + w7n) = 4 * i → (zI M 362 (1 + w7n)).toInt = L := fun q => by rw [q]; exact yl
  have w55 : (1 + w7n) = 4 * i + 1 → (zI M 362 (1 + w7n)).toInt = y0 := fun q => by rw [q]; exact y160
  have w56 : L = 104 ∧ (1 + w7n) = 4 * i + 2 → (zI M 362 (1 + w7n)).toInt = y1 := fun q => by rw [q.2]; exact (y161 q.1).1
  have w57 : L = 104 ∧ (1 + w7n) = 4 * i + 3 → (zI M 362 (1 + w7n)).toInt = y2 := fun q => by rw [q.2]; exact (y161 q.1).2
  refine zs_iald (pc := 103) t344_103 (j := (1 + w7n)) (by decide) (zk1 (hs.k fk_zMm_362)) (show w52v.toInt = (((1 + w7n) : Nat) : Int) by omega) (zk2 (hs.k fk_zMm_362) (by omega)) rfl ?_
  refine zs_invV (pc := 104) (k := 336) (as' := [.int (zI M 362 (1 + w7n))]) (st := []) t344_104 mf334 rfl rfl (Or.inl ⟨by decide, (zk1 (hs.k fk_zMm_336))⟩) ⟨by decide, by decide, Nat.le_of_ble_eq_true rfl, Nat.le_of_ble_eq_true rfl⟩ (R334 hs hI pR pC pF x0 x1 x2 x3 ?_) (fun _ _ q => q)
  intro w58M w58v w58s w58I w58F w58J w58PR w58PC w58PF w58x0
  have w58g := zrg w58v
  show zGo X l 4 0 0 344 107 [(0, .ref 336), (1, .int a)] [.int w58v] w58M _
  have w59 := w58x0
  rw [show (zI M 362 (1 + w7n)).toInt = y0 by omega] at w59
  exact zs_iret (pc := 107) t344_107 mr344 rfl (hQ _ _ w58s w58I ((zFr.refl).trans (w58F.mono rfl)) w58J w58PR w58PC w58PF (by
      rcases w59 with ⟨q1, q2, q3⟩ | ⟨q1, q2, q3, q4⟩
      · exact Or.inl ⟨by omega, aDo.nn (by omega) (by omega), q3⟩
      · exact Or.inr ⟨by omega, _, aDo.ny (by omega) ⟨q1, q2⟩, q4⟩))
theorem R342 {X : zX} {l : Launch} {M : zM} {Q : Option Value → zM → Prop} (hs : zSk zMm M) (hI : zIv mLo mHi M) {F : Nat → Int} {H : Nat → Nat → Int} {n : Int} {K : Nat → Nat → Int} {T : Nat → Int} {gg : Nat → Int} {nn : Int} (pR : zPR M) (pC : zPC M) (pF : zPF M) (x0 : zRw M 0 F) (x1 : zHM M H n) (x2 : zKM M K T) (x3 : zWF F) (x4 : zTm M gg nn) (hQ : ∀ (M' : zM) (v : Int32), zSk zMm M' → zIv mLo mHi M' → zFr [(337, 337, none), (336, 336, some 6), (336, 336, some 7), (336, 336, some 8), (362, 362, none), (336, 336, some 47), (336, 336, some 5), (336, 336, some 1), (336, 336, some 3), (336, 336, some 48)] M M' → zJ M' 351 = zJ M 351 → zPR M' → zPC M' → zPF M' → ((zI M' 336 5).toInt = 0) → ((v.toInt = -1 ∧ gR (aSt gg nn) (0, 0, aZ) none ∧ zSM M' F H n K T ∧ (zI M' 336 48).toInt = (zI M 336 48).toInt) ∨ (0 ≤ v.toInt ∧ ∃ (k : Nat) (L : Nat → aT) (F2 : Nat → Int) (H2 : Nat → Nat → Int) (n2 : Int), gR (aSt gg nn) (0, 0, aZ) (some (k, L)) ∧ gR (dSt L k) (0, F, H, n) (v.toInt, (zI M' 336 48).toInt, F2, H2, n2) ∧ zWF F2 ∧ zSM M' F2 H2 n2 K T)) → Q (some (.int v)) M') : zCall X l 5 0 0 342 [.ref 336] M Q := by
  refine zs_in (by decide) mf342 (Nat.le_of_ble_eq_true rfl) ?_
  show zGo X l 5 0 0 342 0 [(0, .ref 336)] [] M _
  have f1 := x3.1
  have f3 := x3.2.2.2
  have w1 := ibA0 hI
  have w2 : (zI M 337 0).toInt = (zI M 337 0).toInt := (congrArg Int32.toInt rfl).trans rfl
  have e0 : (zI M 337 0).toInt = F 0 := x0.at (by decide) (by decide) (by decide)
  have w3 := ibA1 hI
  have w4 : (zI M 337 1).toInt = (zI M 337 1).toInt := (congrArg Int32.toInt rfl).trans rfl
  have e1 : (zI M 337 1).toInt = F 1 := x0.at (by decide) (by decide) (by decide)
  have w5 := ibA2 hI
  have w6 : (zI M 337 2).toInt = (zI M 337 2).toInt := (congrArg Int32.toInt rfl).trans rfl
  have e2 : (zI M 337 2).toInt = F 2 := x0.at (by decide) (by decide) (by decide)
  have hn := x4.2
  have w7 := ib336_5 hI
  have w8 : (zI M 336 5).toInt = (zI M 336 5).toInt := (congrArg Int32.toInt rfl).trans rfl
  refine zs_aload_n (pc := 0) t342_0 rfl ?_
  refine zs_invV (pc := 1) (k := 336) (as' := []) (st := []) t342_1 mf236 rfl rfl (Or.inl ⟨by decide, (zk1 (hs.k fk_zMm_336))⟩) ⟨by decide, by decide, Nat.le_of_ble_eq_true rfl, Nat.le_of_ble_eq_true rfl⟩ (zs_in (by decide) mf236 (Nat.le_of_ble_eq_true rfl) ?_) (fun _ _ q => q)
  show zGo X l 0 0 0 236 0 [(0, .ref 336)] [] M _
  refine zs_aload_n (pc := 0) t236_0 rfl ?_
  refine zs_iconst (pc := 1) t236_1 (v := 0) (by decide) ?_
  have w9 : zIv mLo mHi (zsI M 336 6 (0 : Int32)) := zIv.put hI (show 0 ≤ (0 : Int32).toInt ∧ (0 : Int32).toInt ≤ 500 from ⟨by decide, by decide⟩)
  refine zs_putI (pc := 2) t236_2 (zk1 (hs.k fk_zMm_336)) rfl ?_
  refine zs_aload_n (pc := 5) t236_5 rfl ?_
  refine zs_iconst (pc := 6) t236_6 (v := -1) (by decide) ?_
  have w10 : zIv mLo mHi (zsI (zsI M 336 6 (0 : Int32)) 336 7 (-1 : Int32)) := zIv.put w9 (show (-1) ≤ (-1 : Int32).toInt ∧ (-1 : Int32).toInt ≤ 500 from ⟨by decide, by decide⟩)
  refine zs_putI (pc := 7) t236_7 (zk1 (hs.k fk_zMm_336)) rfl ?_
  refine zs_vret (pc := 10) t236_10 mr236 ?_
  show zGo X l 5 0 0 342 4 [(0, .ref 336)] [] (zsI (zsI M 336 6 (0 : Int32)) 336 7 (-1 : Int32)) _
  refine zs_aload_n (pc := 4) t342_4 rfl ?_
  refine zs_iconst (pc := 5) t342_5 (v := 0) (by decide) ?_
  have w11 : zIv mLo mHi (zsI (zsI (zsI M 336 6 (0 : Int32)) 336 7 (-1 : Int32)) 336 47 (0 : Int32)) := zIv.put w10 (show 0 ≤ (0 : Int32).toInt ∧ (0 : Int32).toInt ≤ 20 from ⟨by decide, by decide⟩)
  refine zs_putI (pc := 6) t342_6 (zk1 (hs.k fk_zMm_336)) rfl ?_
  have w12L : ∀ (m : Nat) (w12M : zM), zSk zMm w12M → zIv mLo mHi w12M → zFr [(336, 336, some 6), (336, 336, some 7), (336, 336, some 8), (362, 362, none), (336, 336, some 47)] (zsI (zsI (zsI M 336 6 (0 : Int32)) 336 7 (-1 : Int32)) 336 47 (0 : Int32)) w12M → zJ w12M 351 = zJ (zsI (zsI (zsI M 336 6 (0 : Int32)) 336 7 (-1 : Int32)) 336 47 (0 : Int32)) 351 → (0 ≤ (zI w12M 336 47).toInt ∧ (zI w12M 336 47).toInt ≤ 20) → ((zI w12M 336 7).toInt ≠ -1 ∨ (0 ≤ (zI w12M 336 6).toInt ∧ (zI w12M 336 6).toInt ≤ (zI w12M 336 5).toInt)) → ((zI w12M 336 5).toInt = (zI (zsI (zsI (zsI M 336 6 (0 : Int32)) 336 7 (-1 : Int32)) 336 47 (0 : Int32)) 336 5).toInt) → ((zI w12M 336 7).toInt = -1 → ∀ p k : Nat, (p : Int) = (zI w12M 336 6).toInt → (k : Int) = (zI w12M 336 47).toInt → ∃ L, gEq (aSt gg nn) (0, 0, aZ) (p, k, L) ∧ zBl w12M 362 k L) → ((zI w12M 336 7).toInt ≠ -1 → gR (aSt gg nn) (0, 0, aZ) none) → 501 - (zI w12M 336 6).toInt - 501 * (min (zI w12M 336 7).toInt 0) ≤ (m : Int) → zGo X l 5 0 0 342 9 [(0, .ref 336)] [] w12M Q := by
    intro m
    induction m using Nat.strongRecOn with
    | ind w12m w12ih =>
      intro w12M w12s w12I w12F w12J w12r0 w12r1 w12r2 w12t0 w12t1 w12q
      have w13 := ib336_47 w12I
      have w14 := ib336_6 w12I
      have w15 := ib336_7 w12I
      have w16 : (zI (zsI (zsI (zsI M 336 6 (0 : Int32)) 336 7 (-1 : Int32)) 336 47 (0 : Int32)) 336 5).toInt = (zI M 336 5).toInt := (congrArg Int32.toInt ((zIoj (by decide)).trans ((zIoj (by decide)).trans ((zIoj (by decide)).trans rfl)))).trans rfl
      refine zs_aload_n (pc := 9) t342_9 rfl ?_
      refine zs_get (pc := 10) t342_10 (by decide) (zk1 (w12s.k fk_zMm_336)) (zfvi rfl rfl) ?_
      refine zs_iconst (pc := 13) t342_13 (v := -1) (by decide) ?_
      by_cases w17 : (zI w12M 336 7).toInt ≠ (-1)
      · refine zs_icmp_neT (pc := 14) t342_14 rfl lin1 (by omega) ?_
        refine zs_aload_n (pc := 46) t342_46 rfl ?_
        refine zs_invV (pc := 47) (k := 336) (as' := []) (st := []) t342_47 mf253 rfl rfl (Or.inl ⟨by decide, (zk1 (w12s.k fk_zMm_336))⟩) ⟨by decide, by decide, Nat.le_of_ble_eq_true rfl, Nat.le_of_ble_eq_true rfl⟩ (zs_in (by decide) mf253 (Nat.le_of_ble_eq_true rfl) ?_) (fun _ _ q => q)
        show zGo X l 0 0 0 253 0 [(0, .ref 336)] [] w12M _
        refine zs_aload_n (pc := 0) t253_0 rfl ?_
        refine zs_iconst (pc := 1) t253_1 (v := 0) (by decide) ?_
        have w18 : zIv mLo mHi (zsI w12M 336 5 (0 : Int32)) := zIv.put w12I (show 0 ≤ (0 : Int32).toInt ∧ (0 : Int32).toInt ≤ 500 from ⟨by decide, by decide⟩)
        refine zs_putI (pc := 2) t253_2 (zk1 (w12s.k fk_zMm_336)) rfl ?_
        refine zs_aload_n (pc := 5) t253_5 rfl ?_
        refine zs_get (pc := 6) t253_6 (by decide) (zk1 (w12s.k fk_zMm_336)) (zfvi rfl ((zIoj (by decide)).trans rfl)) ?_
        refine zs_iconst (pc := 9) t253_9 (v := -1) (by decide) ?_
        refine zs_icmp_neT (pc := 10) t253_10 rfl lin1 (by omega) ?_
        refine zs_iconst (pc := 17) t253_17 (v := 0) (by decide) ?_
        refine zs_iret (pc := 18) t253_18 mr253 (by decide) ?_
        show zGo X l 5 0 0 342 50 [(0, .ref 336)] [.int (0 : Int32)] (zsI w12M 336 5 (0 : Int32)) _
        refine zs_if_neF (pc := 50) t342_50 li0 (by decide) ?_
        refine zs_iconst (pc := 53) t342_53 (v := -1) (by decide) ?_
        have w19 : (-1 : Int32).toInt = (-1) := lin1
        have w20 : (zI (zsI w12M 336 5 (0 : Int32)) 336 5).toInt = 0 := (congrArg Int32.toInt zIs).trans li0
        have w21 := lin1
        have w22 : (-1 : Int32).toInt = (-1) := lin1
        have w23 := zrg (zI M 336 48)
        have w24 : (zI (zsI w12M 336 5 (0 : Int32)) 336 48).toInt = (zI M 336 48).toInt := (congrArg Int32.toInt ((zIoj (by decide)).trans ((w12F 336 48 rfl).trans ((zIoj (by decide)).trans ((zIoj (by decide)).trans ((zIoj (by decide)).trans rfl)))))).trans rfl
        have w25 : (zI (zsI w12M 336 5 (0 : Int32)) 336 7).toInt = (zI w12M 336 7).toInt := (congrArg Int32.toInt ((zIoj (by decide)).trans rfl)).trans rfl
        exact zs_iret (pc := 54) t342_54 mr342 (by decide) (hQ _ _ w12s w18 ((((((zFr.refl).put rfl).put rfl).put rfl).trans (w12F.mono rfl)).put rfl) w12J (zPR.fr (M' := (zsI w12M 336 5 (0 : Int32))) (zPR.fr (zPR.fr (M' := (zsI (zsI (zsI M 336 6 (0 : Int32)) 336 7 (-1 : Int32)) 336 47 (0 : Int32))) (zPR.fr (M' := (zsI (zsI M 336 6 (0 : Int32)) 336 7 (-1 : Int32))) (zPR.fr (M' := (zsI M 336 6 (0 : Int32))) pR (zEq.put rfl)) (zEq.put rfl)) (zEq.put rfl)) (w12F.eq rfl)) (zEq.put rfl)) (zPC.fr (M' := (zsI w12M 336 5 (0 : Int32))) (zPC.fr (zPC.fr (M' := (zsI (zsI (zsI M 336 6 (0 : Int32)) 336 7 (-1 : Int32)) 336 47 (0 : Int32))) (zPC.fr (M' := (zsI (zsI M 336 6 (0 : Int32)) 336 7 (-1 : Int32))) (zPC.fr (M' := (zsI M 336 6 (0 : Int32))) pC (zEq.put rfl)) (zEq.put rfl)) (zEq.put rfl)) (w12F.eq rfl)) (zEq.put rfl)) (zPF.fr (M' := (zsI w12M 336 5 (0 : Int32))) (zPF.fr (zPF.fr (M' := (zsI (zsI (zsI M 336 6 (0 : Int32)) 336 7 (-1 : Int32)) 336 47 (0 : Int32))) (zPF.fr (M' := (zsI (zsI M 336 6 (0 : Int32)) 336 7 (-1 : Int32))) (zPF.fr (M' := (zsI M 336 6 (0 : Int32))) pF (zEq.put rfl) rfl) (zEq.put rfl) rfl) (zEq.put rfl) rfl) (w12F.eq rfl) w12J) (zEq.put rfl) rfl) (by omega) (Or.inl ⟨by decide, w12t1 (by omega), (zRw.fr' (zRw.fr' x0 (fun j hj => ((w12F 337 j rfl).trans ((zIo (by decide)).trans ((zIo (by decide)).trans (zIo (by decide))))))) (fun j hj => (zIo (by decide)))), (zHM.fr (zHM.fr x1 (fun j hj => ((w12F 337 j rfl).trans ((zIo (by decide)).trans ((zIo (by decide)).trans (zIo (by decide)))))) ((w12F 336 1 rfl).trans ((zIoj (by decide)).trans ((zIoj (by decide)).trans (zIoj (by decide)))))) (fun j hj => (zIo (by decide))) (zIoj (by decide))), (zKM.fr (zKM.fr x2 (fun j hj => ((w12F 337 j rfl).trans ((zIo (by decide)).trans ((zIo (by decide)).trans (zIo (by decide)))))) (fun k => ((w12F 338 k rfl).trans ((zIo (by decide)).trans ((zIo (by decide)).trans (zIo (by decide))))))) (fun j hj => (zIo (by decide))) (fun k => (zIo (by decide)))), by omega⟩))
      · refine zs_icmp_neF (pc := 14) t342_14 rfl lin1 (by omega) ?_
        refine zs_aload_n (pc := 17) t342_17 rfl ?_
        refine zs_get (pc := 18) t342_18 (by decide) (zk1 (w12s.k fk_zMm_336)) (zfvi rfl rfl) ?_
        refine zs_aload_n (pc := 21) t342_21 rfl ?_
        refine zs_get (pc := 22) t342_22 (by decide) (zk1 (w12s.k fk_zMm_336)) (zfvi rfl ((w12F 336 5 rfl).trans ((zIoj (by decide)).trans ((zIoj (by decide)).trans ((zIoj (by decide)).trans rfl))))) ?_
        by_cases w26 : (zI M 336 5).toInt ≤ (zI w12M 336 6).toInt
        · refine zs_icmp_geT (pc := 25) t342_25 rfl rfl (by omega) ?_
          refine zs_aload_n (pc := 46) t342_46 rfl ?_
          refine zs_invV (pc := 47) (k := 336) (as' := []) (st := []) t342_47 mf253 rfl rfl (Or.inl ⟨by decide, (zk1 (w12s.k fk_zMm_336))⟩) ⟨by decide, by decide, Nat.le_of_ble_eq_true rfl, Nat.le_of_ble_eq_true rfl⟩ (zs_in (by decide) mf253 (Nat.le_of_ble_eq_true rfl) ?_) (fun _ _ q => q)
          show zGo X l 0 0 0 253 0 [(0, .ref 336)] [] w12M _
          refine zs_aload_n (pc := 0) t253_0 rfl ?_
          refine zs_iconst (pc := 1) t253_1 (v := 0) (by decide) ?_
          have w27 : zIv mLo mHi (zsI w12M 336 5 (0 : Int32)) := zIv.put w12I (show 0 ≤ (0 : Int32).toInt ∧ (0 : Int32).toInt ≤ 500 from ⟨by decide, by decide⟩)
          refine zs_putI (pc := 2) t253_2 (zk1 (w12s.k fk_zMm_336)) rfl ?_
          refine zs_aload_n (pc := 5) t253_5 rfl ?_
          refine zs_get (pc := 6) t253_6 (by decide) (zk1 (w12s.k fk_zMm_336)) (zfvi rfl ((zIoj (by decide)).trans rfl)) ?_
          refine zs_iconst (pc := 9) t253_9 (v := -1) (by decide) ?_
          refine zs_icmp_neF (pc := 10) t253_10 rfl lin1 (by omega) ?_
          refine zs_iconst (pc := 13) t253_13 (v := 1) (by decide) ?_
          refine zs_goto (pc := 14) t253_14 ?_
          refine zs_iret (pc := 18) t253_18 mr253 (by decide) ?_
          show zGo X l 5 0 0 342 50 [(0, .ref 336)] [.int (1 : Int32)] (zsI w12M 336 5 (0 : Int32)) _
          refine zs_if_neT (pc := 50) t342_50 li1 (by decide) ?_
          refine zs_iconst (pc := 55) t342_55 (v := 0) (by decide) ?_
          refine zs_istore_n (pc := 56) t342_56 (ls' := [(1, .int (0 : Int32)), (0, .ref 336)]) (zml mf342 (by decide)) rfl ?_
          have w28 : (zI (zsI w12M 336 5 (0 : Int32)) 336 6).toInt = (zI w12M 336 6).toInt := (congrArg Int32.toInt ((zIoj (by decide)).trans rfl)).trans rfl
          have w29 : (zI (zsI w12M 336 5 (0 : Int32)) 336 7).toInt = (zI w12M 336 7).toInt := (congrArg Int32.toInt ((zIoj (by decide)).trans rfl)).trans rfl
          have w30 : (zI (zsI w12M 336 5 (0 : Int32)) 336 47).toInt = (zI w12M 336 47).toInt := (congrArg Int32.toInt ((zIoj (by decide)).trans rfl)).trans rfl
          obtain ⟨w31n, w31⟩ : ∃ n : Nat, (zI w12M 336 6).toInt = (n : Int) := ⟨((zI w12M 336 6).toInt).toNat, by omega⟩
          obtain ⟨w32n, w32⟩ : ∃ n : Nat, (zI w12M 336 47).toInt = (n : Int) := ⟨((zI w12M 336 47).toInt).toNat, by omega⟩
          obtain ⟨w33A, w33d, w33g⟩ := w12t0 (by omega) w31n w32n (by omega) (by omega)
          have w33r := w33d.fin (aSt.end (by omega))
          have w34L : ∀ (m : Nat) (w34x1 : Int32) (w34M : zM), (0 ≤ w34x1.toInt ∧ w34x1.toInt ≤ 20) → zSk zMm w34M → zIv mLo mHi w34M → zFr [(337, 337, none), (336, 336, some 1), (336, 336, some 3)] (zsI w12M 336 5 (0 : Int32)) w34M → zJ w34M 351 = zJ (zsI w12M 336 5 (0 : Int32)) 351 → zPR w34M → zPC w34M → zPF w34M → (w34x1.toInt ≤ (zI w34M 336 47).toInt) → ((zI w34M 336 5).toInt = 0) → (∀ i : Nat, (i : Int) = w34x1.toInt → ∃ (F2 : Nat → Int) (H2 : Nat → Nat → Int) (n2 : Int), gEq (dSt w33A w32n) (0, F, H, n) (i, F2, H2, n2) ∧ zWF F2 ∧ zSM w34M F2 H2 n2 K T) → 20 - w34x1.toInt ≤ (m : Int) → zGo X l 5 0 0 342 57 [(0, .ref 336), (1, .int w34x1)] [] w34M Q := by
            intro m
            induction m using Nat.strongRecOn with
            | ind w34m w34ih =>
              intro w34x1 w34M w34b1 w34s w34I w34F w34J w34PR w34PC w34PF w34r0 w34r1 w34t0 w34q
              obtain ⟨w35n, w35⟩ : ∃ n : Nat, w34x1.toInt = (n : Int) := ⟨(w34x1.toInt).toNat, by omega⟩
              obtain ⟨w34G, w34E, w34nn, w34d, w34wf, w34g⟩ := w34t0 w35n (by omega)
              refine zs_iload_n (pc := 57) t342_57 rfl ?_
              refine zs_aload_n (pc := 58) t342_58 rfl ?_
              refine zs_get (pc := 59) t342_59 (by decide) (zk1 (w34s.k fk_zMm_336)) (zfvi rfl ((w34F 336 47 rfl).trans ((zIoj (by decide)).trans rfl))) ?_
              by_cases w36 : (zI w12M 336 47).toInt ≤ w34x1.toInt
              · refine zs_icmp_geT (pc := 62) t342_62 rfl rfl (by omega) ?_
                refine zs_aload_n (pc := 82) t342_82 rfl ?_
                refine zs_iload_n (pc := 83) t342_83 rfl ?_
                refine zs_aload_n (pc := 84) t342_84 rfl ?_
                refine zs_get (pc := 85) t342_85 (by decide) (zk1 (w34s.k fk_zMm_336)) (zfvi rfl ((w34F 336 47 rfl).trans ((zIoj (by decide)).trans rfl))) ?_
                by_cases w37 : (zI w12M 336 47).toInt ≤ w34x1.toInt
                · refine zs_icmp_geT (pc := 88) t342_88 rfl rfl (by omega) ?_
                  refine zs_iconst (pc := 95) t342_95 (v := -1) (by decide) ?_
                  have w38 : zIv mLo mHi (zsI w34M 336 48 (-1 : Int32)) := zIv.put w34I (show (-2147483648) ≤ (-1 : Int32).toInt ∧ (-1 : Int32).toInt ≤ 2147483647 from zrg (-1 : Int32))
                  refine zs_putI (pc := 96) t342_96 (zk1 (w34s.k fk_zMm_336)) rfl ?_
                  refine zs_iload_n (pc := 99) t342_99 rfl ?_
                  have w39 : (zI (zsI w34M 336 48 (-1 : Int32)) 336 5).toInt = 0 := (congrArg Int32.toInt ((zIoj (by decide)).trans ((w34F 336 5 rfl).trans zIs))).trans li0
                  have w40 : (zI (zsI w34M 336 48 (-1 : Int32)) 336 48).toInt = (-1) := (congrArg Int32.toInt zIs).trans lin1
                  have w41 : (zI (zsI w34M 336 48 (-1 : Int32)) 336 7).toInt = (zI w12M 336 7).toInt := (congrArg Int32.toInt ((zIoj (by decide)).trans ((w34F 336 7 rfl).trans ((zIoj (by decide)).trans rfl)))).trans rfl
                  have w42 := w34d.fin (dSt.end (by omega))
                  exact zs_iret (pc := 100) t342_100 mr342 rfl (hQ _ _ w34s w38 ((((((((zFr.refl).put rfl).put rfl).put rfl).trans (w12F.mono rfl)).put rfl).trans (w34F.mono rfl)).put rfl) (w34J.trans w12J) (zPR.fr (M' := (zsI w34M 336 48 (-1 : Int32))) w34PR (zEq.put rfl)) (zPC.fr (M' := (zsI w34M 336 48 (-1 : Int32))) w34PC (zEq.put rfl)) (zPF.fr (M' := (zsI w34M 336 48 (-1 : Int32))) w34PF (zEq.put rfl) rfl) (by omega) (Or.inr ⟨by omega, w32n, w33A, _, _, _, w33r, by rw [show w34x1.toInt = (w32n : Int) by omega, show (zI (zsI w34M 336 48 (-1 : Int32)) 336 48).toInt = (-1) by omega]; exact w42, w34wf, (zRw.fr' w34g.1 (fun j hj => (zIo (by decide)))), (zHM.fr w34g.2.1 (fun j hj => (zIo (by decide))) (zIoj (by decide))), (zKM.fr w34g.2.2 (fun j hj => (zIo (by decide))) (fun k => (zIo (by decide))))⟩))
                · refine zs_icmp_geF (pc := 88) t342_88 rfl rfl (by omega) ?_
                  refine zs_iload_n (pc := 91) t342_91 rfl ?_
                  refine zs_goto (pc := 92) t342_92 ?_
                  have w43 : zIv mLo mHi (zsI w34M 336 48 w34x1) := zIv.put w34I (show (-2147483648) ≤ w34x1.toInt ∧ w34x1.toInt ≤ 2147483647 from zrg w34x1)
                  refine zs_putI (pc := 96) t342_96 (zk1 (w34s.k fk_zMm_336)) rfl ?_
                  refine zs_iload_n (pc := 99) t342_99 rfl ?_
                  have w44 : (zI (zsI w34M 336 48 w34x1) 336 5).toInt = 0 := (congrArg Int32.toInt ((zIoj (by decide)).trans ((w34F 336 5 rfl).trans zIs))).trans li0
                  have w45 : (zI (zsI w34M 336 48 w34x1) 336 48).toInt = w34x1.toInt := (congrArg Int32.toInt zIs).trans rfl
                  have w46 : (zI (zsI w34M 336 48 w34x1) 336 7).toInt = (zI w12M 336 7).toInt := (congrArg Int32.toInt ((zIoj (by decide)).trans ((w34F 336 7 rfl).trans ((zIoj (by decide)).trans rfl)))).trans rfl
                  have w47 := w34d.fin (dSt.end (by omega))
                  exact zs_iret (pc := 100) t342_100 mr342 rfl (hQ _ _ w34s w43 ((((((((zFr.refl).put rfl).put rfl).put rfl).trans (w12F.mono rfl)).put rfl).trans (w34F.mono rfl)).put rfl) (w34J.trans w12J) (zPR.fr (M' := (zsI w34M 336 48 w34x1)) w34PR (zEq.put rfl)) (zPC.fr (M' := (zsI w34M 336 48 w34x1)) w34PC (zEq.put rfl)) (zPF.fr (M' := (zsI w34M 336 48 w34x1)) w34PF (zEq.put rfl) rfl) (by omega) (Or.inr ⟨by omega, w32n, w33A, _, _, _, w33r, by rw [show w34x1.toInt = (w32n : Int) by omega, show (zI (zsI w34M 336 48 w34x1) 336 48).toInt = (-1) by omega]; exact w47, w34wf, (zRw.fr' w34g.1 (fun j hj => (zIo (by decide)))), (zHM.fr w34g.2.1 (fun j hj => (zIo (by decide))) (zIoj (by decide))), (zKM.fr w34g.2.2 (fun j hj => (zIo (by decide))) (fun k => (zIo (by decide))))⟩))
              · refine zs_icmp_geF (pc := 62) t342_62 rfl rfl (by omega) ?_
                refine zs_aload_n (pc := 65) t342_65 rfl ?_
                refine zs_iconst (pc := 66) t342_66 (v := 4) (by decide) ?_
                refine zs_iload_n (pc := 67) t342_67 rfl ?_
                obtain ⟨w48v, w48⟩ : ∃ v, (4 : Int32) * w34x1 = v := ⟨_, rfl⟩
                have w48g : w48v.toInt = 4 * w34x1.toInt := by rw [← w48]; exact zmulc li4 rfl (by omega) (by omega)
                refine zs_imul (pc := 68) t342_68 (c := w48v) w48 ?_
                have w49 : w48v.toInt = (4 * w34x1.toInt) := w48g
                have w50 : w48v.toInt = (4 * w34x1.toInt) := w48g
                refine zs_invV (pc := 69) (k := 336) (as' := [.int w48v]) (st := []) t342_69 mf344 rfl rfl (Or.inl ⟨by decide, (zk1 (w34s.k fk_zMm_336))⟩) ⟨by decide, by decide, Nat.le_of_ble_eq_true rfl, Nat.le_of_ble_eq_true rfl⟩ (R344 w34s w34I w34PR w34PC w34PF ⟨by omega, by omega⟩ w34g.1 w34g.2.1 w34g.2.2 w34wf ((zBl.fr w33g (fun j => ((w34F 362 j rfl).trans (zIo (by decide))))) w35n (by omega)) (by omega) ?_) (fun _ _ q => q)
                intro w51M w51v w51s w51I w51F w51J w51PR w51PC w51PF w51x0
                have w51g := zrg w51v
                show zGo X l 5 0 0 342 72 [(0, .ref 336), (1, .int w34x1)] [.int w51v] w51M _
                rcases w51x0 with ⟨w52v, w52e, w52g⟩ | ⟨w52v, w52G, w52e, w52g⟩
                · skip
                  refine zs_iconst (pc := 72) t342_72 (v := -1) (by decide) ?_
                  refine zs_icmp_eqT (pc := 73) t342_73 rfl lin1 (by omega) ?_
                  refine zs_aload_n (pc := 82) t342_82 rfl ?_
                  refine zs_iload_n (pc := 83) t342_83 rfl ?_
                  refine zs_aload_n (pc := 84) t342_84 rfl ?_
                  refine zs_get (pc := 85) t342_85 (by decide) (zk1 (w51s.k fk_zMm_336)) (zfvi rfl ((w51F 336 47 rfl).trans ((w34F 336 47 rfl).trans ((zIoj (by decide)).trans rfl)))) ?_
                  by_cases w53 : (zI w12M 336 47).toInt ≤ w34x1.toInt
                  · refine zs_icmp_geT (pc := 88) t342_88 rfl rfl (by omega) ?_
                    refine zs_iconst (pc := 95) t342_95 (v := -1) (by decide) ?_
                    have w54 : zIv mLo mHi (zsI w51M 336 48 (-1 : Int32)) := zIv.put w51I (show (-2147483648) ≤ (-1 : Int32).toInt ∧ (-1 : Int32).toInt ≤ 2147483647 from zrg (-1 : Int32))
                    refine zs_putI (pc := 96) t342_96 (zk1 (w51s.k fk_zMm_336)) rfl ?_
                    refine zs_iload_n (pc := 99) t342_99 rfl ?_
                    have w55 : (zI (zsI w51M 336 48 (-1 : Int32)) 336 5).toInt = 0 := (congrArg Int32.toInt ((zIoj (by decide)).trans ((w51F 336 5 rfl).trans ((w34F 336 5 rfl).trans zIs)))).trans li0
                    have w56 : (zI (zsI w51M 336 48 (-1 : Int32)) 336 48).toInt = (-1) := (congrArg Int32.toInt zIs).trans lin1
                    have w57 : (zI (zsI w51M 336 48 (-1 : Int32)) 336 7).toInt = (zI w12M 336 7).toInt := (congrArg Int32.toInt ((zIoj (by decide)).trans ((w51F 336 7 rfl).trans ((w34F 336 7 rfl).trans ((zIoj (by decide)).trans rfl))))).trans rfl
                    have w58 := w34d.fin (dSt.no (by omega) w52e)
                    exact zs_iret (pc := 100) t342_100 mr342 rfl (hQ _ _ w51s w54 (((((((((zFr.refl).put rfl).put rfl).put rfl).trans (w12F.mono rfl)).put rfl).trans (w34F.mono rfl)).trans (w51F.mono rfl)).put rfl) (w51J.trans (w34J.trans w12J)) (zPR.fr (M' := (zsI w51M 336 48 (-1 : Int32))) w51PR (zEq.put rfl)) (zPC.fr (M' := (zsI w51M 336 48 (-1 : Int32))) w51PC (zEq.put rfl)) (zPF.fr (M' := (zsI w51M 336 48 (-1 : Int32))) w51PF (zEq.put rfl) rfl) (by omega) (Or.inr ⟨by omega, w32n, w33A, _, _, _, w33r, by rw [show w34x1.toInt = (w35n : Int) by omega, show (zI (zsI w51M 336 48 (-1 : Int32)) 336 48).toInt = (w35n : Int) by omega]; exact w58, w34wf, (zRw.fr' w52g.1 (fun j hj => (zIo (by decide)))), (zHM.fr w52g.2.1 (fun j hj => (zIo (by decide))) (zIoj (by decide))), (zKM.fr w52g.2.2 (fun j hj => (zIo (by decide))) (fun k => (zIo (by decide))))⟩))
                  · refine zs_icmp_geF (pc := 88) t342_88 rfl rfl (by omega) ?_
                    refine zs_iload_n (pc := 91) t342_91 rfl ?_
                    refine zs_goto (pc := 92) t342_92 ?_
                    have w59 : zIv mLo mHi (zsI w51M 336 48 w34x1) := zIv.put w51I (show (-2147483648) ≤ w34x1.toInt ∧ w34x1.toInt ≤ 2147483647 from zrg w34x1)
                    refine zs_putI (pc := 96) t342_96 (zk1 (w51s.k fk_zMm_336)) rfl ?_
                    refine zs_iload_n (pc := 99) t342_99 rfl ?_
                    have w60 : (zI (zsI w51M 336 48 w34x1) 336 5).toInt = 0 := (congrArg Int32.toInt ((zIoj (by decide)).trans ((w51F 336 5 rfl).trans ((w34F 336 5 rfl).trans zIs)))).trans li0
                    have w61 : (zI (zsI w51M 336 48 w34x1) 336 48).toInt = w34x1.toInt := (congrArg Int32.toInt zIs).trans rfl
                    have w62 : (zI (zsI w51M 336 48 w34x1) 336 7).toInt = (zI w12M 336 7).toInt := (congrArg Int32.toInt ((zIoj (by decide)).trans ((w51F 336 7 rfl).trans ((w34F 336 7 rfl).trans ((zIoj (by decide)).trans rfl))))).trans rfl
                    have w63 := w34d.fin (dSt.no (by omega) w52e)
                    exact zs_iret (pc := 100) t342_100 mr342 rfl (hQ _ _ w51s w59 (((((((((zFr.refl).put rfl).put rfl).put rfl).trans (w12F.mono rfl)).put rfl).trans (w34F.mono rfl)).trans (w51F.mono rfl)).put rfl) (w51J.trans (w34J.trans w12J)) (zPR.fr (M' := (zsI w51M 336 48 w34x1)) w51PR (zEq.put rfl)) (zPC.fr (M' := (zsI w51M 336 48 w34x1)) w51PC (zEq.put rfl)) (zPF.fr (M' := (zsI w51M 336 48 w34x1)) w51PF (zEq.put rfl) rfl) (by omega) (Or.inr ⟨by omega, w32n, w33A, _, _, _, w33r, by rw [show w34x1.toInt = (w35n : Int) by omega, show (zI (zsI w51M 336 48 w34x1) 336 48).toInt = (w35n : Int) by omega]; exact w63, w34wf, (zRw.fr' w52g.1 (fun j hj => (zIo (by decide)))), (zHM.fr w52g.2.1 (fun j hj => (zIo (by decide))) (zIoj (by decide))), (zKM.fr w52g.2.2 (fun j hj => (zIo (by decide))) (fun k => (zIo (by decide))))⟩))
                · skip
                  refine zs_iconst (pc := 72) t342_72 (v := -1) (by decide) ?_
                  by_cases w64 : w51v.toInt = (-1)
                  · refine zs_icmp_eqT (pc := 73) t342_73 rfl lin1 (by omega) ?_
                    refine zs_aload_n (pc := 82) t342_82 rfl ?_
                    refine zs_iload_n (pc := 83) t342_83 rfl ?_
                    refine zs_aload_n (pc := 84) t342_84 rfl ?_
                    refine zs_get (pc := 85) t342_85 (by decide) (zk1 (w51s.k fk_zMm_336)) (zfvi rfl ((w51F 336 47 rfl).trans ((w34F 336 47 rfl).trans ((zIoj (by decide)).trans rfl)))) ?_
                    by_cases w65 : (zI w12M 336 47).toInt ≤ w34x1.toInt
                    · refine zs_icmp_geT (pc := 88) t342_88 rfl rfl (by omega) ?_
                      refine zs_iconst (pc := 95) t342_95 (v := -1) (by decide) ?_
                      have w66 : zIv mLo mHi (zsI w51M 336 48 (-1 : Int32)) := zIv.put w51I (show (-2147483648) ≤ (-1 : Int32).toInt ∧ (-1 : Int32).toInt ≤ 2147483647 from zrg (-1 : Int32))
                      refine zs_putI (pc := 96) t342_96 (zk1 (w51s.k fk_zMm_336)) rfl ?_
                      refine zs_iload_n (pc := 99) t342_99 rfl ?_
                      have w67 : (zI (zsI w51M 336 48 (-1 : Int32)) 336 5).toInt = 0 := (congrArg Int32.toInt ((zIoj (by decide)).trans ((w51F 336 5 rfl).trans ((w34F 336 5 rfl).trans zIs)))).trans li0
                      have w68 : (zI (zsI w51M 336 48 (-1 : Int32)) 336 48).toInt = (-1) := (congrArg Int32.toInt zIs).trans lin1
                      have w69 : (zI (zsI w51M 336 48 (-1 : Int32)) 336 7).toInt = (zI w12M 336 7).toInt := (congrArg Int32.toInt ((zIoj (by decide)).trans ((w51F 336 7 rfl).trans ((w34F 336 7 rfl).trans ((zIoj (by decide)).trans rfl))))).trans rfl
                      exact zs_iret (pc := 100) t342_100 mr342 rfl (hQ _ _ w51s w66 (((((((((zFr.refl).put rfl).put rfl).put rfl).trans (w12F.mono rfl)).put rfl).trans (w34F.mono rfl)).trans (w51F.mono rfl)).put rfl) (w51J.trans (w34J.trans w12J)) (zPR.fr (M' := (zsI w51M 336 48 (-1 : Int32))) w51PR (zEq.put rfl)) (zPC.fr (M' := (zsI w51M 336 48 (-1 : Int32))) w51PC (zEq.put rfl)) (zPF.fr (M' := (zsI w51M 336 48 (-1 : Int32))) w51PF (zEq.put rfl) rfl) (by omega) (absurd (show w51v.toInt = -1 by omega) w52v))
                    · refine zs_icmp_geF (pc := 88) t342_88 rfl rfl (by omega) ?_
                      refine zs_iload_n (pc := 91) t342_91 rfl ?_
                      refine zs_goto (pc := 92) t342_92 ?_
                      have w70 : zIv mLo mHi (zsI w51M 336 48 w34x1) := zIv.put w51I (show (-2147483648) ≤ w34x1.toInt ∧ w34x1.toInt ≤ 2147483647 from zrg w34x1)
                      refine zs_putI (pc := 96) t342_96 (zk1 (w51s.k fk_zMm_336)) rfl ?_
                      refine zs_iload_n (pc := 99) t342_99 rfl ?_
                      have w71 : (zI (zsI w51M 336 48 w34x1) 336 5).toInt = 0 := (congrArg Int32.toInt ((zIoj (by decide)).trans ((w51F 336 5 rfl).trans ((w34F 336 5 rfl).trans zIs)))).trans li0
                      have w72 : (zI (zsI w51M 336 48 w34x1) 336 48).toInt = w34x1.toInt := (congrArg Int32.toInt zIs).trans rfl
                      have w73 : (zI (zsI w51M 336 48 w34x1) 336 7).toInt = (zI w12M 336 7).toInt := (congrArg Int32.toInt ((zIoj (by decide)).trans ((w51F 336 7 rfl).trans ((w34F 336 7 rfl).trans ((zIoj (by decide)).trans rfl))))).trans rfl
                      exact zs_iret (pc := 100) t342_100 mr342 rfl (hQ _ _ w51s w70 (((((((((zFr.refl).put rfl).put rfl).put rfl).trans (w12F.mono rfl)).put rfl).trans (w34F.mono rfl)).trans (w51F.mono rfl)).put rfl) (w51J.trans (w34J.trans w12J)) (zPR.fr (M' := (zsI w51M 336 48 w34x1)) w51PR (zEq.put rfl)) (zPC.fr (M' := (zsI w51M 336 48 w34x1)) w51PC (zEq.put rfl)) (zPF.fr (M' := (zsI w51M 336 48 w34x1)) w51PF (zEq.put rfl) rfl) (by omega) (absurd (show w51v.toInt = -1 by omega) w52v))
                  · refine zs_icmp_eqF (pc := 73) t342_73 rfl lin1 (by omega) ?_
                    obtain ⟨w74v, w74e, w74⟩ := ziadd (a := w34x1) (b := Int32.ofInt 1) rfl (show (Int32.ofInt 1).toInt = 1 by decide) (by omega) (by omega)
                    refine zs_iinc (pc := 76) t342_76 (ls' := [(1, .int w74v), (0, .ref 336)]) (zml mf342 (by decide)) rfl (c := w74v) w74e rfl ?_
                    refine zs_goto (pc := 79) t342_79 ?_
                    refine zGo.locals (ls' := [(0, .ref 336), (1, .int w74v)]) (by simp) ?_
                    have w75 := w74
                    have w76 : (zI w51M 336 47).toInt = (zI w12M 336 47).toInt := (congrArg Int32.toInt ((w51F 336 47 rfl).trans ((w34F 336 47 rfl).trans ((zIoj (by decide)).trans rfl)))).trans rfl
                    have w77 : (zI w51M 336 5).toInt = 0 := (congrArg Int32.toInt ((w51F 336 5 rfl).trans ((w34F 336 5 rfl).trans zIs))).trans li0
                    have w78 : w74v.toInt = (w34x1.toInt + 1) := w74
                    exact w34ih (w34m - 1) (by omega) w74v w51M ⟨by omega, by omega⟩ w51s w51I (((zFr.refl).trans (w34F.mono rfl)).trans (w51F.mono rfl)) (w51J.trans w34J) w51PR w51PC w51PF (by omega) (by omega) (fun i hi => by obtain rfl : w35n + 1 = i := (by omega); exact ⟨_, _, _, w34d.go (dSt.go (by omega) w52e), aDo.wf w34wf w52e, w52g.1, w52g.2.1, w52g.2.2⟩) (by omega)
          refine zGo.locals (ls' := [(0, .ref 336), (1, .int (0 : Int32))]) (by simp) ?_
          have w79 := li0
          have w80 : (zI (zsI w12M 336 5 (0 : Int32)) 336 47).toInt = (zI w12M 336 47).toInt := (congrArg Int32.toInt ((zIoj (by decide)).trans rfl)).trans rfl
          have w81 : (zI (zsI w12M 336 5 (0 : Int32)) 336 5).toInt = 0 := (congrArg Int32.toInt zIs).trans li0
          exact w34L ((20 - 0 : Int).toNat) (0 : Int32) (zsI w12M 336 5 (0 : Int32)) ⟨by decide, by decide⟩ w12s w27 zFr.refl rfl (zPR.fr (M' := (zsI w12M 336 5 (0 : Int32))) (zPR.fr (zPR.fr (M' := (zsI (zsI (zsI M 336 6 (0 : Int32)) 336 7 (-1 : Int32)) 336 47 (0 : Int32))) (zPR.fr (M' := (zsI (zsI M 336 6 (0 : Int32)) 336 7 (-1 : Int32))) (zPR.fr (M' := (zsI M 336 6 (0 : Int32))) pR (zEq.put rfl)) (zEq.put rfl)) (zEq.put rfl)) (w12F.eq rfl)) (zEq.put rfl)) (zPC.fr (M' := (zsI w12M 336 5 (0 : Int32))) (zPC.fr (zPC.fr (M' := (zsI (zsI (zsI M 336 6 (0 : Int32)) 336 7 (-1 : Int32)) 336 47 (0 : Int32))) (zPC.fr (M' := (zsI (zsI M 336 6 (0 : Int32)) 336 7 (-1 : Int32))) (zPC.fr (M' := (zsI M 336 6 (0 : Int32))) pC (zEq.put rfl)) (zEq.put rfl)) (zEq.put rfl)) (w12F.eq rfl)) (zEq.put rfl)) (zPF.fr (M' := (zsI w12M 336 5 (0 : Int32))) (zPF.fr (zPF.fr (M' := (zsI (zsI (zsI M 336 6 (0 : Int32)) 336 7 (-1 : Int32)) 336 47 (0 : Int32))) (zPF.fr (M' := (zsI (zsI M 336 6 (0 : Int32)) 336 7 (-1 : Int32))) (zPF.fr (M' := (zsI M 336 6 (0 : Int32))) pF (zEq.put rfl) rfl) (zEq.put rfl) rfl) (zEq.put rfl) rfl) (w12F.eq rfl) w12J) (zEq.put rfl) rfl) (by omega) (by omega) (fun i hi => by obtain rfl : i = 0 := (by omega); exact ⟨F, H, n, gEq.refl, x3, (zRw.fr' (zRw.fr' x0 (fun j hj => ((w12F 337 j rfl).trans ((zIo (by decide)).trans ((zIo (by decide)).trans (zIo (by decide))))))) (fun j hj => (zIo (by decide)))), (zHM.fr (zHM.fr x1 (fun j hj => ((w12F 337 j rfl).trans ((zIo (by decide)).trans ((zIo (by decide)).trans (zIo (by decide)))))) ((w12F 336 1 rfl).trans ((zIoj (by decide)).trans ((zIoj (by decide)).trans (zIoj (by decide)))))) (fun j hj => (zIo (by decide))) (zIoj (by decide))), (zKM.fr (zKM.fr x2 (fun j hj => ((w12F 337 j rfl).trans ((zIo (by decide)).trans ((zIo (by decide)).trans (zIo (by decide)))))) (fun k => ((w12F 338 k rfl).trans ((zIo (by decide)).trans ((zIo (by decide)).trans (zIo (by decide))))))) (fun j hj => (zIo (by decide))) (fun k => (zIo (by decide))))⟩) (by omega)
        · refine zs_icmp_geF (pc := 25) t342_25 rfl rfl (by omega) ?_
          refine zs_aload_n (pc := 28) t342_28 rfl ?_
          have w82 : (zI w12M 336 6).toInt = (zI w12M 336 6).toInt := (congrArg Int32.toInt rfl).trans rfl
          have w83 : (zI w12M 336 7).toInt = (zI w12M 336 7).toInt := (congrArg Int32.toInt rfl).trans rfl
          have w84 : (zI w12M 336 47).toInt = (zI w12M 336 47).toInt := (congrArg Int32.toInt rfl).trans rfl
          obtain ⟨w85n, w85⟩ : ∃ n : Nat, (zI w12M 336 6).toInt = (n : Int) := ⟨((zI w12M 336 6).toInt).toNat, by omega⟩
          obtain ⟨w86n, w86⟩ : ∃ n : Nat, (zI w12M 336 47).toInt = (n : Int) := ⟨((zI w12M 336 47).toInt).toNat, by omega⟩
          obtain ⟨w87A, w87d, w87g⟩ := w12t0 (by omega) w85n w86n (by omega) (by omega)
          have w88 : (zI w12M 336 6).toInt = (zI w12M 336 6).toInt := (congrArg Int32.toInt rfl).trans rfl
          have w89 : (zI w12M 336 5).toInt = (zI M 336 5).toInt := (congrArg Int32.toInt ((w12F 336 5 rfl).trans ((zIoj (by decide)).trans ((zIoj (by decide)).trans ((zIoj (by decide)).trans rfl))))).trans rfl
          have w90 : (zI w12M 336 7).toInt = (zI w12M 336 7).toInt := (congrArg Int32.toInt rfl).trans rfl
          have w91 : (zI w12M 336 47).toInt = (zI w12M 336 47).toInt := (congrArg Int32.toInt rfl).trans rfl
          refine zs_invV (pc := 29) (k := 336) (as' := []) (st := []) t342_29 mf343 rfl rfl (Or.inl ⟨by decide, (zk1 (w12s.k fk_zMm_336))⟩) ⟨by decide, by decide, Nat.le_of_ble_eq_true rfl, Nat.le_of_ble_eq_true rfl⟩ (R343 w12s w12I (by omega) (by omega) (by omega) (by omega) (zTm.mk x4 (fun j => ((w12F 339 j rfl).trans ((zIo (by decide)).trans ((zIo (by decide)).trans (zIo (by decide)))))) ((w12F 336 5 rfl).trans ((zIoj (by decide)).trans ((zIoj (by decide)).trans (zIoj (by decide)))))) ?_) (fun _ _ q => q)
          intro w92M w92v w92s w92I w92F w92J w92x0 w92a w92b
          show zGo X l 5 0 0 342 32 [(0, .ref 336)] [.int w92v] w92M _
          rcases w92x0.1 w85n w86n (by omega) (by omega) with ⟨w87v, w87_0, w87q, w87B, w87_1, w87_2, w87_3, w87_4, w87_5, w87_6, w87t⟩ | ⟨w87v, w87_5, w87z⟩
          · skip
            refine zs_if_neT (pc := 32) t342_32 rfl (by omega) ?_
            refine zGo.locals (ls' := [(0, .ref 336)]) (by simp) ?_
            have w93 := ib336_47 w92I
            have w94 : (zI w92M 336 47).toInt = (zI w92M 336 47).toInt := (congrArg Int32.toInt rfl).trans rfl
            have w95 := ib336_6 w92I
            have w96 : (zI w92M 336 6).toInt = (zI w92M 336 6).toInt := (congrArg Int32.toInt rfl).trans rfl
            have w97 : (zI w92M 336 5).toInt = (zI M 336 5).toInt := (congrArg Int32.toInt ((w92F 336 5 rfl).trans ((w12F 336 5 rfl).trans ((zIoj (by decide)).trans ((zIoj (by decide)).trans ((zIoj (by decide)).trans rfl)))))).trans rfl
            have w98 := ib336_7 w92I
            have w99 : (zI w92M 336 7).toInt = (zI w92M 336 7).toInt := (congrArg Int32.toInt rfl).trans rfl
            have w100 : (zI w92M 336 5).toInt = (zI M 336 5).toInt := (congrArg Int32.toInt ((w92F 336 5 rfl).trans ((w12F 336 5 rfl).trans ((zIoj (by decide)).trans ((zIoj (by decide)).trans ((zIoj (by decide)).trans rfl)))))).trans rfl
            have w101 : (zI w92M 336 6).toInt = (zI w92M 336 6).toInt := (congrArg Int32.toInt rfl).trans rfl
            have w102 : (zI w92M 336 7).toInt = (zI w92M 336 7).toInt := (congrArg Int32.toInt rfl).trans rfl
            exact w12ih (w12m - 1) (by omega) w92M w92s w92I (((zFr.refl).trans (w12F.mono rfl)).trans (w92F.mono rfl)) (w92J.trans w12J) (by omega) (by omega) (by omega) (fun q p k hp hk => by obtain rfl : w87q = p := (by omega); obtain rfl : w86n + 1 = k := (by omega); exact ⟨_, w87d.go (aSt.go (by omega) (by omega) w87_1), w87g.up w87t (fun j hj => w92x0.2 j (by omega))⟩) (fun q => absurd (by omega) q) (by omega)
          · skip
            refine zs_if_neF (pc := 32) t342_32 rfl (by omega) ?_
            refine zs_aload_n (pc := 35) t342_35 rfl ?_
            refine zs_aload_n (pc := 36) t342_36 rfl ?_
            refine zs_get (pc := 37) t342_37 (by decide) (zk1 (w92s.k fk_zMm_336)) (zfvi rfl ((w92F 336 5 rfl).trans ((w12F 336 5 rfl).trans ((zIoj (by decide)).trans ((zIoj (by decide)).trans ((zIoj (by decide)).trans rfl)))))) ?_
            have w103 : zIv mLo mHi (zsI w92M 336 6 (zI M 336 5)) := zIv.put w92I (show 0 ≤ (zI M 336 5).toInt ∧ (zI M 336 5).toInt ≤ 500 from ⟨by omega, by omega⟩)
            refine zs_putI (pc := 40) t342_40 (zk1 (w92s.k fk_zMm_336)) rfl ?_
            refine zs_goto (pc := 43) t342_43 ?_
            refine zGo.locals (ls' := [(0, .ref 336)]) (by simp) ?_
            have w104 := ib336_47 w92I
            have w105 : (zI (zsI w92M 336 6 (zI M 336 5)) 336 47).toInt = (zI w92M 336 47).toInt := (congrArg Int32.toInt ((zIoj (by decide)).trans rfl)).trans rfl
            have w106 : (zI (zsI w92M 336 6 (zI M 336 5)) 336 6).toInt = (zI M 336 5).toInt := (congrArg Int32.toInt zIs).trans rfl
            have w107 : (zI (zsI w92M 336 6 (zI M 336 5)) 336 5).toInt = (zI M 336 5).toInt := (congrArg Int32.toInt ((zIoj (by decide)).trans ((w92F 336 5 rfl).trans ((w12F 336 5 rfl).trans ((zIoj (by decide)).trans ((zIoj (by decide)).trans ((zIoj (by decide)).trans rfl))))))).trans rfl
            have w108 := ib336_7 w92I
            have w109 : (zI (zsI w92M 336 6 (zI M 336 5)) 336 7).toInt = (zI w92M 336 7).toInt := (congrArg Int32.toInt ((zIoj (by decide)).trans rfl)).trans rfl
            have w110 : (zI (zsI w92M 336 6 (zI M 336 5)) 336 5).toInt = (zI M 336 5).toInt := (congrArg Int32.toInt ((zIoj (by decide)).trans ((w92F 336 5 rfl).trans ((w12F 336 5 rfl).trans ((zIoj (by decide)).trans ((zIoj (by decide)).trans ((zIoj (by decide)).trans rfl))))))).trans rfl
            have w111 : (zI (zsI w92M 336 6 (zI M 336 5)) 336 6).toInt = (zI M 336 5).toInt := (congrArg Int32.toInt zIs).trans rfl
            have w112 : (zI (zsI w92M 336 6 (zI M 336 5)) 336 7).toInt = (zI w92M 336 7).toInt := (congrArg Int32.toInt ((zIoj (by decide)).trans rfl)).trans rfl
            exact w12ih (w12m - 1) (by omega) (zsI w92M 336 6 (zI M 336 5)) w92s w103 ((((zFr.refl).trans (w12F.mono rfl)).trans (w92F.mono rfl)).put rfl) (w92J.trans w12J) (by omega) (by omega) (by omega) (fun q => absurd q (by omega)) (fun q => w87z.elim (fun z => w87d.fin (aSt.full (by omega) z)) (fun z => w87d.fin (aSt.no (by omega) z))) (by omega)
  refine zGo.locals (ls' := [(0, .ref 336)]) (by simp) ?_
  have w113 : (zI (zsI (zsI (zsI M 336 6 (0 : Int32)) 336 7 (-1 : Int32)) 336 47 (0 : Int32)) 336 47).toInt = 0 := (congrArg Int32.toInt zIs).trans li0
  have w114 : (zI (zsI (zsI (zsI M 336 6 (0 : Int32)) 336 7 (-1 : Int32)) 336 47 (0 : Int32)) 336 6).toInt = 0 := (congrArg Int32.toInt ((zIoj (by decide)).trans ((zIoj (by decide)).trans zIs))).trans li0
  have w115 : (zI (zsI (zsI (zsI M 336 6 (0 : Int32)) 336 7 (-1 : Int32)) 336 47 (0 : Int32)) 336 5).toInt = (zI M 336 5).toInt := (congrArg Int32.toInt ((zIoj (by decide)).trans ((zIoj (by decide)).trans ((zIoj (by decide)).trans rfl)))).trans rfl
  have w116 : (zI (zsI (zsI (zsI M 336 6 (0 : Int32)) 336 7 (-1 : Int32)) 336 47 (0 : Int32)) 336 7).toInt = (-1) := (congrArg Int32.toInt ((zIoj (by decide)).trans zIs)).trans lin1
  have w117 : (zI (zsI (zsI (zsI M 336 6 (0 : Int32)) 336 7 (-1 : Int32)) 336 47 (0 : Int32)) 336 5).toInt = (zI M 336 5).toInt := (congrArg Int32.toInt ((zIoj (by decide)).trans ((zIoj (by decide)).trans ((zIoj (by decide)).trans rfl)))).trans rfl
  have w118 : (zI (zsI (zsI (zsI M 336 6 (0 : Int32)) 336 7 (-1 : Int32)) 336 47 (0 : Int32)) 336 6).toInt = 0 := (congrArg Int32.toInt ((zIoj (by decide)).trans ((zIoj (by decide)).trans zIs))).trans li0
  have w119 : (zI (zsI (zsI (zsI M 336 6 (0 : Int32)) 336 7 (-1 : Int32)) 336 47 (0 : Int32)) 336 7).toInt = (-1) := (congrArg Int32.toInt ((zIoj (by decide)).trans zIs)).trans lin1
  exact w12L ((501 - (zI (zsI (zsI (zsI M 336 6 (0 : Int32)) 336 7 (-1 : Int32)) 336 47 (0 : Int32)) 336 6).toInt - 501 * (min (zI (zsI (zsI (zsI M 336 6 (0 : Int32)) 336 7 (-1 : Int32)) 336 47 (0 : Int32)) 336 7).toInt 0) : Int).toNat) (zsI (zsI (zsI M 336 6 (0 : Int32)) 336 7 (-1 : Int32)) 336 47 (0 : Int32)) hs w11 zFr.refl rfl (by omega) (by omega) (by omega) (fun q p k hp hk => by obtain rfl : p = 0 := (by omega); obtain rfl : k = 0 := (by omega); exact ⟨aZ, gEq.refl, zBl.z⟩) (fun q => absurd q (by omega)) (by omega)
