theorem E260 {X : zX} {l : Launch} {M : zM} {Q : Option Value → zM → Prop} {a : Int32} (hs : zSk zMm M) (hI : zIv mLo mHi M) (hQ : ∀ v : Int32, (v.toInt = -1 ∨ 0 ≤ a.toInt) → (v.toInt = zlx a.toInt) → (-1) ≤ v.toInt → v.toInt ≤ 7 → Q (some (.int v)) M) : zCall X l 0 0 0 260 [.int a] M Q := by
  have ga := zrg a
  refine zs_in (by decide) mf260 (Nat.le_of_ble_eq_true rfl) ?_
  show zGo X l 0 0 0 260 0 [(0, .int a)] [] M _
  refine zs_iload_n (pc := 0) t260_0 rfl ?_
  by_cases w1 : a.toInt = 103
  · refine zs_tswI (pc := 1) t260_1 ((rfl : a.toInt = a.toInt).trans w1) (by decide) rfl (pc2 := 86) rfl ?_
    refine zs_iconst (pc := 86) t260_86 (v := 3) (by decide) ?_
    have w2 := li3
    exact zs_iret (pc := 87) t260_87 mr260 (by decide) (hQ _ (by omega) (by unfold zlx; first | omega | ((repeat (first | rw [if_pos (by omega)] | rw [if_neg (by omega)])); omega) | ((repeat (first | rw [if_pos (by omega)] | rw [if_neg (by omega)])); decide)) (by decide) (by decide))
  by_cases w3 : a.toInt = 104
  · refine zs_tswI (pc := 1) t260_1 ((rfl : a.toInt = a.toInt).trans w3) (by decide) rfl (pc2 := 82) rfl ?_
    refine zs_iconst (pc := 82) t260_82 (v := 1) (by decide) ?_
    have w4 := li1
    exact zs_iret (pc := 83) t260_83 mr260 (by decide) (hQ _ (by omega) (by unfold zlx; first | omega | ((repeat (first | rw [if_pos (by omega)] | rw [if_neg (by omega)])); omega) | ((repeat (first | rw [if_pos (by omega)] | rw [if_neg (by omega)])); decide)) (by decide) (by decide))
  by_cases w5 : a.toInt = 105
  · refine zs_tswI (pc := 1) t260_1 ((rfl : a.toInt = a.toInt).trans w5) (by decide) rfl (pc2 := 98) rfl ?_
    refine zs_iconst (pc := 98) t260_98 (v := -1) (by decide) ?_
    have w6 := lin1
    exact zs_iret (pc := 99) t260_99 mr260 (by decide) (hQ _ (by omega) (by unfold zlx; first | omega | ((repeat (first | rw [if_pos (by omega)] | rw [if_neg (by omega)])); omega) | ((repeat (first | rw [if_pos (by omega)] | rw [if_neg (by omega)])); decide)) (by decide) (by decide))
  by_cases w7 : a.toInt = 106
  · refine zs_tswI (pc := 1) t260_1 ((rfl : a.toInt = a.toInt).trans w7) (by decide) rfl (pc2 := 98) rfl ?_
    refine zs_iconst (pc := 98) t260_98 (v := -1) (by decide) ?_
    have w8 := lin1
    exact zs_iret (pc := 99) t260_99 mr260 (by decide) (hQ _ (by omega) (by unfold zlx; first | omega | ((repeat (first | rw [if_pos (by omega)] | rw [if_neg (by omega)])); omega) | ((repeat (first | rw [if_pos (by omega)] | rw [if_neg (by omega)])); decide)) (by decide) (by decide))
  by_cases w9 : a.toInt = 107
  · refine zs_tswI (pc := 1) t260_1 ((rfl : a.toInt = a.toInt).trans w9) (by decide) rfl (pc2 := 98) rfl ?_
    refine zs_iconst (pc := 98) t260_98 (v := -1) (by decide) ?_
    have w10 := lin1
    exact zs_iret (pc := 99) t260_99 mr260 (by decide) (hQ _ (by omega) (by unfold zlx; first | omega | ((repeat (first | rw [if_pos (by omega)] | rw [if_neg (by omega)])); omega) | ((repeat (first | rw [if_pos (by omega)] | rw [if_neg (by omega)])); decide)) (by decide) (by decide))
  by_cases w11 : a.toInt = 108
  · refine zs_tswI (pc := 1) t260_1 ((rfl : a.toInt = a.toInt).trans w11) (by decide) rfl (pc2 := 90) rfl ?_
    refine zs_iconst (pc := 90) t260_90 (v := 5) (by decide) ?_
    have w12 := li5
    exact zs_iret (pc := 91) t260_91 mr260 (by decide) (hQ _ (by omega) (by unfold zlx; first | omega | ((repeat (first | rw [if_pos (by omega)] | rw [if_neg (by omega)])); omega) | ((repeat (first | rw [if_pos (by omega)] | rw [if_neg (by omega)])); decide)) (by decide) (by decide))
  by_cases w13 : a.toInt = 109
  · refine zs_tswI (pc := 1) t260_1 ((rfl : a.toInt = a.toInt).trans w13) (by decide) rfl (pc2 := 88) rfl ?_
    refine zs_iconst (pc := 88) t260_88 (v := 4) (by decide) ?_
    have w14 := li4
    exact zs_iret (pc := 89) t260_89 mr260 (by decide) (hQ _ (by omega) (by unfold zlx; first | omega | ((repeat (first | rw [if_pos (by omega)] | rw [if_neg (by omega)])); omega) | ((repeat (first | rw [if_pos (by omega)] | rw [if_neg (by omega)])); decide)) (by decide) (by decide))
  by_cases w15 : a.toInt = 110
  · refine zs_tswI (pc := 1) t260_1 ((rfl : a.toInt = a.toInt).trans w15) (by decide) rfl (pc2 := 80) rfl ?_
    refine zs_iconst (pc := 80) t260_80 (v := 0) (by decide) ?_
    have w16 := li0
    exact zs_iret (pc := 81) t260_81 mr260 (by decide) (hQ _ (by omega) (by unfold zlx; first | omega | ((repeat (first | rw [if_pos (by omega)] | rw [if_neg (by omega)])); omega) | ((repeat (first | rw [if_pos (by omega)] | rw [if_neg (by omega)])); decide)) (by decide) (by decide))
  by_cases w17 : a.toInt = 111
  · refine zs_tswI (pc := 1) t260_1 ((rfl : a.toInt = a.toInt).trans w17) (by decide) rfl (pc2 := 95) rfl ?_
    refine zs_bipush (pc := 95) t260_95 (v := 7) (by decide) ?_
    have w18 := li7
    exact zs_iret (pc := 97) t260_97 mr260 (by decide) (hQ _ (by omega) (by unfold zlx; first | omega | ((repeat (first | rw [if_pos (by omega)] | rw [if_neg (by omega)])); omega) | ((repeat (first | rw [if_pos (by omega)] | rw [if_neg (by omega)])); decide)) (by decide) (by decide))
  by_cases w19 : a.toInt = 112
  · refine zs_tswI (pc := 1) t260_1 ((rfl : a.toInt = a.toInt).trans w19) (by decide) rfl (pc2 := 98) rfl ?_
    refine zs_iconst (pc := 98) t260_98 (v := -1) (by decide) ?_
    have w20 := lin1
    exact zs_iret (pc := 99) t260_99 mr260 (by decide) (hQ _ (by omega) (by unfold zlx; first | omega | ((repeat (first | rw [if_pos (by omega)] | rw [if_neg (by omega)])); omega) | ((repeat (first | rw [if_pos (by omega)] | rw [if_neg (by omega)])); decide)) (by decide) (by decide))
  by_cases w21 : a.toInt = 113
  · refine zs_tswI (pc := 1) t260_1 ((rfl : a.toInt = a.toInt).trans w21) (by decide) rfl (pc2 := 98) rfl ?_
    refine zs_iconst (pc := 98) t260_98 (v := -1) (by decide) ?_
    have w22 := lin1
    exact zs_iret (pc := 99) t260_99 mr260 (by decide) (hQ _ (by omega) (by unfold zlx; first | omega | ((repeat (first | rw [if_pos (by omega)] | rw [if_neg (by omega)])); omega) | ((repeat (first | rw [if_pos (by omega)] | rw [if_neg (by omega)])); decide)) (by decide) (by decide))
  by_cases w23 : a.toInt = 114
  · refine zs_tswI (pc := 1) t260_1 ((rfl : a.toInt = a.toInt).trans w23) (by decide) rfl (pc2 := 98) rfl ?_
    refine zs_iconst (pc := 98) t260_98 (v := -1) (by decide) ?_
    have w24 := lin1
    exact zs_iret (pc := 99) t260_99 mr260 (by decide) (hQ _ (by omega) (by unfold zlx; first | omega | ((repeat (first | rw [if_pos (by omega)] | rw [if_neg (by omega)])); omega) | ((repeat (first | rw [if_pos (by omega)] | rw [if_neg (by omega)])); decide)) (by decide) (by decide))
  by_cases w25 : a.toInt = 115
  · refine zs_tswI (pc := 1) t260_1 ((rfl : a.toInt = a.toInt).trans w25) (by decide) rfl (pc2 := 98) rfl ?_
    refine zs_iconst (pc := 98) t260_98 (v := -1) (by decide) ?_
    have w26 := lin1
    exact zs_iret (pc := 99) t260_99 mr260 (by decide) (hQ _ (by omega) (by unfold zlx; first | omega | ((repeat (first | rw [if_pos (by omega)] | rw [if_neg (by omega)])); omega) | ((repeat (first | rw [if_pos (by omega)] | rw [if_neg (by omega)])); decide)) (by decide) (by decide))
  by_cases w27 : a.toInt = 116
  · refine zs_tswI (pc := 1) t260_1 ((rfl : a.toInt = a.toInt).trans w27) (by decide) rfl (pc2 := 98) rfl ?_
    refine zs_iconst (pc := 98) t260_98 (v := -1) (by decide) ?_
    have w28 := lin1
    exact zs_iret (pc := 99) t260_99 mr260 (by decide) (hQ _ (by omega) (by unfold zlx; first | omega | ((repeat (first | rw [if_pos (by omega)] | rw [if_neg (by omega)])); omega) | ((repeat (first | rw [if_pos (by omega)] | rw [if_neg (by omega)])); decide)) (by decide) (by decide))
  by_cases w29 : a.toInt = 117
  · refine zs_tswI (pc := 1) t260_1 ((rfl : a.toInt = a.toInt).trans w29) (by decide) rfl (pc2 := 92) rfl ?_
    refine zs_bipush (pc := 92) t260_92 (v := 6) (by decide) ?_
    have w30 := li6
    exact zs_iret (pc := 94) t260_94 mr260 (by decide) (hQ _ (by omega) (by unfold zlx; first | omega | ((repeat (first | rw [if_pos (by omega)] | rw [if_neg (by omega)])); omega) | ((repeat (first | rw [if_pos (by omega)] | rw [if_neg (by omega)])); decide)) (by decide) (by decide))
  by_cases w31 : a.toInt = 118
  · refine zs_tswI (pc := 1) t260_1 ((rfl : a.toInt = a.toInt).trans w31) (by decide) rfl (pc2 := 84) rfl ?_
    refine zs_iconst (pc := 84) t260_84 (v := 2) (by decide) ?_
    have w32 := li2
    exact zs_iret (pc := 85) t260_85 mr260 (by decide) (hQ _ (by omega) (by unfold zlx; first | omega | ((repeat (first | rw [if_pos (by omega)] | rw [if_neg (by omega)])); omega) | ((repeat (first | rw [if_pos (by omega)] | rw [if_neg (by omega)])); decide)) (by decide) (by decide))
  refine zs_tswD (pc := 1) t260_1 rfl (by omega) (pc2 := 98) rfl ?_
  refine zs_iconst (pc := 98) t260_98 (v := -1) (by decide) ?_
  have w33 := lin1
  exact zs_iret (pc := 99) t260_99 mr260 (by decide) (hQ _ (by omega) (by unfold zlx; first | omega | ((repeat (first | rw [if_pos (by omega)] | rw [if_neg (by omega)])); omega) | ((repeat (first | rw [if_pos (by omega)] | rw [if_neg (by omega)])); decide)) (by decide) (by decide))
theorem E262 {X : zX} {l : Launch} {M : zM} {Q : Option Value → zM → Prop} {a : Int32} (hs : zSk zMm M) (hI : zIv mLo mHi M) (hQ : ∀ v : Int32, ((v.toInt = 1 ∧ (a.toInt = 42 ∨ a.toInt = 43 ∨ a.toInt = 45)) ∨ (v.toInt = 0 ∧ a.toInt ≠ 42 ∧ a.toInt ≠ 43 ∧ a.toInt ≠ 45)) → 0 ≤ v.toInt → v.toInt ≤ 1 → Q (some (.int v)) M) : zCall X l 0 0 0 262 [.int a] M Q := by
  have ga := zrg a
  refine zs_in (by decide) mf262 (Nat.le_of_ble_eq_true rfl) ?_
  show zGo X l 0 0 0 262 0 [(0, .int a)] [] M _
  refine zs_iload_n (pc := 0) t262_0 rfl ?_
  refine zs_bipush (pc := 1) t262_1 (v := 43) (by decide) ?_
  by_cases w1 : a.toInt = 43
  · refine zs_icmp_eqT (pc := 3) t262_3 rfl li43 (by omega) ?_
    refine zs_iconst (pc := 18) t262_18 (v := 1) (by decide) ?_
    refine zs_goto (pc := 19) t262_19 ?_
    have w2 := li1
    exact zs_iret (pc := 23) t262_23 mr262 (by decide) (hQ _ (by omega) (by decide) (by decide))
  · refine zs_icmp_eqF (pc := 3) t262_3 rfl li43 (by omega) ?_
    refine zs_iload_n (pc := 6) t262_6 rfl ?_
    refine zs_bipush (pc := 7) t262_7 (v := 45) (by decide) ?_
    by_cases w3 : a.toInt = 45
    · refine zs_icmp_eqT (pc := 9) t262_9 rfl li45 (by omega) ?_
      refine zs_iconst (pc := 18) t262_18 (v := 1) (by decide) ?_
      refine zs_goto (pc := 19) t262_19 ?_
      have w4 := li1
      exact zs_iret (pc := 23) t262_23 mr262 (by decide) (hQ _ (by omega) (by decide) (by decide))
    · refine zs_icmp_eqF (pc := 9) t262_9 rfl li45 (by omega) ?_
      refine zs_iload_n (pc := 12) t262_12 rfl ?_
      refine zs_bipush (pc := 13) t262_13 (v := 42) (by decide) ?_
      by_cases w5 : a.toInt ≠ 42
      · refine zs_icmp_neT (pc := 15) t262_15 rfl li42 (by omega) ?_
        refine zs_iconst (pc := 22) t262_22 (v := 0) (by decide) ?_
        have w6 := li0
        exact zs_iret (pc := 23) t262_23 mr262 (by decide) (hQ _ (by omega) (by decide) (by decide))
      · refine zs_icmp_neF (pc := 15) t262_15 rfl li42 (by omega) ?_
        refine zs_iconst (pc := 18) t262_18 (v := 1) (by decide) ?_
        refine zs_goto (pc := 19) t262_19 ?_
        have w7 := li1
        exact zs_iret (pc := 23) t262_23 mr262 (by decide) (hQ _ (by omega) (by decide) (by decide))
theorem E244 {X : zX} {l : Launch} {M : zM} {Q : Option Value → zM → Prop} {a : Int32} (hs : zSk zMm M) (hI : zIv mLo mHi M) {gg : Nat → Int} {nn : Int} (ha : 0 ≤ a.toInt ∧ a.toInt ≤ 500) (u0 : (zI M 336 6).toInt ≤ (zI M 336 5).toInt) (x0 : zTm M gg nn) (hQ : ∀ (M' : zM) (v : Int32), zSk zMm M' → zIv mLo mHi M' → zFr [(336, 336, some 6), (336, 336, some 7), (336, 336, some 8)] M M' → zJ M' 351 = zJ M 351 → ((zI M 336 6).toInt ≤ (zI M' 336 6).toInt) → (v.toInt = 0 ∨ (0 ≤ (zI M' 336 8).toInt ∧ (zI M' 336 8).toInt ≤ 9999)) → ((v.toInt = 1 ∧ (zI M' 336 7).toInt = (zI M 336 7).toInt) ∨ (v.toInt = 0 ∧ 0 ≤ (zI M' 336 7).toInt)) → ((zI M' 336 6).toInt ≤ (zI M 336 5).toInt) → (∀ p : Nat, (zI M 336 6).toInt = (p : Int) → (v.toInt = 1 ∧ ¬ (48 ≤ gg (pDg gg 4 p) ∧ gg (pDg gg 4 p) ≤ 57) ∧ (zI M' 336 6).toInt = (pDg gg 4 p : Nat)) ∨ (v.toInt = 0 ∧ (zI M' 336 7).toInt = (pDg gg 4 p : Nat) ∧ (pDg gg 4 p = p ∨ (48 ≤ gg (pDg gg 4 p) ∧ gg (pDg gg 4 p) ≤ 57)))) → 0 ≤ v.toInt → v.toInt ≤ 1 → Q (some (.int v)) M') : zCall X l 1 0 0 244 [.ref 336, .int a, .int (1 : Int32), .int (0 : Int32), .int (9999 : Int32)] M Q := by
  have ga := zrg a
  refine zs_in (by decide) mf244 (Nat.le_of_ble_eq_true rfl) ?_
  show zGo X l 1 0 0 244 0 [(0, .ref 336), (1, .int a), (2, .int (1 : Int32)), (3, .int (0 : Int32)), (4, .int (9999 : Int32))] [] M _
  have hn := x0.2
  have w1 := ib336_5 hI
  have w2 : (zI M 336 5).toInt = (zI M 336 5).toInt := (congrArg Int32.toInt rfl).trans rfl
  have w3 := ib336_6 hI
  have w4 : (zI M 336 6).toInt = (zI M 336 6).toInt := (congrArg Int32.toInt rfl).trans rfl
  obtain ⟨w5n, w5⟩ : ∃ n : Nat, (zI M 336 6).toInt = (n : Int) := ⟨((zI M 336 6).toInt).toNat, by omega⟩
  refine zs_aload_n (pc := 0) t244_0 rfl ?_
  refine zs_get (pc := 1) t244_1 (by decide) (zk1 (hs.k fk_zMm_336)) (zfvi rfl rfl) ?_
  refine zs_istore (pc := 4) t244_4 (ls' := [(5, .int (zI M 336 6)), (0, .ref 336), (1, .int a), (2, .int (1 : Int32)), (3, .int (0 : Int32)), (4, .int (9999 : Int32))]) (zml mf244 (by decide)) rfl ?_
  refine zs_aload_n (pc := 6) t244_6 rfl ?_
  refine zs_iconst (pc := 7) t244_7 (v := 0) (by decide) ?_
  have w6 : zIv mLo mHi (zsI M 336 8 (0 : Int32)) := zIv.put hI (show (-2147483648) ≤ (0 : Int32).toInt ∧ (0 : Int32).toInt ≤ 2147483647 from zrg (0 : Int32))
  refine zs_putI (pc := 8) t244_8 (zk1 (hs.k fk_zMm_336)) rfl ?_
  have w7L : ∀ (m : Nat) (w7M : zM), zSk zMm w7M → zIv mLo mHi w7M → zFr [(336, 336, some 6), (336, 336, some 7), (336, 336, some 8)] (zsI M 336 8 (0 : Int32)) w7M → zJ w7M 351 = zJ (zsI M 336 8 (0 : Int32)) 351 → ((zI w7M 336 7).toInt = (zI (zsI M 336 8 (0 : Int32)) 336 7).toInt) → (((zI w7M 336 6).toInt = (zI M 336 6).toInt ∧ (zI w7M 336 8).toInt = 0) ∨ ((zI w7M 336 6).toInt = (zI M 336 6).toInt + 1 ∧ 0 ≤ (zI w7M 336 8).toInt ∧ (zI w7M 336 8).toInt ≤ 9) ∨ ((zI w7M 336 6).toInt = (zI M 336 6).toInt + 2 ∧ 0 ≤ (zI w7M 336 8).toInt ∧ (zI w7M 336 8).toInt ≤ 99) ∨ ((zI w7M 336 6).toInt = (zI M 336 6).toInt + 3 ∧ 0 ≤ (zI w7M 336 8).toInt ∧ (zI w7M 336 8).toInt ≤ 999) ∨ ((zI w7M 336 6).toInt = (zI M 336 6).toInt + 4 ∧ 0 ≤ (zI w7M 336 8).toInt ∧ (zI w7M 336 8).toInt ≤ 9999)) → ((zI w7M 336 6).toInt ≤ nn) → (∀ k q : Nat, (zI w7M 336 6).toInt = (q : Int) → (k : Int) = (zI M 336 6).toInt + 4 - (q : Int) → pDg gg 4 w5n = pDg gg k q) → 500 - (zI w7M 336 6).toInt ≤ (m : Int) → zGo X l 1 0 0 244 11 [(0, .ref 336), (1, .int a), (2, .int (1 : Int32)), (3, .int (0 : Int32)), (4, .int (9999 : Int32)), (5, .int (zI M 336 6))] [] w7M Q := by
    intro m
    induction m using Nat.strongRecOn with
    | ind w7m w7ih =>
      intro w7M w7s w7I w7F w7J w7r0 w7r1 w7r2 w7t0 w7q
      have w8 := ib336_7 w7I
      have w9 := ib336_7 hI
      have w10 : (zI (zsI M 336 8 (0 : Int32)) 336 7).toInt = (zI M 336 7).toInt := (congrArg Int32.toInt ((zIoj (by decide)).trans rfl)).trans rfl
      have w11 := zrg (zI w7M 336 8)
      have w12 := ib336_6 w7I
      refine zs_aload_n (pc := 11) t244_11 rfl ?_
      refine zs_invV (pc := 12) (k := 336) (as' := []) (st := []) t244_12 mf238 rfl rfl (Or.inl ⟨by decide, (zk1 (w7s.k fk_zMm_336))⟩) ⟨by decide, by decide, Nat.le_of_ble_eq_true rfl, Nat.le_of_ble_eq_true rfl⟩ (H238 w7s w7I ?_) (fun _ _ q => q)
      have w13 := zhere.rg (M := w7M)
      have w14 : (zI w7M 336 6).toInt = (zI w7M 336 6).toInt := (congrArg Int32.toInt rfl).trans rfl
      have w15 : (zI w7M 336 5).toInt = (zI M 336 5).toInt := (congrArg Int32.toInt ((w7F 336 5 rfl).trans ((zIoj (by decide)).trans rfl))).trans rfl
      have w16 : (zI w7M 336 6).toInt = (zI w7M 336 6).toInt := (congrArg Int32.toInt rfl).trans rfl
      obtain ⟨w17n, w17⟩ : ∃ n : Nat, (zI w7M 336 6).toInt = (n : Int) := ⟨((zI w7M 336 6).toInt).toNat, by omega⟩
      have w18 : (zI w7M 336 5).toInt = (zI M 336 5).toInt := (congrArg Int32.toInt ((w7F 336 5 rfl).trans ((zIoj (by decide)).trans rfl))).trans rfl
      have w19 : (zhere w7M).toInt = gg w17n := zhere.tr (zTm.mk x0 (fun j => ((w7F 339 j rfl).trans (zIo (by decide)))) ((w7F 336 5 rfl).trans (zIoj (by decide)))) (by omega)
      have w20 := zTm.rg x0 w17n
      show zGo X l 1 0 0 244 15 [(0, .ref 336), (1, .int a), (2, .int (1 : Int32)), (3, .int (0 : Int32)), (4, .int (9999 : Int32)), (5, .int (zI M 336 6))] [.int (zhere w7M)] w7M _
      refine zs_invS (pc := 15) (as := [.int (zhere w7M)]) (st := []) t244_15 (by decide) mf245 rfl rfl ⟨by decide, by decide, Nat.le_of_ble_eq_true rfl, Nat.le_of_ble_eq_true rfl⟩ (K245 w7s w7I ?_) (fun _ _ q => q)
      intro w21v w21t0 w21a w21b
      show zGo X l 1 0 0 244 18 [(0, .ref 336), (1, .int a), (2, .int (1 : Int32)), (3, .int (0 : Int32)), (4, .int (9999 : Int32)), (5, .int (zI M 336 6))] [.int w21v] w7M _
      by_cases w22 : w21v.toInt = 0
      · refine zs_if_eqT (pc := 18) t244_18 rfl (by omega) ?_
        refine zs_aload_n (pc := 64) t244_64 rfl ?_
        refine zs_get (pc := 65) t244_65 (by decide) (zk1 (w7s.k fk_zMm_336)) (zfvi rfl rfl) ?_
        refine zs_iload (pc := 68) t244_68 rfl ?_
        by_cases w23 : (zI w7M 336 6).toInt = (zI M 336 6).toInt
        · refine zs_icmp_eqT (pc := 70) t244_70 rfl rfl (by omega) ?_
          refine zs_aload_n (pc := 83) t244_83 rfl ?_
          refine zs_aload_n (pc := 84) t244_84 rfl ?_
          refine zs_get (pc := 85) t244_85 (by decide) (zk1 (w7s.k fk_zMm_336)) (zfvi rfl rfl) ?_
          refine zs_invV (pc := 88) (k := 336) (as' := [.int (zI w7M 336 6)]) (st := []) t244_88 mf239 rfl rfl (Or.inl ⟨by decide, (zk1 (w7s.k fk_zMm_336))⟩) ⟨by decide, by decide, Nat.le_of_ble_eq_true rfl, Nat.le_of_ble_eq_true rfl⟩ (zs_in (by decide) mf239 (Nat.le_of_ble_eq_true rfl) ?_) (fun _ _ q => q)
          show zGo X l 0 0 0 239 0 [(0, .ref 336), (1, .int (zI w7M 336 6))] [] w7M _
          refine zs_aload_n (pc := 0) t239_0 rfl ?_
          refine zs_iload_n (pc := 1) t239_1 rfl ?_
          have w24 : zIv mLo mHi (zsI w7M 336 7 (zI w7M 336 6)) := zIv.put w7I (show (-1) ≤ (zI w7M 336 6).toInt ∧ (zI w7M 336 6).toInt ≤ 500 from ⟨by omega, by omega⟩)
          refine zs_putI (pc := 2) t239_2 (zk1 (w7s.k fk_zMm_336)) rfl ?_
          refine zs_iconst (pc := 5) t239_5 (v := 0) (by decide) ?_
          refine zs_iret (pc := 6) t239_6 mr239 (by decide) ?_
          show zGo X l 1 0 0 244 91 [(0, .ref 336), (1, .int a), (2, .int (1 : Int32)), (3, .int (0 : Int32)), (4, .int (9999 : Int32)), (5, .int (zI M 336 6))] [.int (0 : Int32)] (zsI w7M 336 7 (zI w7M 336 6)) _
          have w25 : (zI (zsI w7M 336 7 (zI w7M 336 6)) 336 7).toInt = (zI w7M 336 6).toInt := (congrArg Int32.toInt zIs).trans rfl
          have w26 : (zI (zsI w7M 336 7 (zI w7M 336 6)) 336 8).toInt = (zI w7M 336 8).toInt := (congrArg Int32.toInt ((zIoj (by decide)).trans rfl)).trans rfl
          have w27 : (zI (zsI w7M 336 7 (zI w7M 336 6)) 336 6).toInt = (zI w7M 336 6).toInt := (congrArg Int32.toInt ((zIoj (by decide)).trans rfl)).trans rfl
          have w28 := li0
          have w29 : (zI (zsI w7M 336 7 (zI w7M 336 6)) 336 6).toInt = (zI w7M 336 6).toInt := (congrArg Int32.toInt ((zIoj (by decide)).trans rfl)).trans rfl
          have w30 : (zI (zsI w7M 336 7 (zI w7M 336 6)) 336 7).toInt = (zI w7M 336 6).toInt := (congrArg Int32.toInt zIs).trans rfl
          have w31 : pDg gg 4 w5n = w17n := by first | exact w7t0 0 w17n (by omega) (by omega) | exact (w7t0 (w5n + 4 - w17n) w17n (by omega) (by omega)).trans (pDg.z (by omega))
          exact zs_iret (pc := 91) t244_91 mr244 (by decide) (hQ _ _ w7s w24 ((((zFr.refl).put rfl).trans (w7F.mono rfl)).put rfl) w7J (by omega) (by omega) (by omega) (by omega) (fun p hp => by obtain rfl : w5n = p := (by omega); rw [w31]; omega) (by decide) (by decide))
        · refine zs_icmp_eqF (pc := 70) t244_70 rfl rfl (by omega) ?_
          refine zs_aload_n (pc := 73) t244_73 rfl ?_
          refine zs_invV (pc := 74) (k := 336) (as' := []) (st := []) t244_74 mf238 rfl rfl (Or.inl ⟨by decide, (zk1 (w7s.k fk_zMm_336))⟩) ⟨by decide, by decide, Nat.le_of_ble_eq_true rfl, Nat.le_of_ble_eq_true rfl⟩ (H238 w7s w7I ?_) (fun _ _ q => q)
          have w32 := zhere.rg (M := w7M)
          have w33 : (zI w7M 336 6).toInt = (zI w7M 336 6).toInt := (congrArg Int32.toInt rfl).trans rfl
          have w34 : (zI w7M 336 5).toInt = (zI M 336 5).toInt := (congrArg Int32.toInt ((w7F 336 5 rfl).trans ((zIoj (by decide)).trans rfl))).trans rfl
          have w35 : (zI w7M 336 6).toInt = (zI w7M 336 6).toInt := (congrArg Int32.toInt rfl).trans rfl
          have w36 : (zI w7M 336 5).toInt = (zI M 336 5).toInt := (congrArg Int32.toInt ((w7F 336 5 rfl).trans ((zIoj (by decide)).trans rfl))).trans rfl
          have w37 : (zhere w7M).toInt = gg w17n := zhere.tr (zTm.mk x0 (fun j => ((w7F 339 j rfl).trans (zIo (by decide)))) ((w7F 336 5 rfl).trans (zIoj (by decide)))) (by omega)
          have w38 := zTm.rg x0 w17n
          show zGo X l 1 0 0 244 77 [(0, .ref 336), (1, .int a), (2, .int (1 : Int32)), (3, .int (0 : Int32)), (4, .int (9999 : Int32)), (5, .int (zI M 336 6))] [.int (zhere w7M)] w7M _
          refine zs_invS (pc := 77) (as := [.int (zhere w7M)]) (st := []) t244_77 (by decide) mf245 rfl rfl ⟨by decide, by decide, Nat.le_of_ble_eq_true rfl, Nat.le_of_ble_eq_true rfl⟩ (K245 w7s w7I ?_) (fun _ _ q => q)
          intro w39v w39t0 w39a w39b
          show zGo X l 1 0 0 244 80 [(0, .ref 336), (1, .int a), (2, .int (1 : Int32)), (3, .int (0 : Int32)), (4, .int (9999 : Int32)), (5, .int (zI M 336 6))] [.int w39v] w7M _
          by_cases w40 : w39v.toInt = 0
          · refine zs_if_eqT (pc := 80) t244_80 rfl (by omega) ?_
            refine zs_aload_n (pc := 92) t244_92 rfl ?_
            refine zs_dup (pc := 93) t244_93 rfl ?_
            refine zs_get (pc := 94) t244_94 (by decide) (zk1 (w7s.k fk_zMm_336)) (zfvi rfl rfl) ?_
            refine zs_iload_n (pc := 97) t244_97 rfl ?_
            obtain ⟨w41v, w41⟩ : ∃ v, (zI w7M 336 8) * (1 : Int32) = v := ⟨_, rfl⟩
            have w41g : w41v.toInt = (zI w7M 336 8).toInt * 1 := by rw [← w41]; exact zmulc rfl li1 (by omega) (by omega)
            refine zs_imul (pc := 98) t244_98 (c := w41v) w41 ?_
            have w42 : zIv mLo mHi (zsI w7M 336 8 w41v) := zIv.put w7I (show (-2147483648) ≤ w41v.toInt ∧ w41v.toInt ≤ 2147483647 from zrg w41v)
            refine zs_putI (pc := 99) t244_99 (zk1 (w7s.k fk_zMm_336)) rfl ?_
            refine zs_aload_n (pc := 102) t244_102 rfl ?_
            refine zs_get (pc := 103) t244_103 (by decide) (zk1 (w7s.k fk_zMm_336)) (zfvi rfl zIs) ?_
            refine zs_i2l (pc := 106) t244_106 rfl ?_
            refine zs_iload_n (pc := 107) t244_107 rfl ?_
            refine zs_i2l (pc := 108) t244_108 (c := 0) (by decide) ?_
            refine zs_iload (pc := 109) t244_109 rfl ?_
            refine zs_i2l (pc := 111) t244_111 (c := 9999) (by decide) ?_
            refine zs_invS (pc := 112) (as := [.long w41v.toInt64, .long (0 : Int64), .long (9999 : Int64)]) (st := []) t244_112 (by decide) mf228 rfl rfl ⟨by decide, by decide, Nat.le_of_ble_eq_true rfl, Nat.le_of_ble_eq_true rfl⟩ (K228T (zi2l w41g) ll0 ll9999 (by omega) ?_) (fun _ _ q => q)
            show zGo X l 1 0 0 244 115 [(0, .ref 336), (1, .int a), (2, .int (1 : Int32)), (3, .int (0 : Int32)), (4, .int (9999 : Int32)), (5, .int (zI M 336 6))] [.int (1 : Int32)] (zsI w7M 336 8 w41v) _
            refine zs_if_neT (pc := 115) t244_115 li1 (by decide) ?_
            refine zs_iconst (pc := 126) t244_126 (v := 1) (by decide) ?_
            refine zs_goto (pc := 127) t244_127 ?_
            have w44 : (zI (zsI w7M 336 8 w41v) 336 7).toInt = (zI w7M 336 7).toInt := (congrArg Int32.toInt ((zIoj (by decide)).trans rfl)).trans rfl
            have w45 : (zI (zsI w7M 336 8 w41v) 336 8).toInt = ((zI w7M 336 8).toInt * 1) := (congrArg Int32.toInt zIs).trans w41g
            have w46 : (zI (zsI w7M 336 8 w41v) 336 6).toInt = (zI w7M 336 6).toInt := (congrArg Int32.toInt ((zIoj (by decide)).trans rfl)).trans rfl
            have w47 := li1
            have w48 : (zI (zsI w7M 336 8 w41v) 336 6).toInt = (zI w7M 336 6).toInt := (congrArg Int32.toInt ((zIoj (by decide)).trans rfl)).trans rfl
            have w49 : (zI (zsI w7M 336 8 w41v) 336 7).toInt = (zI w7M 336 7).toInt := (congrArg Int32.toInt ((zIoj (by decide)).trans rfl)).trans rfl
            have w50 : pDg gg 4 w5n = w17n := by first | exact w7t0 0 w17n (by omega) (by omega) | exact (w7t0 (w5n + 4 - w17n) w17n (by omega) (by omega)).trans (pDg.z (by omega))
            exact zs_iret (pc := 131) t244_131 mr244 (by decide) (hQ _ _ w7s w42 ((((zFr.refl).put rfl).trans (w7F.mono rfl)).put rfl) w7J (by omega) (by omega) (by omega) (by omega) (fun p hp => by obtain rfl : w5n = p := (by omega); rw [w50]; omega) (by decide) (by decide))
          · refine zs_if_eqF (pc := 80) t244_80 rfl (by omega) ?_
            refine zs_aload_n (pc := 83) t244_83 rfl ?_
            refine zs_aload_n (pc := 84) t244_84 rfl ?_
            refine zs_get (pc := 85) t244_85 (by decide) (zk1 (w7s.k fk_zMm_336)) (zfvi rfl rfl) ?_
            refine zs_invV (pc := 88) (k := 336) (as' := [.int (zI w7M 336 6)]) (st := []) t244_88 mf239 rfl rfl (Or.inl ⟨by decide, (zk1 (w7s.k fk_zMm_336))⟩) ⟨by decide, by decide, Nat.le_of_ble_eq_true rfl, Nat.le_of_ble_eq_true rfl⟩ (zs_in (by decide) mf239 (Nat.le_of_ble_eq_true rfl) ?_) (fun _ _ q => q)
            show zGo X l 0 0 0 239 0 [(0, .ref 336), (1, .int (zI w7M 336 6))] [] w7M _
            refine zs_aload_n (pc := 0) t239_0 rfl ?_
            refine zs_iload_n (pc := 1) t239_1 rfl ?_
            have w51 : zIv mLo mHi (zsI w7M 336 7 (zI w7M 336 6)) := zIv.put w7I (show (-1) ≤ (zI w7M 336 6).toInt ∧ (zI w7M 336 6).toInt ≤ 500 from ⟨by omega, by omega⟩)
            refine zs_putI (pc := 2) t239_2 (zk1 (w7s.k fk_zMm_336)) rfl ?_
            refine zs_iconst (pc := 5) t239_5 (v := 0) (by decide) ?_
            refine zs_iret (pc := 6) t239_6 mr239 (by decide) ?_
            show zGo X l 1 0 0 244 91 [(0, .ref 336), (1, .int a), (2, .int (1 : Int32)), (3, .int (0 : Int32)), (4, .int (9999 : Int32)), (5, .int (zI M 336 6))] [.int (0 : Int32)] (zsI w7M 336 7 (zI w7M 336 6)) _
            have w52 : (zI (zsI w7M 336 7 (zI w7M 336 6)) 336 7).toInt = (zI w7M 336 6).toInt := (congrArg Int32.toInt zIs).trans rfl
            have w53 : (zI (zsI w7M 336 7 (zI w7M 336 6)) 336 8).toInt = (zI w7M 336 8).toInt := (congrArg Int32.toInt ((zIoj (by decide)).trans rfl)).trans rfl
            have w54 : (zI (zsI w7M 336 7 (zI w7M 336 6)) 336 6).toInt = (zI w7M 336 6).toInt := (congrArg Int32.toInt ((zIoj (by decide)).trans rfl)).trans rfl
            have w55 := li0
            have w56 : (zI (zsI w7M 336 7 (zI w7M 336 6)) 336 6).toInt = (zI w7M 336 6).toInt := (congrArg Int32.toInt ((zIoj (by decide)).trans rfl)).trans rfl
            have w57 : (zI (zsI w7M 336 7 (zI w7M 336 6)) 336 7).toInt = (zI w7M 336 6).toInt := (congrArg Int32.toInt zIs).trans rfl
            have w58 : pDg gg 4 w5n = w17n := by first | exact w7t0 0 w17n (by omega) (by omega) | exact (w7t0 (w5n + 4 - w17n) w17n (by omega) (by omega)).trans (pDg.z (by omega))
            exact zs_iret (pc := 91) t244_91 mr244 (by decide) (hQ _ _ w7s w51 ((((zFr.refl).put rfl).trans (w7F.mono rfl)).put rfl) w7J (by omega) (by omega) (by omega) (by omega) (fun p hp => by obtain rfl : w5n = p := (by omega); rw [w58]; omega) (by decide) (by decide))
      · refine zs_if_eqF (pc := 18) t244_18 rfl (by omega) ?_
        refine zs_aload_n (pc := 21) t244_21 rfl ?_
        refine zs_get (pc := 22) t244_22 (by decide) (zk1 (w7s.k fk_zMm_336)) (zfvi rfl rfl) ?_
        refine zs_iload (pc := 25) t244_25 rfl ?_
        obtain ⟨w59v, w59e, w59⟩ := zisub (a := (zI w7M 336 6)) (b := (zI M 336 6)) rfl rfl (by omega) (by omega)
        refine zs_isub (pc := 27) t244_27 (c := w59v) w59e ?_
        refine zs_iconst (pc := 28) t244_28 (v := 4) (by decide) ?_
        by_cases w60 : 4 ≤ ((zI w7M 336 6).toInt - (zI M 336 6).toInt)
        · refine zs_icmp_geT (pc := 29) t244_29 w59 li4 (by omega) ?_
          refine zs_aload_n (pc := 64) t244_64 rfl ?_
          refine zs_get (pc := 65) t244_65 (by decide) (zk1 (w7s.k fk_zMm_336)) (zfvi rfl rfl) ?_
          refine zs_iload (pc := 68) t244_68 rfl ?_
          by_cases w61 : (zI w7M 336 6).toInt = (zI M 336 6).toInt
          · refine zs_icmp_eqT (pc := 70) t244_70 rfl rfl (by omega) ?_
            refine zs_aload_n (pc := 83) t244_83 rfl ?_
            refine zs_aload_n (pc := 84) t244_84 rfl ?_
            refine zs_get (pc := 85) t244_85 (by decide) (zk1 (w7s.k fk_zMm_336)) (zfvi rfl rfl) ?_
            refine zs_invV (pc := 88) (k := 336) (as' := [.int (zI w7M 336 6)]) (st := []) t244_88 mf239 rfl rfl (Or.inl ⟨by decide, (zk1 (w7s.k fk_zMm_336))⟩) ⟨by decide, by decide, Nat.le_of_ble_eq_true rfl, Nat.le_of_ble_eq_true rfl⟩ (zs_in (by decide) mf239 (Nat.le_of_ble_eq_true rfl) ?_) (fun _ _ q => q)
            show zGo X l 0 0 0 239 0 [(0, .ref 336), (1, .int (zI w7M 336 6))] [] w7M _
            refine zs_aload_n (pc := 0) t239_0 rfl ?_
            refine zs_iload_n (pc := 1) t239_1 rfl ?_
            have w62 : zIv mLo mHi (zsI w7M 336 7 (zI w7M 336 6)) := zIv.put w7I (show (-1) ≤ (zI w7M 336 6).toInt ∧ (zI w7M 336 6).toInt ≤ 500 from ⟨by omega, by omega⟩)
            refine zs_putI (pc := 2) t239_2 (zk1 (w7s.k fk_zMm_336)) rfl ?_
            refine zs_iconst (pc := 5) t239_5 (v := 0) (by decide) ?_
            refine zs_iret (pc := 6) t239_6 mr239 (by decide) ?_
            show zGo X l 1 0 0 244 91 [(0, .ref 336), (1, .int a), (2, .int (1 : Int32)), (3, .int (0 : Int32)), (4, .int (9999 : Int32)), (5, .int (zI M 336 6))] [.int (0 : Int32)] (zsI w7M 336 7 (zI w7M 336 6)) _
            have w63 : (zI (zsI w7M 336 7 (zI w7M 336 6)) 336 7).toInt = (zI w7M 336 6).toInt := (congrArg Int32.toInt zIs).trans rfl
            have w64 : (zI (zsI w7M 336 7 (zI w7M 336 6)) 336 8).toInt = (zI w7M 336 8).toInt := (congrArg Int32.toInt ((zIoj (by decide)).trans rfl)).trans rfl
            have w65 : (zI (zsI w7M 336 7 (zI w7M 336 6)) 336 6).toInt = (zI w7M 336 6).toInt := (congrArg Int32.toInt ((zIoj (by decide)).trans rfl)).trans rfl
            have w66 := li0
            have w67 : (zI (zsI w7M 336 7 (zI w7M 336 6)) 336 6).toInt = (zI w7M 336 6).toInt := (congrArg Int32.toInt ((zIoj (by decide)).trans rfl)).trans rfl
            have w68 : (zI (zsI w7M 336 7 (zI w7M 336 6)) 336 7).toInt = (zI w7M 336 6).toInt := (congrArg Int32.toInt zIs).trans rfl
            have w69 : pDg gg 4 w5n = w17n := by first | exact w7t0 0 w17n (by omega) (by omega) | exact (w7t0 (w5n + 4 - w17n) w17n (by omega) (by omega)).trans (pDg.z (by omega))
            exact zs_iret (pc := 91) t244_91 mr244 (by decide) (hQ _ _ w7s w62 ((((zFr.refl).put rfl).trans (w7F.mono rfl)).put rfl) w7J (by omega) (by omega) (by omega) (by omega) (fun p hp => by obtain rfl : w5n = p := (by omega); rw [w69]; omega) (by decide) (by decide))
          · refine zs_icmp_eqF (pc := 70) t244_70 rfl rfl (by omega) ?_
            refine zs_aload_n (pc := 73) t244_73 rfl ?_
            refine zs_invV (pc := 74) (k := 336) (as' := []) (st := []) t244_74 mf238 rfl rfl (Or.inl ⟨by decide, (zk1 (w7s.k fk_zMm_336))⟩) ⟨by decide, by decide, Nat.le_of_ble_eq_true rfl, Nat.le_of_ble_eq_true rfl⟩ (H238 w7s w7I ?_) (fun _ _ q => q)
            have w70 := zhere.rg (M := w7M)
            have w71 : (zI w7M 336 6).toInt = (zI w7M 336 6).toInt := (congrArg Int32.toInt rfl).trans rfl
            have w72 : (zI w7M 336 5).toInt = (zI M 336 5).toInt := (congrArg Int32.toInt ((w7F 336 5 rfl).trans ((zIoj (by decide)).trans rfl))).trans rfl
            have w73 : (zI w7M 336 6).toInt = (zI w7M 336 6).toInt := (congrArg Int32.toInt rfl).trans rfl
            have w74 : (zI w7M 336 5).toInt = (zI M 336 5).toInt := (congrArg Int32.toInt ((w7F 336 5 rfl).trans ((zIoj (by decide)).trans rfl))).trans rfl
            have w75 : (zhere w7M).toInt = gg w17n := zhere.tr (zTm.mk x0 (fun j => ((w7F 339 j rfl).trans (zIo (by decide)))) ((w7F 336 5 rfl).trans (zIoj (by decide)))) (by omega)
            have w76 := zTm.rg x0 w17n
            show zGo X l 1 0 0 244 77 [(0, .ref 336), (1, .int a), (2, .int (1 : Int32)), (3, .int (0 : Int32)), (4, .int (9999 : Int32)), (5, .int (zI M 336 6))] [.int (zhere w7M)] w7M _
            refine zs_invS (pc := 77) (as := [.int (zhere w7M)]) (st := []) t244_77 (by decide) mf245 rfl rfl ⟨by decide, by decide, Nat.le_of_ble_eq_true rfl, Nat.le_of_ble_eq_true rfl⟩ (K245 w7s w7I ?_) (fun _ _ q => q)
            intro w77v w77t0 w77a w77b
            show zGo X l 1 0 0 244 80 [(0, .ref 336), (1, .int a), (2, .int (1 : Int32)), (3, .int (0 : Int32)), (4, .int (9999 : Int32)), (5, .int (zI M 336 6))] [.int w77v] w7M _
            by_cases w78 : w77v.toInt = 0
            · refine zs_if_eqT (pc := 80) t244_80 rfl (by omega) ?_
              refine zs_aload_n (pc := 92) t244_92 rfl ?_
              refine zs_dup (pc := 93) t244_93 rfl ?_
              refine zs_get (pc := 94) t244_94 (by decide) (zk1 (w7s.k fk_zMm_336)) (zfvi rfl rfl) ?_
              refine zs_iload_n (pc := 97) t244_97 rfl ?_
              obtain ⟨w79v, w79⟩ : ∃ v, (zI w7M 336 8) * (1 : Int32) = v := ⟨_, rfl⟩
              have w79g : w79v.toInt = (zI w7M 336 8).toInt * 1 := by rw [← w79]; exact zmulc rfl li1 (by omega) (by omega)
              refine zs_imul (pc := 98) t244_98 (c := w79v) w79 ?_
              have w80 : zIv mLo mHi (zsI w7M 336 8 w79v) := zIv.put w7I (show (-2147483648) ≤ w79v.toInt ∧ w79v.toInt ≤ 2147483647 from zrg w79v)
              refine zs_putI (pc := 99) t244_99 (zk1 (w7s.k fk_zMm_336)) rfl ?_
              refine zs_aload_n (pc := 102) t244_102 rfl ?_
              refine zs_get (pc := 103) t244_103 (by decide) (zk1 (w7s.k fk_zMm_336)) (zfvi rfl zIs) ?_
              refine zs_i2l (pc := 106) t244_106 rfl ?_
              refine zs_iload_n (pc := 107) t244_107 rfl ?_
              refine zs_i2l (pc := 108) t244_108 (c := 0) (by decide) ?_
              refine zs_iload (pc := 109) t244_109 rfl ?_
              refine zs_i2l (pc := 111) t244_111 (c := 9999) (by decide) ?_
              refine zs_invS (pc := 112) (as := [.long w79v.toInt64, .long (0 : Int64), .long (9999 : Int64)]) (st := []) t244_112 (by decide) mf228 rfl rfl ⟨by decide, by decide, Nat.le_of_ble_eq_true rfl, Nat.le_of_ble_eq_true rfl⟩ (K228T (zi2l w79g) ll0 ll9999 (by omega) ?_) (fun _ _ q => q)
              show zGo X l 1 0 0 244 115 [(0, .ref 336), (1, .int a), (2, .int (1 : Int32)), (3, .int (0 : Int32)), (4, .int (9999 : Int32)), (5, .int (zI M 336 6))] [.int (1 : Int32)] (zsI w7M 336 8 w79v) _
              refine zs_if_neT (pc := 115) t244_115 li1 (by decide) ?_
              refine zs_iconst (pc := 126) t244_126 (v := 1) (by decide) ?_
              refine zs_goto (pc := 127) t244_127 ?_
              have w82 : (zI (zsI w7M 336 8 w79v) 336 7).toInt = (zI w7M 336 7).toInt := (congrArg Int32.toInt ((zIoj (by decide)).trans rfl)).trans rfl
              have w83 : (zI (zsI w7M 336 8 w79v) 336 8).toInt = ((zI w7M 336 8).toInt * 1) := (congrArg Int32.toInt zIs).trans w79g
              have w84 : (zI (zsI w7M 336 8 w79v) 336 6).toInt = (zI w7M 336 6).toInt := (congrArg Int32.toInt ((zIoj (by decide)).trans rfl)).trans rfl
              have w85 := li1
              have w86 : (zI (zsI w7M 336 8 w79v) 336 6).toInt = (zI w7M 336 6).toInt := (congrArg Int32.toInt ((zIoj (by decide)).trans rfl)).trans rfl
              have w87 : (zI (zsI w7M 336 8 w79v) 336 7).toInt = (zI w7M 336 7).toInt := (congrArg Int32.toInt ((zIoj (by decide)).trans rfl)).trans rfl
              have w88 : pDg gg 4 w5n = w17n := by first | exact w7t0 0 w17n (by omega) (by omega) | exact (w7t0 (w5n + 4 - w17n) w17n (by omega) (by omega)).trans (pDg.z (by omega))
              exact zs_iret (pc := 131) t244_131 mr244 (by decide) (hQ _ _ w7s w80 ((((zFr.refl).put rfl).trans (w7F.mono rfl)).put rfl) w7J (by omega) (by omega) (by omega) (by omega) (fun p hp => by obtain rfl : w5n = p := (by omega); rw [w88]; omega) (by decide) (by decide))
            · refine zs_if_eqF (pc := 80) t244_80 rfl (by omega) ?_
              refine zs_aload_n (pc := 83) t244_83 rfl ?_
              refine zs_aload_n (pc := 84) t244_84 rfl ?_
              refine zs_get (pc := 85) t244_85 (by decide) (zk1 (w7s.k fk_zMm_336)) (zfvi rfl rfl) ?_
              refine zs_invV (pc := 88) (k := 336) (as' := [.int (zI w7M 336 6)]) (st := []) t244_88 mf239 rfl rfl (Or.inl ⟨by decide, (zk1 (w7s.k fk_zMm_336))⟩) ⟨by decide, by decide, Nat.le_of_ble_eq_true rfl, Nat.le_of_ble_eq_true rfl⟩ (zs_in (by decide) mf239 (Nat.le_of_ble_eq_true rfl) ?_) (fun _ _ q => q)
              show zGo X l 0 0 0 239 0 [(0, .ref 336), (1, .int (zI w7M 336 6))] [] w7M _
              refine zs_aload_n (pc := 0) t239_0 rfl ?_
              refine zs_iload_n (pc := 1) t239_1 rfl ?_
              have w89 : zIv mLo mHi (zsI w7M 336 7 (zI w7M 336 6)) := zIv.put w7I (show (-1) ≤ (zI w7M 336 6).toInt ∧ (zI w7M 336 6).toInt ≤ 500 from ⟨by omega, by omega⟩)
              refine zs_putI (pc := 2) t239_2 (zk1 (w7s.k fk_zMm_336)) rfl ?_
              refine zs_iconst (pc := 5) t239_5 (v := 0) (by decide) ?_
              refine zs_iret (pc := 6) t239_6 mr239 (by decide) ?_
              show zGo X l 1 0 0 244 91 [(0, .ref 336), (1, .int a), (2, .int (1 : Int32)), (3, .int (0 : Int32)), (4, .int (9999 : Int32)), (5, .int (zI M 336 6))] [.int (0 : Int32)] (zsI w7M 336 7 (zI w7M 336 6)) _
              have w90 : (zI (zsI w7M 336 7 (zI w7M 336 6)) 336 7).toInt = (zI w7M 336 6).toInt := (congrArg Int32.toInt zIs).trans rfl
              have w91 : (zI (zsI w7M 336 7 (zI w7M 336 6)) 336 8).toInt = (zI w7M 336 8).toInt := (congrArg Int32.toInt ((zIoj (by decide)).trans rfl)).trans rfl
              have w92 : (zI (zsI w7M 336 7 (zI w7M 336 6)) 336 6).toInt = (zI w7M 336 6).toInt := (congrArg Int32.toInt ((zIoj (by decide)).trans rfl)).trans rfl
              have w93 := li0
              have w94 : (zI (zsI w7M 336 7 (zI w7M 336 6)) 336 6).toInt = (zI w7M 336 6).toInt := (congrArg Int32.toInt ((zIoj (by decide)).trans rfl)).trans rfl
              have w95 : (zI (zsI w7M 336 7 (zI w7M 336 6)) 336 7).toInt = (zI w7M 336 6).toInt := (congrArg Int32.toInt zIs).trans rfl
              have w96 : pDg gg 4 w5n = w17n := by first | exact w7t0 0 w17n (by omega) (by omega) | exact (w7t0 (w5n + 4 - w17n) w17n (by omega) (by omega)).trans (pDg.z (by omega))
              exact zs_iret (pc := 91) t244_91 mr244 (by decide) (hQ _ _ w7s w89 ((((zFr.refl).put rfl).trans (w7F.mono rfl)).put rfl) w7J (by omega) (by omega) (by omega) (by omega) (fun p hp => by obtain rfl : w5n = p := (by omega); rw [w96]; omega) (by decide) (by decide))
        · refine zs_icmp_geF (pc := 29) t244_29 w59 li4 (by omega) ?_
          refine zs_aload_n (pc := 32) t244_32 rfl ?_
          refine zs_bipush (pc := 33) t244_33 (v := 10) (by decide) ?_
          refine zs_aload_n (pc := 35) t244_35 rfl ?_
          refine zs_get (pc := 36) t244_36 (by decide) (zk1 (w7s.k fk_zMm_336)) (zfvi rfl rfl) ?_
          obtain ⟨w97v, w97⟩ : ∃ v, (10 : Int32) * (zI w7M 336 8) = v := ⟨_, rfl⟩
          have w97g : w97v.toInt = 10 * (zI w7M 336 8).toInt := by rw [← w97]; exact zmulc li10 rfl (by omega) (by omega)
          refine zs_imul (pc := 39) t244_39 (c := w97v) w97 ?_
          refine zs_aload_n (pc := 40) t244_40 rfl ?_
          refine zs_invV (pc := 41) (k := 336) (as' := []) (st := [.int w97v, .ref 336]) t244_41 mf238 rfl rfl (Or.inl ⟨by decide, (zk1 (w7s.k fk_zMm_336))⟩) ⟨by decide, by decide, Nat.le_of_ble_eq_true rfl, Nat.le_of_ble_eq_true rfl⟩ (H238 w7s w7I ?_) (fun _ _ q => q)
          have w98 := zhere.rg (M := w7M)
          have w99 : (zI w7M 336 6).toInt = (zI w7M 336 6).toInt := (congrArg Int32.toInt rfl).trans rfl
          have w100 : (zI w7M 336 5).toInt = (zI M 336 5).toInt := (congrArg Int32.toInt ((w7F 336 5 rfl).trans ((zIoj (by decide)).trans rfl))).trans rfl
          have w101 : (zI w7M 336 6).toInt = (zI w7M 336 6).toInt := (congrArg Int32.toInt rfl).trans rfl
          have w102 : (zI w7M 336 5).toInt = (zI M 336 5).toInt := (congrArg Int32.toInt ((w7F 336 5 rfl).trans ((zIoj (by decide)).trans rfl))).trans rfl
          have w103 : (zhere w7M).toInt = gg w17n := zhere.tr (zTm.mk x0 (fun j => ((w7F 339 j rfl).trans (zIo (by decide)))) ((w7F 336 5 rfl).trans (zIoj (by decide)))) (by omega)
          have w104 := zTm.rg x0 w17n
          show zGo X l 1 0 0 244 44 [(0, .ref 336), (1, .int a), (2, .int (1 : Int32)), (3, .int (0 : Int32)), (4, .int (9999 : Int32)), (5, .int (zI M 336 6))] [.int (zhere w7M), .int w97v, .ref 336] w7M _
          obtain ⟨w105v, w105e, w105⟩ := ziadd (a := w97v) (b := (zhere w7M)) w97g rfl (by omega) (by omega)
          refine zs_iadd (pc := 44) t244_44 (c := w105v) w105e ?_
          refine zs_bipush (pc := 45) t244_45 (v := 48) (by decide) ?_
          obtain ⟨w106v, w106e, w106⟩ := zisub (a := w105v) (b := (48 : Int32)) w105 li48 (by omega) (by omega)
          refine zs_isub (pc := 47) t244_47 (c := w106v) w106e ?_
          have w107 : zIv mLo mHi (zsI w7M 336 8 w106v) := zIv.put w7I (show (-2147483648) ≤ w106v.toInt ∧ w106v.toInt ≤ 2147483647 from zrg w106v)
          refine zs_putI (pc := 48) t244_48 (zk1 (w7s.k fk_zMm_336)) rfl ?_
          refine zs_aload_n (pc := 51) t244_51 rfl ?_
          refine zs_dup (pc := 52) t244_52 rfl ?_
          refine zs_get (pc := 53) t244_53 (by decide) (zk1 (w7s.k fk_zMm_336)) (zfvi rfl ((zIoj (by decide)).trans rfl)) ?_
          refine zs_iconst (pc := 56) t244_56 (v := 1) (by decide) ?_
          obtain ⟨w108v, w108e, w108⟩ := ziadd (a := (zI w7M 336 6)) (b := (1 : Int32)) rfl li1 (by omega) (by omega)
          refine zs_iadd (pc := 57) t244_57 (c := w108v) w108e ?_
          have w109 : zIv mLo mHi (zsI (zsI w7M 336 8 w106v) 336 6 w108v) := zIv.put w107 (show 0 ≤ w108v.toInt ∧ w108v.toInt ≤ 500 from ⟨by omega, by omega⟩)
          refine zs_putI (pc := 58) t244_58 (zk1 (w7s.k fk_zMm_336)) rfl ?_
          refine zs_goto (pc := 61) t244_61 ?_
          refine zGo.locals (ls' := [(0, .ref 336), (1, .int a), (2, .int (1 : Int32)), (3, .int (0 : Int32)), (4, .int (9999 : Int32)), (5, .int (zI M 336 6))]) (by simp) ?_
          have w110 : (zI (zsI (zsI w7M 336 8 w106v) 336 6 w108v) 336 7).toInt = (zI w7M 336 7).toInt := (congrArg Int32.toInt ((zIoj (by decide)).trans ((zIoj (by decide)).trans rfl))).trans rfl
          have w111 : (zI (zsI (zsI w7M 336 8 w106v) 336 6 w108v) 336 8).toInt = (((10 * (zI w7M 336 8).toInt) + (zhere w7M).toInt) - 48) := (congrArg Int32.toInt ((zIoj (by decide)).trans zIs)).trans w106
          have w112 : (zI (zsI (zsI w7M 336 8 w106v) 336 6 w108v) 336 6).toInt = ((zI w7M 336 6).toInt + 1) := (congrArg Int32.toInt zIs).trans w108
          have w113 : (zI (zsI (zsI w7M 336 8 w106v) 336 6 w108v) 336 6).toInt = ((zI w7M 336 6).toInt + 1) := (congrArg Int32.toInt zIs).trans w108
          have w114 : (zI (zsI (zsI w7M 336 8 w106v) 336 6 w108v) 336 6).toInt = ((zI w7M 336 6).toInt + 1) := (congrArg Int32.toInt zIs).trans w108
          have w115 : (zI (zsI (zsI w7M 336 8 w106v) 336 6 w108v) 336 6).toInt = ((zI w7M 336 6).toInt + 1) := (congrArg Int32.toInt zIs).trans w108
          exact w7ih (w7m - 1) (by omega) (zsI (zsI w7M 336 8 w106v) 336 6 w108v) w7s w109 ((((zFr.refl).trans (w7F.mono rfl)).put rfl).put rfl) w7J (by omega) (by omega) (by omega) (fun k q h1 h2 => (w7t0 (k + 1) w17n (by omega) (by omega)).trans ((pDg.y (by omega)).trans (congrArg (pDg gg k) (by omega)))) (by omega)
  refine zGo.locals (ls' := [(0, .ref 336), (1, .int a), (2, .int (1 : Int32)), (3, .int (0 : Int32)), (4, .int (9999 : Int32)), (5, .int (zI M 336 6))]) (by simp) ?_
  have w116 : (zI (zsI M 336 8 (0 : Int32)) 336 7).toInt = (zI M 336 7).toInt := (congrArg Int32.toInt ((zIoj (by decide)).trans rfl)).trans rfl
  have w117 : (zI (zsI M 336 8 (0 : Int32)) 336 8).toInt = 0 := (congrArg Int32.toInt zIs).trans li0
  have w118 : (zI (zsI M 336 8 (0 : Int32)) 336 6).toInt = (zI M 336 6).toInt := (congrArg Int32.toInt ((zIoj (by decide)).trans rfl)).trans rfl
  have w119 : (zI (zsI M 336 8 (0 : Int32)) 336 6).toInt = (zI M 336 6).toInt := (congrArg Int32.toInt ((zIoj (by decide)).trans rfl)).trans rfl
  have w120 : (zI (zsI M 336 8 (0 : Int32)) 336 6).toInt = (zI M 336 6).toInt := (congrArg Int32.toInt ((zIoj (by decide)).trans rfl)).trans rfl
  exact w7L ((500 - (zI (zsI M 336 8 (0 : Int32)) 336 6).toInt : Int).toNat) (zsI M 336 8 (0 : Int32)) hs w6 zFr.refl rfl (by omega) (by omega) (by omega) (fun k q h1 h2 => by obtain rfl : w5n = q := (by omega); obtain rfl : k = 4 := (by omega); rfl) (by omega)
theorem E259 {X : zX} {l : Launch} {M : zM} {Q : Option Value → zM → Prop} (hs : zSk zMm M) (hI : zIv mLo mHi M) {hh : Int} {gg : Nat → Int} {nn : Int} (pH : zGh M hh) (u0 : (zI M 336 11).toInt ≤ 190) (u1 : (zI M 336 6).toInt ≤ (zI M 336 5).toInt) (u2 : (zI M 336 7).toInt = -1) (x0 : 0 ≤ hh ∧ hh ≤ 58) (x1 : zTm M gg nn) (hQ : ∀ (M' : zM) (v : Int32), zSk zMm M' → zIv mLo mHi M' → zFr [(336, 336, some 6), (336, 336, some 7), (336, 336, some 8), (336, 336, some 11), (336, 336, some 13), (340, 340, none)] M M' → zJ M' 351 = zJ M 351 → ((zI M 336 6).toInt ≤ (zI M' 336 6).toInt) → (v.toInt = 0 ∨ ((zI M' 336 13).toInt = (zI M 336 13).toInt + 1 ∧ (zI M' 336 11).toInt = (zI M 336 11).toInt + 1)) → (v.toInt = 0 ∨ zGh M' (hh + 1)) → (∀ (p : Nat) (t : Int), (zI M 336 6).toInt = (p : Int) → (zI M 336 13).toInt = t → zocm M' v.toInt nn (pTh gg (p, t))) → 0 ≤ v.toInt → v.toInt ≤ 1 → Q (some (.int v)) M') : zCall X l 2 0 0 259 [.ref 336] M Q := by
  refine zs_in (by decide) mf259 (Nat.le_of_ble_eq_true rfl) ?_
  show zGo X l 2 0 0 259 0 [(0, .ref 336)] [] M _
  have hn := x1.2
  have w1 := ib336_5 hI
  have w2 : (zI M 336 5).toInt = (zI M 336 5).toInt := (congrArg Int32.toInt rfl).trans rfl
  have w3 := ib336_6 hI
  have w4 : (zI M 336 6).toInt = (zI M 336 6).toInt := (congrArg Int32.toInt rfl).trans rfl
  have w5 := ib336_7 hI
  have w6 : (zI M 336 7).toInt = (zI M 336 7).toInt := (congrArg Int32.toInt rfl).trans rfl
  have w7 := ib336_13 hI
  have w8 : (zI M 336 13).toInt = (zI M 336 13).toInt := (congrArg Int32.toInt rfl).trans rfl
  obtain ⟨w9n, w9⟩ : ∃ n : Nat, (zI M 336 6).toInt = (n : Int) := ⟨((zI M 336 6).toInt).toNat, by omega⟩
  refine zs_aload_n (pc := 0) t259_0 rfl ?_
  refine zs_invV (pc := 1) (k := 336) (as' := []) (st := []) t259_1 mf238 rfl rfl (Or.inl ⟨by decide, (zk1 (hs.k fk_zMm_336))⟩) ⟨by decide, by decide, Nat.le_of_ble_eq_true rfl, Nat.le_of_ble_eq_true rfl⟩ (H238 hs hI ?_) (fun _ _ q => q)
  have w10 := zhere.rg (M := M)
  have w11 : (zI M 336 6).toInt = (zI M 336 6).toInt := (congrArg Int32.toInt rfl).trans rfl
  have w12 : (zI M 336 5).toInt = (zI M 336 5).toInt := (congrArg Int32.toInt rfl).trans rfl
  have w13 : (zI M 336 6).toInt = (zI M 336 6).toInt := (congrArg Int32.toInt rfl).trans rfl
  have w14 : (zI M 336 5).toInt = (zI M 336 5).toInt := (congrArg Int32.toInt rfl).trans rfl
  have w15 : (zhere M).toInt = gg w9n := zhere.tr x1 (by omega)
  have w16 := zTm.rg x1 w9n
  show zGo X l 2 0 0 259 4 [(0, .ref 336)] [.int (zhere M)] M _
  refine zs_istore_n (pc := 4) t259_4 (ls' := [(1, .int (zhere M)), (0, .ref 336)]) (zml mf259 (by decide)) rfl ?_
  refine zs_iload_n (pc := 5) t259_5 rfl ?_
  refine zs_invS (pc := 6) (as := [.int (zhere M)]) (st := []) t259_6 (by decide) mf245 rfl rfl ⟨by decide, by decide, Nat.le_of_ble_eq_true rfl, Nat.le_of_ble_eq_true rfl⟩ (K245 hs hI ?_) (fun _ _ q => q)
  intro w17v w17t0 w17a w17b
  show zGo X l 2 0 0 259 9 [(1, .int (zhere M)), (0, .ref 336)] [.int w17v] M _
  by_cases w18 : w17v.toInt ≠ 0
  · refine zs_if_neT (pc := 9) t259_9 rfl (by omega) ?_
    refine zs_aload_n (pc := 20) t259_20 rfl ?_
    refine zs_get (pc := 21) t259_21 (by decide) (zk1 (hs.k fk_zMm_336)) (zfvi rfl rfl) ?_
    refine zs_bipush (pc := 24) t259_24 (v := 30) (by decide) ?_
    by_cases w19 : (zI M 336 13).toInt ≠ 30
    · refine zs_icmp_neT (pc := 26) t259_26 rfl li30 (by omega) ?_
      refine zs_aload_n (pc := 38) t259_38 rfl ?_
      refine zs_dup (pc := 39) t259_39 rfl ?_
      refine zs_get (pc := 40) t259_40 (by decide) (zk1 (hs.k fk_zMm_336)) (zfvi rfl rfl) ?_
      refine zs_iconst (pc := 43) t259_43 (v := 1) (by decide) ?_
      obtain ⟨w20v, w20e, w20⟩ := ziadd (a := (zI M 336 13)) (b := (1 : Int32)) rfl li1 (by omega) (by omega)
      refine zs_iadd (pc := 44) t259_44 (c := w20v) w20e ?_
      have w21 : zIv mLo mHi (zsI M 336 13 w20v) := zIv.put hI (show 0 ≤ w20v.toInt ∧ w20v.toInt ≤ 30 from ⟨by omega, by omega⟩)
      refine zs_putI (pc := 45) t259_45 (zk1 (hs.k fk_zMm_336)) rfl ?_
      refine zs_iload_n (pc := 48) t259_48 rfl ?_
      refine zs_invS (pc := 49) (as := [.int (zhere M)]) (st := []) t259_49 (by decide) mf245 rfl rfl ⟨by decide, by decide, Nat.le_of_ble_eq_true rfl, Nat.le_of_ble_eq_true rfl⟩ (K245 hs w21 ?_) (fun _ _ q => q)
      intro w22v w22t0 w22a w22b
      show zGo X l 2 0 0 259 52 [(1, .int (zhere M)), (0, .ref 336)] [.int w22v] (zsI M 336 13 w20v) _
      by_cases w23 : w22v.toInt = 0
      · refine zs_if_eqT (pc := 52) t259_52 rfl (by omega) ?_
        refine zs_aload_n (pc := 83) t259_83 rfl ?_
        refine zs_sipush (pc := 84) t259_84 (v := 10000) (by decide) ?_
        refine zs_iload_n (pc := 87) t259_87 rfl ?_
        refine zs_invS (pc := 88) (as := [.int (zhere M)]) (st := [.int (10000 : Int32), .ref 336]) t259_88 (by decide) mf260 rfl rfl ⟨by decide, by decide, Nat.le_of_ble_eq_true rfl, Nat.le_of_ble_eq_true rfl⟩ (E260 hs w21 ?_) (fun _ _ q => q)
        intro w24v w24t0 w24x0 w24a w24b
        have w25 : zlx (zhere M).toInt = zlx (gg w9n) := congrArg zlx (by omega)
        show zGo X l 2 0 0 259 91 [(1, .int (zhere M)), (0, .ref 336)] [.int w24v, .int (10000 : Int32), .ref 336] (zsI M 336 13 w20v) _
        obtain ⟨w26v, w26e, w26⟩ := ziadd (a := (10000 : Int32)) (b := w24v) li10000 rfl (by omega) (by omega)
        refine zs_iadd (pc := 91) t259_91 (c := w26v) w26e ?_
        refine zs_invV (pc := 92) (k := 336) (as' := [.int w26v]) (st := []) t259_92 mf261 rfl rfl (Or.inl ⟨by decide, (zk1 (hs.k fk_zMm_336))⟩) ⟨by decide, by decide, Nat.le_of_ble_eq_true rfl, Nat.le_of_ble_eq_true rfl⟩ (zs_in (by decide) mf261 (Nat.le_of_ble_eq_true rfl) ?_) (fun _ _ q => q)
        show zGo X l 0 0 0 261 0 [(0, .ref 336), (1, .int w26v)] [] (zsI M 336 13 w20v) _
        refine zs_aload_n (pc := 0) t261_0 rfl ?_
        refine zs_get (pc := 1) t261_1 (by decide) (zk1 (hs.k fk_zMm_336)) (hs.p rfl fv_zMm_336_9) ?_
        refine zs_aload_n (pc := 4) t261_4 rfl ?_
        have w27 := ib336_11 hI
        refine zs_get (pc := 5) t261_5 (by decide) (zk1 (hs.k fk_zMm_336)) (zfvi rfl ((zIoj (by decide)).trans rfl)) ?_
        refine zs_iload_n (pc := 8) t261_8 rfl ?_
        obtain ⟨w28n, w28⟩ : ∃ n : Nat, (zI M 336 11).toInt = (n : Int) := ⟨((zI M 336 11).toInt).toNat, by omega⟩
        have w29 : zIv mLo mHi (zsI (zsI M 336 13 w20v) 340 w28n w26v) := zIv.put w21 (show (-2147483648) ≤ w26v.toInt ∧ w26v.toInt ≤ 2147483647 from zrg w26v)
        refine zs_iast (pc := 9) t261_9 (j := w28n) (by decide) (zk1 (hs.k fk_zMm_340)) (show (zI M 336 11).toInt = ((w28n : Nat) : Int) by omega) (zk2 (hs.k fk_zMm_340) (by omega)) ?_
        refine zs_aload_n (pc := 10) t261_10 rfl ?_
        refine zs_dup (pc := 11) t261_11 rfl ?_
        refine zs_get (pc := 12) t261_12 (by decide) (zk1 (hs.k fk_zMm_336)) (zfvi rfl ((zIo (by decide)).trans ((zIoj (by decide)).trans rfl))) ?_
        refine zs_iconst (pc := 15) t261_15 (v := 1) (by decide) ?_
        obtain ⟨w30v, w30e, w30⟩ := ziadd (a := (zI M 336 11)) (b := (1 : Int32)) rfl li1 (by omega) (by omega)
        refine zs_iadd (pc := 16) t261_16 (c := w30v) w30e ?_
        have w31 : zIv mLo mHi (zsI (zsI (zsI M 336 13 w20v) 340 w28n w26v) 336 11 w30v) := zIv.put w29 (show 0 ≤ w30v.toInt ∧ w30v.toInt ≤ 200 from ⟨by omega, by omega⟩)
        have w32 : (zI (zsI M 336 13 w20v) 336 11).toInt = (zI M 336 11).toInt := (congrArg Int32.toInt ((zIoj (by decide)).trans rfl)).trans rfl
        have w33 : w30v.toInt = ((zI M 336 11).toInt + 1) := w30
        have w34 : w26v.toInt = (10000 + w24v.toInt) := w26
        have w35 : zGh (zsI (zsI (zsI M 336 13 w20v) 340 w28n w26v) 336 11 w30v) (hh + 1) := zGh.put (n := w28n) (zGh.fr (M' := (zsI M 336 13 w20v)) pH (zEq.put rfl)) (by omega) (by omega) (by omega)
        refine zs_putI (pc := 17) t261_17 (zk1 (hs.k fk_zMm_336)) rfl ?_
        refine zs_vret (pc := 20) t261_20 mr261 ?_
        show zGo X l 2 0 0 259 95 [(1, .int (zhere M)), (0, .ref 336)] [] (zsI (zsI (zsI M 336 13 w20v) 340 w28n w26v) 336 11 w30v) _
        refine zs_aload_n (pc := 95) t259_95 rfl ?_
        refine zs_dup (pc := 96) t259_96 rfl ?_
        refine zs_get (pc := 97) t259_97 (by decide) (zk1 (hs.k fk_zMm_336)) (zfvi rfl ((zIoj (by decide)).trans ((zIo (by decide)).trans ((zIoj (by decide)).trans rfl)))) ?_
        refine zs_iconst (pc := 100) t259_100 (v := 1) (by decide) ?_
        obtain ⟨w36v, w36e, w36⟩ := ziadd (a := (zI M 336 6)) (b := (1 : Int32)) rfl li1 (by omega) (by omega)
        refine zs_iadd (pc := 101) t259_101 (c := w36v) w36e ?_
        have w37 : zIv mLo mHi (zsI (zsI (zsI (zsI M 336 13 w20v) 340 w28n w26v) 336 11 w30v) 336 6 w36v) := zIv.put w31 (show 0 ≤ w36v.toInt ∧ w36v.toInt ≤ 500 from ⟨by omega, by omega⟩)
        refine zs_putI (pc := 102) t259_102 (zk1 (hs.k fk_zMm_336)) rfl ?_
        refine zs_iconst (pc := 105) t259_105 (v := 1) (by decide) ?_
        have w38 : (zI (zsI (zsI (zsI (zsI M 336 13 w20v) 340 w28n w26v) 336 11 w30v) 336 6 w36v) 336 11).toInt = ((zI M 336 11).toInt + 1) := (congrArg Int32.toInt ((zIoj (by decide)).trans zIs)).trans w30
        have w39 : (zI (zsI (zsI (zsI (zsI M 336 13 w20v) 340 w28n w26v) 336 11 w30v) 336 6 w36v) 336 6).toInt = ((zI M 336 6).toInt + 1) := (congrArg Int32.toInt zIs).trans w36
        have w40 : (zI (zsI (zsI (zsI (zsI M 336 13 w20v) 340 w28n w26v) 336 11 w30v) 336 6 w36v) 336 13).toInt = ((zI M 336 13).toInt + 1) := (congrArg Int32.toInt ((zIoj (by decide)).trans ((zIoj (by decide)).trans ((zIo (by decide)).trans zIs)))).trans w20
        have w41 := li1
        have w42 := ib336_12 hI
        have w43 : (zI (zsI (zsI (zsI (zsI M 336 13 w20v) 340 w28n w26v) 336 11 w30v) 336 6 w36v) 336 12).toInt = (zI M 336 12).toInt := (congrArg Int32.toInt ((zIoj (by decide)).trans ((zIoj (by decide)).trans ((zIo (by decide)).trans ((zIoj (by decide)).trans rfl))))).trans rfl
        have w44 := ib336_14 hI
        have w45 : (zI (zsI (zsI (zsI (zsI M 336 13 w20v) 340 w28n w26v) 336 11 w30v) 336 6 w36v) 336 14).toInt = (zI M 336 14).toInt := (congrArg Int32.toInt ((zIoj (by decide)).trans ((zIoj (by decide)).trans ((zIo (by decide)).trans ((zIoj (by decide)).trans rfl))))).trans rfl
        have w46 : (zI (zsI (zsI (zsI (zsI M 336 13 w20v) 340 w28n w26v) 336 11 w30v) 336 6 w36v) 336 6).toInt = ((zI M 336 6).toInt + 1) := (congrArg Int32.toInt zIs).trans w36
        have w47 : (zI (zsI (zsI (zsI (zsI M 336 13 w20v) 340 w28n w26v) 336 11 w30v) 336 6 w36v) 336 7).toInt = (zI M 336 7).toInt := (congrArg Int32.toInt ((zIoj (by decide)).trans ((zIoj (by decide)).trans ((zIo (by decide)).trans ((zIoj (by decide)).trans rfl))))).trans rfl
        have w48 : (zI (zsI (zsI (zsI (zsI M 336 13 w20v) 340 w28n w26v) 336 11 w30v) 336 6 w36v) 336 13).toInt = ((zI M 336 13).toInt + 1) := (congrArg Int32.toInt ((zIoj (by decide)).trans ((zIoj (by decide)).trans ((zIo (by decide)).trans zIs)))).trans w20
        have w49 : w20v.toInt = ((zI M 336 13).toInt + 1) := w20
        have w50 := zlx.l (c := gg w9n)
        unfold zltr at w50
        exact zs_iret (pc := 106) t259_106 mr259 (by decide) (hQ _ _ hs w37 (((((zFr.refl).put rfl).put rfl).put rfl).put rfl) rfl (by omega) (by omega) (Or.inr (zGh.cast (zGh.fr (M' := (zsI (zsI (zsI (zsI M 336 13 w20v) 340 w28n w26v) 336 11 w30v) 336 6 w36v)) w35 (zEq.put rfl)) (by omega))) (fun p t hp ht => by obtain rfl : w9n = p := (by omega); subst ht; exact Or.inr ⟨by decide, by omega, w9n + 1, _, pTh.l (by omega) (by unfold zltr; omega), by omega, by omega, by omega⟩) (by decide) (by decide))
      · refine zs_if_eqF (pc := 52) t259_52 rfl (by omega) ?_
        refine zs_aload_n (pc := 55) t259_55 rfl ?_
        refine zs_aload_n (pc := 56) t259_56 rfl ?_
        refine zs_get (pc := 57) t259_57 (by decide) (zk1 (hs.k fk_zMm_336)) (zfvi rfl ((zIoj (by decide)).trans rfl)) ?_
        refine zs_iconst (pc := 60) t259_60 (v := 1) (by decide) ?_
        refine zs_iconst (pc := 61) t259_61 (v := 0) (by decide) ?_
        refine zs_sipush (pc := 62) t259_62 (v := 9999) (by decide) ?_
        have w51 : (zI (zsI M 336 13 w20v) 336 5).toInt = (zI M 336 5).toInt := (congrArg Int32.toInt ((zIoj (by decide)).trans rfl)).trans rfl
        have w52 : (zI (zsI M 336 13 w20v) 336 6).toInt = (zI M 336 6).toInt := (congrArg Int32.toInt ((zIoj (by decide)).trans rfl)).trans rfl
        have w53 : (zI (zsI M 336 13 w20v) 336 7).toInt = (zI M 336 7).toInt := (congrArg Int32.toInt ((zIoj (by decide)).trans rfl)).trans rfl
        have w54 : (zI (zsI M 336 13 w20v) 336 5).toInt = (zI M 336 5).toInt := (congrArg Int32.toInt ((zIoj (by decide)).trans rfl)).trans rfl
        have w55 : (zI (zsI M 336 13 w20v) 336 6).toInt = (zI M 336 6).toInt := (congrArg Int32.toInt ((zIoj (by decide)).trans rfl)).trans rfl
        refine zs_invV (pc := 65) (k := 336) (as' := [.int (zI M 336 6), .int (1 : Int32), .int (0 : Int32), .int (9999 : Int32)]) (st := []) t259_65 mf244 rfl rfl (Or.inl ⟨by decide, (zk1 (hs.k fk_zMm_336))⟩) ⟨by decide, by decide, Nat.le_of_ble_eq_true rfl, Nat.le_of_ble_eq_true rfl⟩ (E244 hs w21 ⟨by omega, by omega⟩ (by omega) (zTm.mk x1 (fun j => (zIo (by decide))) (zIoj (by decide))) ?_) (fun _ _ q => q)
        intro w56M w56v w56s w56I w56F w56J w56t0 w56t1 w56t2 w56t3 w56x0 w56a w56b
        have w57 := ib336_7 w56I
        have w58 := zrg (zI w56M 336 8)
        have w59 := ib336_6 w56I
        have w60 : (zI (zsI M 336 13 w20v) 336 6).toInt = (zI M 336 6).toInt := (congrArg Int32.toInt ((zIoj (by decide)).trans rfl)).trans rfl
        have w56z := w56x0 w9n (by omega)
        show zGo X l 2 0 0 259 68 [(1, .int (zhere M)), (0, .ref 336)] [.int w56v] w56M _
        by_cases w61 : w56v.toInt ≠ 0
        · refine zs_if_neT (pc := 68) t259_68 rfl (by omega) ?_
          refine zs_aload_n (pc := 73) t259_73 rfl ?_
          refine zs_aload_n (pc := 74) t259_74 rfl ?_
          refine zs_get (pc := 75) t259_75 (by decide) (zk1 (w56s.k fk_zMm_336)) (zfvi rfl rfl) ?_
          refine zs_invV (pc := 78) (k := 336) (as' := [.int (zI w56M 336 8)]) (st := []) t259_78 mf261 rfl rfl (Or.inl ⟨by decide, (zk1 (w56s.k fk_zMm_336))⟩) ⟨by decide, by decide, Nat.le_of_ble_eq_true rfl, Nat.le_of_ble_eq_true rfl⟩ (zs_in (by decide) mf261 (Nat.le_of_ble_eq_true rfl) ?_) (fun _ _ q => q)
          show zGo X l 0 0 0 261 0 [(0, .ref 336), (1, .int (zI w56M 336 8))] [] w56M _
          refine zs_aload_n (pc := 0) t261_0 rfl ?_
          refine zs_get (pc := 1) t261_1 (by decide) (zk1 (w56s.k fk_zMm_336)) (w56s.p rfl fv_zMm_336_9) ?_
          refine zs_aload_n (pc := 4) t261_4 rfl ?_
          have w62 := ib336_11 hI
          refine zs_get (pc := 5) t261_5 (by decide) (zk1 (w56s.k fk_zMm_336)) (zfvi rfl ((w56F 336 11 rfl).trans ((zIoj (by decide)).trans rfl))) ?_
          refine zs_iload_n (pc := 8) t261_8 rfl ?_
          obtain ⟨w63n, w63⟩ : ∃ n : Nat, (zI M 336 11).toInt = (n : Int) := ⟨((zI M 336 11).toInt).toNat, by omega⟩
          have w64 : zIv mLo mHi (zsI w56M 340 w63n (zI w56M 336 8)) := zIv.put w56I (show (-2147483648) ≤ (zI w56M 336 8).toInt ∧ (zI w56M 336 8).toInt ≤ 2147483647 from zrg (zI w56M 336 8))
          refine zs_iast (pc := 9) t261_9 (j := w63n) (by decide) (zk1 (w56s.k fk_zMm_340)) (show (zI M 336 11).toInt = ((w63n : Nat) : Int) by omega) (zk2 (w56s.k fk_zMm_340) (by omega)) ?_
          refine zs_aload_n (pc := 10) t261_10 rfl ?_
          refine zs_dup (pc := 11) t261_11 rfl ?_
          refine zs_get (pc := 12) t261_12 (by decide) (zk1 (w56s.k fk_zMm_336)) (zfvi rfl ((zIo (by decide)).trans ((w56F 336 11 rfl).trans ((zIoj (by decide)).trans rfl)))) ?_
          refine zs_iconst (pc := 15) t261_15 (v := 1) (by decide) ?_
          obtain ⟨w65v, w65e, w65⟩ := ziadd (a := (zI M 336 11)) (b := (1 : Int32)) rfl li1 (by omega) (by omega)
          refine zs_iadd (pc := 16) t261_16 (c := w65v) w65e ?_
          have w66 : zIv mLo mHi (zsI (zsI w56M 340 w63n (zI w56M 336 8)) 336 11 w65v) := zIv.put w64 (show 0 ≤ w65v.toInt ∧ w65v.toInt ≤ 200 from ⟨by omega, by omega⟩)
          have w67 : (zI w56M 336 11).toInt = (zI M 336 11).toInt := (congrArg Int32.toInt ((w56F 336 11 rfl).trans ((zIoj (by decide)).trans rfl))).trans rfl
          have w68 : w65v.toInt = ((zI M 336 11).toInt + 1) := w65
          have w69 : zGh (zsI (zsI w56M 340 w63n (zI w56M 336 8)) 336 11 w65v) (hh + 1) := zGh.put (n := w63n) (zGh.fr (zGh.fr (M' := (zsI M 336 13 w20v)) pH (zEq.put rfl)) (w56F.eq rfl)) (by omega) (by omega) (by omega)
          refine zs_putI (pc := 17) t261_17 (zk1 (w56s.k fk_zMm_336)) rfl ?_
          refine zs_vret (pc := 20) t261_20 mr261 ?_
          show zGo X l 2 0 0 259 81 [(1, .int (zhere M)), (0, .ref 336)] [] (zsI (zsI w56M 340 w63n (zI w56M 336 8)) 336 11 w65v) _
          refine zs_iconst (pc := 81) t259_81 (v := 1) (by decide) ?_
          have w70 : (zI (zsI (zsI w56M 340 w63n (zI w56M 336 8)) 336 11 w65v) 336 11).toInt = ((zI M 336 11).toInt + 1) := (congrArg Int32.toInt zIs).trans w65
          have w71 : (zI (zsI (zsI w56M 340 w63n (zI w56M 336 8)) 336 11 w65v) 336 6).toInt = (zI w56M 336 6).toInt := (congrArg Int32.toInt ((zIoj (by decide)).trans ((zIo (by decide)).trans rfl))).trans rfl
          have w72 : (zI (zsI (zsI w56M 340 w63n (zI w56M 336 8)) 336 11 w65v) 336 13).toInt = ((zI M 336 13).toInt + 1) := (congrArg Int32.toInt ((zIoj (by decide)).trans ((zIo (by decide)).trans ((w56F 336 13 rfl).trans zIs)))).trans w20
          have w73 := li1
          have w74 := ib336_12 hI
          have w75 : (zI (zsI (zsI w56M 340 w63n (zI w56M 336 8)) 336 11 w65v) 336 12).toInt = (zI M 336 12).toInt := (congrArg Int32.toInt ((zIoj (by decide)).trans ((zIo (by decide)).trans ((w56F 336 12 rfl).trans ((zIoj (by decide)).trans rfl))))).trans rfl
          have w76 := ib336_14 hI
          have w77 : (zI (zsI (zsI w56M 340 w63n (zI w56M 336 8)) 336 11 w65v) 336 14).toInt = (zI M 336 14).toInt := (congrArg Int32.toInt ((zIoj (by decide)).trans ((zIo (by decide)).trans ((w56F 336 14 rfl).trans ((zIoj (by decide)).trans rfl))))).trans rfl
          have w78 : (zI (zsI (zsI w56M 340 w63n (zI w56M 336 8)) 336 11 w65v) 336 6).toInt = (zI w56M 336 6).toInt := (congrArg Int32.toInt ((zIoj (by decide)).trans ((zIo (by decide)).trans rfl))).trans rfl
          have w79 : (zI (zsI (zsI w56M 340 w63n (zI w56M 336 8)) 336 11 w65v) 336 7).toInt = (zI w56M 336 7).toInt := (congrArg Int32.toInt ((zIoj (by decide)).trans ((zIo (by decide)).trans rfl))).trans rfl
          have w80 : (zI (zsI (zsI w56M 340 w63n (zI w56M 336 8)) 336 11 w65v) 336 13).toInt = ((zI M 336 13).toInt + 1) := (congrArg Int32.toInt ((zIoj (by decide)).trans ((zIo (by decide)).trans ((w56F 336 13 rfl).trans zIs)))).trans w20
          have w81 : w20v.toInt = ((zI M 336 13).toInt + 1) := w20
          have w82 := zlx.l (c := gg w9n)
          unfold zltr at w82
          exact zs_iret (pc := 82) t259_82 mr259 (by decide) (hQ _ _ w56s w66 (((((zFr.refl).put rfl).trans (w56F.mono rfl)).put rfl).put rfl) w56J (by omega) (by omega) (Or.inr (zGh.cast w69 (by omega))) (fun p t hp ht => by obtain rfl : w9n = p := (by omega); subst ht; exact Or.inr ⟨by decide, by omega, _, _, pTh.d (by omega) (by omega) (by rcases w56z with q | q; exact q.2.1; exact absurd q.1 (by omega)), by rcases w56z with q | q <;> omega, by omega, by omega⟩) (by decide) (by decide))
        · refine zs_if_neF (pc := 68) t259_68 rfl (by omega) ?_
          refine zs_iconst (pc := 71) t259_71 (v := 0) (by decide) ?_
          have w83 : (zI w56M 336 11).toInt = (zI M 336 11).toInt := (congrArg Int32.toInt ((w56F 336 11 rfl).trans ((zIoj (by decide)).trans rfl))).trans rfl
          have w84 : (zI w56M 336 6).toInt = (zI w56M 336 6).toInt := (congrArg Int32.toInt rfl).trans rfl
          have w85 : (zI w56M 336 13).toInt = ((zI M 336 13).toInt + 1) := (congrArg Int32.toInt ((w56F 336 13 rfl).trans zIs)).trans w20
          have w86 := li0
          have w87 : (zI w56M 336 6).toInt = (zI w56M 336 6).toInt := (congrArg Int32.toInt rfl).trans rfl
          have w88 : (zI w56M 336 7).toInt = (zI w56M 336 7).toInt := (congrArg Int32.toInt rfl).trans rfl
          have w89 : (zI w56M 336 13).toInt = ((zI M 336 13).toInt + 1) := (congrArg Int32.toInt ((w56F 336 13 rfl).trans zIs)).trans w20
          have w90 : w20v.toInt = ((zI M 336 13).toInt + 1) := w20
          have w91 := zlx.l (c := gg w9n)
          unfold zltr at w91
          exact zs_iret (pc := 72) t259_72 mr259 (by decide) (hQ _ _ w56s w56I (((zFr.refl).put rfl).trans (w56F.mono rfl)) w56J (by omega) (by omega) (Or.inl (by decide)) (fun p t hp ht => by obtain rfl : w9n = p := (by omega); subst ht; exact zocm.f (by decide) (by rcases w56z with q | q <;> omega) (pTh.d5 (by omega) (by omega) (by rcases w56z with q | ⟨_, _, q | q⟩; exact absurd q.1 (by omega); exact absurd q (by have q2 := pDg.gt (g := gg) (p := w9n) (by omega); omega); exact q))) (by decide) (by decide))
    · refine zs_icmp_neF (pc := 26) t259_26 rfl li30 (by omega) ?_
      refine zs_aload_n (pc := 29) t259_29 rfl ?_
      refine zs_aload_n (pc := 30) t259_30 rfl ?_
      refine zs_get (pc := 31) t259_31 (by decide) (zk1 (hs.k fk_zMm_336)) (zfvi rfl rfl) ?_
      refine zs_invV (pc := 34) (k := 336) (as' := [.int (zI M 336 6)]) (st := []) t259_34 mf239 rfl rfl (Or.inl ⟨by decide, (zk1 (hs.k fk_zMm_336))⟩) ⟨by decide, by decide, Nat.le_of_ble_eq_true rfl, Nat.le_of_ble_eq_true rfl⟩ (zs_in (by decide) mf239 (Nat.le_of_ble_eq_true rfl) ?_) (fun _ _ q => q)
      show zGo X l 0 0 0 239 0 [(0, .ref 336), (1, .int (zI M 336 6))] [] M _
      refine zs_aload_n (pc := 0) t239_0 rfl ?_
      refine zs_iload_n (pc := 1) t239_1 rfl ?_
      have w92 : zIv mLo mHi (zsI M 336 7 (zI M 336 6)) := zIv.put hI (show (-1) ≤ (zI M 336 6).toInt ∧ (zI M 336 6).toInt ≤ 500 from ⟨by omega, by omega⟩)
      refine zs_putI (pc := 2) t239_2 (zk1 (hs.k fk_zMm_336)) rfl ?_
      refine zs_iconst (pc := 5) t239_5 (v := 0) (by decide) ?_
      refine zs_iret (pc := 6) t239_6 mr239 (by decide) ?_
      show zGo X l 2 0 0 259 37 [(1, .int (zhere M)), (0, .ref 336)] [.int (0 : Int32)] (zsI M 336 7 (zI M 336 6)) _
      have w93 := ib336_11 hI
      have w94 : (zI (zsI M 336 7 (zI M 336 6)) 336 11).toInt = (zI M 336 11).toInt := (congrArg Int32.toInt ((zIoj (by decide)).trans rfl)).trans rfl
      have w95 : (zI (zsI M 336 7 (zI M 336 6)) 336 6).toInt = (zI M 336 6).toInt := (congrArg Int32.toInt ((zIoj (by decide)).trans rfl)).trans rfl
      have w96 : (zI (zsI M 336 7 (zI M 336 6)) 336 13).toInt = (zI M 336 13).toInt := (congrArg Int32.toInt ((zIoj (by decide)).trans rfl)).trans rfl
      have w97 := li0
      have w98 : (zI (zsI M 336 7 (zI M 336 6)) 336 6).toInt = (zI M 336 6).toInt := (congrArg Int32.toInt ((zIoj (by decide)).trans rfl)).trans rfl
      have w99 : (zI (zsI M 336 7 (zI M 336 6)) 336 7).toInt = (zI M 336 6).toInt := (congrArg Int32.toInt zIs).trans rfl
      have w100 : (zI (zsI M 336 7 (zI M 336 6)) 336 13).toInt = (zI M 336 13).toInt := (congrArg Int32.toInt ((zIoj (by decide)).trans rfl)).trans rfl
      have w101 := zlx.l (c := gg w9n)
      unfold zltr at w101
      exact zs_iret (pc := 37) t259_37 mr259 (by decide) (hQ _ _ hs w92 ((zFr.refl).put rfl) rfl (by omega) (by omega) (Or.inl (by decide)) (fun p t hp ht => by obtain rfl : w9n = p := (by omega); subst ht; exact zocm.f (by decide) (by omega) (pTh.no (by unfold zltr; omega))) (by decide) (by decide))
  · refine zs_if_neF (pc := 9) t259_9 rfl (by omega) ?_
    refine zs_iload_n (pc := 12) t259_12 rfl ?_
    refine zs_invS (pc := 13) (as := [.int (zhere M)]) (st := []) t259_13 (by decide) mf260 rfl rfl ⟨by decide, by decide, Nat.le_of_ble_eq_true rfl, Nat.le_of_ble_eq_true rfl⟩ (E260 hs hI ?_) (fun _ _ q => q)
    intro w102v w102t0 w102x0 w102a w102b
    have w103 : zlx (zhere M).toInt = zlx (gg w9n) := congrArg zlx (by omega)
    show zGo X l 2 0 0 259 16 [(1, .int (zhere M)), (0, .ref 336)] [.int w102v] M _
    refine zs_iconst (pc := 16) t259_16 (v := -1) (by decide) ?_
    by_cases w104 : w102v.toInt = (-1)
    · refine zs_icmp_eqT (pc := 17) t259_17 rfl lin1 (by omega) ?_
      refine zs_aload_n (pc := 29) t259_29 rfl ?_
      refine zs_aload_n (pc := 30) t259_30 rfl ?_
      refine zs_get (pc := 31) t259_31 (by decide) (zk1 (hs.k fk_zMm_336)) (zfvi rfl rfl) ?_
      refine zs_invV (pc := 34) (k := 336) (as' := [.int (zI M 336 6)]) (st := []) t259_34 mf239 rfl rfl (Or.inl ⟨by decide, (zk1 (hs.k fk_zMm_336))⟩) ⟨by decide, by decide, Nat.le_of_ble_eq_true rfl, Nat.le_of_ble_eq_true rfl⟩ (zs_in (by decide) mf239 (Nat.le_of_ble_eq_true rfl) ?_) (fun _ _ q => q)
      show zGo X l 0 0 0 239 0 [(0, .ref 336), (1, .int (zI M 336 6))] [] M _
      refine zs_aload_n (pc := 0) t239_0 rfl ?_
      refine zs_iload_n (pc := 1) t239_1 rfl ?_
      have w105 : zIv mLo mHi (zsI M 336 7 (zI M 336 6)) := zIv.put hI (show (-1) ≤ (zI M 336 6).toInt ∧ (zI M 336 6).toInt ≤ 500 from ⟨by omega, by omega⟩)
      refine zs_putI (pc := 2) t239_2 (zk1 (hs.k fk_zMm_336)) rfl ?_
      refine zs_iconst (pc := 5) t239_5 (v := 0) (by decide) ?_
      refine zs_iret (pc := 6) t239_6 mr239 (by decide) ?_
      show zGo X l 2 0 0 259 37 [(1, .int (zhere M)), (0, .ref 336)] [.int (0 : Int32)] (zsI M 336 7 (zI M 336 6)) _
      have w106 := ib336_11 hI
      have w107 : (zI (zsI M 336 7 (zI M 336 6)) 336 11).toInt = (zI M 336 11).toInt := (congrArg Int32.toInt ((zIoj (by decide)).trans rfl)).trans rfl
      have w108 : (zI (zsI M 336 7 (zI M 336 6)) 336 6).toInt = (zI M 336 6).toInt := (congrArg Int32.toInt ((zIoj (by decide)).trans rfl)).trans rfl
      have w109 : (zI (zsI M 336 7 (zI M 336 6)) 336 13).toInt = (zI M 336 13).toInt := (congrArg Int32.toInt ((zIoj (by decide)).trans rfl)).trans rfl
      have w110 := li0
      have w111 : (zI (zsI M 336 7 (zI M 336 6)) 336 6).toInt = (zI M 336 6).toInt := (congrArg Int32.toInt ((zIoj (by decide)).trans rfl)).trans rfl
      have w112 : (zI (zsI M 336 7 (zI M 336 6)) 336 7).toInt = (zI M 336 6).toInt := (congrArg Int32.toInt zIs).trans rfl
      have w113 : (zI (zsI M 336 7 (zI M 336 6)) 336 13).toInt = (zI M 336 13).toInt := (congrArg Int32.toInt ((zIoj (by decide)).trans rfl)).trans rfl
      have w114 := zlx.l (c := gg w9n)
      unfold zltr at w114
      exact zs_iret (pc := 37) t259_37 mr259 (by decide) (hQ _ _ hs w105 ((zFr.refl).put rfl) rfl (by omega) (by omega) (Or.inl (by decide)) (fun p t hp ht => by obtain rfl : w9n = p := (by omega); subst ht; exact zocm.f (by decide) (by omega) (pTh.no (by unfold zltr; omega))) (by decide) (by decide))
    · refine zs_icmp_eqF (pc := 17) t259_17 rfl lin1 (by omega) ?_
      refine zs_aload_n (pc := 20) t259_20 rfl ?_
      refine zs_get (pc := 21) t259_21 (by decide) (zk1 (hs.k fk_zMm_336)) (zfvi rfl rfl) ?_
      refine zs_bipush (pc := 24) t259_24 (v := 30) (by decide) ?_
      by_cases w115 : (zI M 336 13).toInt ≠ 30
      · refine zs_icmp_neT (pc := 26) t259_26 rfl li30 (by omega) ?_
        refine zs_aload_n (pc := 38) t259_38 rfl ?_
        refine zs_dup (pc := 39) t259_39 rfl ?_
        refine zs_get (pc := 40) t259_40 (by decide) (zk1 (hs.k fk_zMm_336)) (zfvi rfl rfl) ?_
        refine zs_iconst (pc := 43) t259_43 (v := 1) (by decide) ?_
        obtain ⟨w116v, w116e, w116⟩ := ziadd (a := (zI M 336 13)) (b := (1 : Int32)) rfl li1 (by omega) (by omega)
        refine zs_iadd (pc := 44) t259_44 (c := w116v) w116e ?_
        have w117 : zIv mLo mHi (zsI M 336 13 w116v) := zIv.put hI (show 0 ≤ w116v.toInt ∧ w116v.toInt ≤ 30 from ⟨by omega, by omega⟩)
        refine zs_putI (pc := 45) t259_45 (zk1 (hs.k fk_zMm_336)) rfl ?_
        refine zs_iload_n (pc := 48) t259_48 rfl ?_
        refine zs_invS (pc := 49) (as := [.int (zhere M)]) (st := []) t259_49 (by decide) mf245 rfl rfl ⟨by decide, by decide, Nat.le_of_ble_eq_true rfl, Nat.le_of_ble_eq_true rfl⟩ (K245 hs w117 ?_) (fun _ _ q => q)
        intro w118v w118t0 w118a w118b
        show zGo X l 2 0 0 259 52 [(1, .int (zhere M)), (0, .ref 336)] [.int w118v] (zsI M 336 13 w116v) _
        by_cases w119 : w118v.toInt = 0
        · refine zs_if_eqT (pc := 52) t259_52 rfl (by omega) ?_
          refine zs_aload_n (pc := 83) t259_83 rfl ?_
          refine zs_sipush (pc := 84) t259_84 (v := 10000) (by decide) ?_
          refine zs_iload_n (pc := 87) t259_87 rfl ?_
          refine zs_invS (pc := 88) (as := [.int (zhere M)]) (st := [.int (10000 : Int32), .ref 336]) t259_88 (by decide) mf260 rfl rfl ⟨by decide, by decide, Nat.le_of_ble_eq_true rfl, Nat.le_of_ble_eq_true rfl⟩ (E260 hs w117 ?_) (fun _ _ q => q)
          intro w120v w120t0 w120x0 w120a w120b
          have w121 : zlx (zhere M).toInt = zlx (gg w9n) := congrArg zlx (by omega)
          show zGo X l 2 0 0 259 91 [(1, .int (zhere M)), (0, .ref 336)] [.int w120v, .int (10000 : Int32), .ref 336] (zsI M 336 13 w116v) _
          obtain ⟨w122v, w122e, w122⟩ := ziadd (a := (10000 : Int32)) (b := w120v) li10000 rfl (by omega) (by omega)
          refine zs_iadd (pc := 91) t259_91 (c := w122v) w122e ?_
          refine zs_invV (pc := 92) (k := 336) (as' := [.int w122v]) (st := []) t259_92 mf261 rfl rfl (Or.inl ⟨by decide, (zk1 (hs.k fk_zMm_336))⟩) ⟨by decide, by decide, Nat.le_of_ble_eq_true rfl, Nat.le_of_ble_eq_true rfl⟩ (zs_in (by decide) mf261 (Nat.le_of_ble_eq_true rfl) ?_) (fun _ _ q => q)
          show zGo X l 0 0 0 261 0 [(0, .ref 336), (1, .int w122v)] [] (zsI M 336 13 w116v) _
          refine zs_aload_n (pc := 0) t261_0 rfl ?_
          refine zs_get (pc := 1) t261_1 (by decide) (zk1 (hs.k fk_zMm_336)) (hs.p rfl fv_zMm_336_9) ?_
          refine zs_aload_n (pc := 4) t261_4 rfl ?_
          have w123 := ib336_11 hI
          refine zs_get (pc := 5) t261_5 (by decide) (zk1 (hs.k fk_zMm_336)) (zfvi rfl ((zIoj (by decide)).trans rfl)) ?_
          refine zs_iload_n (pc := 8) t261_8 rfl ?_
          obtain ⟨w124n, w124⟩ : ∃ n : Nat, (zI M 336 11).toInt = (n : Int) := ⟨((zI M 336 11).toInt).toNat, by omega⟩
          have w125 : zIv mLo mHi (zsI (zsI M 336 13 w116v) 340 w124n w122v) := zIv.put w117 (show (-2147483648) ≤ w122v.toInt ∧ w122v.toInt ≤ 2147483647 from zrg w122v)
          refine zs_iast (pc := 9) t261_9 (j := w124n) (by decide) (zk1 (hs.k fk_zMm_340)) (show (zI M 336 11).toInt = ((w124n : Nat) : Int) by omega) (zk2 (hs.k fk_zMm_340) (by omega)) ?_
          refine zs_aload_n (pc := 10) t261_10 rfl ?_
          refine zs_dup (pc := 11) t261_11 rfl ?_
          refine zs_get (pc := 12) t261_12 (by decide) (zk1 (hs.k fk_zMm_336)) (zfvi rfl ((zIo (by decide)).trans ((zIoj (by decide)).trans rfl))) ?_
          refine zs_iconst (pc := 15) t261_15 (v := 1) (by decide) ?_
          obtain ⟨w126v, w126e, w126⟩ := ziadd (a := (zI M 336 11)) (b := (1 : Int32)) rfl li1 (by omega) (by omega)
          refine zs_iadd (pc := 16) t261_16 (c := w126v) w126e ?_
          have w127 : zIv mLo mHi (zsI (zsI (zsI M 336 13 w116v) 340 w124n w122v) 336 11 w126v) := zIv.put w125 (show 0 ≤ w126v.toInt ∧ w126v.toInt ≤ 200 from ⟨by omega, by omega⟩)
          have w128 : (zI (zsI M 336 13 w116v) 336 11).toInt = (zI M 336 11).toInt := (congrArg Int32.toInt ((zIoj (by decide)).trans rfl)).trans rfl
          have w129 : w126v.toInt = ((zI M 336 11).toInt + 1) := w126
          have w130 : w122v.toInt = (10000 + w120v.toInt) := w122
          have w131 : zGh (zsI (zsI (zsI M 336 13 w116v) 340 w124n w122v) 336 11 w126v) (hh + 1) := zGh.put (n := w124n) (zGh.fr (M' := (zsI M 336 13 w116v)) pH (zEq.put rfl)) (by omega) (by omega) (by omega)
          refine zs_putI (pc := 17) t261_17 (zk1 (hs.k fk_zMm_336)) rfl ?_
          refine zs_vret (pc := 20) t261_20 mr261 ?_
          show zGo X l 2 0 0 259 95 [(1, .int (zhere M)), (0, .ref 336)] [] (zsI (zsI (zsI M 336 13 w116v) 340 w124n w122v) 336 11 w126v) _
          refine zs_aload_n (pc := 95) t259_95 rfl ?_
          refine zs_dup (pc := 96) t259_96 rfl ?_
          refine zs_get (pc := 97) t259_97 (by decide) (zk1 (hs.k fk_zMm_336)) (zfvi rfl ((zIoj (by decide)).trans ((zIo (by decide)).trans ((zIoj (by decide)).trans rfl)))) ?_
          refine zs_iconst (pc := 100) t259_100 (v := 1) (by decide) ?_
          obtain ⟨w132v, w132e, w132⟩ := ziadd (a := (zI M 336 6)) (b := (1 : Int32)) rfl li1 (by omega) (by omega)
          refine zs_iadd (pc := 101) t259_101 (c := w132v) w132e ?_
          have w133 : zIv mLo mHi (zsI (zsI (zsI (zsI M 336 13 w116v) 340 w124n w122v) 336 11 w126v) 336 6 w132v) := zIv.put w127 (show 0 ≤ w132v.toInt ∧ w132v.toInt ≤ 500 from ⟨by omega, by omega⟩)
          refine zs_putI (pc := 102) t259_102 (zk1 (hs.k fk_zMm_336)) rfl ?_
          refine zs_iconst (pc := 105) t259_105 (v := 1) (by decide) ?_
          have w134 : (zI (zsI (zsI (zsI (zsI M 336 13 w116v) 340 w124n w122v) 336 11 w126v) 336 6 w132v) 336 11).toInt = ((zI M 336 11).toInt + 1) := (congrArg Int32.toInt ((zIoj (by decide)).trans zIs)).trans w126
          have w135 : (zI (zsI (zsI (zsI (zsI M 336 13 w116v) 340 w124n w122v) 336 11 w126v) 336 6 w132v) 336 6).toInt = ((zI M 336 6).toInt + 1) := (congrArg Int32.toInt zIs).trans w132
          have w136 : (zI (zsI (zsI (zsI (zsI M 336 13 w116v) 340 w124n w122v) 336 11 w126v) 336 6 w132v) 336 13).toInt = ((zI M 336 13).toInt + 1) := (congrArg Int32.toInt ((zIoj (by decide)).trans ((zIoj (by decide)).trans ((zIo (by decide)).trans zIs)))).trans w116
          have w137 := li1
          have w138 := ib336_12 hI
          have w139 : (zI (zsI (zsI (zsI (zsI M 336 13 w116v) 340 w124n w122v) 336 11 w126v) 336 6 w132v) 336 12).toInt = (zI M 336 12).toInt := (congrArg Int32.toInt ((zIoj (by decide)).trans ((zIoj (by decide)).trans ((zIo (by decide)).trans ((zIoj (by decide)).trans rfl))))).trans rfl
          have w140 := ib336_14 hI
          have w141 : (zI (zsI (zsI (zsI (zsI M 336 13 w116v) 340 w124n w122v) 336 11 w126v) 336 6 w132v) 336 14).toInt = (zI M 336 14).toInt := (congrArg Int32.toInt ((zIoj (by decide)).trans ((zIoj (by decide)).trans ((zIo (by decide)).trans ((zIoj (by decide)).trans rfl))))).trans rfl
          have w142 : (zI (zsI (zsI (zsI (zsI M 336 13 w116v) 340 w124n w122v) 336 11 w126v) 336 6 w132v) 336 6).toInt = ((zI M 336 6).toInt + 1) := (congrArg Int32.toInt zIs).trans w132
          have w143 : (zI (zsI (zsI (zsI (zsI M 336 13 w116v) 340 w124n w122v) 336 11 w126v) 336 6 w132v) 336 7).toInt = (zI M 336 7).toInt := (congrArg Int32.toInt ((zIoj (by decide)).trans ((zIoj (by decide)).trans ((zIo (by decide)).trans ((zIoj (by decide)).trans rfl))))).trans rfl
          have w144 : (zI (zsI (zsI (zsI (zsI M 336 13 w116v) 340 w124n w122v) 336 11 w126v) 336 6 w132v) 336 13).toInt = ((zI M 336 13).toInt + 1) := (congrArg Int32.toInt ((zIoj (by decide)).trans ((zIoj (by decide)).trans ((zIo (by decide)).trans zIs)))).trans w116
          have w145 : w116v.toInt = ((zI M 336 13).toInt + 1) := w116
          have w146 := zlx.l (c := gg w9n)
          unfold zltr at w146
          exact zs_iret (pc := 106) t259_106 mr259 (by decide) (hQ _ _ hs w133 (((((zFr.refl).put rfl).put rfl).put rfl).put rfl) rfl (by omega) (by omega) (Or.inr (zGh.cast (zGh.fr (M' := (zsI (zsI (zsI (zsI M 336 13 w116v) 340 w124n w122v) 336 11 w126v) 336 6 w132v)) w131 (zEq.put rfl)) (by omega))) (fun p t hp ht => by obtain rfl : w9n = p := (by omega); subst ht; exact Or.inr ⟨by decide, by omega, w9n + 1, _, pTh.l (by omega) (by unfold zltr; omega), by omega, by omega, by omega⟩) (by decide) (by decide))
        · refine zs_if_eqF (pc := 52) t259_52 rfl (by omega) ?_
          refine zs_aload_n (pc := 55) t259_55 rfl ?_
          refine zs_aload_n (pc := 56) t259_56 rfl ?_
          refine zs_get (pc := 57) t259_57 (by decide) (zk1 (hs.k fk_zMm_336)) (zfvi rfl ((zIoj (by decide)).trans rfl)) ?_
          refine zs_iconst (pc := 60) t259_60 (v := 1) (by decide) ?_
          refine zs_iconst (pc := 61) t259_61 (v := 0) (by decide) ?_
          refine zs_sipush (pc := 62) t259_62 (v := 9999) (by decide) ?_
          have w147 : (zI (zsI M 336 13 w116v) 336 5).toInt = (zI M 336 5).toInt := (congrArg Int32.toInt ((zIoj (by decide)).trans rfl)).trans rfl
          have w148 : (zI (zsI M 336 13 w116v) 336 6).toInt = (zI M 336 6).toInt := (congrArg Int32.toInt ((zIoj (by decide)).trans rfl)).trans rfl
          have w149 : (zI (zsI M 336 13 w116v) 336 7).toInt = (zI M 336 7).toInt := (congrArg Int32.toInt ((zIoj (by decide)).trans rfl)).trans rfl
          have w150 : (zI (zsI M 336 13 w116v) 336 5).toInt = (zI M 336 5).toInt := (congrArg Int32.toInt ((zIoj (by decide)).trans rfl)).trans rfl
          have w151 : (zI (zsI M 336 13 w116v) 336 6).toInt = (zI M 336 6).toInt := (congrArg Int32.toInt ((zIoj (by decide)).trans rfl)).trans rfl
          refine zs_invV (pc := 65) (k := 336) (as' := [.int (zI M 336 6), .int (1 : Int32), .int (0 : Int32), .int (9999 : Int32)]) (st := []) t259_65 mf244 rfl rfl (Or.inl ⟨by decide, (zk1 (hs.k fk_zMm_336))⟩) ⟨by decide, by decide, Nat.le_of_ble_eq_true rfl, Nat.le_of_ble_eq_true rfl⟩ (E244 hs w117 ⟨by omega, by omega⟩ (by omega) (zTm.mk x1 (fun j => (zIo (by decide))) (zIoj (by decide))) ?_) (fun _ _ q => q)
          intro w152M w152v w152s w152I w152F w152J w152t0 w152t1 w152t2 w152t3 w152x0 w152a w152b
          have w153 := ib336_7 w152I
          have w154 := zrg (zI w152M 336 8)
          have w155 := ib336_6 w152I
          have w156 : (zI (zsI M 336 13 w116v) 336 6).toInt = (zI M 336 6).toInt := (congrArg Int32.toInt ((zIoj (by decide)).trans rfl)).trans rfl
          have w152z := w152x0 w9n (by omega)
          show zGo X l 2 0 0 259 68 [(1, .int (zhere M)), (0, .ref 336)] [.int w152v] w152M _
          by_cases w157 : w152v.toInt ≠ 0
          · refine zs_if_neT (pc := 68) t259_68 rfl (by omega) ?_
            refine zs_aload_n (pc := 73) t259_73 rfl ?_
            refine zs_aload_n (pc := 74) t259_74 rfl ?_
            refine zs_get (pc := 75) t259_75 (by decide) (zk1 (w152s.k fk_zMm_336)) (zfvi rfl rfl) ?_
            refine zs_invV (pc := 78) (k := 336) (as' := [.int (zI w152M 336 8)]) (st := []) t259_78 mf261 rfl rfl (Or.inl ⟨by decide, (zk1 (w152s.k fk_zMm_336))⟩) ⟨by decide, by decide, Nat.le_of_ble_eq_true rfl, Nat.le_of_ble_eq_true rfl⟩ (zs_in (by decide) mf261 (Nat.le_of_ble_eq_true rfl) ?_) (fun _ _ q => q)
            show zGo X l 0 0 0 261 0 [(0, .ref 336), (1, .int (zI w152M 336 8))] [] w152M _
            refine zs_aload_n (pc := 0) t261_0 rfl ?_
            refine zs_get (pc := 1) t261_1 (by decide) (zk1 (w152s.k fk_zMm_336)) (w152s.p rfl fv_zMm_336_9) ?_
            refine zs_aload_n (pc := 4) t261_4 rfl ?_
            have w158 := ib336_11 hI
            refine zs_get (pc := 5) t261_5 (by decide) (zk1 (w152s.k fk_zMm_336)) (zfvi rfl ((w152F 336 11 rfl).trans ((zIoj (by decide)).trans rfl))) ?_
            refine zs_iload_n (pc := 8) t261_8 rfl ?_
            obtain ⟨w159n, w159⟩ : ∃ n : Nat, (zI M 336 11).toInt = (n : Int) := ⟨((zI M 336 11).toInt).toNat, by omega⟩
            have w160 : zIv mLo mHi (zsI w152M 340 w159n (zI w152M 336 8)) := zIv.put w152I (show (-2147483648) ≤ (zI w152M 336 8).toInt ∧ (zI w152M 336 8).toInt ≤ 2147483647 from zrg (zI w152M 336 8))
            refine zs_iast (pc := 9) t261_9 (j := w159n) (by decide) (zk1 (w152s.k fk_zMm_340)) (show (zI M 336 11).toInt = ((w159n : Nat) : Int) by omega) (zk2 (w152s.k fk_zMm_340) (by omega)) ?_
            refine zs_aload_n (pc := 10) t261_10 rfl ?_
            refine zs_dup (pc := 11) t261_11 rfl ?_
            refine zs_get (pc := 12) t261_12 (by decide) (zk1 (w152s.k fk_zMm_336)) (zfvi rfl ((zIo (by decide)).trans ((w152F 336 11 rfl).trans ((zIoj (by decide)).trans rfl)))) ?_
            refine zs_iconst (pc := 15) t261_15 (v := 1) (by decide) ?_
            obtain ⟨w161v, w161e, w161⟩ := ziadd (a := (zI M 336 11)) (b := (1 : Int32)) rfl li1 (by omega) (by omega)
            refine zs_iadd (pc := 16) t261_16 (c := w161v) w161e ?_
            have w162 : zIv mLo mHi (zsI (zsI w152M 340 w159n (zI w152M 336 8)) 336 11 w161v) := zIv.put w160 (show 0 ≤ w161v.toInt ∧ w161v.toInt ≤ 200 from ⟨by omega, by omega⟩)
            have w163 : (zI w152M 336 11).toInt = (zI M 336 11).toInt := (congrArg Int32.toInt ((w152F 336 11 rfl).trans ((zIoj (by decide)).trans rfl))).trans rfl
            have w164 : w161v.toInt = ((zI M 336 11).toInt + 1) := w161
            have w165 : zGh (zsI (zsI w152M 340 w159n (zI w152M 336 8)) 336 11 w161v) (hh + 1) := zGh.put (n := w159n) (zGh.fr (zGh.fr (M' := (zsI M 336 13 w116v)) pH (zEq.put rfl)) (w152F.eq rfl)) (by omega) (by omega) (by omega)
            refine zs_putI (pc := 17) t261_17 (zk1 (w152s.k fk_zMm_336)) rfl ?_
            refine zs_vret (pc := 20) t261_20 mr261 ?_
            show zGo X l 2 0 0 259 81 [(1, .int (zhere M)), (0, .ref 336)] [] (zsI (zsI w152M 340 w159n (zI w152M 336 8)) 336 11 w161v) _
            refine zs_iconst (pc := 81) t259_81 (v := 1) (by decide) ?_
            have w166 : (zI (zsI (zsI w152M 340 w159n (zI w152M 336 8)) 336 11 w161v) 336 11).toInt = ((zI M 336 11).toInt + 1) := (congrArg Int32.toInt zIs).trans w161
            have w167 : (zI (zsI (zsI w152M 340 w159n (zI w152M 336 8)) 336 11 w161v) 336 6).toInt = (zI w152M 336 6).toInt := (congrArg Int32.toInt ((zIoj (by decide)).trans ((zIo (by decide)).trans rfl))).trans rfl
            have w168 : (zI (zsI (zsI w152M 340 w159n (zI w152M 336 8)) 336 11 w161v) 336 13).toInt = ((zI M 336 13).toInt + 1) := (congrArg Int32.toInt ((zIoj (by decide)).trans ((zIo (by decide)).trans ((w152F 336 13 rfl).trans zIs)))).trans w116
            have w169 := li1
            have w170 := ib336_12 hI
            have w171 : (zI (zsI (zsI w152M 340 w159n (zI w152M 336 8)) 336 11 w161v) 336 12).toInt = (zI M 336 12).toInt := (congrArg Int32.toInt ((zIoj (by decide)).trans ((zIo (by decide)).trans ((w152F 336 12 rfl).trans ((zIoj (by decide)).trans rfl))))).trans rfl
            have w172 := ib336_14 hI
            have w173 : (zI (zsI (zsI w152M 340 w159n (zI w152M 336 8)) 336 11 w161v) 336 14).toInt = (zI M 336 14).toInt := (congrArg Int32.toInt ((zIoj (by decide)).trans ((zIo (by decide)).trans ((w152F 336 14 rfl).trans ((zIoj (by decide)).trans rfl))))).trans rfl
            have w174 : (zI (zsI (zsI w152M 340 w159n (zI w152M 336 8)) 336 11 w161v) 336 6).toInt = (zI w152M 336 6).toInt := (congrArg Int32.toInt ((zIoj (by decide)).trans ((zIo (by decide)).trans rfl))).trans rfl
            have w175 : (zI (zsI (zsI w152M 340 w159n (zI w152M 336 8)) 336 11 w161v) 336 7).toInt = (zI w152M 336 7).toInt := (congrArg Int32.toInt ((zIoj (by decide)).trans ((zIo (by decide)).trans rfl))).trans rfl
            have w176 : (zI (zsI (zsI w152M 340 w159n (zI w152M 336 8)) 336 11 w161v) 336 13).toInt = ((zI M 336 13).toInt + 1) := (congrArg Int32.toInt ((zIoj (by decide)).trans ((zIo (by decide)).trans ((w152F 336 13 rfl).trans zIs)))).trans w116
            have w177 : w116v.toInt = ((zI M 336 13).toInt + 1) := w116
            have w178 := zlx.l (c := gg w9n)
            unfold zltr at w178
            exact zs_iret (pc := 82) t259_82 mr259 (by decide) (hQ _ _ w152s w162 (((((zFr.refl).put rfl).trans (w152F.mono rfl)).put rfl).put rfl) w152J (by omega) (by omega) (Or.inr (zGh.cast w165 (by omega))) (fun p t hp ht => by obtain rfl : w9n = p := (by omega); subst ht; exact Or.inr ⟨by decide, by omega, _, _, pTh.d (by omega) (by omega) (by rcases w152z with q | q; exact q.2.1; exact absurd q.1 (by omega)), by rcases w152z with q | q <;> omega, by omega, by omega⟩) (by decide) (by decide))
          · refine zs_if_neF (pc := 68) t259_68 rfl (by omega) ?_
            refine zs_iconst (pc := 71) t259_71 (v := 0) (by decide) ?_
            have w179 : (zI w152M 336 11).toInt = (zI M 336 11).toInt := (congrArg Int32.toInt ((w152F 336 11 rfl).trans ((zIoj (by decide)).trans rfl))).trans rfl
            have w180 : (zI w152M 336 6).toInt = (zI w152M 336 6).toInt := (congrArg Int32.toInt rfl).trans rfl
            have w181 : (zI w152M 336 13).toInt = ((zI M 336 13).toInt + 1) := (congrArg Int32.toInt ((w152F 336 13 rfl).trans zIs)).trans w116
            have w182 := li0
            have w183 : (zI w152M 336 6).toInt = (zI w152M 336 6).toInt := (congrArg Int32.toInt rfl).trans rfl
            have w184 : (zI w152M 336 7).toInt = (zI w152M 336 7).toInt := (congrArg Int32.toInt rfl).trans rfl
            have w185 : (zI w152M 336 13).toInt = ((zI M 336 13).toInt + 1) := (congrArg Int32.toInt ((w152F 336 13 rfl).trans zIs)).trans w116
            have w186 : w116v.toInt = ((zI M 336 13).toInt + 1) := w116
            have w187 := zlx.l (c := gg w9n)
            unfold zltr at w187
            exact zs_iret (pc := 72) t259_72 mr259 (by decide) (hQ _ _ w152s w152I (((zFr.refl).put rfl).trans (w152F.mono rfl)) w152J (by omega) (by omega) (Or.inl (by decide)) (fun p t hp ht => by obtain rfl : w9n = p := (by omega); subst ht; exact zocm.f (by decide) (by rcases w152z with q | q <;> omega) (pTh.d5 (by omega) (by omega) (by rcases w152z with q | ⟨_, _, q | q⟩; exact absurd q.1 (by omega); exact absurd q (by have q2 := pDg.gt (g := gg) (p := w9n) (by omega); omega); exact q))) (by decide) (by decide))
      · refine zs_icmp_neF (pc := 26) t259_26 rfl li30 (by omega) ?_
        refine zs_aload_n (pc := 29) t259_29 rfl ?_
        refine zs_aload_n (pc := 30) t259_30 rfl ?_
        refine zs_get (pc := 31) t259_31 (by decide) (zk1 (hs.k fk_zMm_336)) (zfvi rfl rfl) ?_
        refine zs_invV (pc := 34) (k := 336) (as' := [.int (zI M 336 6)]) (st := []) t259_34 mf239 rfl rfl (Or.inl ⟨by decide, (zk1 (hs.k fk_zMm_336))⟩) ⟨by decide, by decide, Nat.le_of_ble_eq_true rfl, Nat.le_of_ble_eq_true rfl⟩ (zs_in (by decide) mf239 (Nat.le_of_ble_eq_true rfl) ?_) (fun _ _ q => q)
        show zGo X l 0 0 0 239 0 [(0, .ref 336), (1, .int (zI M 336 6))] [] M _
        refine zs_aload_n (pc := 0) t239_0 rfl ?_
        refine zs_iload_n (pc := 1) t239_1 rfl ?_
        have w188 : zIv mLo mHi (zsI M 336 7 (zI M 336 6)) := zIv.put hI (show (-1) ≤ (zI M 336 6).toInt ∧ (zI M 336 6).toInt ≤ 500 from ⟨by omega, by omega⟩)
        refine zs_putI (pc := 2) t239_2 (zk1 (hs.k fk_zMm_336)) rfl ?_
        refine zs_iconst (pc := 5) t239_5 (v := 0) (by decide) ?_
        refine zs_iret (pc := 6) t239_6 mr239 (by decide) ?_
        show zGo X l 2 0 0 259 37 [(1, .int (zhere M)), (0, .ref 336)] [.int (0 : Int32)] (zsI M 336 7 (zI M 336 6)) _
        have w189 := ib336_11 hI
        have w190 : (zI (zsI M 336 7 (zI M 336 6)) 336 11).toInt = (zI M 336 11).toInt := (congrArg Int32.toInt ((zIoj (by decide)).trans rfl)).trans rfl
        have w191 : (zI (zsI M 336 7 (zI M 336 6)) 336 6).toInt = (zI M 336 6).toInt := (congrArg Int32.toInt ((zIoj (by decide)).trans rfl)).trans rfl
        have w192 : (zI (zsI M 336 7 (zI M 336 6)) 336 13).toInt = (zI M 336 13).toInt := (congrArg Int32.toInt ((zIoj (by decide)).trans rfl)).trans rfl
        have w193 := li0
        have w194 : (zI (zsI M 336 7 (zI M 336 6)) 336 6).toInt = (zI M 336 6).toInt := (congrArg Int32.toInt ((zIoj (by decide)).trans rfl)).trans rfl
        have w195 : (zI (zsI M 336 7 (zI M 336 6)) 336 7).toInt = (zI M 336 6).toInt := (congrArg Int32.toInt zIs).trans rfl
        have w196 : (zI (zsI M 336 7 (zI M 336 6)) 336 13).toInt = (zI M 336 13).toInt := (congrArg Int32.toInt ((zIoj (by decide)).trans rfl)).trans rfl
        have w197 := zlx.l (c := gg w9n)
        unfold zltr at w197
        exact zs_iret (pc := 37) t259_37 mr259 (by decide) (hQ _ _ hs w188 ((zFr.refl).put rfl) rfl (by omega) (by omega) (Or.inl (by decide)) (fun p t hp ht => by obtain rfl : w9n = p := (by omega); subst ht; exact zocm.f (by decide) (by omega) (pTh.no (by unfold zltr; omega))) (by decide) (by decide))
theorem E258 {X : zX} {l : Launch} {M : zM} {Q : Option Value → zM → Prop} (hs : zSk zMm M) (hI : zIv mLo mHi M) {hh : Int} {gg : Nat → Int} {nn : Int} (pH : zGh M hh) (u0 : (zI M 336 11).toInt ≤ 5 * (zI M 336 13).toInt + 10) (u1 : (zI M 336 6).toInt ≤ (zI M 336 5).toInt) (u2 : (zI M 336 7).toInt = -1) (x0 : 0 ≤ hh ∧ hh ≤ 57) (x1 : zTm M gg nn) (hQ : ∀ (M' : zM) (v : Int32), zSk zMm M' → zIv mLo mHi M' → zFr [(336, 336, some 6), (336, 336, some 7), (336, 336, some 8), (336, 336, some 11), (336, 336, some 13), (340, 340, none)] M M' → zJ M' 351 = zJ M 351 → ((zI M 336 6).toInt ≤ (zI M' 336 6).toInt) → (v.toInt = 0 ∨ ((zI M 336 13).toInt + 1 ≤ (zI M' 336 13).toInt ∧ (zI M' 336 11).toInt ≤ (zI M 336 11).toInt + 2 * ((zI M' 336 13).toInt - (zI M 336 13).toInt) - 1)) → (v.toInt = 0 ∨ zGh M' (hh + 1)) → (∀ (p : Nat) (t : Int), (zI M 336 6).toInt = (p : Int) → (zI M 336 13).toInt = t → zocm M' v.toInt nn (pSu gg (p, t))) → 0 ≤ v.toInt → v.toInt ≤ 1 → Q (some (.int v)) M') : zCall X l 3 0 0 258 [.ref 336] M Q := by
  refine zs_in (by decide) mf258 (Nat.le_of_ble_eq_true rfl) ?_
  show zGo X l 3 0 0 258 0 [(0, .ref 336)] [] M _
  have hn := x1.2
  have w1 := ib336_5 hI
  have w2 : (zI M 336 5).toInt = (zI M 336 5).toInt := (congrArg Int32.toInt rfl).trans rfl
  have w3 := ib336_6 hI
  have w4 : (zI M 336 6).toInt = (zI M 336 6).toInt := (congrArg Int32.toInt rfl).trans rfl
  have w5 := ib336_7 hI
  have w6 : (zI M 336 7).toInt = (zI M 336 7).toInt := (congrArg Int32.toInt rfl).trans rfl
  have w7 := ib336_13 hI
  have w8 : (zI M 336 13).toInt = (zI M 336 13).toInt := (congrArg Int32.toInt rfl).trans rfl
  obtain ⟨w9n, w9⟩ : ∃ n : Nat, (zI M 336 6).toInt = (n : Int) := ⟨((zI M 336 6).toInt).toNat, by omega⟩
  refine zs_aload_n (pc := 0) t258_0 rfl ?_
  have w10 : (zI M 336 7).toInt = (zI M 336 7).toInt := (congrArg Int32.toInt rfl).trans rfl
  have w11 := ib336_11 hI
  have w12 : (zI M 336 11).toInt = (zI M 336 11).toInt := (congrArg Int32.toInt rfl).trans rfl
  have w13 : (zI M 336 5).toInt = (zI M 336 5).toInt := (congrArg Int32.toInt rfl).trans rfl
  have w14 : (zI M 336 6).toInt = (zI M 336 6).toInt := (congrArg Int32.toInt rfl).trans rfl
  have w15 : (zI M 336 11).toInt = (zI M 336 11).toInt := (congrArg Int32.toInt rfl).trans rfl
  have w16 : (zI M 336 6).toInt = (zI M 336 6).toInt := (congrArg Int32.toInt rfl).trans rfl
  have w17 : (zI M 336 13).toInt = (zI M 336 13).toInt := (congrArg Int32.toInt rfl).trans rfl
  refine zs_invV (pc := 1) (k := 336) (as' := []) (st := []) t258_1 mf259 rfl rfl (Or.inl ⟨by decide, (zk1 (hs.k fk_zMm_336))⟩) ⟨by decide, by decide, Nat.le_of_ble_eq_true rfl, Nat.le_of_ble_eq_true rfl⟩ (E259 hs hI pH (by omega) (by omega) (by omega) (by omega) x1 ?_) (fun _ _ q => q)
  intro w18M w18v w18s w18I w18F w18J w18t0 w18t1 w18x0 w18x1 w18a w18b
  have w19 := ib336_11 w18I
  have w20 := ib336_6 w18I
  have w21 := ib336_13 w18I
  have w22 : (zI M 336 6).toInt = (zI M 336 6).toInt := (congrArg Int32.toInt rfl).trans rfl
  have w23 : (zI M 336 13).toInt = (zI M 336 13).toInt := (congrArg Int32.toInt rfl).trans rfl
  have w18z := w18x1 w9n (zI M 336 13).toInt (by omega) (by omega)
  show zGo X l 3 0 0 258 4 [(0, .ref 336)] [.int w18v] w18M _
  by_cases w24 : w18v.toInt = 0
  · skip
    have w24e := (w18z.resolve_right (fun q => q.1 w24)).2
    refine zs_if_neF (pc := 4) t258_4 rfl (by omega) ?_
    refine zs_iconst (pc := 7) t258_7 (v := 0) (by decide) ?_
    have w25 : (zI w18M 336 11).toInt = (zI w18M 336 11).toInt := (congrArg Int32.toInt rfl).trans rfl
    have w26 : (zI w18M 336 6).toInt = (zI w18M 336 6).toInt := (congrArg Int32.toInt rfl).trans rfl
    have w27 : (zI w18M 336 13).toInt = (zI w18M 336 13).toInt := (congrArg Int32.toInt rfl).trans rfl
    have w28 := li0
    have w29 : (zI w18M 336 6).toInt = (zI w18M 336 6).toInt := (congrArg Int32.toInt rfl).trans rfl
    have w30 := ib336_7 w18I
    have w31 : (zI w18M 336 7).toInt = (zI w18M 336 7).toInt := (congrArg Int32.toInt rfl).trans rfl
    have w32 : (zI w18M 336 13).toInt = (zI w18M 336 13).toInt := (congrArg Int32.toInt rfl).trans rfl
    exact zs_iret (pc := 8) t258_8 mr258 (by decide) (hQ _ _ w18s w18I ((zFr.refl).trans (w18F.mono rfl)) w18J (by omega) (by omega) (Or.inl (by decide)) (fun p t hp ht => by obtain rfl : w9n = p := (by omega); subst ht; exact zocm.f (by decide) (by omega) (pSu.f w24e)) (by decide) (by decide))
  · skip
    have w24H := w18x0.resolve_left w24
    obtain ⟨w247, w24p, w24t, w24e, w243, w244, w245⟩ := (w18z.resolve_left (fun q => w24 q.1)).2
    subst w244
    refine zs_if_neT (pc := 4) t258_4 rfl (by omega) ?_
    have w33L : ∀ (m : Nat) (w33M : zM), zSk zMm w33M → zIv mLo mHi w33M → zFr [(336, 336, some 6), (336, 336, some 7), (336, 336, some 8), (336, 336, some 11), (336, 336, some 13), (340, 340, none)] w18M w33M → zJ w33M 351 = zJ w18M 351 → zGh w33M (hh + 1) → ((zI w18M 336 6).toInt ≤ (zI w33M 336 6).toInt) → ((zI w18M 336 13).toInt ≤ (zI w33M 336 13).toInt) → ((zI w33M 336 11).toInt ≤ (zI w18M 336 11).toInt + 2 * ((zI w33M 336 13).toInt - (zI w18M 336 13).toInt)) → ((zI w33M 336 11).toInt ≤ 5 * (zI w33M 336 13).toInt + 10) → ((zI w33M 336 7).toInt = -1) → (∃ p : Nat, (zI w33M 336 6).toInt = (p : Int) ∧ (p : Int) ≤ nn ∧ pSu gg (w9n, (zI M 336 13).toInt) = pMo gg 32 (p, (zI w33M 336 13).toInt)) → 500 - (zI w33M 336 6).toInt ≤ (m : Int) → zGo X l 3 0 0 258 9 [(0, .ref 336)] [] w33M Q := by
      intro m
      induction m using Nat.strongRecOn with
      | ind w33m w33ih =>
        intro w33M w33s w33I w33F w33J w33PH w33r0 w33r1 w33r2 w33r3 w33r4 w33t0 w33q
        have w34 := ib336_6 w33I
        have w35 : (zI w18M 336 6).toInt = (zI w18M 336 6).toInt := (congrArg Int32.toInt rfl).trans rfl
        have w36 := ib336_13 w33I
        have w37 : (zI w18M 336 13).toInt = (zI w18M 336 13).toInt := (congrArg Int32.toInt rfl).trans rfl
        have w38 := ib336_11 w33I
        have w39 : (zI w18M 336 11).toInt = (zI w18M 336 11).toInt := (congrArg Int32.toInt rfl).trans rfl
        have w40 : (zI w18M 336 13).toInt = (zI w18M 336 13).toInt := (congrArg Int32.toInt rfl).trans rfl
        have w41 := ib336_7 w33I
        refine zs_aload_n (pc := 9) t258_9 rfl ?_
        obtain ⟨w42p, w423, w425, w42e⟩ := w33t0
        refine zs_invV (pc := 10) (k := 336) (as' := []) (st := []) t258_10 mf238 rfl rfl (Or.inl ⟨by decide, (zk1 (w33s.k fk_zMm_336))⟩) ⟨by decide, by decide, Nat.le_of_ble_eq_true rfl, Nat.le_of_ble_eq_true rfl⟩ (H238 w33s w33I ?_) (fun _ _ q => q)
        have w43 := zhere.rg (M := w33M)
        have w44 : (zI w33M 336 6).toInt = (zI w33M 336 6).toInt := (congrArg Int32.toInt rfl).trans rfl
        have w45 : (zI w33M 336 5).toInt = (zI M 336 5).toInt := (congrArg Int32.toInt ((w33F 336 5 rfl).trans ((w18F 336 5 rfl).trans rfl))).trans rfl
        have w46 : (zI w33M 336 6).toInt = (zI w33M 336 6).toInt := (congrArg Int32.toInt rfl).trans rfl
        have w47 : (zI w33M 336 5).toInt = (zI M 336 5).toInt := (congrArg Int32.toInt ((w33F 336 5 rfl).trans ((w18F 336 5 rfl).trans rfl))).trans rfl
        have w48 : (zhere w33M).toInt = gg w42p := zhere.tr (zTm.mk x1 (fun j => ((w33F 339 j rfl).trans (w18F 339 j rfl))) ((w33F 336 5 rfl).trans (w18F 336 5 rfl))) (by omega)
        have w49 := zTm.rg x1 w42p
        show zGo X l 3 0 0 258 13 [(0, .ref 336)] [.int (zhere w33M)] w33M _
        refine zs_invS (pc := 13) (as := [.int (zhere w33M)]) (st := []) t258_13 (by decide) mf262 rfl rfl ⟨by decide, by decide, Nat.le_of_ble_eq_true rfl, Nat.le_of_ble_eq_true rfl⟩ (E262 w33s w33I ?_) (fun _ _ q => q)
        intro w50v w50t0 w50a w50b
        show zGo X l 3 0 0 258 16 [(0, .ref 336)] [.int w50v] w33M _
        by_cases w51 : w50v.toInt = 0
        · refine zs_if_eqT (pc := 16) t258_16 rfl (by omega) ?_
          refine zs_iconst (pc := 55) t258_55 (v := 1) (by decide) ?_
          have w52 : (zI w33M 336 11).toInt = (zI w33M 336 11).toInt := (congrArg Int32.toInt rfl).trans rfl
          have w53 : (zI w33M 336 6).toInt = (zI w33M 336 6).toInt := (congrArg Int32.toInt rfl).trans rfl
          have w54 : (zI w33M 336 13).toInt = (zI w33M 336 13).toInt := (congrArg Int32.toInt rfl).trans rfl
          have w55 := li1
          have w56 := ib336_12 hI
          have w57 : (zI w33M 336 12).toInt = (zI M 336 12).toInt := (congrArg Int32.toInt ((w33F 336 12 rfl).trans ((w18F 336 12 rfl).trans rfl))).trans rfl
          have w58 := ib336_14 hI
          have w59 : (zI w33M 336 14).toInt = (zI M 336 14).toInt := (congrArg Int32.toInt ((w33F 336 14 rfl).trans ((w18F 336 14 rfl).trans rfl))).trans rfl
          have w60 : (zI w33M 336 6).toInt = (zI w33M 336 6).toInt := (congrArg Int32.toInt rfl).trans rfl
          have w61 : (zI w33M 336 7).toInt = (zI w33M 336 7).toInt := (congrArg Int32.toInt rfl).trans rfl
          have w62 : (zI w33M 336 13).toInt = (zI w33M 336 13).toInt := (congrArg Int32.toInt rfl).trans rfl
          exact zs_iret (pc := 56) t258_56 mr258 (by decide) (hQ _ _ w33s w33I (((zFr.refl).trans (w18F.mono rfl)).trans (w33F.mono rfl)) (w33J.trans w18J) (by omega) (by omega) (Or.inr (zGh.cast w33PH (by omega))) (fun p t hp ht => by obtain rfl : w9n = p := (by omega); subst ht; exact Or.inr ⟨by decide, by omega, w42p, _, w42e.trans (pMo.n (by unfold zjn; omega)), w423, rfl, w425⟩) (by decide) (by decide))
        · refine zs_if_eqF (pc := 16) t258_16 rfl (by omega) ?_
          refine zs_aload_n (pc := 19) t258_19 rfl ?_
          refine zs_invV (pc := 20) (k := 336) (as' := []) (st := []) t258_20 mf238 rfl rfl (Or.inl ⟨by decide, (zk1 (w33s.k fk_zMm_336))⟩) ⟨by decide, by decide, Nat.le_of_ble_eq_true rfl, Nat.le_of_ble_eq_true rfl⟩ (H238 w33s w33I ?_) (fun _ _ q => q)
          have w63 := zhere.rg (M := w33M)
          have w64 : (zI w33M 336 6).toInt = (zI w33M 336 6).toInt := (congrArg Int32.toInt rfl).trans rfl
          have w65 : (zI w33M 336 5).toInt = (zI M 336 5).toInt := (congrArg Int32.toInt ((w33F 336 5 rfl).trans ((w18F 336 5 rfl).trans rfl))).trans rfl
          have w66 : (zI w33M 336 6).toInt = (zI w33M 336 6).toInt := (congrArg Int32.toInt rfl).trans rfl
          have w67 : (zI w33M 336 5).toInt = (zI M 336 5).toInt := (congrArg Int32.toInt ((w33F 336 5 rfl).trans ((w18F 336 5 rfl).trans rfl))).trans rfl
          have w68 : (zhere w33M).toInt = gg w42p := zhere.tr (zTm.mk x1 (fun j => ((w33F 339 j rfl).trans (w18F 339 j rfl))) ((w33F 336 5 rfl).trans (w18F 336 5 rfl))) (by omega)
          have w69 := zTm.rg x1 w42p
          show zGo X l 3 0 0 258 23 [(0, .ref 336)] [.int (zhere w33M)] w33M _
          refine zs_istore_n (pc := 23) t258_23 (ls' := [(1, .int (zhere w33M)), (0, .ref 336)]) (zml mf258 (by decide)) rfl ?_
          refine zs_aload_n (pc := 24) t258_24 rfl ?_
          refine zs_dup (pc := 25) t258_25 rfl ?_
          refine zs_get (pc := 26) t258_26 (by decide) (zk1 (w33s.k fk_zMm_336)) (zfvi rfl rfl) ?_
          refine zs_iconst (pc := 29) t258_29 (v := 1) (by decide) ?_
          obtain ⟨w70v, w70e, w70⟩ := ziadd (a := (zI w33M 336 6)) (b := (1 : Int32)) rfl li1 (by omega) (by omega)
          refine zs_iadd (pc := 30) t258_30 (c := w70v) w70e ?_
          have w71 : zIv mLo mHi (zsI w33M 336 6 w70v) := zIv.put w33I (show 0 ≤ w70v.toInt ∧ w70v.toInt ≤ 500 from ⟨by omega, by omega⟩)
          refine zs_putI (pc := 31) t258_31 (zk1 (w33s.k fk_zMm_336)) rfl ?_
          refine zs_aload_n (pc := 34) t258_34 rfl ?_
          have w72 : (zI (zsI w33M 336 6 w70v) 336 7).toInt = (zI w33M 336 7).toInt := (congrArg Int32.toInt ((zIoj (by decide)).trans rfl)).trans rfl
          have w73 : (zI (zsI w33M 336 6 w70v) 336 11).toInt = (zI w33M 336 11).toInt := (congrArg Int32.toInt ((zIoj (by decide)).trans rfl)).trans rfl
          have w74 : (zI (zsI w33M 336 6 w70v) 336 5).toInt = (zI M 336 5).toInt := (congrArg Int32.toInt ((zIoj (by decide)).trans ((w33F 336 5 rfl).trans ((w18F 336 5 rfl).trans rfl)))).trans rfl
          have w75 : (zI (zsI w33M 336 6 w70v) 336 6).toInt = ((zI w33M 336 6).toInt + 1) := (congrArg Int32.toInt zIs).trans w70
          have w76 : (zI (zsI w33M 336 6 w70v) 336 11).toInt = (zI w33M 336 11).toInt := (congrArg Int32.toInt ((zIoj (by decide)).trans rfl)).trans rfl
          have w77 : (zI (zsI w33M 336 6 w70v) 336 6).toInt = ((zI w33M 336 6).toInt + 1) := (congrArg Int32.toInt zIs).trans w70
          have w78 : (zI (zsI w33M 336 6 w70v) 336 13).toInt = (zI w33M 336 13).toInt := (congrArg Int32.toInt ((zIoj (by decide)).trans rfl)).trans rfl
          refine zs_invV (pc := 35) (k := 336) (as' := []) (st := []) t258_35 mf259 rfl rfl (Or.inl ⟨by decide, (zk1 (w33s.k fk_zMm_336))⟩) ⟨by decide, by decide, Nat.le_of_ble_eq_true rfl, Nat.le_of_ble_eq_true rfl⟩ (E259 w33s w71 (zGh.fr (M' := (zsI w33M 336 6 w70v)) w33PH (zEq.put rfl)) (by omega) (by omega) (by omega) (by omega) (zTm.mk x1 (fun j => ((zIo (by decide)).trans ((w33F 339 j rfl).trans (w18F 339 j rfl)))) ((zIoj (by decide)).trans ((w33F 336 5 rfl).trans (w18F 336 5 rfl)))) ?_) (fun _ _ q => q)
          intro w79M w79v w79s w79I w79F w79J w79t0 w79t1 w79x0 w79x1 w79a w79b
          have w80 := ib336_11 w79I
          have w81 := ib336_6 w79I
          have w82 := ib336_13 w79I
          have w83 : (zI (zsI w33M 336 6 w70v) 336 6).toInt = ((zI w33M 336 6).toInt + 1) := (congrArg Int32.toInt zIs).trans w70
          have w84 : (zI (zsI w33M 336 6 w70v) 336 13).toInt = (zI w33M 336 13).toInt := (congrArg Int32.toInt ((zIoj (by decide)).trans rfl)).trans rfl
          have w79z := w79x1 (w42p + 1) (zI w33M 336 13).toInt (by omega) (by omega)
          show zGo X l 3 0 0 258 38 [(1, .int (zhere w33M)), (0, .ref 336)] [.int w79v] w79M _
          by_cases w85 : w79v.toInt = 0
          · skip
            have w85e := (w79z.resolve_right (fun q => q.1 w85)).2
            refine zs_if_neF (pc := 38) t258_38 rfl (by omega) ?_
            refine zs_iconst (pc := 41) t258_41 (v := 0) (by decide) ?_
            have w86 : (zI w79M 336 11).toInt = (zI w79M 336 11).toInt := (congrArg Int32.toInt rfl).trans rfl
            have w87 : (zI w79M 336 6).toInt = (zI w79M 336 6).toInt := (congrArg Int32.toInt rfl).trans rfl
            have w88 : (zI w79M 336 13).toInt = (zI w79M 336 13).toInt := (congrArg Int32.toInt rfl).trans rfl
            have w89 := li0
            have w90 : (zI w79M 336 6).toInt = (zI w79M 336 6).toInt := (congrArg Int32.toInt rfl).trans rfl
            have w91 := ib336_7 w79I
            have w92 : (zI w79M 336 7).toInt = (zI w79M 336 7).toInt := (congrArg Int32.toInt rfl).trans rfl
            have w93 : (zI w79M 336 13).toInt = (zI w79M 336 13).toInt := (congrArg Int32.toInt rfl).trans rfl
            exact zs_iret (pc := 42) t258_42 mr258 (by decide) (hQ _ _ w79s w79I (((((zFr.refl).trans (w18F.mono rfl)).trans (w33F.mono rfl)).put rfl).trans (w79F.mono rfl)) (w79J.trans (w33J.trans w18J)) (by omega) (by omega) (Or.inl (by decide)) (fun p t hp ht => by obtain rfl : w9n = p := (by omega); subst ht; exact zocm.f (by decide) (by omega) (w42e.trans (pMo.f (by unfold zjn; omega) w85e))) (by decide) (by decide))
          · skip
            have w85H := w79x0.resolve_left w85
            obtain ⟨w857, w85p, w85t, w85e, w853, w854, w855⟩ := (w79z.resolve_left (fun q => w85 q.1)).2
            subst w854
            refine zs_if_neT (pc := 38) t258_38 rfl (by omega) ?_
            refine zs_aload_n (pc := 43) t258_43 rfl ?_
            refine zs_sipush (pc := 44) t258_44 (v := 20000) (by decide) ?_
            refine zs_iload_n (pc := 47) t258_47 rfl ?_
            obtain ⟨w94v, w94e, w94⟩ := ziadd (a := (20000 : Int32)) (b := (zhere w33M)) li20000 rfl (by omega) (by omega)
            refine zs_iadd (pc := 48) t258_48 (c := w94v) w94e ?_
            refine zs_invV (pc := 49) (k := 336) (as' := [.int w94v]) (st := []) t258_49 mf261 rfl rfl (Or.inl ⟨by decide, (zk1 (w79s.k fk_zMm_336))⟩) ⟨by decide, by decide, Nat.le_of_ble_eq_true rfl, Nat.le_of_ble_eq_true rfl⟩ (zs_in (by decide) mf261 (Nat.le_of_ble_eq_true rfl) ?_) (fun _ _ q => q)
            show zGo X l 0 0 0 261 0 [(0, .ref 336), (1, .int w94v)] [] w79M _
            refine zs_aload_n (pc := 0) t261_0 rfl ?_
            refine zs_get (pc := 1) t261_1 (by decide) (zk1 (w79s.k fk_zMm_336)) (w79s.p rfl fv_zMm_336_9) ?_
            refine zs_aload_n (pc := 4) t261_4 rfl ?_
            refine zs_get (pc := 5) t261_5 (by decide) (zk1 (w79s.k fk_zMm_336)) (zfvi rfl rfl) ?_
            refine zs_iload_n (pc := 8) t261_8 rfl ?_
            obtain ⟨w95n, w95⟩ : ∃ n : Nat, (zI w79M 336 11).toInt = (n : Int) := ⟨((zI w79M 336 11).toInt).toNat, by omega⟩
            have w96 : zIv mLo mHi (zsI w79M 340 w95n w94v) := zIv.put w79I (show (-2147483648) ≤ w94v.toInt ∧ w94v.toInt ≤ 2147483647 from zrg w94v)
            refine zs_iast (pc := 9) t261_9 (j := w95n) (by decide) (zk1 (w79s.k fk_zMm_340)) (show (zI w79M 336 11).toInt = ((w95n : Nat) : Int) by omega) (zk2 (w79s.k fk_zMm_340) (by omega)) ?_
            refine zs_aload_n (pc := 10) t261_10 rfl ?_
            refine zs_dup (pc := 11) t261_11 rfl ?_
            refine zs_get (pc := 12) t261_12 (by decide) (zk1 (w79s.k fk_zMm_336)) (zfvi rfl ((zIo (by decide)).trans rfl)) ?_
            refine zs_iconst (pc := 15) t261_15 (v := 1) (by decide) ?_
            obtain ⟨w97v, w97e, w97⟩ := ziadd (a := (zI w79M 336 11)) (b := (1 : Int32)) rfl li1 (by omega) (by omega)
            refine zs_iadd (pc := 16) t261_16 (c := w97v) w97e ?_
            have w98 : zIv mLo mHi (zsI (zsI w79M 340 w95n w94v) 336 11 w97v) := zIv.put w96 (show 0 ≤ w97v.toInt ∧ w97v.toInt ≤ 200 from ⟨by omega, by omega⟩)
            have w99 : (zI w79M 336 11).toInt = (zI w79M 336 11).toInt := (congrArg Int32.toInt rfl).trans rfl
            have w100 : w97v.toInt = ((zI w79M 336 11).toInt + 1) := w97
            have w101 : w94v.toInt = (20000 + (zhere w33M).toInt) := w94
            have w102 : zGh (zsI (zsI w79M 340 w95n w94v) 336 11 w97v) (((hh + 1) + 1) - 1) := zGh.put (n := w95n) w85H (by omega) (by omega) (by omega)
            refine zs_putI (pc := 17) t261_17 (zk1 (w79s.k fk_zMm_336)) rfl ?_
            refine zs_vret (pc := 20) t261_20 mr261 ?_
            show zGo X l 3 0 0 258 52 [(1, .int (zhere w33M)), (0, .ref 336)] [] (zsI (zsI w79M 340 w95n w94v) 336 11 w97v) _
            refine zs_goto (pc := 52) t258_52 ?_
            refine zGo.locals (ls' := [(0, .ref 336)]) (by simp) ?_
            have w103 : (zI (zsI (zsI w79M 340 w95n w94v) 336 11 w97v) 336 12).toInt = (zI M 336 12).toInt := (congrArg Int32.toInt ((zIoj (by decide)).trans ((zIo (by decide)).trans ((w79F 336 12 rfl).trans ((zIoj (by decide)).trans ((w33F 336 12 rfl).trans ((w18F 336 12 rfl).trans rfl))))))).trans rfl
            have w104 : (zI (zsI (zsI w79M 340 w95n w94v) 336 11 w97v) 336 14).toInt = (zI M 336 14).toInt := (congrArg Int32.toInt ((zIoj (by decide)).trans ((zIo (by decide)).trans ((w79F 336 14 rfl).trans ((zIoj (by decide)).trans ((w33F 336 14 rfl).trans ((w18F 336 14 rfl).trans rfl))))))).trans rfl
            have w105 : (zI (zsI (zsI w79M 340 w95n w94v) 336 11 w97v) 336 6).toInt = (zI w79M 336 6).toInt := (congrArg Int32.toInt ((zIoj (by decide)).trans ((zIo (by decide)).trans rfl))).trans rfl
            have w106 : (zI (zsI (zsI w79M 340 w95n w94v) 336 11 w97v) 336 13).toInt = (zI w79M 336 13).toInt := (congrArg Int32.toInt ((zIoj (by decide)).trans ((zIo (by decide)).trans rfl))).trans rfl
            have w107 : (zI (zsI (zsI w79M 340 w95n w94v) 336 11 w97v) 336 11).toInt = ((zI w79M 336 11).toInt + 1) := (congrArg Int32.toInt zIs).trans w97
            have w108 : (zI (zsI (zsI w79M 340 w95n w94v) 336 11 w97v) 336 13).toInt = (zI w79M 336 13).toInt := (congrArg Int32.toInt ((zIoj (by decide)).trans ((zIo (by decide)).trans rfl))).trans rfl
            have w109 : (zI (zsI (zsI w79M 340 w95n w94v) 336 11 w97v) 336 11).toInt = ((zI w79M 336 11).toInt + 1) := (congrArg Int32.toInt zIs).trans w97
            have w110 : (zI (zsI (zsI w79M 340 w95n w94v) 336 11 w97v) 336 13).toInt = (zI w79M 336 13).toInt := (congrArg Int32.toInt ((zIoj (by decide)).trans ((zIo (by decide)).trans rfl))).trans rfl
            have w111 := ib336_7 w79I
            have w112 : (zI (zsI (zsI w79M 340 w95n w94v) 336 11 w97v) 336 7).toInt = (zI w79M 336 7).toInt := (congrArg Int32.toInt ((zIoj (by decide)).trans ((zIo (by decide)).trans rfl))).trans rfl
            have w113 : (zI (zsI (zsI w79M 340 w95n w94v) 336 11 w97v) 336 6).toInt = (zI w79M 336 6).toInt := (congrArg Int32.toInt ((zIoj (by decide)).trans ((zIo (by decide)).trans rfl))).trans rfl
            have w114 : (zI (zsI (zsI w79M 340 w95n w94v) 336 11 w97v) 336 13).toInt = (zI w79M 336 13).toInt := (congrArg Int32.toInt ((zIoj (by decide)).trans ((zIo (by decide)).trans rfl))).trans rfl
            have w115 := pTh.s w85e
            have w116 : (zI (zsI (zsI w79M 340 w95n w94v) 336 11 w97v) 336 6).toInt = (zI w79M 336 6).toInt := (congrArg Int32.toInt ((zIoj (by decide)).trans ((zIo (by decide)).trans rfl))).trans rfl
            exact w33ih (w33m - 1) (by omega) (zsI (zsI w79M 340 w95n w94v) 336 11 w97v) w79s w98 ((((((zFr.refl).trans (w33F.mono rfl)).put rfl).trans (w79F.mono rfl)).put rfl).put rfl) (w79J.trans w33J) (zGh.cast w102 (by omega)) (by omega) (by omega) (by omega) (by omega) (by omega) ⟨w85p, by omega, by omega, w42e.trans ((pMo.y (by unfold zjn; omega) (by omega) w85e).trans (congrArg (fun t => pMo gg 32 (w85p, t)) (by omega)))⟩ (by omega)
    refine zGo.locals (ls' := [(0, .ref 336)]) (by simp) ?_
    have w117 : (zI w18M 336 12).toInt = (zI M 336 12).toInt := (congrArg Int32.toInt ((w18F 336 12 rfl).trans rfl)).trans rfl
    have w118 : (zI w18M 336 14).toInt = (zI M 336 14).toInt := (congrArg Int32.toInt ((w18F 336 14 rfl).trans rfl)).trans rfl
    have w119 : (zI w18M 336 6).toInt = (zI w18M 336 6).toInt := (congrArg Int32.toInt rfl).trans rfl
    have w120 : (zI w18M 336 13).toInt = (zI w18M 336 13).toInt := (congrArg Int32.toInt rfl).trans rfl
    have w121 : (zI w18M 336 11).toInt = (zI w18M 336 11).toInt := (congrArg Int32.toInt rfl).trans rfl
    have w122 : (zI w18M 336 13).toInt = (zI w18M 336 13).toInt := (congrArg Int32.toInt rfl).trans rfl
    have w123 : (zI w18M 336 11).toInt = (zI w18M 336 11).toInt := (congrArg Int32.toInt rfl).trans rfl
    have w124 : (zI w18M 336 13).toInt = (zI w18M 336 13).toInt := (congrArg Int32.toInt rfl).trans rfl
    have w125 := ib336_7 w18I
    have w126 : (zI w18M 336 7).toInt = (zI w18M 336 7).toInt := (congrArg Int32.toInt rfl).trans rfl
    have w127 : (zI w18M 336 6).toInt = (zI w18M 336 6).toInt := (congrArg Int32.toInt rfl).trans rfl
    have w128 : (zI w18M 336 13).toInt = (zI w18M 336 13).toInt := (congrArg Int32.toInt rfl).trans rfl
    have w129 : (zI w18M 336 6).toInt = (zI w18M 336 6).toInt := (congrArg Int32.toInt rfl).trans rfl
    exact w33L ((500 - (zI w18M 336 6).toInt : Int).toNat) w18M w18s w18I zFr.refl rfl (zGh.cast w24H (by omega)) (by omega) (by omega) (by omega) (by omega) (by omega) ⟨w24p, w243, by omega, pSu.y w24e⟩ (by omega)
