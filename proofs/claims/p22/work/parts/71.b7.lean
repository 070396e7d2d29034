theorem X23_7_143 {X : zX} {l : Launch} {M : zM} {Q : Option Value → zM → Prop} (hs : zSk zMc M) (hI : zIv cLo cHi M) {F : Nat → Int} (x0 : zSo M 143 F) (hQ : ∀ M', zSk zMc M' → zIv cLo cHi M' → zFr [(7, 7, none), (8, 18, none)] M M' → (zSo M' 7 F) → Q none M') : zCall X l 2 0 0 23 [.ref 7, .ref 143] M Q := by
  refine zs_in (by decide) mf23 (Nat.le_of_ble_eq_true rfl) ?_
  show zGo X l 2 0 0 23 0 [(0, .ref 7), (1, .ref 143)] [] M _
  refine zs_aload_n (pc := 0) t23_0 rfl ?_
  refine zs_aload_n (pc := 1) t23_1 rfl ?_
  have w1 := ib143_0 hI
  refine zs_get (pc := 2) t23_2 (by decide) (zk1 (hs.k fk_zMc_143)) (zfvi rfl rfl) ?_
  have w2 : zIv cLo cHi (zsI M 7 0 (zI M 143 0)) := zIv.put hI (show 0 ≤ (zI M 143 0).toInt ∧ (zI M 143 0).toInt ≤ 8 from ⟨by omega, by omega⟩)
  refine zs_putI (pc := 5) t23_5 (zk1 (hs.k fk_zMc_7)) rfl ?_
  refine zs_aload_n (pc := 8) t23_8 rfl ?_
  refine zs_get (pc := 9) t23_9 (by decide) (zk1 (hs.k fk_zMc_143)) (hs.p rfl fv_zMc_143_1) ?_
  refine zs_iconst (pc := 12) t23_12 (v := 0) (by decide) ?_
  refine zs_aload_n (pc := 13) t23_13 rfl ?_
  refine zs_get (pc := 14) t23_14 (by decide) (zk1 (hs.k fk_zMc_7)) (hs.p rfl fv_zMc_7_1) ?_
  refine zs_iconst (pc := 17) t23_17 (v := 0) (by decide) ?_
  refine zs_aload_n (pc := 18) t23_18 rfl ?_
  refine zs_get (pc := 19) t23_19 (by decide) (zk1 (hs.k fk_zMc_7)) (zfvi rfl zIs) ?_
  have w3 : (0 : Int32).toInt = 0 := li0
  have w4 : (0 : Int32).toInt = 0 := li0
  refine zs_copy (pc := 22) t23_22 (hs.k fk_zMc_144) (hs.k fk_zMc_8) (by decide) (by decide) (by decide) ⟨by omega, by omega, by omega⟩ (by omega) (by omega) ⟨Nat.le_of_ble_eq_true rfl, by decide⟩ ?_
  obtain ⟨w5M, w5e⟩ : ∃ N, N = zsR (zsI M 7 0 (zI M 143 0)) 8 (va_cpy (zI (zsI M 7 0 (zI M 143 0)) 144) (zI (zsI M 7 0 (zI M 143 0)) 8) (0 : Int32).toNatClampNeg (0 : Int32).toNatClampNeg (zI M 143 0).toNatClampNeg) := ⟨_, rfl⟩
  have w5s : zSk zMc w5M := by rw [w5e]; exact hs
  have w5I : zIv cLo cHi w5M := by rw [w5e]; exact zIv.row w2 (fun _ => zrg _)
  have w5F : zFr [(8, 8, none)] (zsI M 7 0 (zI M 143 0)) w5M := by rw [w5e]; exact zFr.row zFr.refl (fun _ => rfl)
  have w5C : ∀ j : Nat, (j : Int) < (zI M 143 0).toInt → zI w5M 8 j = zI (zsI M 7 0 (zI M 143 0)) 144 j := fun j hj => by rw [w5e]; exact (congrFun zRs j).trans (zcpy0 (by omega) (by omega) hj)
  rw [← w5e]
  refine zs_aload_n (pc := 25) t23_25 rfl ?_
  refine zs_get (pc := 26) t23_26 (by decide) (zk1 (w5s.k fk_zMc_143)) (w5s.p rfl fv_zMc_143_2) ?_
  refine zs_iconst (pc := 29) t23_29 (v := 0) (by decide) ?_
  refine zs_aload_n (pc := 30) t23_30 rfl ?_
  refine zs_get (pc := 31) t23_31 (by decide) (zk1 (w5s.k fk_zMc_7)) (w5s.p rfl fv_zMc_7_2) ?_
  refine zs_iconst (pc := 34) t23_34 (v := 0) (by decide) ?_
  refine zs_aload_n (pc := 35) t23_35 rfl ?_
  refine zs_get (pc := 36) t23_36 (by decide) (zk1 (w5s.k fk_zMc_7)) (zfvi rfl ((w5F 7 0 rfl).trans zIs)) ?_
  have w6 : (0 : Int32).toInt = 0 := li0
  have w7 : (0 : Int32).toInt = 0 := li0
  refine zs_copy (pc := 39) t23_39 (w5s.k fk_zMc_145) (w5s.k fk_zMc_9) (by decide) (by decide) (by decide) ⟨by omega, by omega, by omega⟩ (by omega) (by omega) ⟨Nat.le_of_ble_eq_true rfl, by decide⟩ ?_
  obtain ⟨w8M, w8e⟩ : ∃ N, N = zsR w5M 9 (va_cpy (zI w5M 145) (zI w5M 9) (0 : Int32).toNatClampNeg (0 : Int32).toNatClampNeg (zI M 143 0).toNatClampNeg) := ⟨_, rfl⟩
  have w8s : zSk zMc w8M := by rw [w8e]; exact w5s
  have w8I : zIv cLo cHi w8M := by rw [w8e]; exact zIv.row w5I (fun _ => zcpyB (fun j => ib145 w5I j) (fun j => ib9 w5I j))
  have w8F : zFr [(9, 9, none)] w5M w8M := by rw [w8e]; exact zFr.row zFr.refl (fun _ => rfl)
  have w8C : ∀ j : Nat, (j : Int) < (zI M 143 0).toInt → zI w8M 9 j = zI w5M 145 j := fun j hj => by rw [w8e]; exact (congrFun zRs j).trans (zcpy0 (by omega) (by omega) hj)
  rw [← w8e]
  refine zs_aload_n (pc := 42) t23_42 rfl ?_
  refine zs_aload_n (pc := 43) t23_43 rfl ?_
  have w9 := ib143_3 hI
  refine zs_get (pc := 44) t23_44 (by decide) (zk1 (w8s.k fk_zMc_143)) (zfvi rfl ((w8F 143 3 rfl).trans ((w5F 143 3 rfl).trans ((zIo (by decide)).trans rfl)))) ?_
  have w10 : zIv cLo cHi (zsI w8M 7 3 (zI M 143 3)) := zIv.put w8I (show 0 ≤ (zI M 143 3).toInt ∧ (zI M 143 3).toInt ≤ 60 from ⟨by omega, by omega⟩)
  refine zs_putI (pc := 47) t23_47 (zk1 (w8s.k fk_zMc_7)) rfl ?_
  refine zs_aload_n (pc := 50) t23_50 rfl ?_
  refine zs_get (pc := 51) t23_51 (by decide) (zk1 (w8s.k fk_zMc_143)) (w8s.p rfl fv_zMc_143_4) ?_
  refine zs_iconst (pc := 54) t23_54 (v := 0) (by decide) ?_
  refine zs_aload_n (pc := 55) t23_55 rfl ?_
  refine zs_get (pc := 56) t23_56 (by decide) (zk1 (w8s.k fk_zMc_7)) (w8s.p rfl fv_zMc_7_4) ?_
  refine zs_iconst (pc := 59) t23_59 (v := 0) (by decide) ?_
  refine zs_aload_n (pc := 60) t23_60 rfl ?_
  refine zs_get (pc := 61) t23_61 (by decide) (zk1 (w8s.k fk_zMc_7)) (zfvi rfl zIs) ?_
  have w11 : (0 : Int32).toInt = 0 := li0
  have w12 : (0 : Int32).toInt = 0 := li0
  refine zs_copy (pc := 64) t23_64 (w8s.k fk_zMc_146) (w8s.k fk_zMc_10) (by decide) (by decide) (by decide) ⟨by omega, by omega, by omega⟩ (by omega) (by omega) ⟨Nat.le_of_ble_eq_true rfl, by decide⟩ ?_
  obtain ⟨w13M, w13e⟩ : ∃ N, N = zsR (zsI w8M 7 3 (zI M 143 3)) 10 (va_cpy (zI (zsI w8M 7 3 (zI M 143 3)) 146) (zI (zsI w8M 7 3 (zI M 143 3)) 10) (0 : Int32).toNatClampNeg (0 : Int32).toNatClampNeg (zI M 143 3).toNatClampNeg) := ⟨_, rfl⟩
  have w13s : zSk zMc w13M := by rw [w13e]; exact w8s
  have w13I : zIv cLo cHi w13M := by rw [w13e]; exact zIv.row w10 (fun _ => zcpyB (fun j => ib146 w10 j) (fun j => ib10 w10 j))
  have w13F : zFr [(10, 10, none)] (zsI w8M 7 3 (zI M 143 3)) w13M := by rw [w13e]; exact zFr.row zFr.refl (fun _ => rfl)
  have w13C : ∀ j : Nat, (j : Int) < (zI M 143 3).toInt → zI w13M 10 j = zI (zsI w8M 7 3 (zI M 143 3)) 146 j := fun j hj => by rw [w13e]; exact (congrFun zRs j).trans (zcpy0 (by omega) (by omega) hj)
  rw [← w13e]
  refine zs_aload_n (pc := 67) t23_67 rfl ?_
  refine zs_get (pc := 68) t23_68 (by decide) (zk1 (w13s.k fk_zMc_143)) (w13s.p rfl fv_zMc_143_5) ?_
  refine zs_iconst (pc := 71) t23_71 (v := 0) (by decide) ?_
  refine zs_aload_n (pc := 72) t23_72 rfl ?_
  refine zs_get (pc := 73) t23_73 (by decide) (zk1 (w13s.k fk_zMc_7)) (w13s.p rfl fv_zMc_7_5) ?_
  refine zs_iconst (pc := 76) t23_76 (v := 0) (by decide) ?_
  refine zs_aload_n (pc := 77) t23_77 rfl ?_
  refine zs_get (pc := 78) t23_78 (by decide) (zk1 (w13s.k fk_zMc_7)) (zfvi rfl ((w13F 7 3 rfl).trans zIs)) ?_
  have w14 : (0 : Int32).toInt = 0 := li0
  have w15 : (0 : Int32).toInt = 0 := li0
  refine zs_copy (pc := 81) t23_81 (w13s.k fk_zMc_147) (w13s.k fk_zMc_11) (by decide) (by decide) (by decide) ⟨by omega, by omega, by omega⟩ (by omega) (by omega) ⟨Nat.le_of_ble_eq_true rfl, by decide⟩ ?_
  obtain ⟨w16M, w16e⟩ : ∃ N, N = zsR w13M 11 (va_cpy (zI w13M 147) (zI w13M 11) (0 : Int32).toNatClampNeg (0 : Int32).toNatClampNeg (zI M 143 3).toNatClampNeg) := ⟨_, rfl⟩
  have w16s : zSk zMc w16M := by rw [w16e]; exact w13s
  have w16I : zIv cLo cHi w16M := by rw [w16e]; exact zIv.row w13I (fun _ => zrg _)
  have w16F : zFr [(11, 11, none)] w13M w16M := by rw [w16e]; exact zFr.row zFr.refl (fun _ => rfl)
  have w16C : ∀ j : Nat, (j : Int) < (zI M 143 3).toInt → zI w16M 11 j = zI w13M 147 j := fun j hj => by rw [w16e]; exact (congrFun zRs j).trans (zcpy0 (by omega) (by omega) hj)
  rw [← w16e]
  refine zs_aload_n (pc := 84) t23_84 rfl ?_
  refine zs_get (pc := 85) t23_85 (by decide) (zk1 (w16s.k fk_zMc_143)) (w16s.p rfl fv_zMc_143_6) ?_
  refine zs_iconst (pc := 88) t23_88 (v := 0) (by decide) ?_
  refine zs_aload_n (pc := 89) t23_89 rfl ?_
  refine zs_get (pc := 90) t23_90 (by decide) (zk1 (w16s.k fk_zMc_7)) (w16s.p rfl fv_zMc_7_6) ?_
  refine zs_iconst (pc := 93) t23_93 (v := 0) (by decide) ?_
  refine zs_aload_n (pc := 94) t23_94 rfl ?_
  refine zs_get (pc := 95) t23_95 (by decide) (zk1 (w16s.k fk_zMc_7)) (zfvi rfl ((w16F 7 3 rfl).trans ((w13F 7 3 rfl).trans zIs))) ?_
  have w17 : (0 : Int32).toInt = 0 := li0
  have w18 : (0 : Int32).toInt = 0 := li0
  refine zs_copy (pc := 98) t23_98 (w16s.k fk_zMc_148) (w16s.k fk_zMc_12) (by decide) (by decide) (by decide) ⟨by omega, by omega, by omega⟩ (by omega) (by omega) ⟨Nat.le_of_ble_eq_true rfl, by decide⟩ ?_
  obtain ⟨w19M, w19e⟩ : ∃ N, N = zsR w16M 12 (va_cpy (zI w16M 148) (zI w16M 12) (0 : Int32).toNatClampNeg (0 : Int32).toNatClampNeg (zI M 143 3).toNatClampNeg) := ⟨_, rfl⟩
  have w19s : zSk zMc w19M := by rw [w19e]; exact w16s
  have w19I : zIv cLo cHi w19M := by rw [w19e]; exact zIv.row w16I (fun _ => zrg _)
  have w19F : zFr [(12, 12, none)] w16M w19M := by rw [w19e]; exact zFr.row zFr.refl (fun _ => rfl)
  have w19C : ∀ j : Nat, (j : Int) < (zI M 143 3).toInt → zI w19M 12 j = zI w16M 148 j := fun j hj => by rw [w19e]; exact (congrFun zRs j).trans (zcpy0 (by omega) (by omega) hj)
  rw [← w19e]
  refine zs_aload_n (pc := 101) t23_101 rfl ?_
  refine zs_get (pc := 102) t23_102 (by decide) (zk1 (w19s.k fk_zMc_143)) (w19s.p rfl fv_zMc_143_7) ?_
  refine zs_iconst (pc := 105) t23_105 (v := 0) (by decide) ?_
  refine zs_aload_n (pc := 106) t23_106 rfl ?_
  refine zs_get (pc := 107) t23_107 (by decide) (zk1 (w19s.k fk_zMc_7)) (w19s.p rfl fv_zMc_7_7) ?_
  refine zs_iconst (pc := 110) t23_110 (v := 0) (by decide) ?_
  refine zs_aload_n (pc := 111) t23_111 rfl ?_
  refine zs_get (pc := 112) t23_112 (by decide) (zk1 (w19s.k fk_zMc_7)) (zfvi rfl ((w19F 7 3 rfl).trans ((w16F 7 3 rfl).trans ((w13F 7 3 rfl).trans zIs)))) ?_
  have w20 : (0 : Int32).toInt = 0 := li0
  have w21 : (0 : Int32).toInt = 0 := li0
  refine zs_copy (pc := 115) t23_115 (w19s.k fk_zMc_149) (w19s.k fk_zMc_13) (by decide) (by decide) (by decide) ⟨by omega, by omega, by omega⟩ (by omega) (by omega) ⟨Nat.le_of_ble_eq_true rfl, by decide⟩ ?_
  obtain ⟨w22M, w22e⟩ : ∃ N, N = zsR w19M 13 (va_cpy (zI w19M 149) (zI w19M 13) (0 : Int32).toNatClampNeg (0 : Int32).toNatClampNeg (zI M 143 3).toNatClampNeg) := ⟨_, rfl⟩
  have w22s : zSk zMc w22M := by rw [w22e]; exact w19s
  have w22I : zIv cLo cHi w22M := by rw [w22e]; exact zIv.row w19I (fun _ => zrg _)
  have w22F : zFr [(13, 13, none)] w19M w22M := by rw [w22e]; exact zFr.row zFr.refl (fun _ => rfl)
  have w22C : ∀ j : Nat, (j : Int) < (zI M 143 3).toInt → zI w22M 13 j = zI w19M 149 j := fun j hj => by rw [w22e]; exact (congrFun zRs j).trans (zcpy0 (by omega) (by omega) hj)
  rw [← w22e]
  refine zs_aload_n (pc := 118) t23_118 rfl ?_
  refine zs_aload_n (pc := 119) t23_119 rfl ?_
  have w23 := ib143_8 hI
  refine zs_get (pc := 120) t23_120 (by decide) (zk1 (w22s.k fk_zMc_143)) (zfvi rfl ((w22F 143 8 rfl).trans ((w19F 143 8 rfl).trans ((w16F 143 8 rfl).trans ((w13F 143 8 rfl).trans ((zIo (by decide)).trans ((w8F 143 8 rfl).trans ((w5F 143 8 rfl).trans ((zIo (by decide)).trans rfl))))))))) ?_
  have w24 : zIv cLo cHi (zsI w22M 7 8 (zI M 143 8)) := zIv.put w22I (show 0 ≤ (zI M 143 8).toInt ∧ (zI M 143 8).toInt ≤ 12 from ⟨by omega, by omega⟩)
  refine zs_putI (pc := 123) t23_123 (zk1 (w22s.k fk_zMc_7)) rfl ?_
  refine zs_aload_n (pc := 126) t23_126 rfl ?_
  refine zs_get (pc := 127) t23_127 (by decide) (zk1 (w22s.k fk_zMc_143)) (w22s.p rfl fv_zMc_143_9) ?_
  refine zs_iconst (pc := 130) t23_130 (v := 0) (by decide) ?_
  refine zs_aload_n (pc := 131) t23_131 rfl ?_
  refine zs_get (pc := 132) t23_132 (by decide) (zk1 (w22s.k fk_zMc_7)) (w22s.p rfl fv_zMc_7_9) ?_
  refine zs_iconst (pc := 135) t23_135 (v := 0) (by decide) ?_
  refine zs_aload_n (pc := 136) t23_136 rfl ?_
  refine zs_get (pc := 137) t23_137 (by decide) (zk1 (w22s.k fk_zMc_7)) (zfvi rfl zIs) ?_
  have w25 : (0 : Int32).toInt = 0 := li0
  have w26 : (0 : Int32).toInt = 0 := li0
  refine zs_copy (pc := 140) t23_140 (w22s.k fk_zMc_150) (w22s.k fk_zMc_14) (by decide) (by decide) (by decide) ⟨by omega, by omega, by omega⟩ (by omega) (by omega) ⟨Nat.le_of_ble_eq_true rfl, by decide⟩ ?_
  obtain ⟨w27M, w27e⟩ : ∃ N, N = zsR (zsI w22M 7 8 (zI M 143 8)) 14 (va_cpy (zI (zsI w22M 7 8 (zI M 143 8)) 150) (zI (zsI w22M 7 8 (zI M 143 8)) 14) (0 : Int32).toNatClampNeg (0 : Int32).toNatClampNeg (zI M 143 8).toNatClampNeg) := ⟨_, rfl⟩
  have w27s : zSk zMc w27M := by rw [w27e]; exact w22s
  have w27I : zIv cLo cHi w27M := by rw [w27e]; exact zIv.row w24 (fun _ => zrg _)
  have w27F : zFr [(14, 14, none)] (zsI w22M 7 8 (zI M 143 8)) w27M := by rw [w27e]; exact zFr.row zFr.refl (fun _ => rfl)
  have w27C : ∀ j : Nat, (j : Int) < (zI M 143 8).toInt → zI w27M 14 j = zI (zsI w22M 7 8 (zI M 143 8)) 150 j := fun j hj => by rw [w27e]; exact (congrFun zRs j).trans (zcpy0 (by omega) (by omega) hj)
  rw [← w27e]
  refine zs_aload_n (pc := 143) t23_143 rfl ?_
  refine zs_get (pc := 144) t23_144 (by decide) (zk1 (w27s.k fk_zMc_143)) (w27s.p rfl fv_zMc_143_10) ?_
  refine zs_iconst (pc := 147) t23_147 (v := 0) (by decide) ?_
  refine zs_aload_n (pc := 148) t23_148 rfl ?_
  refine zs_get (pc := 149) t23_149 (by decide) (zk1 (w27s.k fk_zMc_7)) (w27s.p rfl fv_zMc_7_10) ?_
  refine zs_iconst (pc := 152) t23_152 (v := 0) (by decide) ?_
  refine zs_aload_n (pc := 153) t23_153 rfl ?_
  refine zs_get (pc := 154) t23_154 (by decide) (zk1 (w27s.k fk_zMc_7)) (zfvi rfl ((w27F 7 8 rfl).trans zIs)) ?_
  have w28 : (0 : Int32).toInt = 0 := li0
  have w29 : (0 : Int32).toInt = 0 := li0
  refine zs_copy (pc := 157) t23_157 (w27s.k fk_zMc_151) (w27s.k fk_zMc_15) (by decide) (by decide) (by decide) ⟨by omega, by omega, by omega⟩ (by omega) (by omega) ⟨Nat.le_of_ble_eq_true rfl, by decide⟩ ?_
  obtain ⟨w30M, w30e⟩ : ∃ N, N = zsR w27M 15 (va_cpy (zI w27M 151) (zI w27M 15) (0 : Int32).toNatClampNeg (0 : Int32).toNatClampNeg (zI M 143 8).toNatClampNeg) := ⟨_, rfl⟩
  have w30s : zSk zMc w30M := by rw [w30e]; exact w27s
  have w30I : zIv cLo cHi w30M := by rw [w30e]; exact zIv.row w27I (fun _ => zrg _)
  have w30F : zFr [(15, 15, none)] w27M w30M := by rw [w30e]; exact zFr.row zFr.refl (fun _ => rfl)
  have w30C : ∀ j : Nat, (j : Int) < (zI M 143 8).toInt → zI w30M 15 j = zI w27M 151 j := fun j hj => by rw [w30e]; exact (congrFun zRs j).trans (zcpy0 (by omega) (by omega) hj)
  rw [← w30e]
  refine zs_aload_n (pc := 160) t23_160 rfl ?_
  refine zs_get (pc := 161) t23_161 (by decide) (zk1 (w30s.k fk_zMc_143)) (w30s.p rfl fv_zMc_143_11) ?_
  refine zs_iconst (pc := 164) t23_164 (v := 0) (by decide) ?_
  refine zs_aload_n (pc := 165) t23_165 rfl ?_
  refine zs_get (pc := 166) t23_166 (by decide) (zk1 (w30s.k fk_zMc_7)) (w30s.p rfl fv_zMc_7_11) ?_
  refine zs_iconst (pc := 169) t23_169 (v := 0) (by decide) ?_
  refine zs_aload_n (pc := 170) t23_170 rfl ?_
  refine zs_get (pc := 171) t23_171 (by decide) (zk1 (w30s.k fk_zMc_7)) (zfvi rfl ((w30F 7 8 rfl).trans ((w27F 7 8 rfl).trans zIs))) ?_
  have w31 : (0 : Int32).toInt = 0 := li0
  have w32 : (0 : Int32).toInt = 0 := li0
  refine zs_copy (pc := 174) t23_174 (w30s.k fk_zMc_152) (w30s.k fk_zMc_16) (by decide) (by decide) (by decide) ⟨by omega, by omega, by omega⟩ (by omega) (by omega) ⟨Nat.le_of_ble_eq_true rfl, by decide⟩ ?_
  obtain ⟨w33M, w33e⟩ : ∃ N, N = zsR w30M 16 (va_cpy (zI w30M 152) (zI w30M 16) (0 : Int32).toNatClampNeg (0 : Int32).toNatClampNeg (zI M 143 8).toNatClampNeg) := ⟨_, rfl⟩
  have w33s : zSk zMc w33M := by rw [w33e]; exact w30s
  have w33I : zIv cLo cHi w33M := by rw [w33e]; exact zIv.row w30I (fun _ => zrg _)
  have w33F : zFr [(16, 16, none)] w30M w33M := by rw [w33e]; exact zFr.row zFr.refl (fun _ => rfl)
  have w33C : ∀ j : Nat, (j : Int) < (zI M 143 8).toInt → zI w33M 16 j = zI w30M 152 j := fun j hj => by rw [w33e]; exact (congrFun zRs j).trans (zcpy0 (by omega) (by omega) hj)
  rw [← w33e]
  refine zs_aload_n (pc := 177) t23_177 rfl ?_
  refine zs_get (pc := 178) t23_178 (by decide) (zk1 (w33s.k fk_zMc_143)) (w33s.p rfl fv_zMc_143_12) ?_
  refine zs_iconst (pc := 181) t23_181 (v := 0) (by decide) ?_
  refine zs_aload_n (pc := 182) t23_182 rfl ?_
  refine zs_get (pc := 183) t23_183 (by decide) (zk1 (w33s.k fk_zMc_7)) (w33s.p rfl fv_zMc_7_12) ?_
  refine zs_iconst (pc := 186) t23_186 (v := 0) (by decide) ?_
  refine zs_bipush (pc := 187) t23_187 (v := 9) (by decide) ?_
  have w34 : (9 : Int32).toInt = 9 := li9
  have w35 : (0 : Int32).toInt = 0 := li0
  have w36 : (0 : Int32).toInt = 0 := li0
  refine zs_copy (pc := 189) t23_189 (w33s.k fk_zMc_153) (w33s.k fk_zMc_17) (by decide) (by decide) (by decide) ⟨by omega, by omega, by omega⟩ (by omega) (by omega) ⟨Nat.le_of_ble_eq_true rfl, by decide⟩ ?_
  obtain ⟨w37M, w37e⟩ : ∃ N, N = zsR w33M 17 (va_cpy (zI w33M 153) (zI w33M 17) (0 : Int32).toNatClampNeg (0 : Int32).toNatClampNeg (9 : Int32).toNatClampNeg) := ⟨_, rfl⟩
  have w37s : zSk zMc w37M := by rw [w37e]; exact w33s
  have w37I : zIv cLo cHi w37M := by rw [w37e]; exact zIv.row w33I (fun _ => zcpyB (fun j => ib153 w33I j) (fun j => ib17 w33I j))
  have w37F : zFr [(17, 17, none)] w33M w37M := by rw [w37e]; exact zFr.row zFr.refl (fun _ => rfl)
  have w37C : ∀ j : Nat, (j : Int) < (9 : Int32).toInt → zI w37M 17 j = zI w33M 153 j := fun j hj => by rw [w37e]; exact (congrFun zRs j).trans (zcpy0 (by omega) (by omega) hj)
  rw [← w37e]
  refine zs_aload_n (pc := 192) t23_192 rfl ?_
  refine zs_aload_n (pc := 193) t23_193 rfl ?_
  refine zs_get (pc := 194) t23_194 (by decide) (zk1 (w37s.k fk_zMc_143)) (w37s.p rfl fv_zMc_143_14) ?_
  refine zs_aload_n (pc := 197) t23_197 rfl ?_
  have w38 := ib143_13 hI
  refine zs_get (pc := 198) t23_198 (by decide) (zk1 (w37s.k fk_zMc_143)) (zfvi rfl ((w37F 143 13 rfl).trans ((w33F 143 13 rfl).trans ((w30F 143 13 rfl).trans ((w27F 143 13 rfl).trans ((zIo (by decide)).trans ((w22F 143 13 rfl).trans ((w19F 143 13 rfl).trans ((w16F 143 13 rfl).trans ((w13F 143 13 rfl).trans ((zIo (by decide)).trans ((w8F 143 13 rfl).trans ((w5F 143 13 rfl).trans ((zIo (by decide)).trans rfl)))))))))))))) ?_
  refine zs_invV (pc := 201) (k := 7) (as' := [.ref 154, .int (zI M 143 13)]) (st := []) t23_201 mf24 rfl rfl (Or.inl ⟨by decide, (zk1 (w37s.k fk_zMc_7))⟩) ⟨by decide, by decide, Nat.le_of_ble_eq_true rfl, Nat.le_of_ble_eq_true rfl⟩ (zs_in (by decide) mf24 (Nat.le_of_ble_eq_true rfl) ?_) (fun _ _ q => q)
  show zGo X l 1 0 0 24 0 [(0, .ref 7), (1, .ref 154), (2, .int (zI M 143 13))] [] w37M _
  refine zs_aload_n (pc := 0) t24_0 rfl ?_
  refine zs_iconst (pc := 1) t24_1 (v := 0) (by decide) ?_
  refine zs_iload_n (pc := 2) t24_2 rfl ?_
  refine zs_sipush (pc := 3) t24_3 (v := 500) (by decide) ?_
  refine zs_invS (pc := 6) (as := [.int (zI M 143 13), .int (500 : Int32)]) (st := [.int (0 : Int32), .ref 7]) t24_6 (by decide) mf20 rfl rfl ⟨by decide, by decide, Nat.le_of_ble_eq_true rfl, Nat.le_of_ble_eq_true rfl⟩ (zs_in (by decide) mf20 (Nat.le_of_ble_eq_true rfl) ?_) (fun _ _ q => q)
  show zGo X l 0 0 0 20 0 [(0, .int (zI M 143 13)), (1, .int (500 : Int32))] [] w37M _
  refine zs_iload_n (pc := 0) t20_0 rfl ?_
  refine zs_iload_n (pc := 1) t20_1 rfl ?_
  refine zs_icmp_gtF (pc := 2) t20_2 rfl li500 (by omega) ?_
  refine zs_iload_n (pc := 5) t20_5 rfl ?_
  refine zs_goto (pc := 6) t20_6 ?_
  refine zs_iret (pc := 10) t20_10 mr20 rfl ?_
  show zGo X l 1 0 0 24 9 [(0, .ref 7), (1, .ref 154), (2, .int (zI M 143 13))] [.int (zI M 143 13), .int (0 : Int32), .ref 7] w37M _
  refine zs_invS (pc := 9) (as := [.int (0 : Int32), .int (zI M 143 13)]) (st := [.ref 7]) t24_9 (by decide) mf21 rfl rfl ⟨by decide, by decide, Nat.le_of_ble_eq_true rfl, Nat.le_of_ble_eq_true rfl⟩ (zs_in (by decide) mf21 (Nat.le_of_ble_eq_true rfl) ?_) (fun _ _ q => q)
  show zGo X l 0 0 0 21 0 [(0, .int (0 : Int32)), (1, .int (zI M 143 13))] [] w37M _
  refine zs_iload_n (pc := 0) t21_0 rfl ?_
  refine zs_iload_n (pc := 1) t21_1 rfl ?_
  by_cases w39 : 0 < (zI M 143 13).toInt
  · refine zs_icmp_ltT (pc := 2) t21_2 li0 rfl (by omega) ?_
    refine zs_iload_n (pc := 9) t21_9 rfl ?_
    refine zs_iret (pc := 10) t21_10 mr21 rfl ?_
    show zGo X l 1 0 0 24 12 [(0, .ref 7), (1, .ref 154), (2, .int (zI M 143 13))] [.int (zI M 143 13), .ref 7] w37M _
    have w40 : zIv cLo cHi (zsI w37M 7 13 (zI M 143 13)) := zIv.put w37I (show 0 ≤ (zI M 143 13).toInt ∧ (zI M 143 13).toInt ≤ 500 from ⟨by omega, by omega⟩)
    refine zs_putI (pc := 12) t24_12 (zk1 (w37s.k fk_zMc_7)) rfl ?_
    refine zs_aload_n (pc := 15) t24_15 rfl ?_
    refine zs_iconst (pc := 16) t24_16 (v := 0) (by decide) ?_
    refine zs_aload_n (pc := 17) t24_17 rfl ?_
    refine zs_get (pc := 18) t24_18 (by decide) (zk1 (w37s.k fk_zMc_7)) (w37s.p rfl fv_zMc_7_14) ?_
    refine zs_iconst (pc := 21) t24_21 (v := 0) (by decide) ?_
    refine zs_aload_n (pc := 22) t24_22 rfl ?_
    refine zs_get (pc := 23) t24_23 (by decide) (zk1 (w37s.k fk_zMc_7)) (zfvi rfl zIs) ?_
    have w41 : (0 : Int32).toInt = 0 := li0
    have w42 : (0 : Int32).toInt = 0 := li0
    refine zs_copy (pc := 26) t24_26 (w37s.k fk_zMc_154) (w37s.k fk_zMc_18) (by decide) (by decide) (by decide) ⟨by omega, by omega, by omega⟩ (by omega) (by omega) ⟨Nat.le_of_ble_eq_true rfl, by decide⟩ ?_
    obtain ⟨w43M, w43e⟩ : ∃ N, N = zsR (zsI w37M 7 13 (zI M 143 13)) 18 (va_cpy (zI (zsI w37M 7 13 (zI M 143 13)) 154) (zI (zsI w37M 7 13 (zI M 143 13)) 18) (0 : Int32).toNatClampNeg (0 : Int32).toNatClampNeg (zI M 143 13).toNatClampNeg) := ⟨_, rfl⟩
    have w43s : zSk zMc w43M := by rw [w43e]; exact w37s
    have w43I : zIv cLo cHi w43M := by rw [w43e]; exact zIv.row w40 (fun _ => zcpyB (fun j => ib154 w40 j) (fun j => ib18 w40 j))
    have w43F : zFr [(18, 18, none)] (zsI w37M 7 13 (zI M 143 13)) w43M := by rw [w43e]; exact zFr.row zFr.refl (fun _ => rfl)
    have w43C : ∀ j : Nat, (j : Int) < (zI M 143 13).toInt → zI w43M 18 j = zI (zsI w37M 7 13 (zI M 143 13)) 154 j := fun j hj => by rw [w43e]; exact (congrFun zRs j).trans (zcpy0 (by omega) (by omega) hj)
    rw [← w43e]
    refine zs_vret (pc := 29) t24_29 mr24 ?_
    show zGo X l 2 0 0 23 204 [(0, .ref 7), (1, .ref 143)] [] w43M _
    have w44 : (zI w43M 7 0).toInt = (zI M 143 0).toInt := (congrArg Int32.toInt ((w43F 7 0 rfl).trans ((zIoj (by decide)).trans ((w37F 7 0 rfl).trans ((w33F 7 0 rfl).trans ((w30F 7 0 rfl).trans ((w27F 7 0 rfl).trans ((zIoj (by decide)).trans ((w22F 7 0 rfl).trans ((w19F 7 0 rfl).trans ((w16F 7 0 rfl).trans ((w13F 7 0 rfl).trans ((zIoj (by decide)).trans ((w8F 7 0 rfl).trans ((w5F 7 0 rfl).trans zIs))))))))))))))).trans rfl
    have w45 : (zI w43M 7 3).toInt = (zI M 143 3).toInt := (congrArg Int32.toInt ((w43F 7 3 rfl).trans ((zIoj (by decide)).trans ((w37F 7 3 rfl).trans ((w33F 7 3 rfl).trans ((w30F 7 3 rfl).trans ((w27F 7 3 rfl).trans ((zIoj (by decide)).trans ((w22F 7 3 rfl).trans ((w19F 7 3 rfl).trans ((w16F 7 3 rfl).trans ((w13F 7 3 rfl).trans zIs)))))))))))).trans rfl
    have w46 : (zI w43M 7 8).toInt = (zI M 143 8).toInt := (congrArg Int32.toInt ((w43F 7 8 rfl).trans ((zIoj (by decide)).trans ((w37F 7 8 rfl).trans ((w33F 7 8 rfl).trans ((w30F 7 8 rfl).trans ((w27F 7 8 rfl).trans zIs))))))).trans rfl
    have w47 : (zI w43M 7 13).toInt = (zI M 143 13).toInt := (congrArg Int32.toInt ((w43F 7 13 rfl).trans zIs)).trans rfl
    have w48 : (zI (zsI M 7 0 (zI M 143 0)) 143 0).toInt = (zI M 143 0).toInt := (congrArg Int32.toInt ((zIo (by decide)).trans rfl)).trans rfl
    have w49 : (zI (zsI M 7 0 (zI M 143 0)) 143 3).toInt = (zI M 143 3).toInt := (congrArg Int32.toInt ((zIo (by decide)).trans rfl)).trans rfl
    have w50 : (zI (zsI M 7 0 (zI M 143 0)) 143 8).toInt = (zI M 143 8).toInt := (congrArg Int32.toInt ((zIo (by decide)).trans rfl)).trans rfl
    have w51 : (zI (zsI M 7 0 (zI M 143 0)) 143 13).toInt = (zI M 143 13).toInt := (congrArg Int32.toInt ((zIo (by decide)).trans rfl)).trans rfl
    exact zs_vret (pc := 204) t23_204 mr23 (hQ _ w43s w43I ((((((((((((((((zFr.refl).put rfl).trans (w5F.mono rfl)).trans (w8F.mono rfl)).put rfl).trans (w13F.mono rfl)).trans (w16F.mono rfl)).trans (w19F.mono rfl)).trans (w22F.mono rfl)).put rfl).trans (w27F.mono rfl)).trans (w30F.mono rfl)).trans (w33F.mono rfl)).trans (w37F.mono rfl)).put rfl).trans (w43F.mono rfl)) (zSo.cp x0 (by omega) (by omega) (by omega) (by omega) (fun j hj => ((((w43F 8 j rfl).trans ((zIo (by decide)).trans ((w37F 8 j rfl).trans ((w33F 8 j rfl).trans ((w30F 8 j rfl).trans ((w27F 8 j rfl).trans ((zIo (by decide)).trans ((w22F 8 j rfl).trans ((w19F 8 j rfl).trans ((w16F 8 j rfl).trans ((w13F 8 j rfl).trans ((zIo (by decide)).trans (w8F 8 j rfl))))))))))))).trans (w5C j (by omega))).trans (zIo (by decide)))) (fun j hj => ((((w43F 9 j rfl).trans ((zIo (by decide)).trans ((w37F 9 j rfl).trans ((w33F 9 j rfl).trans ((w30F 9 j rfl).trans ((w27F 9 j rfl).trans ((zIo (by decide)).trans ((w22F 9 j rfl).trans ((w19F 9 j rfl).trans ((w16F 9 j rfl).trans ((w13F 9 j rfl).trans (zIo (by decide))))))))))))).trans (w8C j (by omega))).trans ((w5F 145 j rfl).trans (zIo (by decide))))) (fun j hj => ((((w43F 10 j rfl).trans ((zIo (by decide)).trans ((w37F 10 j rfl).trans ((w33F 10 j rfl).trans ((w30F 10 j rfl).trans ((w27F 10 j rfl).trans ((zIo (by decide)).trans ((w22F 10 j rfl).trans ((w19F 10 j rfl).trans (w16F 10 j rfl)))))))))).trans (w13C j (by omega))).trans ((zIo (by decide)).trans ((w8F 146 j rfl).trans ((w5F 146 j rfl).trans (zIo (by decide))))))) (fun j hj => ((((w43F 11 j rfl).trans ((zIo (by decide)).trans ((w37F 11 j rfl).trans ((w33F 11 j rfl).trans ((w30F 11 j rfl).trans ((w27F 11 j rfl).trans ((zIo (by decide)).trans ((w22F 11 j rfl).trans (w19F 11 j rfl))))))))).trans (w16C j (by omega))).trans ((w13F 147 j rfl).trans ((zIo (by decide)).trans ((w8F 147 j rfl).trans ((w5F 147 j rfl).trans (zIo (by decide)))))))) (fun j hj => ((((w43F 12 j rfl).trans ((zIo (by decide)).trans ((w37F 12 j rfl).trans ((w33F 12 j rfl).trans ((w30F 12 j rfl).trans ((w27F 12 j rfl).trans ((zIo (by decide)).trans (w22F 12 j rfl)))))))).trans (w19C j (by omega))).trans ((w16F 148 j rfl).trans ((w13F 148 j rfl).trans ((zIo (by decide)).trans ((w8F 148 j rfl).trans ((w5F 148 j rfl).trans (zIo (by decide))))))))) (fun j hj => ((((w43F 13 j rfl).trans ((zIo (by decide)).trans ((w37F 13 j rfl).trans ((w33F 13 j rfl).trans ((w30F 13 j rfl).trans ((w27F 13 j rfl).trans (zIo (by decide)))))))).trans (w22C j (by omega))).trans ((w19F 149 j rfl).trans ((w16F 149 j rfl).trans ((w13F 149 j rfl).trans ((zIo (by decide)).trans ((w8F 149 j rfl).trans ((w5F 149 j rfl).trans (zIo (by decide)))))))))) (fun j hj => ((((w43F 14 j rfl).trans ((zIo (by decide)).trans ((w37F 14 j rfl).trans ((w33F 14 j rfl).trans (w30F 14 j rfl))))).trans (w27C j (by omega))).trans ((zIo (by decide)).trans ((w22F 150 j rfl).trans ((w19F 150 j rfl).trans ((w16F 150 j rfl).trans ((w13F 150 j rfl).trans ((zIo (by decide)).trans ((w8F 150 j rfl).trans ((w5F 150 j rfl).trans (zIo (by decide)))))))))))) (fun j hj => ((((w43F 15 j rfl).trans ((zIo (by decide)).trans ((w37F 15 j rfl).trans (w33F 15 j rfl)))).trans (w30C j (by omega))).trans ((w27F 151 j rfl).trans ((zIo (by decide)).trans ((w22F 151 j rfl).trans ((w19F 151 j rfl).trans ((w16F 151 j rfl).trans ((w13F 151 j rfl).trans ((zIo (by decide)).trans ((w8F 151 j rfl).trans ((w5F 151 j rfl).trans (zIo (by decide))))))))))))) (fun j hj => ((((w43F 16 j rfl).trans ((zIo (by decide)).trans (w37F 16 j rfl))).trans (w33C j (by omega))).trans ((w30F 152 j rfl).trans ((w27F 152 j rfl).trans ((zIo (by decide)).trans ((w22F 152 j rfl).trans ((w19F 152 j rfl).trans ((w16F 152 j rfl).trans ((w13F 152 j rfl).trans ((zIo (by decide)).trans ((w8F 152 j rfl).trans ((w5F 152 j rfl).trans (zIo (by decide)))))))))))))) (fun j hj => ((((w43F 17 j rfl).trans (zIo (by decide))).trans (w37C j (by omega))).trans ((w33F 153 j rfl).trans ((w30F 153 j rfl).trans ((w27F 153 j rfl).trans ((zIo (by decide)).trans ((w22F 153 j rfl).trans ((w19F 153 j rfl).trans ((w16F 153 j rfl).trans ((w13F 153 j rfl).trans ((zIo (by decide)).trans ((w8F 153 j rfl).trans ((w5F 153 j rfl).trans (zIo (by decide))))))))))))))) (fun j hj => ((w43C j (by omega)).trans ((zIo (by decide)).trans ((w37F 154 j rfl).trans ((w33F 154 j rfl).trans ((w30F 154 j rfl).trans ((w27F 154 j rfl).trans ((zIo (by decide)).trans ((w22F 154 j rfl).trans ((w19F 154 j rfl).trans ((w16F 154 j rfl).trans ((w13F 154 j rfl).trans ((zIo (by decide)).trans ((w8F 154 j rfl).trans ((w5F 154 j rfl).trans (zIo (by decide)))))))))))))))))))
  · refine zs_icmp_ltF (pc := 2) t21_2 li0 rfl (by omega) ?_
    refine zs_iload_n (pc := 5) t21_5 rfl ?_
    refine zs_goto (pc := 6) t21_6 ?_
    refine zs_iret (pc := 10) t21_10 mr21 (by decide) ?_
    show zGo X l 1 0 0 24 12 [(0, .ref 7), (1, .ref 154), (2, .int (zI M 143 13))] [.int (0 : Int32), .ref 7] w37M _
    have w52 : zIv cLo cHi (zsI w37M 7 13 (0 : Int32)) := zIv.put w37I (show 0 ≤ (0 : Int32).toInt ∧ (0 : Int32).toInt ≤ 500 from ⟨by decide, by decide⟩)
    refine zs_putI (pc := 12) t24_12 (zk1 (w37s.k fk_zMc_7)) rfl ?_
    refine zs_aload_n (pc := 15) t24_15 rfl ?_
    refine zs_iconst (pc := 16) t24_16 (v := 0) (by decide) ?_
    refine zs_aload_n (pc := 17) t24_17 rfl ?_
    refine zs_get (pc := 18) t24_18 (by decide) (zk1 (w37s.k fk_zMc_7)) (w37s.p rfl fv_zMc_7_14) ?_
    refine zs_iconst (pc := 21) t24_21 (v := 0) (by decide) ?_
    refine zs_aload_n (pc := 22) t24_22 rfl ?_
    refine zs_get (pc := 23) t24_23 (by decide) (zk1 (w37s.k fk_zMc_7)) (zfvi rfl zIs) ?_
    have w53 : (0 : Int32).toInt = 0 := li0
    have w54 : (0 : Int32).toInt = 0 := li0
    have w55 : (0 : Int32).toInt = 0 := li0
    refine zs_copy (pc := 26) t24_26 (w37s.k fk_zMc_154) (w37s.k fk_zMc_18) (by decide) (by decide) (by decide) ⟨by omega, by omega, by omega⟩ (by omega) (by omega) ⟨Nat.le_of_ble_eq_true rfl, by decide⟩ ?_
    obtain ⟨w56M, w56e⟩ : ∃ N, N = zsR (zsI w37M 7 13 (0 : Int32)) 18 (va_cpy (zI (zsI w37M 7 13 (0 : Int32)) 154) (zI (zsI w37M 7 13 (0 : Int32)) 18) (0 : Int32).toNatClampNeg (0 : Int32).toNatClampNeg (0 : Int32).toNatClampNeg) := ⟨_, rfl⟩
    have w56s : zSk zMc w56M := by rw [w56e]; exact w37s
    have w56I : zIv cLo cHi w56M := by rw [w56e]; exact zIv.row w52 (fun _ => zcpyB (fun j => ib154 w52 j) (fun j => ib18 w52 j))
    have w56F : zFr [(18, 18, none)] (zsI w37M 7 13 (0 : Int32)) w56M := by rw [w56e]; exact zFr.row zFr.refl (fun _ => rfl)
    have w56C : ∀ j : Nat, (j : Int) < (0 : Int32).toInt → zI w56M 18 j = zI (zsI w37M 7 13 (0 : Int32)) 154 j := fun j hj => by rw [w56e]; exact (congrFun zRs j).trans (zcpy0 (by omega) (by omega) hj)
    rw [← w56e]
    refine zs_vret (pc := 29) t24_29 mr24 ?_
    show zGo X l 2 0 0 23 204 [(0, .ref 7), (1, .ref 143)] [] w56M _
    have w57 : (zI w56M 7 0).toInt = (zI M 143 0).toInt := (congrArg Int32.toInt ((w56F 7 0 rfl).trans ((zIoj (by decide)).trans ((w37F 7 0 rfl).trans ((w33F 7 0 rfl).trans ((w30F 7 0 rfl).trans ((w27F 7 0 rfl).trans ((zIoj (by decide)).trans ((w22F 7 0 rfl).trans ((w19F 7 0 rfl).trans ((w16F 7 0 rfl).trans ((w13F 7 0 rfl).trans ((zIoj (by decide)).trans ((w8F 7 0 rfl).trans ((w5F 7 0 rfl).trans zIs))))))))))))))).trans rfl
    have w58 : (zI w56M 7 3).toInt = (zI M 143 3).toInt := (congrArg Int32.toInt ((w56F 7 3 rfl).trans ((zIoj (by decide)).trans ((w37F 7 3 rfl).trans ((w33F 7 3 rfl).trans ((w30F 7 3 rfl).trans ((w27F 7 3 rfl).trans ((zIoj (by decide)).trans ((w22F 7 3 rfl).trans ((w19F 7 3 rfl).trans ((w16F 7 3 rfl).trans ((w13F 7 3 rfl).trans zIs)))))))))))).trans rfl
    have w59 : (zI w56M 7 8).toInt = (zI M 143 8).toInt := (congrArg Int32.toInt ((w56F 7 8 rfl).trans ((zIoj (by decide)).trans ((w37F 7 8 rfl).trans ((w33F 7 8 rfl).trans ((w30F 7 8 rfl).trans ((w27F 7 8 rfl).trans zIs))))))).trans rfl
    have w60 : (zI w56M 7 13).toInt = 0 := (congrArg Int32.toInt ((w56F 7 13 rfl).trans zIs)).trans li0
    have w61 : (zI (zsI M 7 0 (zI M 143 0)) 143 0).toInt = (zI M 143 0).toInt := (congrArg Int32.toInt ((zIo (by decide)).trans rfl)).trans rfl
    have w62 : (zI (zsI M 7 0 (zI M 143 0)) 143 3).toInt = (zI M 143 3).toInt := (congrArg Int32.toInt ((zIo (by decide)).trans rfl)).trans rfl
    have w63 : (zI (zsI M 7 0 (zI M 143 0)) 143 8).toInt = (zI M 143 8).toInt := (congrArg Int32.toInt ((zIo (by decide)).trans rfl)).trans rfl
    have w64 : (zI (zsI M 7 0 (zI M 143 0)) 143 13).toInt = (zI M 143 13).toInt := (congrArg Int32.toInt ((zIo (by decide)).trans rfl)).trans rfl
    exact zs_vret (pc := 204) t23_204 mr23 (hQ _ w56s w56I ((((((((((((((((zFr.refl).put rfl).trans (w5F.mono rfl)).trans (w8F.mono rfl)).put rfl).trans (w13F.mono rfl)).trans (w16F.mono rfl)).trans (w19F.mono rfl)).trans (w22F.mono rfl)).put rfl).trans (w27F.mono rfl)).trans (w30F.mono rfl)).trans (w33F.mono rfl)).trans (w37F.mono rfl)).put rfl).trans (w56F.mono rfl)) (zSo.cp x0 (by omega) (by omega) (by omega) (by omega) (fun j hj => ((((w56F 8 j rfl).trans ((zIo (by decide)).trans ((w37F 8 j rfl).trans ((w33F 8 j rfl).trans ((w30F 8 j rfl).trans ((w27F 8 j rfl).trans ((zIo (by decide)).trans ((w22F 8 j rfl).trans ((w19F 8 j rfl).trans ((w16F 8 j rfl).trans ((w13F 8 j rfl).trans ((zIo (by decide)).trans (w8F 8 j rfl))))))))))))).trans (w5C j (by omega))).trans (zIo (by decide)))) (fun j hj => ((((w56F 9 j rfl).trans ((zIo (by decide)).trans ((w37F 9 j rfl).trans ((w33F 9 j rfl).trans ((w30F 9 j rfl).trans ((w27F 9 j rfl).trans ((zIo (by decide)).trans ((w22F 9 j rfl).trans ((w19F 9 j rfl).trans ((w16F 9 j rfl).trans ((w13F 9 j rfl).trans (zIo (by decide))))))))))))).trans (w8C j (by omega))).trans ((w5F 145 j rfl).trans (zIo (by decide))))) (fun j hj => ((((w56F 10 j rfl).trans ((zIo (by decide)).trans ((w37F 10 j rfl).trans ((w33F 10 j rfl).trans ((w30F 10 j rfl).trans ((w27F 10 j rfl).trans ((zIo (by decide)).trans ((w22F 10 j rfl).trans ((w19F 10 j rfl).trans (w16F 10 j rfl)))))))))).trans (w13C j (by omega))).trans ((zIo (by decide)).trans ((w8F 146 j rfl).trans ((w5F 146 j rfl).trans (zIo (by decide))))))) (fun j hj => ((((w56F 11 j rfl).trans ((zIo (by decide)).trans ((w37F 11 j rfl).trans ((w33F 11 j rfl).trans ((w30F 11 j rfl).trans ((w27F 11 j rfl).trans ((zIo (by decide)).trans ((w22F 11 j rfl).trans (w19F 11 j rfl))))))))).trans (w16C j (by omega))).trans ((w13F 147 j rfl).trans ((zIo (by decide)).trans ((w8F 147 j rfl).trans ((w5F 147 j rfl).trans (zIo (by decide)))))))) (fun j hj => ((((w56F 12 j rfl).trans ((zIo (by decide)).trans ((w37F 12 j rfl).trans ((w33F 12 j rfl).trans ((w30F 12 j rfl).trans ((w27F 12 j rfl).trans ((zIo (by decide)).trans (w22F 12 j rfl)))))))).trans (w19C j (by omega))).trans ((w16F 148 j rfl).trans ((w13F 148 j rfl).trans ((zIo (by decide)).trans ((w8F 148 j rfl).trans ((w5F 148 j rfl).trans (zIo (by decide))))))))) (fun j hj => ((((w56F 13 j rfl).trans ((zIo (by decide)).trans ((w37F 13 j rfl).trans ((w33F 13 j rfl).trans ((w30F 13 j rfl).trans ((w27F 13 j rfl).trans (zIo (by decide)))))))).trans (w22C j (by omega))).trans ((w19F 149 j rfl).trans ((w16F 149 j rfl).trans ((w13F 149 j rfl).trans ((zIo (by decide)).trans ((w8F 149 j rfl).trans ((w5F 149 j rfl).trans (zIo (by decide)))))))))) (fun j hj => ((((w56F 14 j rfl).trans ((zIo (by decide)).trans ((w37F 14 j rfl).trans ((w33F 14 j rfl).trans (w30F 14 j rfl))))).trans (w27C j (by omega))).trans ((zIo (by decide)).trans ((w22F 150 j rfl).trans ((w19F 150 j rfl).trans ((w16F 150 j rfl).trans ((w13F 150 j rfl).trans ((zIo (by decide)).trans ((w8F 150 j rfl).trans ((w5F 150 j rfl).trans (zIo (by decide)))))))))))) (fun j hj => ((((w56F 15 j rfl).trans ((zIo (by decide)).trans ((w37F 15 j rfl).trans (w33F 15 j rfl)))).trans (w30C j (by omega))).trans ((w27F 151 j rfl).trans ((zIo (by decide)).trans ((w22F 151 j rfl).trans ((w19F 151 j rfl).trans ((w16F 151 j rfl).trans ((w13F 151 j rfl).trans ((zIo (by decide)).trans ((w8F 151 j rfl).trans ((w5F 151 j rfl).trans (zIo (by decide))))))))))))) (fun j hj => ((((w56F 16 j rfl).trans ((zIo (by decide)).trans (w37F 16 j rfl))).trans (w33C j (by omega))).trans ((w30F 152 j rfl).trans ((w27F 152 j rfl).trans ((zIo (by decide)).trans ((w22F 152 j rfl).trans ((w19F 152 j rfl).trans ((w16F 152 j rfl).trans ((w13F 152 j rfl).trans ((zIo (by decide)).trans ((w8F 152 j rfl).trans ((w5F 152 j rfl).trans (zIo (by decide)))))))))))))) (fun j hj => ((((w56F 17 j rfl).trans (zIo (by decide))).trans (w37C j (by omega))).trans ((w33F 153 j rfl).trans ((w30F 153 j rfl).trans ((w27F 153 j rfl).trans ((zIo (by decide)).trans ((w22F 153 j rfl).trans ((w19F 153 j rfl).trans ((w16F 153 j rfl).trans ((w13F 153 j rfl).trans ((zIo (by decide)).trans ((w8F 153 j rfl).trans ((w5F 153 j rfl).trans (zIo (by decide))))))))))))))) (fun j hj => ((w56C j (by omega)).trans ((zIo (by decide)).trans ((w37F 154 j rfl).trans ((w33F 154 j rfl).trans ((w30F 154 j rfl).trans ((w27F 154 j rfl).trans ((zIo (by decide)).trans ((w22F 154 j rfl).trans ((w19F 154 j rfl).trans ((w16F 154 j rfl).trans ((w13F 154 j rfl).trans ((zIo (by decide)).trans ((w8F 154 j rfl).trans ((w5F 154 j rfl).trans (zIo (by decide)))))))))))))))))))
theorem X58_31_7 {X : zX} {l : Launch} {M : zM} {Q : Option Value → zM → Prop} (hs : zSk zMc M) (hI : zIv cLo cHi M) {F : Nat → Int} {H : Nat → Nat → Int} {n : Int} (x0 : zSo M 7 F) (x1 : zHC M H n) (hQ : ∀ M', zSk zMc M' → zIv cLo cHi M' → zFr [(31, 31, none), (35, 130, none)] M M' → (zHC M' (pushH F H) (nP n)) → Q none M') : zCall X l 3 0 0 58 [.ref 31, .ref 7] M Q := by
  refine zs_in (by decide) mf58 (Nat.le_of_ble_eq_true rfl) ?_
  show zGo X l 3 0 0 58 0 [(0, .ref 31), (1, .ref 7)] [] M _
  have f0 := x0.1
  have w1 := ib7_0 hI
  have w2 : (zI M 7 0).toInt = (zI M 7 0).toInt := (congrArg Int32.toInt rfl).trans rfl
  have w3 := ib7_3 hI
  have w4 : (zI M 7 3).toInt = (zI M 7 3).toInt := (congrArg Int32.toInt rfl).trans rfl
  have w5 := ib7_8 hI
  have w6 : (zI M 7 8).toInt = (zI M 7 8).toInt := (congrArg Int32.toInt rfl).trans rfl
  have f2 := (show (zI M 7 0).toInt = F 0 ∧ (zI M 7 3).toInt = F 1 ∧ (zI M 7 8).toInt = F 2 from ⟨x0.1.1, x0.1.2.1, x0.1.2.2.1⟩)
  refine zs_aload_n (pc := 0) t58_0 rfl ?_
  refine zs_aload_n (pc := 1) t58_1 rfl ?_
  have w7 := ib31_1 hI
  refine zs_get (pc := 2) t58_2 (by decide) (zk1 (hs.k fk_zMc_31)) (zfvi rfl rfl) ?_
  refine zs_iconst (pc := 5) t58_5 (v := 1) (by decide) ?_
  obtain ⟨w8v, w8e, w8⟩ := ziadd (a := (zI M 31 1)) (b := (1 : Int32)) rfl li1 (by omega) (by omega)
  refine zs_iadd (pc := 6) t58_6 (c := w8v) w8e ?_
  refine zs_bipush (pc := 7) t58_7 (v := 8) (by decide) ?_
  obtain ⟨w9v, w9⟩ : ∃ v, w8v - w8v / (8 : Int32) * (8 : Int32) = v := ⟨_, rfl⟩
  have w9g : 0 ≤ w9v.toInt ∧ w9v.toInt ≤ 7 := by rw [← w9]; exact zrem w8 li8 (by omega) (by decide)
  have w9r : w9v.toInt = ((zI M 31 1).toInt + 1) % 8 := by rw [← w9]; exact zremE w8 li8 (by omega) (by decide)
  refine zs_irem (pc := 9) t58_9 (by decide) (c := w9v) w9 ?_
  have w10 : zIv cLo cHi (zsI M 31 1 w9v) := zIv.put hI (show 0 ≤ w9v.toInt ∧ w9v.toInt ≤ 7 from ⟨by omega, by omega⟩)
  refine zs_putI (pc := 10) t58_10 (zk1 (hs.k fk_zMc_31)) rfl ?_
  refine zs_aload_n (pc := 13) t58_13 rfl ?_
  refine zs_get (pc := 14) t58_14 (by decide) (zk1 (hs.k fk_zMc_31)) (hs.p rfl fv_zMc_31_0) ?_
  refine zs_aload_n (pc := 17) t58_17 rfl ?_
  refine zs_get (pc := 18) t58_18 (by decide) (zk1 (hs.k fk_zMc_31)) (zfvi rfl zIs) ?_
  by_cases w11 : w9v.toInt = 0
  · refine zs_aald (pc := 21) t58_21 (j := 0) (Or.inl (zk1 (hs.k fk_zMc_32))) ((rfl : w9v.toInt = w9v.toInt).trans w11) (zk2 (hs.k fk_zMc_32) (by decide)) (hs.a fp_zMc_32_0) ?_
    refine zs_aload_n (pc := 22) t58_22 rfl ?_
    refine zs_invV (pc := 23) (k := 35) (as' := [.ref 7]) (st := []) t58_23 mf23 rfl rfl (Or.inl ⟨by decide, (zk1 (hs.k fk_zMc_35))⟩) ⟨by decide, by decide, Nat.le_of_ble_eq_true rfl, Nat.le_of_ble_eq_true rfl⟩ (X23_35_7 hs w10 (zSo.fr x0 (zEq.put rfl)) ?_) (fun _ _ q => q)
    intro w12M w12s w12I w12F w12x0
    show zGo X l 3 0 0 58 26 [(0, .ref 31), (1, .ref 7)] [] w12M _
    refine zs_aload_n (pc := 26) t58_26 rfl ?_
    refine zs_aload_n (pc := 27) t58_27 rfl ?_
    have w13 := ib31_2 hI
    refine zs_get (pc := 28) t58_28 (by decide) (zk1 (w12s.k fk_zMc_31)) (zfvi rfl ((w12F 31 2 rfl).trans ((zIoj (by decide)).trans rfl))) ?_
    refine zs_iconst (pc := 31) t58_31 (v := 1) (by decide) ?_
    obtain ⟨w14v, w14e, w14⟩ := ziadd (a := (zI M 31 2)) (b := (1 : Int32)) rfl li1 (by omega) (by omega)
    refine zs_iadd (pc := 32) t58_32 (c := w14v) w14e ?_
    refine zs_bipush (pc := 33) t58_33 (v := 8) (by decide) ?_
    refine zs_invS (pc := 35) (as := [.int w14v, .int (8 : Int32)]) (st := [.ref 31]) t58_35 (by decide) mf20 rfl rfl ⟨by decide, by decide, Nat.le_of_ble_eq_true rfl, Nat.le_of_ble_eq_true rfl⟩ (zs_in (by decide) mf20 (Nat.le_of_ble_eq_true rfl) ?_) (fun _ _ q => q)
    show zGo X l 0 0 0 20 0 [(0, .int w14v), (1, .int (8 : Int32))] [] w12M _
    refine zs_iload_n (pc := 0) t20_0 rfl ?_
    refine zs_iload_n (pc := 1) t20_1 rfl ?_
    by_cases w15 : 8 < ((zI M 31 2).toInt + 1)
    · refine zs_icmp_gtT (pc := 2) t20_2 w14 li8 (by omega) ?_
      refine zs_iload_n (pc := 9) t20_9 rfl ?_
      refine zs_iret (pc := 10) t20_10 mr20 (by decide) ?_
      show zGo X l 3 0 0 58 38 [(0, .ref 31), (1, .ref 7)] [.int (8 : Int32), .ref 31] w12M _
      have w16 : zIv cLo cHi (zsI w12M 31 2 (8 : Int32)) := zIv.put w12I (show 0 ≤ (8 : Int32).toInt ∧ (8 : Int32).toInt ≤ 8 from ⟨by decide, by decide⟩)
      refine zs_putI (pc := 38) t58_38 (zk1 (w12s.k fk_zMc_31)) rfl ?_
      have w17 : (zI (zsI M 31 1 w9v) 31 1).toInt = w9v.toInt := (congrArg Int32.toInt zIs).trans rfl
      have w18 : (zI (zsI M 31 1 w9v) 31 2).toInt = (zI M 31 2).toInt := (congrArg Int32.toInt ((zIoj (by decide)).trans rfl)).trans rfl
      obtain ⟨w19n, w19⟩ : ∃ n : Nat, (zI M 31 1).toInt = (n : Int) := ⟨((zI M 31 1).toInt).toNat, by omega⟩
      have w20 : (zI (zsI w12M 31 2 (8 : Int32)) 31 1).toInt = w9v.toInt := (congrArg Int32.toInt ((zIoj (by decide)).trans ((w12F 31 1 rfl).trans zIs))).trans rfl
      have w21 : (zI (zsI w12M 31 2 (8 : Int32)) 31 2).toInt = 8 := (congrArg Int32.toInt zIs).trans li8
      have g1 := x1.1
      have g2 := nP.e (n := n)
      exact zs_vret (pc := 41) t58_41 mr58 (hQ _ w12s w16 ((((zFr.refl).put rfl).trans (w12F.mono rfl)).put rfl) (zHC.push (q := w19n) (q' := 0) x1 (by omega) (by omega) (by omega) (by omega) (by omega) (by omega) (by omega) (zSo.fr w12x0 (zEq.put rfl)) (fun k j k1 k2 k3 => ((zIo (by omega)).trans ((w12F k j (zoC (by omega) (zoC (by omega) rfl))).trans (zIo (by omega)))))))
    · refine zs_icmp_gtF (pc := 2) t20_2 w14 li8 (by omega) ?_
      refine zs_iload_n (pc := 5) t20_5 rfl ?_
      refine zs_goto (pc := 6) t20_6 ?_
      refine zs_iret (pc := 10) t20_10 mr20 rfl ?_
      show zGo X l 3 0 0 58 38 [(0, .ref 31), (1, .ref 7)] [.int w14v, .ref 31] w12M _
      have w22 : zIv cLo cHi (zsI w12M 31 2 w14v) := zIv.put w12I (show 0 ≤ w14v.toInt ∧ w14v.toInt ≤ 8 from ⟨by omega, by omega⟩)
      refine zs_putI (pc := 38) t58_38 (zk1 (w12s.k fk_zMc_31)) rfl ?_
      have w23 : (zI (zsI M 31 1 w9v) 31 1).toInt = w9v.toInt := (congrArg Int32.toInt zIs).trans rfl
      have w24 : (zI (zsI M 31 1 w9v) 31 2).toInt = (zI M 31 2).toInt := (congrArg Int32.toInt ((zIoj (by decide)).trans rfl)).trans rfl
      obtain ⟨w25n, w25⟩ : ∃ n : Nat, (zI M 31 1).toInt = (n : Int) := ⟨((zI M 31 1).toInt).toNat, by omega⟩
      have w26 : (zI (zsI w12M 31 2 w14v) 31 1).toInt = w9v.toInt := (congrArg Int32.toInt ((zIoj (by decide)).trans ((w12F 31 1 rfl).trans zIs))).trans rfl
      have w27 : (zI (zsI w12M 31 2 w14v) 31 2).toInt = ((zI M 31 2).toInt + 1) := (congrArg Int32.toInt zIs).trans w14
      have g1 := x1.1
      have g2 := nP.e (n := n)
      exact zs_vret (pc := 41) t58_41 mr58 (hQ _ w12s w22 ((((zFr.refl).put rfl).trans (w12F.mono rfl)).put rfl) (zHC.push (q := w25n) (q' := 0) x1 (by omega) (by omega) (by omega) (by omega) (by omega) (by omega) (by omega) (zSo.fr w12x0 (zEq.put rfl)) (fun k j k1 k2 k3 => ((zIo (by omega)).trans ((w12F k j (zoC (by omega) (zoC (by omega) rfl))).trans (zIo (by omega)))))))
  by_cases w28 : w9v.toInt = 1
  · refine zs_aald (pc := 21) t58_21 (j := 1) (Or.inl (zk1 (hs.k fk_zMc_32))) ((rfl : w9v.toInt = w9v.toInt).trans w28) (zk2 (hs.k fk_zMc_32) (by decide)) (hs.a fp_zMc_32_1) ?_
    refine zs_aload_n (pc := 22) t58_22 rfl ?_
    refine zs_invV (pc := 23) (k := 47) (as' := [.ref 7]) (st := []) t58_23 mf23 rfl rfl (Or.inl ⟨by decide, (zk1 (hs.k fk_zMc_47))⟩) ⟨by decide, by decide, Nat.le_of_ble_eq_true rfl, Nat.le_of_ble_eq_true rfl⟩ (X23_47_7 hs w10 (zSo.fr x0 (zEq.put rfl)) ?_) (fun _ _ q => q)
    intro w29M w29s w29I w29F w29x0
    show zGo X l 3 0 0 58 26 [(0, .ref 31), (1, .ref 7)] [] w29M _
    refine zs_aload_n (pc := 26) t58_26 rfl ?_
    refine zs_aload_n (pc := 27) t58_27 rfl ?_
    have w30 := ib31_2 hI
    refine zs_get (pc := 28) t58_28 (by decide) (zk1 (w29s.k fk_zMc_31)) (zfvi rfl ((w29F 31 2 rfl).trans ((zIoj (by decide)).trans rfl))) ?_
    refine zs_iconst (pc := 31) t58_31 (v := 1) (by decide) ?_
    obtain ⟨w31v, w31e, w31⟩ := ziadd (a := (zI M 31 2)) (b := (1 : Int32)) rfl li1 (by omega) (by omega)
    refine zs_iadd (pc := 32) t58_32 (c := w31v) w31e ?_
    refine zs_bipush (pc := 33) t58_33 (v := 8) (by decide) ?_
    refine zs_invS (pc := 35) (as := [.int w31v, .int (8 : Int32)]) (st := [.ref 31]) t58_35 (by decide) mf20 rfl rfl ⟨by decide, by decide, Nat.le_of_ble_eq_true rfl, Nat.le_of_ble_eq_true rfl⟩ (zs_in (by decide) mf20 (Nat.le_of_ble_eq_true rfl) ?_) (fun _ _ q => q)
    show zGo X l 0 0 0 20 0 [(0, .int w31v), (1, .int (8 : Int32))] [] w29M _
    refine zs_iload_n (pc := 0) t20_0 rfl ?_
    refine zs_iload_n (pc := 1) t20_1 rfl ?_
    by_cases w32 : 8 < ((zI M 31 2).toInt + 1)
    · refine zs_icmp_gtT (pc := 2) t20_2 w31 li8 (by omega) ?_
      refine zs_iload_n (pc := 9) t20_9 rfl ?_
      refine zs_iret (pc := 10) t20_10 mr20 (by decide) ?_
      show zGo X l 3 0 0 58 38 [(0, .ref 31), (1, .ref 7)] [.int (8 : Int32), .ref 31] w29M _
      have w33 : zIv cLo cHi (zsI w29M 31 2 (8 : Int32)) := zIv.put w29I (show 0 ≤ (8 : Int32).toInt ∧ (8 : Int32).toInt ≤ 8 from ⟨by decide, by decide⟩)
      refine zs_putI (pc := 38) t58_38 (zk1 (w29s.k fk_zMc_31)) rfl ?_
      have w34 : (zI (zsI M 31 1 w9v) 31 1).toInt = w9v.toInt := (congrArg Int32.toInt zIs).trans rfl
      have w35 : (zI (zsI M 31 1 w9v) 31 2).toInt = (zI M 31 2).toInt := (congrArg Int32.toInt ((zIoj (by decide)).trans rfl)).trans rfl
      obtain ⟨w36n, w36⟩ : ∃ n : Nat, (zI M 31 1).toInt = (n : Int) := ⟨((zI M 31 1).toInt).toNat, by omega⟩
      have w37 : (zI (zsI w29M 31 2 (8 : Int32)) 31 1).toInt = w9v.toInt := (congrArg Int32.toInt ((zIoj (by decide)).trans ((w29F 31 1 rfl).trans zIs))).trans rfl
      have w38 : (zI (zsI w29M 31 2 (8 : Int32)) 31 2).toInt = 8 := (congrArg Int32.toInt zIs).trans li8
      have g1 := x1.1
      have g2 := nP.e (n := n)
      exact zs_vret (pc := 41) t58_41 mr58 (hQ _ w29s w33 ((((zFr.refl).put rfl).trans (w29F.mono rfl)).put rfl) (zHC.push (q := w36n) (q' := 1) x1 (by omega) (by omega) (by omega) (by omega) (by omega) (by omega) (by omega) (zSo.fr w29x0 (zEq.put rfl)) (fun k j k1 k2 k3 => ((zIo (by omega)).trans ((w29F k j (zoC (by omega) (zoC (by omega) rfl))).trans (zIo (by omega)))))))
    · refine zs_icmp_gtF (pc := 2) t20_2 w31 li8 (by omega) ?_
      refine zs_iload_n (pc := 5) t20_5 rfl ?_
      refine zs_goto (pc := 6) t20_6 ?_
      refine zs_iret (pc := 10) t20_10 mr20 rfl ?_
      show zGo X l 3 0 0 58 38 [(0, .ref 31), (1, .ref 7)] [.int w31v, .ref 31] w29M _
      have w39 : zIv cLo cHi (zsI w29M 31 2 w31v) := zIv.put w29I (show 0 ≤ w31v.toInt ∧ w31v.toInt ≤ 8 from ⟨by omega, by omega⟩)
      refine zs_putI (pc := 38) t58_38 (zk1 (w29s.k fk_zMc_31)) rfl ?_
      have w40 : (zI (zsI M 31 1 w9v) 31 1).toInt = w9v.toInt := (congrArg Int32.toInt zIs).trans rfl
      have w41 : (zI (zsI M 31 1 w9v) 31 2).toInt = (zI M 31 2).toInt := (congrArg Int32.toInt ((zIoj (by decide)).trans rfl)).trans rfl
      obtain ⟨w42n, w42⟩ : ∃ n : Nat, (zI M 31 1).toInt = (n : Int) := ⟨((zI M 31 1).toInt).toNat, by omega⟩
      have w43 : (zI (zsI w29M 31 2 w31v) 31 1).toInt = w9v.toInt := (congrArg Int32.toInt ((zIoj (by decide)).trans ((w29F 31 1 rfl).trans zIs))).trans rfl
      have w44 : (zI (zsI w29M 31 2 w31v) 31 2).toInt = ((zI M 31 2).toInt + 1) := (congrArg Int32.toInt zIs).trans w31
      have g1 := x1.1
      have g2 := nP.e (n := n)
      exact zs_vret (pc := 41) t58_41 mr58 (hQ _ w29s w39 ((((zFr.refl).put rfl).trans (w29F.mono rfl)).put rfl) (zHC.push (q := w42n) (q' := 1) x1 (by omega) (by omega) (by omega) (by omega) (by omega) (by omega) (by omega) (zSo.fr w29x0 (zEq.put rfl)) (fun k j k1 k2 k3 => ((zIo (by omega)).trans ((w29F k j (zoC (by omega) (zoC (by omega) rfl))).trans (zIo (by omega)))))))
  by_cases w45 : w9v.toInt = 2
  · refine zs_aald (pc := 21) t58_21 (j := 2) (Or.inl (zk1 (hs.k fk_zMc_32))) ((rfl : w9v.toInt = w9v.toInt).trans w45) (zk2 (hs.k fk_zMc_32) (by decide)) (hs.a fp_zMc_32_2) ?_
    refine zs_aload_n (pc := 22) t58_22 rfl ?_
    refine zs_invV (pc := 23) (k := 59) (as' := [.ref 7]) (st := []) t58_23 mf23 rfl rfl (Or.inl ⟨by decide, (zk1 (hs.k fk_zMc_59))⟩) ⟨by decide, by decide, Nat.le_of_ble_eq_true rfl, Nat.le_of_ble_eq_true rfl⟩ (X23_59_7 hs w10 (zSo.fr x0 (zEq.put rfl)) ?_) (fun _ _ q => q)
    intro w46M w46s w46I w46F w46x0
    show zGo X l 3 0 0 58 26 [(0, .ref 31), (1, .ref 7)] [] w46M _
    refine zs_aload_n (pc := 26) t58_26 rfl ?_
    refine zs_aload_n (pc := 27) t58_27 rfl ?_
    have w47 := ib31_2 hI
    refine zs_get (pc := 28) t58_28 (by decide) (zk1 (w46s.k fk_zMc_31)) (zfvi rfl ((w46F 31 2 rfl).trans ((zIoj (by decide)).trans rfl))) ?_
    refine zs_iconst (pc := 31) t58_31 (v := 1) (by decide) ?_
    obtain ⟨w48v, w48e, w48⟩ := ziadd (a := (zI M 31 2)) (b := (1 : Int32)) rfl li1 (by omega) (by omega)
    refine zs_iadd (pc := 32) t58_32 (c := w48v) w48e ?_
    refine zs_bipush (pc := 33) t58_33 (v := 8) (by decide) ?_
    refine zs_invS (pc := 35) (as := [.int w48v, .int (8 : Int32)]) (st := [.ref 31]) t58_35 (by decide) mf20 rfl rfl ⟨by decide, by decide, Nat.le_of_ble_eq_true rfl, Nat.le_of_ble_eq_true rfl⟩ (zs_in (by decide) mf20 (Nat.le_of_ble_eq_true rfl) ?_) (fun _ _ q => q)
    show zGo X l 0 0 0 20 0 [(0, .int w48v), (1, .int (8 : Int32))] [] w46M _
    refine zs_iload_n (pc := 0) t20_0 rfl ?_
    refine zs_iload_n (pc := 1) t20_1 rfl ?_
    by_cases w49 : 8 < ((zI M 31 2).toInt + 1)
    · refine zs_icmp_gtT (pc := 2) t20_2 w48 li8 (by omega) ?_
      refine zs_iload_n (pc := 9) t20_9 rfl ?_
      refine zs_iret (pc := 10) t20_10 mr20 (by decide) ?_
      show zGo X l 3 0 0 58 38 [(0, .ref 31), (1, .ref 7)] [.int (8 : Int32), .ref 31] w46M _
      have w50 : zIv cLo cHi (zsI w46M 31 2 (8 : Int32)) := zIv.put w46I (show 0 ≤ (8 : Int32).toInt ∧ (8 : Int32).toInt ≤ 8 from ⟨by decide, by decide⟩)
      refine zs_putI (pc := 38) t58_38 (zk1 (w46s.k fk_zMc_31)) rfl ?_
      have w51 : (zI (zsI M 31 1 w9v) 31 1).toInt = w9v.toInt := (congrArg Int32.toInt zIs).trans rfl
      have w52 : (zI (zsI M 31 1 w9v) 31 2).toInt = (zI M 31 2).toInt := (congrArg Int32.toInt ((zIoj (by decide)).trans rfl)).trans rfl
      obtain ⟨w53n, w53⟩ : ∃ n : Nat, (zI M 31 1).toInt = (n : Int) := ⟨((zI M 31 1).toInt).toNat, by omega⟩
      have w54 : (zI (zsI w46M 31 2 (8 : Int32)) 31 1).toInt = w9v.toInt := (congrArg Int32.toInt ((zIoj (by decide)).trans ((w46F 31 1 rfl).trans zIs))).trans rfl
      have w55 : (zI (zsI w46M 31 2 (8 : Int32)) 31 2).toInt = 8 := (congrArg Int32.toInt zIs).trans li8
      have g1 := x1.1
      have g2 := nP.e (n := n)
      exact zs_vret (pc := 41) t58_41 mr58 (hQ _ w46s w50 ((((zFr.refl).put rfl).trans (w46F.mono rfl)).put rfl) (zHC.push (q := w53n) (q' := 2) x1 (by omega) (by omega) (by omega) (by omega) (by omega) (by omega) (by omega) (zSo.fr w46x0 (zEq.put rfl)) (fun k j k1 k2 k3 => ((zIo (by omega)).trans ((w46F k j (zoC (by omega) (zoC (by omega) rfl))).trans (zIo (by omega)))))))
    · refine zs_icmp_gtF (pc := 2) t20_2 w48 li8 (by omega) ?_
      refine zs_iload_n (pc := 5) t20_5 rfl ?_
      refine zs_goto (pc := 6) t20_6 ?_
      refine zs_iret (pc := 10) t20_10 mr20 rfl ?_
      show zGo X l 3 0 0 58 38 [(0, .ref 31), (1, .ref 7)] [.int w48v, .ref 31] w46M _
      have w56 : zIv cLo cHi (zsI w46M 31 2 w48v) := zIv.put w46I (show 0 ≤ w48v.toInt ∧ w48v.toInt ≤ 8 from ⟨by omega, by omega⟩)
      refine zs_putI (pc := 38) t58_38 (zk1 (w46s.k fk_zMc_31)) rfl ?_
      have w57 : (zI (zsI M 31 1 w9v) 31 1).toInt = w9v.toInt := (congrArg Int32.toInt zIs).trans rfl
      have w58 : (zI (zsI M 31 1 w9v) 31 2).toInt = (zI M 31 2).toInt := (congrArg Int32.toInt ((zIoj (by decide)).trans rfl)).trans rfl
      obtain ⟨w59n, w59⟩ : ∃ n : Nat, (zI M 31 1).toInt = (n : Int) := ⟨((zI M 31 1).toInt).toNat, by omega⟩
      have w60 : (zI (zsI w46M 31 2 w48v) 31 1).toInt = w9v.toInt := (congrArg Int32.toInt ((zIoj (by decide)).trans ((w46F 31 1 rfl).trans zIs))).trans rfl
      have w61 : (zI (zsI w46M 31 2 w48v) 31 2).toInt = ((zI M 31 2).toInt + 1) := (congrArg Int32.toInt zIs).trans w48
      have g1 := x1.1
      have g2 := nP.e (n := n)
      exact zs_vret (pc := 41) t58_41 mr58 (hQ _ w46s w56 ((((zFr.refl).put rfl).trans (w46F.mono rfl)).put rfl) (zHC.push (q := w59n) (q' := 2) x1 (by omega) (by omega) (by omega) (by omega) (by omega) (by omega) (by omega) (zSo.fr w46x0 (zEq.put rfl)) (fun k j k1 k2 k3 => ((zIo (by omega)).trans ((w46F k j (zoC (by omega) (zoC (by omega) rfl))).trans (zIo (by omega)))))))
  by_cases w62 : w9v.toInt = 3
  · refine zs_aald (pc := 21) t58_21 (j := 3) (Or.inl (zk1 (hs.k fk_zMc_32))) ((rfl : w9v.toInt = w9v.toInt).trans w62) (zk2 (hs.k fk_zMc_32) (by decide)) (hs.a fp_zMc_32_3) ?_
    refine zs_aload_n (pc := 22) t58_22 rfl ?_
    refine zs_invV (pc := 23) (k := 71) (as' := [.ref 7]) (st := []) t58_23 mf23 rfl rfl (Or.inl ⟨by decide, (zk1 (hs.k fk_zMc_71))⟩) ⟨by decide, by decide, Nat.le_of_ble_eq_true rfl, Nat.le_of_ble_eq_true rfl⟩ (X23_71_7 hs w10 (zSo.fr x0 (zEq.put rfl)) ?_) (fun _ _ q => q)
    intro w63M w63s w63I w63F w63x0
    show zGo X l 3 0 0 58 26 [(0, .ref 31), (1, .ref 7)] [] w63M _
    refine zs_aload_n (pc := 26) t58_26 rfl ?_
    refine zs_aload_n (pc := 27) t58_27 rfl ?_
    have w64 := ib31_2 hI
    refine zs_get (pc := 28) t58_28 (by decide) (zk1 (w63s.k fk_zMc_31)) (zfvi rfl ((w63F 31 2 rfl).trans ((zIoj (by decide)).trans rfl))) ?_
    refine zs_iconst (pc := 31) t58_31 (v := 1) (by decide) ?_
    obtain ⟨w65v, w65e, w65⟩ := ziadd (a := (zI M 31 2)) (b := (1 : Int32)) rfl li1 (by omega) (by omega)
    refine zs_iadd (pc := 32) t58_32 (c := w65v) w65e ?_
    refine zs_bipush (pc := 33) t58_33 (v := 8) (by decide) ?_
    refine zs_invS (pc := 35) (as := [.int w65v, .int (8 : Int32)]) (st := [.ref 31]) t58_35 (by decide) mf20 rfl rfl ⟨by decide, by decide, Nat.le_of_ble_eq_true rfl, Nat.le_of_ble_eq_true rfl⟩ (zs_in (by decide) mf20 (Nat.le_of_ble_eq_true rfl) ?_) (fun _ _ q => q)
    show zGo X l 0 0 0 20 0 [(0, .int w65v), (1, .int (8 : Int32))] [] w63M _
    refine zs_iload_n (pc := 0) t20_0 rfl ?_
    refine zs_iload_n (pc := 1) t20_1 rfl ?_
    by_cases w66 : 8 < ((zI M 31 2).toInt + 1)
    · refine zs_icmp_gtT (pc := 2) t20_2 w65 li8 (by omega) ?_
      refine zs_iload_n (pc := 9) t20_9 rfl ?_
      refine zs_iret (pc := 10) t20_10 mr20 (by decide) ?_
      show zGo X l 3 0 0 58 38 [(0, .ref 31), (1, .ref 7)] [.int (8 : Int32), .ref 31] w63M _
      have w67 : zIv cLo cHi (zsI w63M 31 2 (8 : Int32)) := zIv.put w63I (show 0 ≤ (8 : Int32).toInt ∧ (8 : Int32).toInt ≤ 8 from ⟨by decide, by decide⟩)
      refine zs_putI (pc := 38) t58_38 (zk1 (w63s.k fk_zMc_31)) rfl ?_
      have w68 : (zI (zsI M 31 1 w9v) 31 1).toInt = w9v.toInt := (congrArg Int32.toInt zIs).trans rfl
      have w69 : (zI (zsI M 31 1 w9v) 31 2).toInt = (zI M 31 2).toInt := (congrArg Int32.toInt ((zIoj (by decide)).trans rfl)).trans rfl
      obtain ⟨w70n, w70⟩ : ∃ n : Nat, (zI M 31 1).toInt = (n : Int) := ⟨((zI M 31 1).toInt).toNat, by omega⟩
      have w71 : (zI (zsI w63M 31 2 (8 : Int32)) 31 1).toInt = w9v.toInt := (congrArg Int32.toInt ((zIoj (by decide)).trans ((w63F 31 1 rfl).trans zIs))).trans rfl
      have w72 : (zI (zsI w63M 31 2 (8 : Int32)) 31 2).toInt = 8 := (congrArg Int32.toInt zIs).trans li8
      have g1 := x1.1
      have g2 := nP.e (n := n)
      exact zs_vret (pc := 41) t58_41 mr58 (hQ _ w63s w67 ((((zFr.refl).put rfl).trans (w63F.mono rfl)).put rfl) (zHC.push (q := w70n) (q' := 3) x1 (by omega) (by omega) (by omega) (by omega) (by omega) (by omega) (by omega) (zSo.fr w63x0 (zEq.put rfl)) (fun k j k1 k2 k3 => ((zIo (by omega)).trans ((w63F k j (zoC (by omega) (zoC (by omega) rfl))).trans (zIo (by omega)))))))
    · refine zs_icmp_gtF (pc := 2) t20_2 w65 li8 (by omega) ?_
      refine zs_iload_n (pc := 5) t20_5 rfl ?_
      refine zs_goto (pc := 6) t20_6 ?_
      refine zs_iret (pc := 10) t20_10 mr20 rfl ?_
      show zGo X l 3 0 0 58 38 [(0, .ref 31), (1, .ref 7)] [.int w65v, .ref 31] w63M _
      have w73 : zIv cLo cHi (zsI w63M 31 2 w65v) := zIv.put w63I (show 0 ≤ w65v.toInt ∧ w65v.toInt ≤ 8 from ⟨by omega, by omega⟩)
      refine zs_putI (pc := 38) t58_38 (zk1 (w63s.k fk_zMc_31)) rfl ?_
      have w74 : (zI (zsI M 31 1 w9v) 31 1).toInt = w9v.toInt := (congrArg Int32.toInt zIs).trans rfl
      have w75 : (zI (zsI M 31 1 w9v) 31 2).toInt = (zI M 31 2).toInt := (congrArg Int32.toInt ((zIoj (by decide)).trans rfl)).trans rfl
      obtain ⟨w76n, w76⟩ : ∃ n : Nat, (zI M 31 1).toInt = (n : Int) := ⟨((zI M 31 1).toInt).toNat, by omega⟩
      have w77 : (zI (zsI w63M 31 2 w65v) 31 1).toInt = w9v.toInt := (congrArg Int32.toInt ((zIoj (by decide)).trans ((w63F 31 1 rfl).trans zIs))).trans rfl
      have w78 : (zI (zsI w63M 31 2 w65v) 31 2).toInt = ((zI M 31 2).toInt + 1) := (congrArg Int32.toInt zIs).trans w65
      have g1 := x1.1
      have g2 := nP.e (n := n)
      exact zs_vret (pc := 41) t58_41 mr58 (hQ _ w63s w73 ((((zFr.refl).put rfl).trans (w63F.mono rfl)).put rfl) (zHC.push (q := w76n) (q' := 3) x1 (by omega) (by omega) (by omega) (by omega) (by omega) (by omega) (by omega) (zSo.fr w63x0 (zEq.put rfl)) (fun k j k1 k2 k3 => ((zIo (by omega)).trans ((w63F k j (zoC (by omega) (zoC (by omega) rfl))).trans (zIo (by omega)))))))
  by_cases w79 : w9v.toInt = 4
  · refine zs_aald (pc := 21) t58_21 (j := 4) (Or.inl (zk1 (hs.k fk_zMc_32))) ((rfl : w9v.toInt = w9v.toInt).trans w79) (zk2 (hs.k fk_zMc_32) (by decide)) (hs.a fp_zMc_32_4) ?_
    refine zs_aload_n (pc := 22) t58_22 rfl ?_
    refine zs_invV (pc := 23) (k := 83) (as' := [.ref 7]) (st := []) t58_23 mf23 rfl rfl (Or.inl ⟨by decide, (zk1 (hs.k fk_zMc_83))⟩) ⟨by decide, by decide, Nat.le_of_ble_eq_true rfl, Nat.le_of_ble_eq_true rfl⟩ (X23_83_7 hs w10 (zSo.fr x0 (zEq.put rfl)) ?_) (fun _ _ q => q)
    intro w80M w80s w80I w80F w80x0
    show zGo X l 3 0 0 58 26 [(0, .ref 31), (1, .ref 7)] [] w80M _
    refine zs_aload_n (pc := 26) t58_26 rfl ?_
    refine zs_aload_n (pc := 27) t58_27 rfl ?_
    have w81 := ib31_2 hI
    refine zs_get (pc := 28) t58_28 (by decide) (zk1 (w80s.k fk_zMc_31)) (zfvi rfl ((w80F 31 2 rfl).trans ((zIoj (by decide)).trans rfl))) ?_
    refine zs_iconst (pc := 31) t58_31 (v := 1) (by decide) ?_
    obtain ⟨w82v, w82e, w82⟩ := ziadd (a := (zI M 31 2)) (b := (1 : Int32)) rfl li1 (by omega) (by omega)
    refine zs_iadd (pc := 32) t58_32 (c := w82v) w82e ?_
    refine zs_bipush (pc := 33) t58_33 (v := 8) (by decide) ?_
    refine zs_invS (pc := 35) (as := [.int w82v, .int (8 : Int32)]) (st := [.ref 31]) t58_35 (by decide) mf20 rfl rfl ⟨by decide, by decide, Nat.le_of_ble_eq_true rfl, Nat.le_of_ble_eq_true rfl⟩ (zs_in (by decide) mf20 (Nat.le_of_ble_eq_true rfl) ?_) (fun _ _ q => q)
    show zGo X l 0 0 0 20 0 [(0, .int w82v), (1, .int (8 : Int32))] [] w80M _
    refine zs_iload_n (pc := 0) t20_0 rfl ?_
    refine zs_iload_n (pc := 1) t20_1 rfl ?_
    by_cases w83 : 8 < ((zI M 31 2).toInt + 1)
    · refine zs_icmp_gtT (pc := 2) t20_2 w82 li8 (by omega) ?_
      refine zs_iload_n (pc := 9) t20_9 rfl ?_
      refine zs_iret (pc := 10) t20_10 mr20 (by decide) ?_
      show zGo X l 3 0 0 58 38 [(0, .ref 31), (1, .ref 7)] [.int (8 : Int32), .ref 31] w80M _
      have w84 : zIv cLo cHi (zsI w80M 31 2 (8 : Int32)) := zIv.put w80I (show 0 ≤ (8 : Int32).toInt ∧ (8 : Int32).toInt ≤ 8 from ⟨by decide, by decide⟩)
      refine zs_putI (pc := 38) t58_38 (zk1 (w80s.k fk_zMc_31)) rfl ?_
      have w85 : (zI (zsI M 31 1 w9v) 31 1).toInt = w9v.toInt := (congrArg Int32.toInt zIs).trans rfl
      have w86 : (zI (zsI M 31 1 w9v) 31 2).toInt = (zI M 31 2).toInt := (congrArg Int32.toInt ((zIoj (by decide)).trans rfl)).trans rfl
      obtain ⟨w87n, w87⟩ : ∃ n : Nat, (zI M 31 1).toInt = (n : Int) := ⟨((zI M 31 1).toInt).toNat, by omega⟩
      have w88 : (zI (zsI w80M 31 2 (8 : Int32)) 31 1).toInt = w9v.toInt := (congrArg Int32.toInt ((zIoj (by decide)).trans ((w80F 31 1 rfl).trans zIs))).trans rfl
      have w89 : (zI (zsI w80M 31 2 (8 : Int32)) 31 2).toInt = 8 := (congrArg Int32.toInt zIs).trans li8
      have g1 := x1.1
      have g2 := nP.e (n := n)
      exact zs_vret (pc := 41) t58_41 mr58 (hQ _ w80s w84 ((((zFr.refl).put rfl).trans (w80F.mono rfl)).put rfl) (zHC.push (q := w87n) (q' := 4) x1 (by omega) (by omega) (by omega) (by omega) (by omega) (by omega) (by omega) (zSo.fr w80x0 (zEq.put rfl)) (fun k j k1 k2 k3 => ((zIo (by omega)).trans ((w80F k j (zoC (by omega) (zoC (by omega) rfl))).trans (zIo (by omega)))))))
    · refine zs_icmp_gtF (pc := 2) t20_2 w82 li8 (by omega) ?_
      refine zs_iload_n (pc := 5) t20_5 rfl ?_
      refine zs_goto (pc := 6) t20_6 ?_
      refine zs_iret (pc := 10) t20_10 mr20 rfl ?_
      show zGo X l 3 0 0 58 38 [(0, .ref 31), (1, .ref 7)] [.int w82v, .ref 31] w80M _
      have w90 : zIv cLo cHi (zsI w80M 31 2 w82v) := zIv.put w80I (show 0 ≤ w82v.toInt ∧ w82v.toInt ≤ 8 from ⟨by omega, by omega⟩)
      refine zs_putI (pc := 38) t58_38 (zk1 (w80s.k fk_zMc_31)) rfl ?_
      have w91 : (zI (zsI M 31 1 w9v) 31 1).toInt = w9v.toInt := (congrArg Int32.toInt zIs).trans rfl
      have w92 : (zI (zsI M 31 1 w9v) 31 2).toInt = (zI M 31 2).toInt := (congrArg Int32.toInt ((zIoj (by decide)).trans rfl)).trans rfl
      obtain ⟨w93n, w93⟩ : ∃ n : Nat, (zI M 31 1).toInt = (n : Int) := ⟨((zI M 31 1).toInt).toNat, by omega⟩
      have w94 : (zI (zsI w80M 31 2 w82v) 31 1).toInt = w9v.toInt := (congrArg Int32.toInt ((zIoj (by decide)).trans ((w80F 31 1 rfl).trans zIs))).trans rfl
      have w95 : (zI (zsI w80M 31 2 w82v) 31 2).toInt = ((zI M 31 2).toInt + 1) := (congrArg Int32.toInt zIs).trans w82
      have g1 := x1.1
      have g2 := nP.e (n := n)
      exact zs_vret (pc := 41) t58_41 mr58 (hQ _ w80s w90 ((((zFr.refl).put rfl).trans (w80F.mono rfl)).put rfl) (zHC.push (q := w93n) (q' := 4) x1 (by omega) (by omega) (by omega) (by omega) (by omega) (by omega) (by omega) (zSo.fr w80x0 (zEq.put rfl)) (fun k j k1 k2 k3 => ((zIo (by omega)).trans ((w80F k j (zoC (by omega) (zoC (by omega) rfl))).trans (zIo (by omega)))))))
  by_cases w96 : w9v.toInt = 5
  · refine zs_aald (pc := 21) t58_21 (j := 5) (Or.inl (zk1 (hs.k fk_zMc_32))) ((rfl : w9v.toInt = w9v.toInt).trans w96) (zk2 (hs.k fk_zMc_32) (by decide)) (hs.a fp_zMc_32_5) ?_
    refine zs_aload_n (pc := 22) t58_22 rfl ?_
    refine zs_invV (pc := 23) (k := 95) (as' := [.ref 7]) (st := []) t58_23 mf23 rfl rfl (Or.inl ⟨by decide, (zk1 (hs.k fk_zMc_95))⟩) ⟨by decide, by decide, Nat.le_of_ble_eq_true rfl, Nat.le_of_ble_eq_true rfl⟩ (X23_95_7 hs w10 (zSo.fr x0 (zEq.put rfl)) ?_) (fun _ _ q => q)
    intro w97M w97s w97I w97F w97x0
    show zGo X l 3 0 0 58 26 [(0, .ref 31), (1, .ref 7)] [] w97M _
    refine zs_aload_n (pc := 26) t58_26 rfl ?_
    refine zs_aload_n (pc := 27) t58_27 rfl ?_
    have w98 := ib31_2 hI
    refine zs_get (pc := 28) t58_28 (by decide) (zk1 (w97s.k fk_zMc_31)) (zfvi rfl ((w97F 31 2 rfl).trans ((zIoj (by decide)).trans rfl))) ?_
    refine zs_iconst (pc := 31) t58_31 (v := 1) (by decide) ?_
    obtain ⟨w99v, w99e, w99⟩ := ziadd (a := (zI M 31 2)) (b := (1 : Int32)) rfl li1 (by omega) (by omega)
    refine zs_iadd (pc := 32) t58_32 (c := w99v) w99e ?_
    refine zs_bipush (pc := 33) t58_33 (v := 8) (by decide) ?_
    refine zs_invS (pc := 35) (as := [.int w99v, .int (8 : Int32)]) (st := [.ref 31]) t58_35 (by decide) mf20 rfl rfl ⟨by decide, by decide, Nat.le_of_ble_eq_true rfl, Nat.le_of_ble_eq_true rfl⟩ (zs_in (by decide) mf20 (Nat.le_of_ble_eq_true rfl) ?_) (fun _ _ q => q)
    show zGo X l 0 0 0 20 0 [(0, .int w99v), (1, .int (8 : Int32))] [] w97M _
    refine zs_iload_n (pc := 0) t20_0 rfl ?_
    refine zs_iload_n (pc := 1) t20_1 rfl ?_
    by_cases w100 : 8 < ((zI M 31 2).toInt + 1)
    · refine zs_icmp_gtT (pc := 2) t20_2 w99 li8 (by omega) ?_
      refine zs_iload_n (pc := 9) t20_9 rfl ?_
      refine zs_iret (pc := 10) t20_10 mr20 (by decide) ?_
      show zGo X l 3 0 0 58 38 [(0, .ref 31), (1, .ref 7)] [.int (8 : Int32), .ref 31] w97M _
      have w101 : zIv cLo cHi (zsI w97M 31 2 (8 : Int32)) := zIv.put w97I (show 0 ≤ (8 : Int32).toInt ∧ (8 : Int32).toInt ≤ 8 from ⟨by decide, by decide⟩)
      refine zs_putI (pc := 38) t58_38 (zk1 (w97s.k fk_zMc_31)) rfl ?_
      have w102 : (zI (zsI M 31 1 w9v) 31 1).toInt = w9v.toInt := (congrArg Int32.toInt zIs).trans rfl
      have w103 : (zI (zsI M 31 1 w9v) 31 2).toInt = (zI M 31 2).toInt := (congrArg Int32.toInt ((zIoj (by decide)).trans rfl)).trans rfl
      obtain ⟨w104n, w104⟩ : ∃ n : Nat, (zI M 31 1).toInt = (n : Int) := ⟨((zI M 31 1).toInt).toNat, by omega⟩
      have w105 : (zI (zsI w97M 31 2 (8 : Int32)) 31 1).toInt = w9v.toInt := (congrArg Int32.toInt ((zIoj (by decide)).trans ((w97F 31 1 rfl).trans zIs))).trans rfl
      have w106 : (zI (zsI w97M 31 2 (8 : Int32)) 31 2).toInt = 8 := (congrArg Int32.toInt zIs).trans li8
      have g1 := x1.1
      have g2 := nP.e (n := n)
      exact zs_vret (pc := 41) t58_41 mr58 (hQ _ w97s w101 ((((zFr.refl).put rfl).trans (w97F.mono rfl)).put rfl) (zHC.push (q := w104n) (q' := 5) x1 (by omega) (by omega) (by omega) (by omega) (by omega) (by omega) (by omega) (zSo.fr w97x0 (zEq.put rfl)) (fun k j k1 k2 k3 => ((zIo (by omega)).trans ((w97F k j (zoC (by omega) (zoC (by omega) rfl))).trans (zIo (by omega)))))))
    · refine zs_icmp_gtF (pc := 2) t20_2 w99 li8 (by omega) ?_
      refine zs_iload_n (pc := 5) t20_5 rfl ?_
      refine zs_goto (pc := 6) t20_6 ?_
      refine zs_iret (pc := 10) t20_10 mr20 rfl ?_
      show zGo X l 3 0 0 58 38 [(0, .ref 31), (1, .ref 7)] [.int w99v, .ref 31] w97M _
      have w107 : zIv cLo cHi (zsI w97M 31 2 w99v) := zIv.put w97I (show 0 ≤ w99v.toInt ∧ w99v.toInt ≤ 8 from ⟨by omega, by omega⟩)
      refine zs_putI (pc := 38) t58_38 (zk1 (w97s.k fk_zMc_31)) rfl ?_
      have w108 : (zI (zsI M 31 1 w9v) 31 1).toInt = w9v.toInt := (congrArg Int32.toInt zIs).trans rfl
      have w109 : (zI (zsI M 31 1 w9v) 31 2).toInt = (zI M 31 2).toInt := (congrArg Int32.toInt ((zIoj (by decide)).trans rfl)).trans rfl
      obtain ⟨w110n, w110⟩ : ∃ n : Nat, (zI M 31 1).toInt = (n : Int) := ⟨((zI M 31 1).toInt).toNat, by omega⟩
      have w111 : (zI (zsI w97M 31 2 w99v) 31 1).toInt = w9v.toInt := (congrArg Int32.toInt ((zIoj (by decide)).trans ((w97F 31 1 rfl).trans zIs))).trans rfl
      have w112 : (zI (zsI w97M 31 2 w99v) 31 2).toInt = ((zI M 31 2).toInt + 1) := (congrArg Int32.toInt zIs).trans w99
      have g1 := x1.1
      have g2 := nP.e (n := n)
      exact zs_vret (pc := 41) t58_41 mr58 (hQ _ w97s w107 ((((zFr.refl).put rfl).trans (w97F.mono rfl)).put rfl) (zHC.push (q := w110n) (q' := 5) x1 (by omega) (by omega) (by omega) (by omega) (by omega) (by omega) (by omega) (zSo.fr w97x0 (zEq.put rfl)) (fun k j k1 k2 k3 => ((zIo (by omega)).trans ((w97F k j (zoC (by omega) (zoC (by omega) rfl))).trans (zIo (by omega)))))))
  by_cases w113 : w9v.toInt = 6
  · refine zs_aald (pc := 21) t58_21 (j := 6) (Or.inl (zk1 (hs.k fk_zMc_32))) ((rfl : w9v.toInt = w9v.toInt).trans w113) (zk2 (hs.k fk_zMc_32) (by decide)) (hs.a fp_zMc_32_6) ?_
    refine zs_aload_n (pc := 22) t58_22 rfl ?_
    refine zs_invV (pc := 23) (k := 107) (as' := [.ref 7]) (st := []) t58_23 mf23 rfl rfl (Or.inl ⟨by decide, (zk1 (hs.k fk_zMc_107))⟩) ⟨by decide, by decide, Nat.le_of_ble_eq_true rfl, Nat.le_of_ble_eq_true rfl⟩ (X23_107_7 hs w10 (zSo.fr x0 (zEq.put rfl)) ?_) (fun _ _ q => q)
    intro w114M w114s w114I w114F w114x0
    show zGo X l 3 0 0 58 26 [(0, .ref 31), (1, .ref 7)] [] w114M _
    refine zs_aload_n (pc := 26) t58_26 rfl ?_
    refine zs_aload_n (pc := 27) t58_27 rfl ?_
    have w115 := ib31_2 hI
    refine zs_get (pc := 28) t58_28 (by decide) (zk1 (w114s.k fk_zMc_31)) (zfvi rfl ((w114F 31 2 rfl).trans ((zIoj (by decide)).trans rfl))) ?_
    refine zs_iconst (pc := 31) t58_31 (v := 1) (by decide) ?_
    obtain ⟨w116v, w116e, w116⟩ := ziadd (a := (zI M 31 2)) (b := (1 : Int32)) rfl li1 (by omega) (by omega)
    refine zs_iadd (pc := 32) t58_32 (c := w116v) w116e ?_
    refine zs_bipush (pc := 33) t58_33 (v := 8) (by decide) ?_
    refine zs_invS (pc := 35) (as := [.int w116v, .int (8 : Int32)]) (st := [.ref 31]) t58_35 (by decide) mf20 rfl rfl ⟨by decide, by decide, Nat.le_of_ble_eq_true rfl, Nat.le_of_ble_eq_true rfl⟩ (zs_in (by decide) mf20 (Nat.le_of_ble_eq_true rfl) ?_) (fun _ _ q => q)
    show zGo X l 0 0 0 20 0 [(0, .int w116v), (1, .int (8 : Int32))] [] w114M _
    refine zs_iload_n (pc := 0) t20_0 rfl ?_
    refine zs_iload_n (pc := 1) t20_1 rfl ?_
    by_cases w117 : 8 < ((zI M 31 2).toInt + 1)
    · refine zs_icmp_gtT (pc := 2) t20_2 w116 li8 (by omega) ?_
      refine zs_iload_n (pc := 9) t20_9 rfl ?_
      refine zs_iret (pc := 10) t20_10 mr20 (by decide) ?_
      show zGo X l 3 0 0 58 38 [(0, .ref 31), (1, .ref 7)] [.int (8 : Int32), .ref 31] w114M _
      have w118 : zIv cLo cHi (zsI w114M 31 2 (8 : Int32)) := zIv.put w114I (show 0 ≤ (8 : Int32).toInt ∧ (8 : Int32).toInt ≤ 8 from ⟨by decide, by decide⟩)
      refine zs_putI (pc := 38) t58_38 (zk1 (w114s.k fk_zMc_31)) rfl ?_
      have w119 : (zI (zsI M 31 1 w9v) 31 1).toInt = w9v.toInt := (congrArg Int32.toInt zIs).trans rfl
      have w120 : (zI (zsI M 31 1 w9v) 31 2).toInt = (zI M 31 2).toInt := (congrArg Int32.toInt ((zIoj (by decide)).trans rfl)).trans rfl
      obtain ⟨w121n, w121⟩ : ∃ n : Nat, (zI M 31 1).toInt = (n : Int) := ⟨((zI M 31 1).toInt).toNat, by omega⟩
      have w122 : (zI (zsI w114M 31 2 (8 : Int32)) 31 1).toInt = w9v.toInt := (congrArg Int32.toInt ((zIoj (by decide)).trans ((w114F 31 1 rfl).trans zIs))).trans rfl
      have w123 : (zI (zsI w114M 31 2 (8 : Int32)) 31 2).toInt = 8 := (congrArg Int32.toInt zIs).trans li8
      have g1 := x1.1
      have g2 := nP.e (n := n)
      exact zs_vret (pc := 41) t58_41 mr58 (hQ _ w114s w118 ((((zFr.refl).put rfl).trans (w114F.mono rfl)).put rfl) (zHC.push (q := w121n) (q' := 6) x1 (by omega) (by omega) (by omega) (by omega) (by omega) (by omega) (by omega) (zSo.fr w114x0 (zEq.put rfl)) (fun k j k1 k2 k3 => ((zIo (by omega)).trans ((w114F k j (zoC (by omega) (zoC (by omega) rfl))).trans (zIo (by omega)))))))
    · refine zs_icmp_gtF (pc := 2) t20_2 w116 li8 (by omega) ?_
      refine zs_iload_n (pc := 5) t20_5 rfl ?_
      refine zs_goto (pc := 6) t20_6 ?_
      refine zs_iret (pc := 10) t20_10 mr20 rfl ?_
      show zGo X l 3 0 0 58 38 [(0, .ref 31), (1, .ref 7)] [.int w116v, .ref 31] w114M _
      have w124 : zIv cLo cHi (zsI w114M 31 2 w116v) := zIv.put w114I (show 0 ≤ w116v.toInt ∧ w116v.toInt ≤ 8 from ⟨by omega, by omega⟩)
      refine zs_putI (pc := 38) t58_38 (zk1 (w114s.k fk_zMc_31)) rfl ?_
      have w125 : (zI (zsI M 31 1 w9v) 31 1).toInt = w9v.toInt := (congrArg Int32.toInt zIs).trans rfl
      have w126 : (zI (zsI M 31 1 w9v) 31 2).toInt = (zI M 31 2).toInt := (congrArg Int32.toInt ((zIoj (by decide)).trans rfl)).trans rfl
      obtain ⟨w127n, w127⟩ : ∃ n : Nat, (zI M 31 1).toInt = (n : Int) := ⟨((zI M 31 1).toInt).toNat, by omega⟩
      have w128 : (zI (zsI w114M 31 2 w116v) 31 1).toInt = w9v.toInt := (congrArg Int32.toInt ((zIoj (by decide)).trans ((w114F 31 1 rfl).trans zIs))).trans rfl
      have w129 : (zI (zsI w114M 31 2 w116v) 31 2).toInt = ((zI M 31 2).toInt + 1) := (congrArg Int32.toInt zIs).trans w116
      have g1 := x1.1
      have g2 := nP.e (n := n)
      exact zs_vret (pc := 41) t58_41 mr58 (hQ _ w114s w124 ((((zFr.refl).put rfl).trans (w114F.mono rfl)).put rfl) (zHC.push (q := w127n) (q' := 6) x1 (by omega) (by omega) (by omega) (by omega) (by omega) (by omega) (by omega) (zSo.fr w114x0 (zEq.put rfl)) (fun k j k1 k2 k3 => ((zIo (by omega)).trans ((w114F k j (zoC (by omega) (zoC (by omega) rfl))).trans (zIo (by omega)))))))
  have w130 : w9v.toInt = 7 := by omega
  refine zs_aald (pc := 21) t58_21 (j := 7) (Or.inl (zk1 (hs.k fk_zMc_32))) ((rfl : w9v.toInt = w9v.toInt).trans w130) (zk2 (hs.k fk_zMc_32) (by decide)) (hs.a fp_zMc_32_7) ?_
  refine zs_aload_n (pc := 22) t58_22 rfl ?_
  refine zs_invV (pc := 23) (k := 119) (as' := [.ref 7]) (st := []) t58_23 mf23 rfl rfl (Or.inl ⟨by decide, (zk1 (hs.k fk_zMc_119))⟩) ⟨by decide, by decide, Nat.le_of_ble_eq_true rfl, Nat.le_of_ble_eq_true rfl⟩ (X23_119_7 hs w10 (zSo.fr x0 (zEq.put rfl)) ?_) (fun _ _ q => q)
  intro w131M w131s w131I w131F w131x0
  show zGo X l 3 0 0 58 26 [(0, .ref 31), (1, .ref 7)] [] w131M _
  refine zs_aload_n (pc := 26) t58_26 rfl ?_
  refine zs_aload_n (pc := 27) t58_27 rfl ?_
  have w132 := ib31_2 hI
  refine zs_get (pc := 28) t58_28 (by decide) (zk1 (w131s.k fk_zMc_31)) (zfvi rfl ((w131F 31 2 rfl).trans ((zIoj (by decide)).trans rfl))) ?_
  refine zs_iconst (pc := 31) t58_31 (v := 1) (by decide) ?_
  obtain ⟨w133v, w133e, w133⟩ := ziadd (a := (zI M 31 2)) (b := (1 : Int32)) rfl li1 (by omega) (by omega)
  refine zs_iadd (pc := 32) t58_32 (c := w133v) w133e ?_
  refine zs_bipush (pc := 33) t58_33 (v := 8) (by decide) ?_
  refine zs_invS (pc := 35) (as := [.int w133v, .int (8 : Int32)]) (st := [.ref 31]) t58_35 (by decide) mf20 rfl rfl ⟨by decide, by decide, Nat.le_of_ble_eq_true rfl, Nat.le_of_ble_eq_true rfl⟩ (zs_in (by decide) mf20 (Nat.le_of_ble_eq_true rfl) ?_) (fun _ _ q => q)
  show zGo X l 0 0 0 20 0 [(0, .int w133v), (1, .int (8 : Int32))] [] w131M _
  refine zs_iload_n (pc := 0) t20_0 rfl ?_
  refine zs_iload_n (pc := 1) t20_1 rfl ?_
  by_cases w134 : 8 < ((zI M 31 2).toInt + 1)
  · refine zs_icmp_gtT (pc := 2) t20_2 w133 li8 (by omega) ?_
    refine zs_iload_n (pc := 9) t20_9 rfl ?_
    refine zs_iret (pc := 10) t20_10 mr20 (by decide) ?_
    show zGo X l 3 0 0 58 38 [(0, .ref 31), (1, .ref 7)] [.int (8 : Int32), .ref 31] w131M _
    have w135 : zIv cLo cHi (zsI w131M 31 2 (8 : Int32)) := zIv.put w131I (show 0 ≤ (8 : Int32).toInt ∧ (8 : Int32).toInt ≤ 8 from ⟨by decide, by decide⟩)
    refine zs_putI (pc := 38) t58_38 (zk1 (w131s.k fk_zMc_31)) rfl ?_
    have w136 : (zI (zsI M 31 1 w9v) 31 1).toInt = w9v.toInt := (congrArg Int32.toInt zIs).trans rfl
    have w137 : (zI (zsI M 31 1 w9v) 31 2).toInt = (zI M 31 2).toInt := (congrArg Int32.toInt ((zIoj (by decide)).trans rfl)).trans rfl
    obtain ⟨w138n, w138⟩ : ∃ n : Nat, (zI M 31 1).toInt = (n : Int) := ⟨((zI M 31 1).toInt).toNat, by omega⟩
    have w139 : (zI (zsI w131M 31 2 (8 : Int32)) 31 1).toInt = w9v.toInt := (congrArg Int32.toInt ((zIoj (by decide)).trans ((w131F 31 1 rfl).trans zIs))).trans rfl
    have w140 : (zI (zsI w131M 31 2 (8 : Int32)) 31 2).toInt = 8 := (congrArg Int32.toInt zIs).trans li8
    have g1 := x1.1
    have g2 := nP.e (n := n)
    exact zs_vret (pc := 41) t58_41 mr58 (hQ _ w131s w135 ((((zFr.refl).put rfl).trans (w131F.mono rfl)).put rfl) (zHC.push (q := w138n) (q' := 7) x1 (by omega) (by omega) (by omega) (by omega) (by omega) (by omega) (by omega) (zSo.fr w131x0 (zEq.put rfl)) (fun k j k1 k2 k3 => ((zIo (by omega)).trans ((w131F k j (zoC (by omega) (zoC (by omega) rfl))).trans (zIo (by omega)))))))
  · refine zs_icmp_gtF (pc := 2) t20_2 w133 li8 (by omega) ?_
    refine zs_iload_n (pc := 5) t20_5 rfl ?_
    refine zs_goto (pc := 6) t20_6 ?_
    refine zs_iret (pc := 10) t20_10 mr20 rfl ?_
    show zGo X l 3 0 0 58 38 [(0, .ref 31), (1, .ref 7)] [.int w133v, .ref 31] w131M _
    have w141 : zIv cLo cHi (zsI w131M 31 2 w133v) := zIv.put w131I (show 0 ≤ w133v.toInt ∧ w133v.toInt ≤ 8 from ⟨by omega, by omega⟩)
    refine zs_putI (pc := 38) t58_38 (zk1 (w131s.k fk_zMc_31)) rfl ?_
    have w142 : (zI (zsI M 31 1 w9v) 31 1).toInt = w9v.toInt := (congrArg Int32.toInt zIs).trans rfl
    have w143 : (zI (zsI M 31 1 w9v) 31 2).toInt = (zI M 31 2).toInt := (congrArg Int32.toInt ((zIoj (by decide)).trans rfl)).trans rfl
    obtain ⟨w144n, w144⟩ : ∃ n : Nat, (zI M 31 1).toInt = (n : Int) := ⟨((zI M 31 1).toInt).toNat, by omega⟩
    have w145 : (zI (zsI w131M 31 2 w133v) 31 1).toInt = w9v.toInt := (congrArg Int32.toInt ((zIoj (by decide)).trans ((w131F 31 1 rfl).trans zIs))).trans rfl
    have w146 : (zI (zsI w131M 31 2 w133v) 31 2).toInt = ((zI M 31 2).toInt + 1) := (congrArg Int32.toInt zIs).trans w133
    have g1 := x1.1
    have g2 := nP.e (n := n)
    exact zs_vret (pc := 41) t58_41 mr58 (hQ _ w131s w141 ((((zFr.refl).put rfl).trans (w131F.mono rfl)).put rfl) (zHC.push (q := w144n) (q' := 7) x1 (by omega) (by omega) (by omega) (by omega) (by omega) (by omega) (by omega) (zSo.fr w131x0 (zEq.put rfl)) (fun k j k1 k2 k3 => ((zIo (by omega)).trans ((w131F k j (zoC (by omega) (zoC (by omega) rfl))).trans (zIo (by omega)))))))
