theorem X23_7_71 {X : zX} {l : Launch} {M : zM} {Q : Option Value → zM → Prop} (hs : zSk zMc M) (hI : zIv cLo cHi M) {F : Nat → Int} (x0 : zSo M 71 F) (hQ : ∀ M', zSk zMc M' → zIv cLo cHi M' → zFr [(7, 7, none), (8, 18, none)] M M' → (zSo M' 7 F) → Q none M') : zCall X l 2 0 0 23 [.ref 7, .ref 71] M Q := by
  refine zs_in (by decide) mf23 (Nat.le_of_ble_eq_true rfl) ?_
  show zGo X l 2 0 0 23 0 [(0, .ref 7), (1, .ref 71)] [] M _
  refine zs_aload_n (pc := 0) t23_0 rfl ?_
  refine zs_aload_n (pc := 1) t23_1 rfl ?_
  have w1 := ib71_0 hI
  refine zs_get (pc := 2) t23_2 (by decide) (zk1 (hs.k fk_zMc_71)) (zfvi rfl rfl) ?_
  have w2 : zIv cLo cHi (zsI M 7 0 (zI M 71 0)) := zIv.put hI (show 0 ≤ (zI M 71 0).toInt ∧ (zI M 71 0).toInt ≤ 8 from ⟨by omega, by omega⟩)
  refine zs_putI (pc := 5) t23_5 (zk1 (hs.k fk_zMc_7)) rfl ?_
  refine zs_aload_n (pc := 8) t23_8 rfl ?_
  refine zs_get (pc := 9) t23_9 (by decide) (zk1 (hs.k fk_zMc_71)) (hs.p rfl fv_zMc_71_1) ?_
  refine zs_iconst (pc := 12) t23_12 (v := 0) (by decide) ?_
  refine zs_aload_n (pc := 13) t23_13 rfl ?_
  refine zs_get (pc := 14) t23_14 (by decide) (zk1 (hs.k fk_zMc_7)) (hs.p rfl fv_zMc_7_1) ?_
  refine zs_iconst (pc := 17) t23_17 (v := 0) (by decide) ?_
  refine zs_aload_n (pc := 18) t23_18 rfl ?_
  refine zs_get (pc := 19) t23_19 (by decide) (zk1 (hs.k fk_zMc_7)) (zfvi rfl zIs) ?_
  have w3 : (0 : Int32).toInt = 0 := li0
  have w4 : (0 : Int32).toInt = 0 := li0
  refine zs_copy (pc := 22) t23_22 (hs.k fk_zMc_72) (hs.k fk_zMc_8) (by decide) (by decide) (by decide) ⟨by omega, by omega, by omega⟩ (by omega) (by omega) ⟨Nat.le_of_ble_eq_true rfl, by decide⟩ ?_
  obtain ⟨w5M, w5e⟩ : ∃ N, N = zsR (zsI M 7 0 (zI M 71 0)) 8 (va_cpy (zI (zsI M 7 0 (zI M 71 0)) 72) (zI (zsI M 7 0 (zI M 71 0)) 8) (0 : Int32).toNatClampNeg (0 : Int32).toNatClampNeg (zI M 71 0).toNatClampNeg) := ⟨_, rfl⟩
  have w5s : zSk zMc w5M := by rw [w5e]; exact hs
  have w5I : zIv cLo cHi w5M := by rw [w5e]; exact zIv.row w2 (fun _ => zrg _)
  have w5F : zFr [(8, 8, none)] (zsI M 7 0 (zI M 71 0)) w5M := by rw [w5e]; exact zFr.row zFr.refl (fun _ => rfl)
  have w5C : ∀ j : Nat, (j : Int) < (zI M 71 0).toInt → zI w5M 8 j = zI (zsI M 7 0 (zI M 71 0)) 72 j := fun j hj => by rw [w5e]; exact (congrFun zRs j).trans (zcpy0 (by omega) (by omega) hj)
  rw [← w5e]
  refine zs_aload_n (pc := 25) t23_25 rfl ?_
  refine zs_get (pc := 26) t23_26 (by decide) (zk1 (w5s.k fk_zMc_71)) (w5s.p rfl fv_zMc_71_2) ?_
  refine zs_iconst (pc := 29) t23_29 (v := 0) (by decide) ?_
  refine zs_aload_n (pc := 30) t23_30 rfl ?_
  refine zs_get (pc := 31) t23_31 (by decide) (zk1 (w5s.k fk_zMc_7)) (w5s.p rfl fv_zMc_7_2) ?_
  refine zs_iconst (pc := 34) t23_34 (v := 0) (by decide) ?_
  refine zs_aload_n (pc := 35) t23_35 rfl ?_
  refine zs_get (pc := 36) t23_36 (by decide) (zk1 (w5s.k fk_zMc_7)) (zfvi rfl ((w5F 7 0 rfl).trans zIs)) ?_
  have w6 : (0 : Int32).toInt = 0 := li0
  have w7 : (0 : Int32).toInt = 0 := li0
  refine zs_copy (pc := 39) t23_39 (w5s.k fk_zMc_73) (w5s.k fk_zMc_9) (by decide) (by decide) (by decide) ⟨by omega, by omega, by omega⟩ (by omega) (by omega) ⟨Nat.le_of_ble_eq_true rfl, by decide⟩ ?_
  obtain ⟨w8M, w8e⟩ : ∃ N, N = zsR w5M 9 (va_cpy (zI w5M 73) (zI w5M 9) (0 : Int32).toNatClampNeg (0 : Int32).toNatClampNeg (zI M 71 0).toNatClampNeg) := ⟨_, rfl⟩
  have w8s : zSk zMc w8M := by rw [w8e]; exact w5s
  have w8I : zIv cLo cHi w8M := by rw [w8e]; exact zIv.row w5I (fun _ => zcpyB (fun j => ib73 w5I j) (fun j => ib9 w5I j))
  have w8F : zFr [(9, 9, none)] w5M w8M := by rw [w8e]; exact zFr.row zFr.refl (fun _ => rfl)
  have w8C : ∀ j : Nat, (j : Int) < (zI M 71 0).toInt → zI w8M 9 j = zI w5M 73 j := fun j hj => by rw [w8e]; exact (congrFun zRs j).trans (zcpy0 (by omega) (by omega) hj)
  rw [← w8e]
  refine zs_aload_n (pc := 42) t23_42 rfl ?_
  refine zs_aload_n (pc := 43) t23_43 rfl ?_
  have w9 := ib71_3 hI
  refine zs_get (pc := 44) t23_44 (by decide) (zk1 (w8s.k fk_zMc_71)) (zfvi rfl ((w8F 71 3 rfl).trans ((w5F 71 3 rfl).trans ((zIo (by decide)).trans rfl)))) ?_
  have w10 : zIv cLo cHi (zsI w8M 7 3 (zI M 71 3)) := zIv.put w8I (show 0 ≤ (zI M 71 3).toInt ∧ (zI M 71 3).toInt ≤ 60 from ⟨by omega, by omega⟩)
  refine zs_putI (pc := 47) t23_47 (zk1 (w8s.k fk_zMc_7)) rfl ?_
  refine zs_aload_n (pc := 50) t23_50 rfl ?_
  refine zs_get (pc := 51) t23_51 (by decide) (zk1 (w8s.k fk_zMc_71)) (w8s.p rfl fv_zMc_71_4) ?_
  refine zs_iconst (pc := 54) t23_54 (v := 0) (by decide) ?_
  refine zs_aload_n (pc := 55) t23_55 rfl ?_
  refine zs_get (pc := 56) t23_56 (by decide) (zk1 (w8s.k fk_zMc_7)) (w8s.p rfl fv_zMc_7_4) ?_
  refine zs_iconst (pc := 59) t23_59 (v := 0) (by decide) ?_
  refine zs_aload_n (pc := 60) t23_60 rfl ?_
  refine zs_get (pc := 61) t23_61 (by decide) (zk1 (w8s.k fk_zMc_7)) (zfvi rfl zIs) ?_
  have w11 : (0 : Int32).toInt = 0 := li0
  have w12 : (0 : Int32).toInt = 0 := li0
  refine zs_copy (pc := 64) t23_64 (w8s.k fk_zMc_74) (w8s.k fk_zMc_10) (by decide) (by decide) (by decide) ⟨by omega, by omega, by omega⟩ (by omega) (by omega) ⟨Nat.le_of_ble_eq_true rfl, by decide⟩ ?_
  obtain ⟨w13M, w13e⟩ : ∃ N, N = zsR (zsI w8M 7 3 (zI M 71 3)) 10 (va_cpy (zI (zsI w8M 7 3 (zI M 71 3)) 74) (zI (zsI w8M 7 3 (zI M 71 3)) 10) (0 : Int32).toNatClampNeg (0 : Int32).toNatClampNeg (zI M 71 3).toNatClampNeg) := ⟨_, rfl⟩
  have w13s : zSk zMc w13M := by rw [w13e]; exact w8s
  have w13I : zIv cLo cHi w13M := by rw [w13e]; exact zIv.row w10 (fun _ => zcpyB (fun j => ib74 w10 j) (fun j => ib10 w10 j))
  have w13F : zFr [(10, 10, none)] (zsI w8M 7 3 (zI M 71 3)) w13M := by rw [w13e]; exact zFr.row zFr.refl (fun _ => rfl)
  have w13C : ∀ j : Nat, (j : Int) < (zI M 71 3).toInt → zI w13M 10 j = zI (zsI w8M 7 3 (zI M 71 3)) 74 j := fun j hj => by rw [w13e]; exact (congrFun zRs j).trans (zcpy0 (by omega) (by omega) hj)
  rw [← w13e]
  refine zs_aload_n (pc := 67) t23_67 rfl ?_
  refine zs_get (pc := 68) t23_68 (by decide) (zk1 (w13s.k fk_zMc_71)) (w13s.p rfl fv_zMc_71_5) ?_
  refine zs_iconst (pc := 71) t23_71 (v := 0) (by decide) ?_
  refine zs_aload_n (pc := 72) t23_72 rfl ?_
  refine zs_get (pc := 73) t23_73 (by decide) (zk1 (w13s.k fk_zMc_7)) (w13s.p rfl fv_zMc_7_5) ?_
  refine zs_iconst (pc := 76) t23_76 (v := 0) (by decide) ?_
  refine zs_aload_n (pc := 77) t23_77 rfl ?_
  refine zs_get (pc := 78) t23_78 (by decide) (zk1 (w13s.k fk_zMc_7)) (zfvi rfl ((w13F 7 3 rfl).trans zIs)) ?_
  have w14 : (0 : Int32).toInt = 0 := li0
  have w15 : (0 : Int32).toInt = 0 := li0
  refine zs_copy (pc := 81) t23_81 (w13s.k fk_zMc_75) (w13s.k fk_zMc_11) (by decide) (by decide) (by decide) ⟨by omega, by omega, by omega⟩ (by omega) (by omega) ⟨Nat.le_of_ble_eq_true rfl, by decide⟩ ?_
  obtain ⟨w16M, w16e⟩ : ∃ N, N = zsR w13M 11 (va_cpy (zI w13M 75) (zI w13M 11) (0 : Int32).toNatClampNeg (0 : Int32).toNatClampNeg (zI M 71 3).toNatClampNeg) := ⟨_, rfl⟩
  have w16s : zSk zMc w16M := by rw [w16e]; exact w13s
  have w16I : zIv cLo cHi w16M := by rw [w16e]; exact zIv.row w13I (fun _ => zrg _)
  have w16F : zFr [(11, 11, none)] w13M w16M := by rw [w16e]; exact zFr.row zFr.refl (fun _ => rfl)
  have w16C : ∀ j : Nat, (j : Int) < (zI M 71 3).toInt → zI w16M 11 j = zI w13M 75 j := fun j hj => by rw [w16e]; exact (congrFun zRs j).trans (zcpy0 (by omega) (by omega) hj)
  rw [← w16e]
  refine zs_aload_n (pc := 84) t23_84 rfl ?_
  refine zs_get (pc := 85) t23_85 (by decide) (zk1 (w16s.k fk_zMc_71)) (w16s.p rfl fv_zMc_71_6) ?_
  refine zs_iconst (pc := 88) t23_88 (v := 0) (by decide) ?_
  refine zs_aload_n (pc := 89) t23_89 rfl ?_
  refine zs_get (pc := 90) t23_90 (by decide) (zk1 (w16s.k fk_zMc_7)) (w16s.p rfl fv_zMc_7_6) ?_
  refine zs_iconst (pc := 93) t23_93 (v := 0) (by decide) ?_
  refine zs_aload_n (pc := 94) t23_94 rfl ?_
  refine zs_get (pc := 95) t23_95 (by decide) (zk1 (w16s.k fk_zMc_7)) (zfvi rfl ((w16F 7 3 rfl).trans ((w13F 7 3 rfl).trans zIs))) ?_
  have w17 : (0 : Int32).toInt = 0 := li0
  have w18 : (0 : Int32).toInt = 0 := li0
  refine zs_copy (pc := 98) t23_98 (w16s.k fk_zMc_76) (w16s.k fk_zMc_12) (by decide) (by decide) (by decide) ⟨by omega, by omega, by omega⟩ (by omega) (by omega) ⟨Nat.le_of_ble_eq_true rfl, by decide⟩ ?_
  obtain ⟨w19M, w19e⟩ : ∃ N, N = zsR w16M 12 (va_cpy (zI w16M 76) (zI w16M 12) (0 : Int32).toNatClampNeg (0 : Int32).toNatClampNeg (zI M 71 3).toNatClampNeg) := ⟨_, rfl⟩
  have w19s : zSk zMc w19M := by rw [w19e]; exact w16s
  have w19I : zIv cLo cHi w19M := by rw [w19e]; exact zIv.row w16I (fun _ => zrg _)
  have w19F : zFr [(12, 12, none)] w16M w19M := by rw [w19e]; exact zFr.row zFr.refl (fun _ => rfl)
  have w19C : ∀ j : Nat, (j : Int) < (zI M 71 3).toInt → zI w19M 12 j = zI w16M 76 j := fun j hj => by rw [w19e]; exact (congrFun zRs j).trans (zcpy0 (by omega) (by omega) hj)
  rw [← w19e]
  refine zs_aload_n (pc := 101) t23_101 rfl ?_
  refine zs_get (pc := 102) t23_102 (by decide) (zk1 (w19s.k fk_zMc_71)) (w19s.p rfl fv_zMc_71_7) ?_
  refine zs_iconst (pc := 105) t23_105 (v := 0) (by decide) ?_
  refine zs_aload_n (pc := 106) t23_106 rfl ?_
  refine zs_get (pc := 107) t23_107 (by decide) (zk1 (w19s.k fk_zMc_7)) (w19s.p rfl fv_zMc_7_7) ?_
  refine zs_iconst (pc := 110) t23_110 (v := 0) (by decide) ?_
  refine zs_aload_n (pc := 111) t23_111 rfl ?_
  refine zs_get (pc := 112) t23_112 (by decide) (zk1 (w19s.k fk_zMc_7)) (zfvi rfl ((w19F 7 3 rfl).trans ((w16F 7 3 rfl).trans ((w13F 7 3 rfl).trans zIs)))) ?_
  have w20 : (0 : Int32).toInt = 0 := li0
  have w21 : (0 : Int32).toInt = 0 := li0
  refine zs_copy (pc := 115) t23_115 (w19s.k fk_zMc_77) (w19s.k fk_zMc_13) (by decide) (by decide) (by decide) ⟨by omega, by omega, by omega⟩ (by omega) (by omega) ⟨Nat.le_of_ble_eq_true rfl, by decide⟩ ?_
  obtain ⟨w22M, w22e⟩ : ∃ N, N = zsR w19M 13 (va_cpy (zI w19M 77) (zI w19M 13) (0 : Int32).toNatClampNeg (0 : Int32).toNatClampNeg (zI M 71 3).toNatClampNeg) := ⟨_, rfl⟩
  have w22s : zSk zMc w22M := by rw [w22e]; exact w19s
  have w22I : zIv cLo cHi w22M := by rw [w22e]; exact zIv.row w19I (fun _ => zrg _)
  have w22F : zFr [(13, 13, none)] w19M w22M := by rw [w22e]; exact zFr.row zFr.refl (fun _ => rfl)
  have w22C : ∀ j : Nat, (j : Int) < (zI M 71 3).toInt → zI w22M 13 j = zI w19M 77 j := fun j hj => by rw [w22e]; exact (congrFun zRs j).trans (zcpy0 (by omega) (by omega) hj)
  rw [← w22e]
  refine zs_aload_n (pc := 118) t23_118 rfl ?_
  refine zs_aload_n (pc := 119) t23_119 rfl ?_
  have w23 := ib71_8 hI
  refine zs_get (pc := 120) t23_120 (by decide) (zk1 (w22s.k fk_zMc_71)) (zfvi rfl ((w22F 71 8 rfl).trans ((w19F 71 8 rfl).trans ((w16F 71 8 rfl).trans ((w13F 71 8 rfl).trans ((zIo (by decide)).trans ((w8F 71 8 rfl).trans ((w5F 71 8 rfl).trans ((zIo (by decide)).trans rfl))))))))) ?_
  have w24 : zIv cLo cHi (zsI w22M 7 8 (zI M 71 8)) := zIv.put w22I (show 0 ≤ (zI M 71 8).toInt ∧ (zI M 71 8).toInt ≤ 12 from ⟨by omega, by omega⟩)
  refine zs_putI (pc := 123) t23_123 (zk1 (w22s.k fk_zMc_7)) rfl ?_
  refine zs_aload_n (pc := 126) t23_126 rfl ?_
  refine zs_get (pc := 127) t23_127 (by decide) (zk1 (w22s.k fk_zMc_71)) (w22s.p rfl fv_zMc_71_9) ?_
  refine zs_iconst (pc := 130) t23_130 (v := 0) (by decide) ?_
  refine zs_aload_n (pc := 131) t23_131 rfl ?_
  refine zs_get (pc := 132) t23_132 (by decide) (zk1 (w22s.k fk_zMc_7)) (w22s.p rfl fv_zMc_7_9) ?_
  refine zs_iconst (pc := 135) t23_135 (v := 0) (by decide) ?_
  refine zs_aload_n (pc := 136) t23_136 rfl ?_
  refine zs_get (pc := 137) t23_137 (by decide) (zk1 (w22s.k fk_zMc_7)) (zfvi rfl zIs) ?_
  have w25 : (0 : Int32).toInt = 0 := li0
  have w26 : (0 : Int32).toInt = 0 := li0
  refine zs_copy (pc := 140) t23_140 (w22s.k fk_zMc_78) (w22s.k fk_zMc_14) (by decide) (by decide) (by decide) ⟨by omega, by omega, by omega⟩ (by omega) (by omega) ⟨Nat.le_of_ble_eq_true rfl, by decide⟩ ?_
  obtain ⟨w27M, w27e⟩ : ∃ N, N = zsR (zsI w22M 7 8 (zI M 71 8)) 14 (va_cpy (zI (zsI w22M 7 8 (zI M 71 8)) 78) (zI (zsI w22M 7 8 (zI M 71 8)) 14) (0 : Int32).toNatClampNeg (0 : Int32).toNatClampNeg (zI M 71 8).toNatClampNeg) := ⟨_, rfl⟩
  have w27s : zSk zMc w27M := by rw [w27e]; exact w22s
  have w27I : zIv cLo cHi w27M := by rw [w27e]; exact zIv.row w24 (fun _ => zrg _)
  have w27F : zFr [(14, 14, none)] (zsI w22M 7 8 (zI M 71 8)) w27M := by rw [w27e]; exact zFr.row zFr.refl (fun _ => rfl)
  have w27C : ∀ j : Nat, (j : Int) < (zI M 71 8).toInt → zI w27M 14 j = zI (zsI w22M 7 8 (zI M 71 8)) 78 j := fun j hj => by rw [w27e]; exact (congrFun zRs j).trans (zcpy0 (by omega) (by omega) hj)
  rw [← w27e]
  refine zs_aload_n (pc := 143) t23_143 rfl ?_
  refine zs_get (pc := 144) t23_144 (by decide) (zk1 (w27s.k fk_zMc_71)) (w27s.p rfl fv_zMc_71_10) ?_
  refine zs_iconst (pc := 147) t23_147 (v := 0) (by decide) ?_
  refine zs_aload_n (pc := 148) t23_148 rfl ?_
  refine zs_get (pc := 149) t23_149 (by decide) (zk1 (w27s.k fk_zMc_7)) (w27s.p rfl fv_zMc_7_10) ?_
  refine zs_iconst (pc := 152) t23_152 (v := 0) (by decide) ?_
  refine zs_aload_n (pc := 153) t23_153 rfl ?_
  refine zs_get (pc := 154) t23_154 (by decide) (zk1 (w27s.k fk_zMc_7)) (zfvi rfl ((w27F 7 8 rfl).trans zIs)) ?_
  have w28 : (0 : Int32).toInt = 0 := li0
  have w29 : (0 : Int32).toInt = 0 := li0
  refine zs_copy (pc := 157) t23_157 (w27s.k fk_zMc_79) (w27s.k fk_zMc_15) (by decide) (by decide) (by decide) ⟨by omega, by omega, by omega⟩ (by omega) (by omega) ⟨Nat.le_of_ble_eq_true rfl, by decide⟩ ?_
  obtain ⟨w30M, w30e⟩ : ∃ N, N = zsR w27M 15 (va_cpy (zI w27M 79) (zI w27M 15) (0 : Int32).toNatClampNeg (0 : Int32).toNatClampNeg (zI M 71 8).toNatClampNeg) := ⟨_, rfl⟩
  have w30s : zSk zMc w30M := by rw [w30e]; exact w27s
  have w30I : zIv cLo cHi w30M := by rw [w30e]; exact zIv.row w27I (fun _ => zrg _)
  have w30F : zFr [(15, 15, none)] w27M w30M := by rw [w30e]; exact zFr.row zFr.refl (fun _ => rfl)
  have w30C : ∀ j : Nat, (j : Int) < (zI M 71 8).toInt → zI w30M 15 j = zI w27M 79 j := fun j hj => by rw [w30e]; exact (congrFun zRs j).trans (zcpy0 (by omega) (by omega) hj)
  rw [← w30e]
  refine zs_aload_n (pc := 160) t23_160 rfl ?_
  refine zs_get (pc := 161) t23_161 (by decide) (zk1 (w30s.k fk_zMc_71)) (w30s.p rfl fv_zMc_71_11) ?_
  refine zs_iconst (pc := 164) t23_164 (v := 0) (by decide) ?_
  refine zs_aload_n (pc := 165) t23_165 rfl ?_
  refine zs_get (pc := 166) t23_166 (by decide) (zk1 (w30s.k fk_zMc_7)) (w30s.p rfl fv_zMc_7_11) ?_
  refine zs_iconst (pc := 169) t23_169 (v := 0) (by decide) ?_
  refine zs_aload_n (pc := 170) t23_170 rfl ?_
  refine zs_get (pc := 171) t23_171 (by decide) (zk1 (w30s.k fk_zMc_7)) (zfvi rfl ((w30F 7 8 rfl).trans ((w27F 7 8 rfl).trans zIs))) ?_
  have w31 : (0 : Int32).toInt = 0 := li0
  have w32 : (0 : Int32).toInt = 0 := li0
  refine zs_copy (pc := 174) t23_174 (w30s.k fk_zMc_80) (w30s.k fk_zMc_16) (by decide) (by decide) (by decide) ⟨by omega, by omega, by omega⟩ (by omega) (by omega) ⟨Nat.le_of_ble_eq_true rfl, by decide⟩ ?_
  obtain ⟨w33M, w33e⟩ : ∃ N, N = zsR w30M 16 (va_cpy (zI w30M 80) (zI w30M 16) (0 : Int32).toNatClampNeg (0 : Int32).toNatClampNeg (zI M 71 8).toNatClampNeg) := ⟨_, rfl⟩
  have w33s : zSk zMc w33M := by rw [w33e]; exact w30s
  have w33I : zIv cLo cHi w33M := by rw [w33e]; exact zIv.row w30I (fun _ => zrg _)
  have w33F : zFr [(16, 16, none)] w30M w33M := by rw [w33e]; exact zFr.row zFr.refl (fun _ => rfl)
  have w33C : ∀ j : Nat, (j : Int) < (zI M 71 8).toInt → zI w33M 16 j = zI w30M 80 j := fun j hj => by rw [w33e]; exact (congrFun zRs j).trans (zcpy0 (by omega) (by omega) hj)
  rw [← w33e]
  refine zs_aload_n (pc := 177) t23_177 rfl ?_
  refine zs_get (pc := 178) t23_178 (by decide) (zk1 (w33s.k fk_zMc_71)) (w33s.p rfl fv_zMc_71_12) ?_
  refine zs_iconst (pc := 181) t23_181 (v := 0) (by decide) ?_
  refine zs_aload_n (pc := 182) t23_182 rfl ?_
  refine zs_get (pc := 183) t23_183 (by decide) (zk1 (w33s.k fk_zMc_7)) (w33s.p rfl fv_zMc_7_12) ?_
  refine zs_iconst (pc := 186) t23_186 (v := 0) (by decide) ?_
  refine zs_bipush (pc := 187) t23_187 (v := 9) (by decide) ?_
  have w34 : (9 : Int32).toInt = 9 := li9
  have w35 : (0 : Int32).toInt = 0 := li0
  have w36 : (0 : Int32).toInt = 0 := li0
  refine zs_copy (pc := 189) t23_189 (w33s.k fk_zMc_81) (w33s.k fk_zMc_17) (by decide) (by decide) (by decide) ⟨by omega, by omega, by omega⟩ (by omega) (by omega) ⟨Nat.le_of_ble_eq_true rfl, by decide⟩ ?_
  obtain ⟨w37M, w37e⟩ : ∃ N, N = zsR w33M 17 (va_cpy (zI w33M 81) (zI w33M 17) (0 : Int32).toNatClampNeg (0 : Int32).toNatClampNeg (9 : Int32).toNatClampNeg) := ⟨_, rfl⟩
  have w37s : zSk zMc w37M := by rw [w37e]; exact w33s
  have w37I : zIv cLo cHi w37M := by rw [w37e]; exact zIv.row w33I (fun _ => zcpyB (fun j => ib81 w33I j) (fun j => ib17 w33I j))
  have w37F : zFr [(17, 17, none)] w33M w37M := by rw [w37e]; exact zFr.row zFr.refl (fun _ => rfl)
  have w37C : ∀ j : Nat, (j : Int) < (9 : Int32).toInt → zI w37M 17 j = zI w33M 81 j := fun j hj => by rw [w37e]; exact (congrFun zRs j).trans (zcpy0 (by omega) (by omega) hj)
  rw [← w37e]
  refine zs_aload_n (pc := 192) t23_192 rfl ?_
  refine zs_aload_n (pc := 193) t23_193 rfl ?_
  refine zs_get (pc := 194) t23_194 (by decide) (zk1 (w37s.k fk_zMc_71)) (w37s.p rfl fv_zMc_71_14) ?_
  refine zs_aload_n (pc := 197) t23_197 rfl ?_
  have w38 := ib71_13 hI
  refine zs_get (pc := 198) t23_198 (by decide) (zk1 (w37s.k fk_zMc_71)) (zfvi rfl ((w37F 71 13 rfl).trans ((w33F 71 13 rfl).trans ((w30F 71 13 rfl).trans ((w27F 71 13 rfl).trans ((zIo (by decide)).trans ((w22F 71 13 rfl).trans ((w19F 71 13 rfl).trans ((w16F 71 13 rfl).trans ((w13F 71 13 rfl).trans ((zIo (by decide)).trans ((w8F 71 13 rfl).trans ((w5F 71 13 rfl).trans ((zIo (by decide)).trans rfl)))))))))))))) ?_
  refine zs_invV (pc := 201) (k := 7) (as' := [.ref 82, .int (zI M 71 13)]) (st := []) t23_201 mf24 rfl rfl (Or.inl ⟨by decide, (zk1 (w37s.k fk_zMc_7))⟩) ⟨by decide, by decide, Nat.le_of_ble_eq_true rfl, Nat.le_of_ble_eq_true rfl⟩ (zs_in (by decide) mf24 (Nat.le_of_ble_eq_true rfl) ?_) (fun _ _ q => q)
  show zGo X l 1 0 0 24 0 [(0, .ref 7), (1, .ref 82), (2, .int (zI M 71 13))] [] w37M _
  refine zs_aload_n (pc := 0) t24_0 rfl ?_
  refine zs_iconst (pc := 1) t24_1 (v := 0) (by decide) ?_
  refine zs_iload_n (pc := 2) t24_2 rfl ?_
  refine zs_sipush (pc := 3) t24_3 (v := 500) (by decide) ?_
  refine zs_invS (pc := 6) (as := [.int (zI M 71 13), .int (500 : Int32)]) (st := [.int (0 : Int32), .ref 7]) t24_6 (by decide) mf20 rfl rfl ⟨by decide, by decide, Nat.le_of_ble_eq_true rfl, Nat.le_of_ble_eq_true rfl⟩ (zs_in (by decide) mf20 (Nat.le_of_ble_eq_true rfl) ?_) (fun _ _ q => q)
  show zGo X l 0 0 0 20 0 [(0, .int (zI M 71 13)), (1, .int (500 : Int32))] [] w37M _
  refine zs_iload_n (pc := 0) t20_0 rfl ?_
  refine zs_iload_n (pc := 1) t20_1 rfl ?_
  refine zs_icmp_gtF (pc := 2) t20_2 rfl li500 (by omega) ?_
  refine zs_iload_n (pc := 5) t20_5 rfl ?_
  refine zs_goto (pc := 6) t20_6 ?_
  refine zs_iret (pc := 10) t20_10 mr20 rfl ?_
  show zGo X l 1 0 0 24 9 [(0, .ref 7), (1, .ref 82), (2, .int (zI M 71 13))] [.int (zI M 71 13), .int (0 : Int32), .ref 7] w37M _
  refine zs_invS (pc := 9) (as := [.int (0 : Int32), .int (zI M 71 13)]) (st := [.ref 7]) t24_9 (by decide) mf21 rfl rfl ⟨by decide, by decide, Nat.le_of_ble_eq_true rfl, Nat.le_of_ble_eq_true rfl⟩ (zs_in (by decide) mf21 (Nat.le_of_ble_eq_true rfl) ?_) (fun _ _ q => q)
  show zGo X l 0 0 0 21 0 [(0, .int (0 : Int32)), (1, .int (zI M 71 13))] [] w37M _
  refine zs_iload_n (pc := 0) t21_0 rfl ?_
  refine zs_iload_n (pc := 1) t21_1 rfl ?_
  by_cases w39 : 0 < (zI M 71 13).toInt
  · refine zs_icmp_ltT (pc := 2) t21_2 li0 rfl (by omega) ?_
    refine zs_iload_n (pc := 9) t21_9 rfl ?_
    refine zs_iret (pc := 10) t21_10 mr21 rfl ?_
    show zGo X l 1 0 0 24 12 [(0, .ref 7), (1, .ref 82), (2, .int (zI M 71 13))] [.int (zI M 71 13), .ref 7] w37M _
    have w40 : zIv cLo cHi (zsI w37M 7 13 (zI M 71 13)) := zIv.put w37I (show 0 ≤ (zI M 71 13).toInt ∧ (zI M 71 13).toInt ≤ 500 from ⟨by omega, by omega⟩)
    refine zs_putI (pc := 12) t24_12 (zk1 (w37s.k fk_zMc_7)) rfl ?_
    refine zs_aload_n (pc := 15) t24_15 rfl ?_
    refine zs_iconst (pc := 16) t24_16 (v := 0) (by decide) ?_
    refine zs_aload_n (pc := 17) t24_17 rfl ?_
    refine zs_get (pc := 18) t24_18 (by decide) (zk1 (w37s.k fk_zMc_7)) (w37s.p rfl fv_zMc_7_14) ?_
    refine zs_iconst (pc := 21) t24_21 (v := 0) (by decide) ?_
    refine zs_aload_n (pc := 22) t24_22 rfl ?_
    refine zs_get (pc := 23) t24_23 (by decide) (zk1 (w37s.k fk_zMc_7)) (zfvi rfl zIs) ?_
    have w41 : (0 : Int32).toInt = 0 := li0
    have w42 : (0 : Int32).toInt = 0 := li0
    refine zs_copy (pc := 26) t24_26 (w37s.k fk_zMc_82) (w37s.k fk_zMc_18) (by decide) (by decide) (by decide) ⟨by omega, by omega, by omega⟩ (by omega) (by omega) ⟨Nat.le_of_ble_eq_true rfl, by decide⟩ ?_
    obtain ⟨w43M, w43e⟩ : ∃ N, N = zsR (zsI w37M 7 13 (zI M 71 13)) 18 (va_cpy (zI (zsI w37M 7 13 (zI M 71 13)) 82) (zI (zsI w37M 7 13 (zI M 71 13)) 18) (0 : Int32).toNatClampNeg (0 : Int32).toNatClampNeg (zI M 71 13).toNatClampNeg) := ⟨_, rfl⟩
    have w43s : zSk zMc w43M := by rw [w43e]; exact w37s
    have w43I : zIv cLo cHi w43M := by rw [w43e]; exact zIv.row w40 (fun _ => zcpyB (fun j => ib82 w40 j) (fun j => ib18 w40 j))
    have w43F : zFr [(18, 18, none)] (zsI w37M 7 13 (zI M 71 13)) w43M := by rw [w43e]; exact zFr.row zFr.refl (fun _ => rfl)
    have w43C : ∀ j : Nat, (j : Int) < (zI M 71 13).toInt → zI w43M 18 j = zI (zsI w37M 7 13 (zI M 71 13)) 82 j := fun j hj => by rw [w43e]; exact (congrFun zRs j).trans (zcpy0 (by omega) (by omega) hj)
    rw [← w43e]
    refine zs_vret (pc := 29) t24_29 mr24 ?_
    show zGo X l 2 0 0 23 204 [(0, .ref 7), (1, .ref 71)] [] w43M _
    have w44 : (zI w43M 7 0).toInt = (zI M 71 0).toInt := (congrArg Int32.toInt ((w43F 7 0 rfl).trans ((zIoj (by decide)).trans ((w37F 7 0 rfl).trans ((w33F 7 0 rfl).trans ((w30F 7 0 rfl).trans ((w27F 7 0 rfl).trans ((zIoj (by decide)).trans ((w22F 7 0 rfl).trans ((w19F 7 0 rfl).trans ((w16F 7 0 rfl).trans ((w13F 7 0 rfl).trans ((zIoj (by decide)).trans ((w8F 7 0 rfl).trans ((w5F 7 0 rfl).trans zIs))))))))))))))).trans rfl
    have w45 : (zI w43M 7 3).toInt = (zI M 71 3).toInt := (congrArg Int32.toInt ((w43F 7 3 rfl).trans ((zIoj (by decide)).trans ((w37F 7 3 rfl).trans ((w33F 7 3 rfl).trans ((w30F 7 3 rfl).trans ((w27F 7 3 rfl).trans ((zIoj (by decide)).trans ((w22F 7 3 rfl).trans ((w19F 7 3 rfl).trans ((w16F 7 3 rfl).trans ((w13F 7 3 rfl).trans zIs)))))))))))).trans rfl
    have w46 : (zI w43M 7 8).toInt = (zI M 71 8).toInt := (congrArg Int32.toInt ((w43F 7 8 rfl).trans ((zIoj (by decide)).trans ((w37F 7 8 rfl).trans ((w33F 7 8 rfl).trans ((w30F 7 8 rfl).trans ((w27F 7 8 rfl).trans zIs))))))).trans rfl
    have w47 : (zI w43M 7 13).toInt = (zI M 71 13).toInt := (congrArg Int32.toInt ((w43F 7 13 rfl).trans zIs)).trans rfl
    have w48 : (zI (zsI M 7 0 (zI M 71 0)) 71 0).toInt = (zI M 71 0).toInt := (congrArg Int32.toInt ((zIo (by decide)).trans rfl)).trans rfl
    have w49 : (zI (zsI M 7 0 (zI M 71 0)) 71 3).toInt = (zI M 71 3).toInt := (congrArg Int32.toInt ((zIo (by decide)).trans rfl)).trans rfl
    have w50 : (zI (zsI M 7 0 (zI M 71 0)) 71 8).toInt = (zI M 71 8).toInt := (congrArg Int32.toInt ((zIo (by decide)).trans rfl)).trans rfl
    have w51 : (zI (zsI M 7 0 (zI M 71 0)) 71 13).toInt = (zI M 71 13).toInt := (congrArg Int32.toInt ((zIo (by decide)).trans rfl)).trans rfl
    exact zs_vret (pc := 204) t23_204 mr23 (hQ _ w43s w43I ((((((((((((((((zFr.refl).put rfl).trans (w5F.mono rfl)).trans (w8F.mono rfl)).put rfl).trans (w13F.mono rfl)).trans (w16F.mono rfl)).trans (w19F.mono rfl)).trans (w22F.mono rfl)).put rfl).trans (w27F.mono rfl)).trans (w30F.mono rfl)).trans (w33F.mono rfl)).trans (w37F.mono rfl)).put rfl).trans (w43F.mono rfl)) (zSo.cp x0 (by omega) (by omega) (by omega) (by omega) (fun j hj => ((((w43F 8 j rfl).trans ((zIo (by decide)).trans ((w37F 8 j rfl).trans ((w33F 8 j rfl).trans ((w30F 8 j rfl).trans ((w27F 8 j rfl).trans ((zIo (by decide)).trans ((w22F 8 j rfl).trans ((w19F 8 j rfl).trans ((w16F 8 j rfl).trans ((w13F 8 j rfl).trans ((zIo (by decide)).trans (w8F 8 j rfl))))))))))))).trans (w5C j (by omega))).trans (zIo (by decide)))) (fun j hj => ((((w43F 9 j rfl).trans ((zIo (by decide)).trans ((w37F 9 j rfl).trans ((w33F 9 j rfl).trans ((w30F 9 j rfl).trans ((w27F 9 j rfl).trans ((zIo (by decide)).trans ((w22F 9 j rfl).trans ((w19F 9 j rfl).trans ((w16F 9 j rfl).trans ((w13F 9 j rfl).trans (zIo (by decide))))))))))))).trans (w8C j (by omega))).trans ((w5F 73 j rfl).trans (zIo (by decide))))) (fun j hj => ((((w43F 10 j rfl).trans ((zIo (by decide)).trans ((w37F 10 j rfl).trans ((w33F 10 j rfl).trans ((w30F 10 j rfl).trans ((w27F 10 j rfl).trans ((zIo (by decide)).trans ((w22F 10 j rfl).trans ((w19F 10 j rfl).trans (w16F 10 j rfl)))))))))).trans (w13C j (by omega))).trans ((zIo (by decide)).trans ((w8F 74 j rfl).trans ((w5F 74 j rfl).trans (zIo (by decide))))))) (fun j hj => ((((w43F 11 j rfl).trans ((zIo (by decide)).trans ((w37F 11 j rfl).trans ((w33F 11 j rfl).trans ((w30F 11 j rfl).trans ((w27F 11 j rfl).trans ((zIo (by decide)).trans ((w22F 11 j rfl).trans (w19F 11 j rfl))))))))).trans (w16C j (by omega))).trans ((w13F 75 j rfl).trans ((zIo (by decide)).trans ((w8F 75 j rfl).trans ((w5F 75 j rfl).trans (zIo (by decide)))))))) (fun j hj => ((((w43F 12 j rfl).trans ((zIo (by decide)).trans ((w37F 12 j rfl).trans ((w33F 12 j rfl).trans ((w30F 12 j rfl).trans ((w27F 12 j rfl).trans ((zIo (by decide)).trans (w22F 12 j rfl)))))))).trans (w19C j (by omega))).trans ((w16F 76 j rfl).trans ((w13F 76 j rfl).trans ((zIo (by decide)).trans ((w8F 76 j rfl).trans ((w5F 76 j rfl).trans (zIo (by decide))))))))) (fun j hj => ((((w43F 13 j rfl).trans ((zIo (by decide)).trans ((w37F 13 j rfl).trans ((w33F 13 j rfl).trans ((w30F 13 j rfl).trans ((w27F 13 j rfl).trans (zIo (by decide)))))))).trans (w22C j (by omega))).trans ((w19F 77 j rfl).trans ((w16F 77 j rfl).trans ((w13F 77 j rfl).trans ((zIo (by decide)).trans ((w8F 77 j rfl).trans ((w5F 77 j rfl).trans (zIo (by decide)))))))))) (fun j hj => ((((w43F 14 j rfl).trans ((zIo (by decide)).trans ((w37F 14 j rfl).trans ((w33F 14 j rfl).trans (w30F 14 j rfl))))).trans (w27C j (by omega))).trans ((zIo (by decide)).trans ((w22F 78 j rfl).trans ((w19F 78 j rfl).trans ((w16F 78 j rfl).trans ((w13F 78 j rfl).trans ((zIo (by decide)).trans ((w8F 78 j rfl).trans ((w5F 78 j rfl).trans (zIo (by decide)))))))))))) (fun j hj => ((((w43F 15 j rfl).trans ((zIo (by decide)).trans ((w37F 15 j rfl).trans (w33F 15 j rfl)))).trans (w30C j (by omega))).trans ((w27F 79 j rfl).trans ((zIo (by decide)).trans ((w22F 79 j rfl).trans ((w19F 79 j rfl).trans ((w16F 79 j rfl).trans ((w13F 79 j rfl).trans ((zIo (by decide)).trans ((w8F 79 j rfl).trans ((w5F 79 j rfl).trans (zIo (by decide))))))))))))) (fun j hj => ((((w43F 16 j rfl).trans ((zIo (by decide)).trans (w37F 16 j rfl))).trans (w33C j (by omega))).trans ((w30F 80 j rfl).trans ((w27F 80 j rfl).trans ((zIo (by decide)).trans ((w22F 80 j rfl).trans ((w19F 80 j rfl).trans ((w16F 80 j rfl).trans ((w13F 80 j rfl).trans ((zIo (by decide)).trans ((w8F 80 j rfl).trans ((w5F 80 j rfl).trans (zIo (by decide)))))))))))))) (fun j hj => ((((w43F 17 j rfl).trans (zIo (by decide))).trans (w37C j (by omega))).trans ((w33F 81 j rfl).trans ((w30F 81 j rfl).trans ((w27F 81 j rfl).trans ((zIo (by decide)).trans ((w22F 81 j rfl).trans ((w19F 81 j rfl).trans ((w16F 81 j rfl).trans ((w13F 81 j rfl).trans ((zIo (by decide)).trans ((w8F 81 j rfl).trans ((w5F 81 j rfl).trans (zIo (by decide))))))))))))))) (fun j hj => ((w43C j (by omega)).trans ((zIo (by decide)).trans ((w37F 82 j rfl).trans ((w33F 82 j rfl).trans ((w30F 82 j rfl).trans ((w27F 82 j rfl).trans ((zIo (by decide)).trans ((w22F 82 j rfl).trans ((w19F 82 j rfl).trans ((w16F 82 j rfl).trans ((w13F 82 j rfl).trans ((zIo (by decide)).trans ((w8F 82 j rfl).trans ((w5F 82 j rfl).trans (zIo (by decide)))))))))))))))))))
  · refine zs_icmp_ltF (pc := 2) t21_2 li0 rfl (by omega) ?_
    refine zs_iload_n (pc := 5) t21_5 rfl ?_
    refine zs_goto (pc := 6) t21_6 ?_
    refine zs_iret (pc := 10) t21_10 mr21 (by decide) ?_
    show zGo X l 1 0 0 24 12 [(0, .ref 7), (1, .ref 82), (2, .int (zI M 71 13))] [.int (0 : Int32), .ref 7] w37M _
    have w52 : zIv cLo cHi (zsI w37M 7 13 (0 : Int32)) := zIv.put w37I (show 0 ≤ (0 : Int32).toInt ∧ (0 : Int32).toInt ≤ 500 from ⟨by decide, by decide⟩)
    refine zs_putI (pc := 12) t24_12 (zk1 (w37s.k fk_zMc_7)) rfl ?_
    refine zs_aload_n (pc := 15) t24_15 rfl ?_
    refine zs_iconst (pc := 16) t24_16 (v := 0) (by decide) ?_
    refine zs_aload_n (pc := 17) t24_17 rfl ?_
    refine zs_get (pc := 18) t24_18 (by decide) (zk1 (w37s.k fk_zMc_7)) (w37s.p rfl fv_zMc_7_14) ?_
    refine zs_iconst (pc := 21) t24_21 (v := 0) (by decide) ?_
    refine zs_aload_n (pc := 22) t24_22 rfl ?_
    refine zs_get (pc := 23) t24_23 (by decide) (zk1 (w37s.k fk_zMc_7)) (zfvi rfl zIs) ?_
    have w53 : (0 : Int32).toInt = 0 := li0
    have w54 : (0 : Int32).toInt = 0 := li0
    have w55 : (0 : Int32).toInt = 0 := li0
    refine zs_copy (pc := 26) t24_26 (w37s.k fk_zMc_82) (w37s.k fk_zMc_18) (by decide) (by decide) (by decide) ⟨by omega, by omega, by omega⟩ (by omega) (by omega) ⟨Nat.le_of_ble_eq_true rfl, by decide⟩ ?_
    obtain ⟨w56M, w56e⟩ : ∃ N, N = zsR (zsI w37M 7 13 (0 : Int32)) 18 (va_cpy (zI (zsI w37M 7 13 (0 : Int32)) 82) (zI (zsI w37M 7 13 (0 : Int32)) 18) (0 : Int32).toNatClampNeg (0 : Int32).toNatClampNeg (0 : Int32).toNatClampNeg) := ⟨_, rfl⟩
    have w56s : zSk zMc w56M := by rw [w56e]; exact w37s
    have w56I : zIv cLo cHi w56M := by rw [w56e]; exact zIv.row w52 (fun _ => zcpyB (fun j => ib82 w52 j) (fun j => ib18 w52 j))
    have w56F : zFr [(18, 18, none)] (zsI w37M 7 13 (0 : Int32)) w56M := by rw [w56e]; exact zFr.row zFr.refl (fun _ => rfl)
    have w56C : ∀ j : Nat, (j : Int) < (0 : Int32).toInt → zI w56M 18 j = zI (zsI w37M 7 13 (0 : Int32)) 82 j := fun j hj => by rw [w56e]; exact (congrFun zRs j).trans (zcpy0 (by omega) (by omega) hj)
    rw [← w56e]
    refine zs_vret (pc := 29) t24_29 mr24 ?_
    show zGo X l 2 0 0 23 204 [(0, .ref 7), (1, .ref 71)] [] w56M _
    have w57 : (zI w56M 7 0).toInt = (zI M 71 0).toInt := (congrArg Int32.toInt ((w56F 7 0 rfl).trans ((zIoj (by decide)).trans ((w37F 7 0 rfl).trans ((w33F 7 0 rfl).trans ((w30F 7 0 rfl).trans ((w27F 7 0 rfl).trans ((zIoj (by decide)).trans ((w22F 7 0 rfl).trans ((w19F 7 0 rfl).trans ((w16F 7 0 rfl).trans ((w13F 7 0 rfl).trans ((zIoj (by decide)).trans ((w8F 7 0 rfl).trans ((w5F 7 0 rfl).trans zIs))))))))))))))).trans rfl
    have w58 : (zI w56M 7 3).toInt = (zI M 71 3).toInt := (congrArg Int32.toInt ((w56F 7 3 rfl).trans ((zIoj (by decide)).trans ((w37F 7 3 rfl).trans ((w33F 7 3 rfl).trans ((w30F 7 3 rfl).trans ((w27F 7 3 rfl).trans ((zIoj (by decide)).trans ((w22F 7 3 rfl).trans ((w19F 7 3 rfl).trans ((w16F 7 3 rfl).trans ((w13F 7 3 rfl).trans zIs)))))))))))).trans rfl
    have w59 : (zI w56M 7 8).toInt = (zI M 71 8).toInt := (congrArg Int32.toInt ((w56F 7 8 rfl).trans ((zIoj (by decide)).trans ((w37F 7 8 rfl).trans ((w33F 7 8 rfl).trans ((w30F 7 8 rfl).trans ((w27F 7 8 rfl).trans zIs))))))).trans rfl
    have w60 : (zI w56M 7 13).toInt = 0 := (congrArg Int32.toInt ((w56F 7 13 rfl).trans zIs)).trans li0
    have w61 : (zI (zsI M 7 0 (zI M 71 0)) 71 0).toInt = (zI M 71 0).toInt := (congrArg Int32.toInt ((zIo (by decide)).trans rfl)).trans rfl
    have w62 : (zI (zsI M 7 0 (zI M 71 0)) 71 3).toInt = (zI M 71 3).toInt := (congrArg Int32.toInt ((zIo (by decide)).trans rfl)).trans rfl
    have w63 : (zI (zsI M 7 0 (zI M 71 0)) 71 8).toInt = (zI M 71 8).toInt := (congrArg Int32.toInt ((zIo (by decide)).trans rfl)).trans rfl
    have w64 : (zI (zsI M 7 0 (zI M 71 0)) 71 13).toInt = (zI M 71 13).toInt := (congrArg Int32.toInt ((zIo (by decide)).trans rfl)).trans rfl
    exact zs_vret (pc := 204) t23_204 mr23 (hQ _ w56s w56I ((((((((((((((((zFr.refl).put rfl).trans (w5F.mono rfl)).trans (w8F.mono rfl)).put rfl).trans (w13F.mono rfl)).trans (w16F.mono rfl)).trans (w19F.mono rfl)).trans (w22F.mono rfl)).put rfl).trans (w27F.mono rfl)).trans (w30F.mono rfl)).trans (w33F.mono rfl)).trans (w37F.mono rfl)).put rfl).trans (w56F.mono rfl)) (zSo.cp x0 (by omega) (by omega) (by omega) (by omega) (fun j hj => ((((w56F 8 j rfl).trans ((zIo (by decide)).trans ((w37F 8 j rfl).trans ((w33F 8 j rfl).trans ((w30F 8 j rfl).trans ((w27F 8 j rfl).trans ((zIo (by decide)).trans ((w22F 8 j rfl).trans ((w19F 8 j rfl).trans ((w16F 8 j rfl).trans ((w13F 8 j rfl).trans ((zIo (by decide)).trans (w8F 8 j rfl))))))))))))).trans (w5C j (by omega))).trans (zIo (by decide)))) (fun j hj => ((((w56F 9 j rfl).trans ((zIo (by decide)).trans ((w37F 9 j rfl).trans ((w33F 9 j rfl).trans ((w30F 9 j rfl).trans ((w27F 9 j rfl).trans ((zIo (by decide)).trans ((w22F 9 j rfl).trans ((w19F 9 j rfl).trans ((w16F 9 j rfl).trans ((w13F 9 j rfl).trans (zIo (by decide))))))))))))).trans (w8C j (by omega))).trans ((w5F 73 j rfl).trans (zIo (by decide))))) (fun j hj => ((((w56F 10 j rfl).trans ((zIo (by decide)).trans ((w37F 10 j rfl).trans ((w33F 10 j rfl).trans ((w30F 10 j rfl).trans ((w27F 10 j rfl).trans ((zIo (by decide)).trans ((w22F 10 j rfl).trans ((w19F 10 j rfl).trans (w16F 10 j rfl)))))))))).trans (w13C j (by omega))).trans ((zIo (by decide)).trans ((w8F 74 j rfl).trans ((w5F 74 j rfl).trans (zIo (by decide))))))) (fun j hj => ((((w56F 11 j rfl).trans ((zIo (by decide)).trans ((w37F 11 j rfl).trans ((w33F 11 j rfl).trans ((w30F 11 j rfl).trans ((w27F 11 j rfl).trans ((zIo (by decide)).trans ((w22F 11 j rfl).trans (w19F 11 j rfl))))))))).trans (w16C j (by omega))).trans ((w13F 75 j rfl).trans ((zIo (by decide)).trans ((w8F 75 j rfl).trans ((w5F 75 j rfl).trans (zIo (by decide)))))))) (fun j hj => ((((w56F 12 j rfl).trans ((zIo (by decide)).trans ((w37F 12 j rfl).trans ((w33F 12 j rfl).trans ((w30F 12 j rfl).trans ((w27F 12 j rfl).trans ((zIo (by decide)).trans (w22F 12 j rfl)))))))).trans (w19C j (by omega))).trans ((w16F 76 j rfl).trans ((w13F 76 j rfl).trans ((zIo (by decide)).trans ((w8F 76 j rfl).trans ((w5F 76 j rfl).trans (zIo (by decide))))))))) (fun j hj => ((((w56F 13 j rfl).trans ((zIo (by decide)).trans ((w37F 13 j rfl).trans ((w33F 13 j rfl).trans ((w30F 13 j rfl).trans ((w27F 13 j rfl).trans (zIo (by decide)))))))).trans (w22C j (by omega))).trans ((w19F 77 j rfl).trans ((w16F 77 j rfl).trans ((w13F 77 j rfl).trans ((zIo (by decide)).trans ((w8F 77 j rfl).trans ((w5F 77 j rfl).trans (zIo (by decide)))))))))) (fun j hj => ((((w56F 14 j rfl).trans ((zIo (by decide)).trans ((w37F 14 j rfl).trans ((w33F 14 j rfl).trans (w30F 14 j rfl))))).trans (w27C j (by omega))).trans ((zIo (by decide)).trans ((w22F 78 j rfl).trans ((w19F 78 j rfl).trans ((w16F 78 j rfl).trans ((w13F 78 j rfl).trans ((zIo (by decide)).trans ((w8F 78 j rfl).trans ((w5F 78 j rfl).trans (zIo (by decide)))))))))))) (fun j hj => ((((w56F 15 j rfl).trans ((zIo (by decide)).trans ((w37F 15 j rfl).trans (w33F 15 j rfl)))).trans (w30C j (by omega))).trans ((w27F 79 j rfl).trans ((zIo (by decide)).trans ((w22F 79 j rfl).trans ((w19F 79 j rfl).trans ((w16F 79 j rfl).trans ((w13F 79 j rfl).trans ((zIo (by decide)).trans ((w8F 79 j rfl).trans ((w5F 79 j rfl).trans (zIo (by decide))))))))))))) (fun j hj => ((((w56F 16 j rfl).trans ((zIo (by decide)).trans (w37F 16 j rfl))).trans (w33C j (by omega))).trans ((w30F 80 j rfl).trans ((w27F 80 j rfl).trans ((zIo (by decide)).trans ((w22F 80 j rfl).trans ((w19F 80 j rfl).trans ((w16F 80 j rfl).trans ((w13F 80 j rfl).trans ((zIo (by decide)).trans ((w8F 80 j rfl).trans ((w5F 80 j rfl).trans (zIo (by decide)))))))))))))) (fun j hj => ((((w56F 17 j rfl).trans (zIo (by decide))).trans (w37C j (by omega))).trans ((w33F 81 j rfl).trans ((w30F 81 j rfl).trans ((w27F 81 j rfl).trans ((zIo (by decide)).trans ((w22F 81 j rfl).trans ((w19F 81 j rfl).trans ((w16F 81 j rfl).trans ((w13F 81 j rfl).trans ((zIo (by decide)).trans ((w8F 81 j rfl).trans ((w5F 81 j rfl).trans (zIo (by decide))))))))))))))) (fun j hj => ((w56C j (by omega)).trans ((zIo (by decide)).trans ((w37F 82 j rfl).trans ((w33F 82 j rfl).trans ((w30F 82 j rfl).trans ((w27F 82 j rfl).trans ((zIo (by decide)).trans ((w22F 82 j rfl).trans ((w19F 82 j rfl).trans ((w16F 82 j rfl).trans ((w13F 82 j rfl).trans ((zIo (by decide)).trans ((w8F 82 j rfl).trans ((w5F 82 j rfl).trans (zIo (by decide)))))))))))))))))))
theorem X23_7_83 {X : zX} {l : Launch} {M : zM} {Q : Option Value → zM → Prop} (hs : zSk zMc M) (hI : zIv cLo cHi M) {F : Nat → Int} (x0 : zSo M 83 F) (hQ : ∀ M', zSk zMc M' → zIv cLo cHi M' → zFr [(7, 7, none), (8, 18, none)] M M' → (zSo M' 7 F) → Q none M') : zCall X l 2 0 0 23 [.ref 7, .ref 83] M Q := by
  refine zs_in (by decide) mf23 (Nat.le_of_ble_eq_true rfl) ?_
  show zGo X l 2 0 0 23 0 [(0, .ref 7), (1, .ref 83)] [] M _
  refine zs_aload_n (pc := 0) t23_0 rfl ?_
  refine zs_aload_n (pc := 1) t23_1 rfl ?_
  have w1 := ib83_0 hI
  refine zs_get (pc := 2) t23_2 (by decide) (zk1 (hs.k fk_zMc_83)) (zfvi rfl rfl) ?_
  have w2 : zIv cLo cHi (zsI M 7 0 (zI M 83 0)) := zIv.put hI (show 0 ≤ (zI M 83 0).toInt ∧ (zI M 83 0).toInt ≤ 8 from ⟨by omega, by omega⟩)
  refine zs_putI (pc := 5) t23_5 (zk1 (hs.k fk_zMc_7)) rfl ?_
  refine zs_aload_n (pc := 8) t23_8 rfl ?_
  refine zs_get (pc := 9) t23_9 (by decide) (zk1 (hs.k fk_zMc_83)) (hs.p rfl fv_zMc_83_1) ?_
  refine zs_iconst (pc := 12) t23_12 (v := 0) (by decide) ?_
  refine zs_aload_n (pc := 13) t23_13 rfl ?_
  refine zs_get (pc := 14) t23_14 (by decide) (zk1 (hs.k fk_zMc_7)) (hs.p rfl fv_zMc_7_1) ?_
  refine zs_iconst (pc := 17) t23_17 (v := 0) (by decide) ?_
  refine zs_aload_n (pc := 18) t23_18 rfl ?_
  refine zs_get (pc := 19) t23_19 (by decide) (zk1 (hs.k fk_zMc_7)) (zfvi rfl zIs) ?_
  have w3 : (0 : Int32).toInt = 0 := li0
  have w4 : (0 : Int32).toInt = 0 := li0
  refine zs_copy (pc := 22) t23_22 (hs.k fk_zMc_84) (hs.k fk_zMc_8) (by decide) (by decide) (by decide) ⟨by omega, by omega, by omega⟩ (by omega) (by omega) ⟨Nat.le_of_ble_eq_true rfl, by decide⟩ ?_
  obtain ⟨w5M, w5e⟩ : ∃ N, N = zsR (zsI M 7 0 (zI M 83 0)) 8 (va_cpy (zI (zsI M 7 0 (zI M 83 0)) 84) (zI (zsI M 7 0 (zI M 83 0)) 8) (0 : Int32).toNatClampNeg (0 : Int32).toNatClampNeg (zI M 83 0).toNatClampNeg) := ⟨_, rfl⟩
  have w5s : zSk zMc w5M := by rw [w5e]; exact hs
  have w5I : zIv cLo cHi w5M := by rw [w5e]; exact zIv.row w2 (fun _ => zrg _)
  have w5F : zFr [(8, 8, none)] (zsI M 7 0 (zI M 83 0)) w5M := by rw [w5e]; exact zFr.row zFr.refl (fun _ => rfl)
  have w5C : ∀ j : Nat, (j : Int) < (zI M 83 0).toInt → zI w5M 8 j = zI (zsI M 7 0 (zI M 83 0)) 84 j := fun j hj => by rw [w5e]; exact (congrFun zRs j).trans (zcpy0 (by omega) (by omega) hj)
  rw [← w5e]
  refine zs_aload_n (pc := 25) t23_25 rfl ?_
  refine zs_get (pc := 26) t23_26 (by decide) (zk1 (w5s.k fk_zMc_83)) (w5s.p rfl fv_zMc_83_2) ?_
  refine zs_iconst (pc := 29) t23_29 (v := 0) (by decide) ?_
  refine zs_aload_n (pc := 30) t23_30 rfl ?_
  refine zs_get (pc := 31) t23_31 (by decide) (zk1 (w5s.k fk_zMc_7)) (w5s.p rfl fv_zMc_7_2) ?_
  refine zs_iconst (pc := 34) t23_34 (v := 0) (by decide) ?_
  refine zs_aload_n (pc := 35) t23_35 rfl ?_
  refine zs_get (pc := 36) t23_36 (by decide) (zk1 (w5s.k fk_zMc_7)) (zfvi rfl ((w5F 7 0 rfl).trans zIs)) ?_
  have w6 : (0 : Int32).toInt = 0 := li0
  have w7 : (0 : Int32).toInt = 0 := li0
  refine zs_copy (pc := 39) t23_39 (w5s.k fk_zMc_85) (w5s.k fk_zMc_9) (by decide) (by decide) (by decide) ⟨by omega, by omega, by omega⟩ (by omega) (by omega) ⟨Nat.le_of_ble_eq_true rfl, by decide⟩ ?_
  obtain ⟨w8M, w8e⟩ : ∃ N, N = zsR w5M 9 (va_cpy (zI w5M 85) (zI w5M 9) (0 : Int32).toNatClampNeg (0 : Int32).toNatClampNeg (zI M 83 0).toNatClampNeg) := ⟨_, rfl⟩
  have w8s : zSk zMc w8M := by rw [w8e]; exact w5s
  have w8I : zIv cLo cHi w8M := by rw [w8e]; exact zIv.row w5I (fun _ => zcpyB (fun j => ib85 w5I j) (fun j => ib9 w5I j))
  have w8F : zFr [(9, 9, none)] w5M w8M := by rw [w8e]; exact zFr.row zFr.refl (fun _ => rfl)
  have w8C : ∀ j : Nat, (j : Int) < (zI M 83 0).toInt → zI w8M 9 j = zI w5M 85 j := fun j hj => by rw [w8e]; exact (congrFun zRs j).trans (zcpy0 (by omega) (by omega) hj)
  rw [← w8e]
  refine zs_aload_n (pc := 42) t23_42 rfl ?_
  refine zs_aload_n (pc := 43) t23_43 rfl ?_
  have w9 := ib83_3 hI
  refine zs_get (pc := 44) t23_44 (by decide) (zk1 (w8s.k fk_zMc_83)) (zfvi rfl ((w8F 83 3 rfl).trans ((w5F 83 3 rfl).trans ((zIo (by decide)).trans rfl)))) ?_
  have w10 : zIv cLo cHi (zsI w8M 7 3 (zI M 83 3)) := zIv.put w8I (show 0 ≤ (zI M 83 3).toInt ∧ (zI M 83 3).toInt ≤ 60 from ⟨by omega, by omega⟩)
  refine zs_putI (pc := 47) t23_47 (zk1 (w8s.k fk_zMc_7)) rfl ?_
  refine zs_aload_n (pc := 50) t23_50 rfl ?_
  refine zs_get (pc := 51) t23_51 (by decide) (zk1 (w8s.k fk_zMc_83)) (w8s.p rfl fv_zMc_83_4) ?_
  refine zs_iconst (pc := 54) t23_54 (v := 0) (by decide) ?_
  refine zs_aload_n (pc := 55) t23_55 rfl ?_
  refine zs_get (pc := 56) t23_56 (by decide) (zk1 (w8s.k fk_zMc_7)) (w8s.p rfl fv_zMc_7_4) ?_
  refine zs_iconst (pc := 59) t23_59 (v := 0) (by decide) ?_
  refine zs_aload_n (pc := 60) t23_60 rfl ?_
  refine zs_get (pc := 61) t23_61 (by decide) (zk1 (w8s.k fk_zMc_7)) (zfvi rfl zIs) ?_
  have w11 : (0 : Int32).toInt = 0 := li0
  have w12 : (0 : Int32).toInt = 0 := li0
  refine zs_copy (pc := 64) t23_64 (w8s.k fk_zMc_86) (w8s.k fk_zMc_10) (by decide) (by decide) (by decide) ⟨by omega, by omega, by omega⟩ (by omega) (by omega) ⟨Nat.le_of_ble_eq_true rfl, by decide⟩ ?_
  obtain ⟨w13M, w13e⟩ : ∃ N, N = zsR (zsI w8M 7 3 (zI M 83 3)) 10 (va_cpy (zI (zsI w8M 7 3 (zI M 83 3)) 86) (zI (zsI w8M 7 3 (zI M 83 3)) 10) (0 : Int32).toNatClampNeg (0 : Int32).toNatClampNeg (zI M 83 3).toNatClampNeg) := ⟨_, rfl⟩
  have w13s : zSk zMc w13M := by rw [w13e]; exact w8s
  have w13I : zIv cLo cHi w13M := by rw [w13e]; exact zIv.row w10 (fun _ => zcpyB (fun j => ib86 w10 j) (fun j => ib10 w10 j))
  have w13F : zFr [(10, 10, none)] (zsI w8M 7 3 (zI M 83 3)) w13M := by rw [w13e]; exact zFr.row zFr.refl (fun _ => rfl)
  have w13C : ∀ j : Nat, (j : Int) < (zI M 83 3).toInt → zI w13M 10 j = zI (zsI w8M 7 3 (zI M 83 3)) 86 j := fun j hj => by rw [w13e]; exact (congrFun zRs j).trans (zcpy0 (by omega) (by omega) hj)
  rw [← w13e]
  refine zs_aload_n (pc := 67) t23_67 rfl ?_
  refine zs_get (pc := 68) t23_68 (by decide) (zk1 (w13s.k fk_zMc_83)) (w13s.p rfl fv_zMc_83_5) ?_
  refine zs_iconst (pc := 71) t23_71 (v := 0) (by decide) ?_
  refine zs_aload_n (pc := 72) t23_72 rfl ?_
  refine zs_get (pc := 73) t23_73 (by decide) (zk1 (w13s.k fk_zMc_7)) (w13s.p rfl fv_zMc_7_5) ?_
  refine zs_iconst (pc := 76) t23_76 (v := 0) (by decide) ?_
  refine zs_aload_n (pc := 77) t23_77 rfl ?_
  refine zs_get (pc := 78) t23_78 (by decide) (zk1 (w13s.k fk_zMc_7)) (zfvi rfl ((w13F 7 3 rfl).trans zIs)) ?_
  have w14 : (0 : Int32).toInt = 0 := li0
  have w15 : (0 : Int32).toInt = 0 := li0
  refine zs_copy (pc := 81) t23_81 (w13s.k fk_zMc_87) (w13s.k fk_zMc_11) (by decide) (by decide) (by decide) ⟨by omega, by omega, by omega⟩ (by omega) (by omega) ⟨Nat.le_of_ble_eq_true rfl, by decide⟩ ?_
  obtain ⟨w16M, w16e⟩ : ∃ N, N = zsR w13M 11 (va_cpy (zI w13M 87) (zI w13M 11) (0 : Int32).toNatClampNeg (0 : Int32).toNatClampNeg (zI M 83 3).toNatClampNeg) := ⟨_, rfl⟩
  have w16s : zSk zMc w16M := by rw [w16e]; exact w13s
  have w16I : zIv cLo cHi w16M := by rw [w16e]; exact zIv.row w13I (fun _ => zrg _)
  have w16F : zFr [(11, 11, none)] w13M w16M := by rw [w16e]; exact zFr.row zFr.refl (fun _ => rfl)
  have w16C : ∀ j : Nat, (j : Int) < (zI M 83 3).toInt → zI w16M 11 j = zI w13M 87 j := fun j hj => by rw [w16e]; exact (congrFun zRs j).trans (zcpy0 (by omega) (by omega) hj)
  rw [← w16e]
  refine zs_aload_n (pc := 84) t23_84 rfl ?_
  refine zs_get (pc := 85) t23_85 (by decide) (zk1 (w16s.k fk_zMc_83)) (w16s.p rfl fv_zMc_83_6) ?_
  refine zs_iconst (pc := 88) t23_88 (v := 0) (by decide) ?_
  refine zs_aload_n (pc := 89) t23_89 rfl ?_
  refine zs_get (pc := 90) t23_90 (by decide) (zk1 (w16s.k fk_zMc_7)) (w16s.p rfl fv_zMc_7_6) ?_
  refine zs_iconst (pc := 93) t23_93 (v := 0) (by decide) ?_
  refine zs_aload_n (pc := 94) t23_94 rfl ?_
  refine zs_get (pc := 95) t23_95 (by decide) (zk1 (w16s.k fk_zMc_7)) (zfvi rfl ((w16F 7 3 rfl).trans ((w13F 7 3 rfl).trans zIs))) ?_
  have w17 : (0 : Int32).toInt = 0 := li0
  have w18 : (0 : Int32).toInt = 0 := li0
  refine zs_copy (pc := 98) t23_98 (w16s.k fk_zMc_88) (w16s.k fk_zMc_12) (by decide) (by decide) (by decide) ⟨by omega, by omega, by omega⟩ (by omega) (by omega) ⟨Nat.le_of_ble_eq_true rfl, by decide⟩ ?_
  obtain ⟨w19M, w19e⟩ : ∃ N, N = zsR w16M 12 (va_cpy (zI w16M 88) (zI w16M 12) (0 : Int32).toNatClampNeg (0 : Int32).toNatClampNeg (zI M 83 3).toNatClampNeg) := ⟨_, rfl⟩
  have w19s : zSk zMc w19M := by rw [w19e]; exact w16s
  have w19I : zIv cLo cHi w19M := by rw [w19e]; exact zIv.row w16I (fun _ => zrg _)
  have w19F : zFr [(12, 12, none)] w16M w19M := by rw [w19e]; exact zFr.row zFr.refl (fun _ => rfl)
  have w19C : ∀ j : Nat, (j : Int) < (zI M 83 3).toInt → zI w19M 12 j = zI w16M 88 j := fun j hj => by rw [w19e]; exact (congrFun zRs j).trans (zcpy0 (by omega) (by omega) hj)
  rw [← w19e]
  refine zs_aload_n (pc := 101) t23_101 rfl ?_
  refine zs_get (pc := 102) t23_102 (by decide) (zk1 (w19s.k fk_zMc_83)) (w19s.p rfl fv_zMc_83_7) ?_
  refine zs_iconst (pc := 105) t23_105 (v := 0) (by decide) ?_
  refine zs_aload_n (pc := 106) t23_106 rfl ?_
  refine zs_get (pc := 107) t23_107 (by decide) (zk1 (w19s.k fk_zMc_7)) (w19s.p rfl fv_zMc_7_7) ?_
  refine zs_iconst (pc := 110) t23_110 (v := 0) (by decide) ?_
  refine zs_aload_n (pc := 111) t23_111 rfl ?_
  refine zs_get (pc := 112) t23_112 (by decide) (zk1 (w19s.k fk_zMc_7)) (zfvi rfl ((w19F 7 3 rfl).trans ((w16F 7 3 rfl).trans ((w13F 7 3 rfl).trans zIs)))) ?_
  have w20 : (0 : Int32).toInt = 0 := li0
  have w21 : (0 : Int32).toInt = 0 := li0
  refine zs_copy (pc := 115) t23_115 (w19s.k fk_zMc_89) (w19s.k fk_zMc_13) (by decide) (by decide) (by decide) ⟨by omega, by omega, by omega⟩ (by omega) (by omega) ⟨Nat.le_of_ble_eq_true rfl, by decide⟩ ?_
  obtain ⟨w22M, w22e⟩ : ∃ N, N = zsR w19M 13 (va_cpy (zI w19M 89) (zI w19M 13) (0 : Int32).toNatClampNeg (0 : Int32).toNatClampNeg (zI M 83 3).toNatClampNeg) := ⟨_, rfl⟩
  have w22s : zSk zMc w22M := by rw [w22e]; exact w19s
  have w22I : zIv cLo cHi w22M := by rw [w22e]; exact zIv.row w19I (fun _ => zrg _)
  have w22F : zFr [(13, 13, none)] w19M w22M := by rw [w22e]; exact zFr.row zFr.refl (fun _ => rfl)
  have w22C : ∀ j : Nat, (j : Int) < (zI M 83 3).toInt → zI w22M 13 j = zI w19M 89 j := fun j hj => by rw [w22e]; exact (congrFun zRs j).trans (zcpy0 (by omega) (by omega) hj)
  rw [← w22e]
  refine zs_aload_n (pc := 118) t23_118 rfl ?_
  refine zs_aload_n (pc := 119) t23_119 rfl ?_
  have w23 := ib83_8 hI
  refine zs_get (pc := 120) t23_120 (by decide) (zk1 (w22s.k fk_zMc_83)) (zfvi rfl ((w22F 83 8 rfl).trans ((w19F 83 8 rfl).trans ((w16F 83 8 rfl).trans ((w13F 83 8 rfl).trans ((zIo (by decide)).trans ((w8F 83 8 rfl).trans ((w5F 83 8 rfl).trans ((zIo (by decide)).trans rfl))))))))) ?_
  have w24 : zIv cLo cHi (zsI w22M 7 8 (zI M 83 8)) := zIv.put w22I (show 0 ≤ (zI M 83 8).toInt ∧ (zI M 83 8).toInt ≤ 12 from ⟨by omega, by omega⟩)
  refine zs_putI (pc := 123) t23_123 (zk1 (w22s.k fk_zMc_7)) rfl ?_
  refine zs_aload_n (pc := 126) t23_126 rfl ?_
  refine zs_get (pc := 127) t23_127 (by decide) (zk1 (w22s.k fk_zMc_83)) (w22s.p rfl fv_zMc_83_9) ?_
  refine zs_iconst (pc := 130) t23_130 (v := 0) (by decide) ?_
  refine zs_aload_n (pc := 131) t23_131 rfl ?_
  refine zs_get (pc := 132) t23_132 (by decide) (zk1 (w22s.k fk_zMc_7)) (w22s.p rfl fv_zMc_7_9) ?_
  refine zs_iconst (pc := 135) t23_135 (v := 0) (by decide) ?_
  refine zs_aload_n (pc := 136) t23_136 rfl ?_
  refine zs_get (pc := 137) t23_137 (by decide) (zk1 (w22s.k fk_zMc_7)) (zfvi rfl zIs) ?_
  have w25 : (0 : Int32).toInt = 0 := li0
  have w26 : (0 : Int32).toInt = 0 := li0
  refine zs_copy (pc := 140) t23_140 (w22s.k fk_zMc_90) (w22s.k fk_zMc_14) (by decide) (by decide) (by decide) ⟨by omega, by omega, by omega⟩ (by omega) (by omega) ⟨Nat.le_of_ble_eq_true rfl, by decide⟩ ?_
  obtain ⟨w27M, w27e⟩ : ∃ N, N = zsR (zsI w22M 7 8 (zI M 83 8)) 14 (va_cpy (zI (zsI w22M 7 8 (zI M 83 8)) 90) (zI (zsI w22M 7 8 (zI M 83 8)) 14) (0 : Int32).toNatClampNeg (0 : Int32).toNatClampNeg (zI M 83 8).toNatClampNeg) := ⟨_, rfl⟩
  have w27s : zSk zMc w27M := by rw [w27e]; exact w22s
  have w27I : zIv cLo cHi w27M := by rw [w27e]; exact zIv.row w24 (fun _ => zrg _)
  have w27F : zFr [(14, 14, none)] (zsI w22M 7 8 (zI M 83 8)) w27M := by rw [w27e]; exact zFr.row zFr.refl (fun _ => rfl)
  have w27C : ∀ j : Nat, (j : Int) < (zI M 83 8).toInt → zI w27M 14 j = zI (zsI w22M 7 8 (zI M 83 8)) 90 j := fun j hj => by rw [w27e]; exact (congrFun zRs j).trans (zcpy0 (by omega) (by omega) hj)
  rw [← w27e]
  refine zs_aload_n (pc := 143) t23_143 rfl ?_
  refine zs_get (pc := 144) t23_144 (by decide) (zk1 (w27s.k fk_zMc_83)) (w27s.p rfl fv_zMc_83_10) ?_
  refine zs_iconst (pc := 147) t23_147 (v := 0) (by decide) ?_
  refine zs_aload_n (pc := 148) t23_148 rfl ?_
  refine zs_get (pc := 149) t23_149 (by decide) (zk1 (w27s.k fk_zMc_7)) (w27s.p rfl fv_zMc_7_10) ?_
  refine zs_iconst (pc := 152) t23_152 (v := 0) (by decide) ?_
  refine zs_aload_n (pc := 153) t23_153 rfl ?_
  refine zs_get (pc := 154) t23_154 (by decide) (zk1 (w27s.k fk_zMc_7)) (zfvi rfl ((w27F 7 8 rfl).trans zIs)) ?_
  have w28 : (0 : Int32).toInt = 0 := li0
  have w29 : (0 : Int32).toInt = 0 := li0
  refine zs_copy (pc := 157) t23_157 (w27s.k fk_zMc_91) (w27s.k fk_zMc_15) (by decide) (by decide) (by decide) ⟨by omega, by omega, by omega⟩ (by omega) (by omega) ⟨Nat.le_of_ble_eq_true rfl, by decide⟩ ?_
  obtain ⟨w30M, w30e⟩ : ∃ N, N = zsR w27M 15 (va_cpy (zI w27M 91) (zI w27M 15) (0 : Int32).toNatClampNeg (0 : Int32).toNatClampNeg (zI M 83 8).toNatClampNeg) := ⟨_, rfl⟩
  have w30s : zSk zMc w30M := by rw [w30e]; exact w27s
  have w30I : zIv cLo cHi w30M := by rw [w30e]; exact zIv.row w27I (fun _ => zrg _)
  have w30F : zFr [(15, 15, none)] w27M w30M := by rw [w30e]; exact zFr.row zFr.refl (fun _ => rfl)
  have w30C : ∀ j : Nat, (j : Int) < (zI M 83 8).toInt → zI w30M 15 j = zI w27M 91 j := fun j hj => by rw [w30e]; exact (congrFun zRs j).trans (zcpy0 (by omega) (by omega) hj)
  rw [← w30e]
  refine zs_aload_n (pc := 160) t23_160 rfl ?_
  refine zs_get (pc := 161) t23_161 (by decide) (zk1 (w30s.k fk_zMc_83)) (w30s.p rfl fv_zMc_83_11) ?_
  refine zs_iconst (pc := 164) t23_164 (v := 0) (by decide) ?_
  refine zs_aload_n (pc := 165) t23_165 rfl ?_
  refine zs_get (pc := 166) t23_166 (by decide) (zk1 (w30s.k fk_zMc_7)) (w30s.p rfl fv_zMc_7_11) ?_
  refine zs_iconst (pc := 169) t23_169 (v := 0) (by decide) ?_
  refine zs_aload_n (pc := 170) t23_170 rfl ?_
  refine zs_get (pc := 171) t23_171 (by decide) (zk1 (w30s.k fk_zMc_7)) (zfvi rfl ((w30F 7 8 rfl).trans ((w27F 7 8 rfl).trans zIs))) ?_
  have w31 : (0 : Int32).toInt = 0 := li0
  have w32 : (0 : Int32).toInt = 0 := li0
  refine zs_copy (pc := 174) t23_174 (w30s.k fk_zMc_92) (w30s.k fk_zMc_16) (by decide) (by decide) (by decide) ⟨by omega, by omega, by omega⟩ (by omega) (by omega) ⟨Nat.le_of_ble_eq_true rfl, by decide⟩ ?_
  obtain ⟨w33M, w33e⟩ : ∃ N, N = zsR w30M 16 (va_cpy (zI w30M 92) (zI w30M 16) (0 : Int32).toNatClampNeg (0 : Int32).toNatClampNeg (zI M 83 8).toNatClampNeg) := ⟨_, rfl⟩
  have w33s : zSk zMc w33M := by rw [w33e]; exact w30s
  have w33I : zIv cLo cHi w33M := by rw [w33e]; exact zIv.row w30I (fun _ => zrg _)
  have w33F : zFr [(16, 16, none)] w30M w33M := by rw [w33e]; exact zFr.row zFr.refl (fun _ => rfl)
  have w33C : ∀ j : Nat, (j : Int) < (zI M 83 8).toInt → zI w33M 16 j = zI w30M 92 j := fun j hj => by rw [w33e]; exact (congrFun zRs j).trans (zcpy0 (by omega) (by omega) hj)
  rw [← w33e]
  refine zs_aload_n (pc := 177) t23_177 rfl ?_
  refine zs_get (pc := 178) t23_178 (by decide) (zk1 (w33s.k fk_zMc_83)) (w33s.p rfl fv_zMc_83_12) ?_
  refine zs_iconst (pc := 181) t23_181 (v := 0) (by decide) ?_
  refine zs_aload_n (pc := 182) t23_182 rfl ?_
  refine zs_get (pc := 183) t23_183 (by decide) (zk1 (w33s.k fk_zMc_7)) (w33s.p rfl fv_zMc_7_12) ?_
  refine zs_iconst (pc := 186) t23_186 (v := 0) (by decide) ?_
  refine zs_bipush (pc := 187) t23_187 (v := 9) (by decide) ?_
  have w34 : (9 : Int32).toInt = 9 := li9
  have w35 : (0 : Int32).toInt = 0 := li0
  have w36 : (0 : Int32).toInt = 0 := li0
  refine zs_copy (pc := 189) t23_189 (w33s.k fk_zMc_93) (w33s.k fk_zMc_17) (by decide) (by decide) (by decide) ⟨by omega, by omega, by omega⟩ (by omega) (by omega) ⟨Nat.le_of_ble_eq_true rfl, by decide⟩ ?_
  obtain ⟨w37M, w37e⟩ : ∃ N, N = zsR w33M 17 (va_cpy (zI w33M 93) (zI w33M 17) (0 : Int32).toNatClampNeg (0 : Int32).toNatClampNeg (9 : Int32).toNatClampNeg) := ⟨_, rfl⟩
  have w37s : zSk zMc w37M := by rw [w37e]; exact w33s
  have w37I : zIv cLo cHi w37M := by rw [w37e]; exact zIv.row w33I (fun _ => zcpyB (fun j => ib93 w33I j) (fun j => ib17 w33I j))
  have w37F : zFr [(17, 17, none)] w33M w37M := by rw [w37e]; exact zFr.row zFr.refl (fun _ => rfl)
  have w37C : ∀ j : Nat, (j : Int) < (9 : Int32).toInt → zI w37M 17 j = zI w33M 93 j := fun j hj => by rw [w37e]; exact (congrFun zRs j).trans (zcpy0 (by omega) (by omega) hj)
  rw [← w37e]
  refine zs_aload_n (pc := 192) t23_192 rfl ?_
  refine zs_aload_n (pc := 193) t23_193 rfl ?_
  refine zs_get (pc := 194) t23_194 (by decide) (zk1 (w37s.k fk_zMc_83)) (w37s.p rfl fv_zMc_83_14) ?_
  refine zs_aload_n (pc := 197) t23_197 rfl ?_
  have w38 := ib83_13 hI
  refine zs_get (pc := 198) t23_198 (by decide) (zk1 (w37s.k fk_zMc_83)) (zfvi rfl ((w37F 83 13 rfl).trans ((w33F 83 13 rfl).trans ((w30F 83 13 rfl).trans ((w27F 83 13 rfl).trans ((zIo (by decide)).trans ((w22F 83 13 rfl).trans ((w19F 83 13 rfl).trans ((w16F 83 13 rfl).trans ((w13F 83 13 rfl).trans ((zIo (by decide)).trans ((w8F 83 13 rfl).trans ((w5F 83 13 rfl).trans ((zIo (by decide)).trans rfl)))))))))))))) ?_
  refine zs_invV (pc := 201) (k := 7) (as' := [.ref 94, .int (zI M 83 13)]) (st := []) t23_201 mf24 rfl rfl (Or.inl ⟨by decide, (zk1 (w37s.k fk_zMc_7))⟩) ⟨by decide, by decide, Nat.le_of_ble_eq_true rfl, Nat.le_of_ble_eq_true rfl⟩ (zs_in (by decide) mf24 (Nat.le_of_ble_eq_true rfl) ?_) (fun _ _ q => q)
  show zGo X l 1 0 0 24 0 [(0, .ref 7), (1, .ref 94), (2, .int (zI M 83 13))] [] w37M _
  refine zs_aload_n (pc := 0) t24_0 rfl ?_
  refine zs_iconst (pc := 1) t24_1 (v := 0) (by decide) ?_
  refine zs_iload_n (pc := 2) t24_2 rfl ?_
  refine zs_sipush (pc := 3) t24_3 (v := 500) (by decide) ?_
  refine zs_invS (pc := 6) (as := [.int (zI M 83 13), .int (500 : Int32)]) (st := [.int (0 : Int32), .ref 7]) t24_6 (by decide) mf20 rfl rfl ⟨by decide, by decide, Nat.le_of_ble_eq_true rfl, Nat.le_of_ble_eq_true rfl⟩ (zs_in (by decide) mf20 (Nat.le_of_ble_eq_true rfl) ?_) (fun _ _ q => q)
  show zGo X l 0 0 0 20 0 [(0, .int (zI M 83 13)), (1, .int (500 : Int32))] [] w37M _
  refine zs_iload_n (pc := 0) t20_0 rfl ?_
  refine zs_iload_n (pc := 1) t20_1 rfl ?_
  refine zs_icmp_gtF (pc := 2) t20_2 rfl li500 (by omega) ?_
  refine zs_iload_n (pc := 5) t20_5 rfl ?_
  refine zs_goto (pc := 6) t20_6 ?_
  refine zs_iret (pc := 10) t20_10 mr20 rfl ?_
  show zGo X l 1 0 0 24 9 [(0, .ref 7), (1, .ref 94), (2, .int (zI M 83 13))] [.int (zI M 83 13), .int (0 : Int32), .ref 7] w37M _
  refine zs_invS (pc := 9) (as := [.int (0 : Int32), .int (zI M 83 13)]) (st := [.ref 7]) t24_9 (by decide) mf21 rfl rfl ⟨by decide, by decide, Nat.le_of_ble_eq_true rfl, Nat.le_of_ble_eq_true rfl⟩ (zs_in (by decide) mf21 (Nat.le_of_ble_eq_true rfl) ?_) (fun _ _ q => q)
  show zGo X l 0 0 0 21 0 [(0, .int (0 : Int32)), (1, .int (zI M 83 13))] [] w37M _
  refine zs_iload_n (pc := 0) t21_0 rfl ?_
  refine zs_iload_n (pc := 1) t21_1 rfl ?_
  by_cases w39 : 0 < (zI M 83 13).toInt
  · refine zs_icmp_ltT (pc := 2) t21_2 li0 rfl (by omega) ?_
    refine zs_iload_n (pc := 9) t21_9 rfl ?_
    refine zs_iret (pc := 10) t21_10 mr21 rfl ?_
    show zGo X l 1 0 0 24 12 [(0, .ref 7), (1, .ref 94), (2, .int (zI M 83 13))] [.int (zI M 83 13), .ref 7] w37M _
    have w40 : zIv cLo cHi (zsI w37M 7 13 (zI M 83 13)) := zIv.put w37I (show 0 ≤ (zI M 83 13).toInt ∧ (zI M 83 13).toInt ≤ 500 from ⟨by omega, by omega⟩)
    refine zs_putI (pc := 12) t24_12 (zk1 (w37s.k fk_zMc_7)) rfl ?_
    refine zs_aload_n (pc := 15) t24_15 rfl ?_
    refine zs_iconst (pc := 16) t24_16 (v := 0) (by decide) ?_
    refine zs_aload_n (pc := 17) t24_17 rfl ?_
    refine zs_get (pc := 18) t24_18 (by decide) (zk1 (w37s.k fk_zMc_7)) (w37s.p rfl fv_zMc_7_14) ?_
    refine zs_iconst (pc := 21) t24_21 (v := 0) (by decide) ?_
    refine zs_aload_n (pc := 22) t24_22 rfl ?_
    refine zs_get (pc := 23) t24_23 (by decide) (zk1 (w37s.k fk_zMc_7)) (zfvi rfl zIs) ?_
    have w41 : (0 : Int32).toInt = 0 := li0
    have w42 : (0 : Int32).toInt = 0 := li0
    refine zs_copy (pc := 26) t24_26 (w37s.k fk_zMc_94) (w37s.k fk_zMc_18) (by decide) (by decide) (by decide) ⟨by omega, by omega, by omega⟩ (by omega) (by omega) ⟨Nat.le_of_ble_eq_true rfl, by decide⟩ ?_
    obtain ⟨w43M, w43e⟩ : ∃ N, N = zsR (zsI w37M 7 13 (zI M 83 13)) 18 (va_cpy (zI (zsI w37M 7 13 (zI M 83 13)) 94) (zI (zsI w37M 7 13 (zI M 83 13)) 18) (0 : Int32).toNatClampNeg (0 : Int32).toNatClampNeg (zI M 83 13).toNatClampNeg) := ⟨_, rfl⟩
    have w43s : zSk zMc w43M := by rw [w43e]; exact w37s
    have w43I : zIv cLo cHi w43M := by rw [w43e]; exact zIv.row w40 (fun _ => zcpyB (fun j => ib94 w40 j) (fun j => ib18 w40 j))
    have w43F : zFr [(18, 18, none)] (zsI w37M 7 13 (zI M 83 13)) w43M := by rw [w43e]; exact zFr.row zFr.refl (fun _ => rfl)
    have w43C : ∀ j : Nat, (j : Int) < (zI M 83 13).toInt → zI w43M 18 j = zI (zsI w37M 7 13 (zI M 83 13)) 94 j := fun j hj => by rw [w43e]; exact (congrFun zRs j).trans (zcpy0 (by omega) (by omega) hj)
    rw [← w43e]
    refine zs_vret (pc := 29) t24_29 mr24 ?_
    show zGo X l 2 0 0 23 204 [(0, .ref 7), (1, .ref 83)] [] w43M _
    have w44 : (zI w43M 7 0).toInt = (zI M 83 0).toInt := (congrArg Int32.toInt ((w43F 7 0 rfl).trans ((zIoj (by decide)).trans ((w37F 7 0 rfl).trans ((w33F 7 0 rfl).trans ((w30F 7 0 rfl).trans ((w27F 7 0 rfl).trans ((zIoj (by decide)).trans ((w22F 7 0 rfl).trans ((w19F 7 0 rfl).trans ((w16F 7 0 rfl).trans ((w13F 7 0 rfl).trans ((zIoj (by decide)).trans ((w8F 7 0 rfl).trans ((w5F 7 0 rfl).trans zIs))))))))))))))).trans rfl
    have w45 : (zI w43M 7 3).toInt = (zI M 83 3).toInt := (congrArg Int32.toInt ((w43F 7 3 rfl).trans ((zIoj (by decide)).trans ((w37F 7 3 rfl).trans ((w33F 7 3 rfl).trans ((w30F 7 3 rfl).trans ((w27F 7 3 rfl).trans ((zIoj (by decide)).trans ((w22F 7 3 rfl).trans ((w19F 7 3 rfl).trans ((w16F 7 3 rfl).trans ((w13F 7 3 rfl).trans zIs)))))))))))).trans rfl
    have w46 : (zI w43M 7 8).toInt = (zI M 83 8).toInt := (congrArg Int32.toInt ((w43F 7 8 rfl).trans ((zIoj (by decide)).trans ((w37F 7 8 rfl).trans ((w33F 7 8 rfl).trans ((w30F 7 8 rfl).trans ((w27F 7 8 rfl).trans zIs))))))).trans rfl
    have w47 : (zI w43M 7 13).toInt = (zI M 83 13).toInt := (congrArg Int32.toInt ((w43F 7 13 rfl).trans zIs)).trans rfl
    have w48 : (zI (zsI M 7 0 (zI M 83 0)) 83 0).toInt = (zI M 83 0).toInt := (congrArg Int32.toInt ((zIo (by decide)).trans rfl)).trans rfl
    have w49 : (zI (zsI M 7 0 (zI M 83 0)) 83 3).toInt = (zI M 83 3).toInt := (congrArg Int32.toInt ((zIo (by decide)).trans rfl)).trans rfl
    have w50 : (zI (zsI M 7 0 (zI M 83 0)) 83 8).toInt = (zI M 83 8).toInt := (congrArg Int32.toInt ((zIo (by decide)).trans rfl)).trans rfl
    have w51 : (zI (zsI M 7 0 (zI M 83 0)) 83 13).toInt = (zI M 83 13).toInt := (congrArg Int32.toInt ((zIo (by decide)).trans rfl)).trans rfl
    exact zs_vret (pc := 204) t23_204 mr23 (hQ _ w43s w43I ((((((((((((((((zFr.refl).put rfl).trans (w5F.mono rfl)).trans (w8F.mono rfl)).put rfl).trans (w13F.mono rfl)).trans (w16F.mono rfl)).trans (w19F.mono rfl)).trans (w22F.mono rfl)).put rfl).trans (w27F.mono rfl)).trans (w30F.mono rfl)).trans (w33F.mono rfl)).trans (w37F.mono rfl)).put rfl).trans (w43F.mono rfl)) (zSo.cp x0 (by omega) (by omega) (by omega) (by omega) (fun j hj => ((((w43F 8 j rfl).trans ((zIo (by decide)).trans ((w37F 8 j rfl).trans ((w33F 8 j rfl).trans ((w30F 8 j rfl).trans ((w27F 8 j rfl).trans ((zIo (by decide)).trans ((w22F 8 j rfl).trans ((w19F 8 j rfl).trans ((w16F 8 j rfl).trans ((w13F 8 j rfl).trans ((zIo (by decide)).trans (w8F 8 j rfl))))))))))))).trans (w5C j (by omega))).trans (zIo (by decide)))) (fun j hj => ((((w43F 9 j rfl).trans ((zIo (by decide)).trans ((w37F 9 j rfl).trans ((w33F 9 j rfl).trans ((w30F 9 j rfl).trans ((w27F 9 j rfl).trans ((zIo (by decide)).trans ((w22F 9 j rfl).trans ((w19F 9 j rfl).trans ((w16F 9 j rfl).trans ((w13F 9 j rfl).trans (zIo (by decide))))))))))))).trans (w8C j (by omega))).trans ((w5F 85 j rfl).trans (zIo (by decide))))) (fun j hj => ((((w43F 10 j rfl).trans ((zIo (by decide)).trans ((w37F 10 j rfl).trans ((w33F 10 j rfl).trans ((w30F 10 j rfl).trans ((w27F 10 j rfl).trans ((zIo (by decide)).trans ((w22F 10 j rfl).trans ((w19F 10 j rfl).trans (w16F 10 j rfl)))))))))).trans (w13C j (by omega))).trans ((zIo (by decide)).trans ((w8F 86 j rfl).trans ((w5F 86 j rfl).trans (zIo (by decide))))))) (fun j hj => ((((w43F 11 j rfl).trans ((zIo (by decide)).trans ((w37F 11 j rfl).trans ((w33F 11 j rfl).trans ((w30F 11 j rfl).trans ((w27F 11 j rfl).trans ((zIo (by decide)).trans ((w22F 11 j rfl).trans (w19F 11 j rfl))))))))).trans (w16C j (by omega))).trans ((w13F 87 j rfl).trans ((zIo (by decide)).trans ((w8F 87 j rfl).trans ((w5F 87 j rfl).trans (zIo (by decide)))))))) (fun j hj => ((((w43F 12 j rfl).trans ((zIo (by decide)).trans ((w37F 12 j rfl).trans ((w33F 12 j rfl).trans ((w30F 12 j rfl).trans ((w27F 12 j rfl).trans ((zIo (by decide)).trans (w22F 12 j rfl)))))))).trans (w19C j (by omega))).trans ((w16F 88 j rfl).trans ((w13F 88 j rfl).trans ((zIo (by decide)).trans ((w8F 88 j rfl).trans ((w5F 88 j rfl).trans (zIo (by decide))))))))) (fun j hj => ((((w43F 13 j rfl).trans ((zIo (by decide)).trans ((w37F 13 j rfl).trans ((w33F 13 j rfl).trans ((w30F 13 j rfl).trans ((w27F 13 j rfl).trans (zIo (by decide)))))))).trans (w22C j (by omega))).trans ((w19F 89 j rfl).trans ((w16F 89 j rfl).trans ((w13F 89 j rfl).trans ((zIo (by decide)).trans ((w8F 89 j rfl).trans ((w5F 89 j rfl).trans (zIo (by decide)))))))))) (fun j hj => ((((w43F 14 j rfl).trans ((zIo (by decide)).trans ((w37F 14 j rfl).trans ((w33F 14 j rfl).trans (w30F 14 j rfl))))).trans (w27C j (by omega))).trans ((zIo (by decide)).trans ((w22F 90 j rfl).trans ((w19F 90 j rfl).trans ((w16F 90 j rfl).trans ((w13F 90 j rfl).trans ((zIo (by decide)).trans ((w8F 90 j rfl).trans ((w5F 90 j rfl).trans (zIo (by decide)))))))))))) (fun j hj => ((((w43F 15 j rfl).trans ((zIo (by decide)).trans ((w37F 15 j rfl).trans (w33F 15 j rfl)))).trans (w30C j (by omega))).trans ((w27F 91 j rfl).trans ((zIo (by decide)).trans ((w22F 91 j rfl).trans ((w19F 91 j rfl).trans ((w16F 91 j rfl).trans ((w13F 91 j rfl).trans ((zIo (by decide)).trans ((w8F 91 j rfl).trans ((w5F 91 j rfl).trans (zIo (by decide))))))))))))) (fun j hj => ((((w43F 16 j rfl).trans ((zIo (by decide)).trans (w37F 16 j rfl))).trans (w33C j (by omega))).trans ((w30F 92 j rfl).trans ((w27F 92 j rfl).trans ((zIo (by decide)).trans ((w22F 92 j rfl).trans ((w19F 92 j rfl).trans ((w16F 92 j rfl).trans ((w13F 92 j rfl).trans ((zIo (by decide)).trans ((w8F 92 j rfl).trans ((w5F 92 j rfl).trans (zIo (by decide)))))))))))))) (fun j hj => ((((w43F 17 j rfl).trans (zIo (by decide))).trans (w37C j (by omega))).trans ((w33F 93 j rfl).trans ((w30F 93 j rfl).trans ((w27F 93 j rfl).trans ((zIo (by decide)).trans ((w22F 93 j rfl).trans ((w19F 93 j rfl).trans ((w16F 93 j rfl).trans ((w13F 93 j rfl).trans ((zIo (by decide)).trans ((w8F 93 j rfl).trans ((w5F 93 j rfl).trans (zIo (by decide))))))))))))))) (fun j hj => ((w43C j (by omega)).trans ((zIo (by decide)).trans ((w37F 94 j rfl).trans ((w33F 94 j rfl).trans ((w30F 94 j rfl).trans ((w27F 94 j rfl).trans ((zIo (by decide)).trans ((w22F 94 j rfl).trans ((w19F 94 j rfl).trans ((w16F 94 j rfl).trans ((w13F 94 j rfl).trans ((zIo (by decide)).trans ((w8F 94 j rfl).trans ((w5F 94 j rfl).trans (zIo (by decide)))))))))))))))))))
  · refine zs_icmp_ltF (pc := 2) t21_2 li0 rfl (by omega) ?_
    refine zs_iload_n (pc := 5) t21_5 rfl ?_
    refine zs_goto (pc := 6) t21_6 ?_
    refine zs_iret (pc := 10) t21_10 mr21 (by decide) ?_
    show zGo X l 1 0 0 24 12 [(0, .ref 7), (1, .ref 94), (2, .int (zI M 83 13))] [.int (0 : Int32), .ref 7] w37M _
    have w52 : zIv cLo cHi (zsI w37M 7 13 (0 : Int32)) := zIv.put w37I (show 0 ≤ (0 : Int32).toInt ∧ (0 : Int32).toInt ≤ 500 from ⟨by decide, by decide⟩)
    refine zs_putI (pc := 12) t24_12 (zk1 (w37s.k fk_zMc_7)) rfl ?_
    refine zs_aload_n (pc := 15) t24_15 rfl ?_
    refine zs_iconst (pc := 16) t24_16 (v := 0) (by decide) ?_
    refine zs_aload_n (pc := 17) t24_17 rfl ?_
    refine zs_get (pc := 18) t24_18 (by decide) (zk1 (w37s.k fk_zMc_7)) (w37s.p rfl fv_zMc_7_14) ?_
    refine zs_iconst (pc := 21) t24_21 (v := 0) (by decide) ?_
    refine zs_aload_n (pc := 22) t24_22 rfl ?_
    refine zs_get (pc := 23) t24_23 (by decide) (zk1 (w37s.k fk_zMc_7)) (zfvi rfl zIs) ?_
    have w53 : (0 : Int32).toInt = 0 := li0
    have w54 : (0 : Int32).toInt = 0 := li0
    have w55 : (0 : Int32).toInt = 0 := li0
    refine zs_copy (pc := 26) t24_26 (w37s.k fk_zMc_94) (w37s.k fk_zMc_18) (by decide) (by decide) (by decide) ⟨by omega, by omega, by omega⟩ (by omega) (by omega) ⟨Nat.le_of_ble_eq_true rfl, by decide⟩ ?_
    obtain ⟨w56M, w56e⟩ : ∃ N, N = zsR (zsI w37M 7 13 (0 : Int32)) 18 (va_cpy (zI (zsI w37M 7 13 (0 : Int32)) 94) (zI (zsI w37M 7 13 (0 : Int32)) 18) (0 : Int32).toNatClampNeg (0 : Int32).toNatClampNeg (0 : Int32).toNatClampNeg) := ⟨_, rfl⟩
    have w56s : zSk zMc w56M := by rw [w56e]; exact w37s
    have w56I : zIv cLo cHi w56M := by rw [w56e]; exact zIv.row w52 (fun _ => zcpyB (fun j => ib94 w52 j) (fun j => ib18 w52 j))
    have w56F : zFr [(18, 18, none)] (zsI w37M 7 13 (0 : Int32)) w56M := by rw [w56e]; exact zFr.row zFr.refl (fun _ => rfl)
    have w56C : ∀ j : Nat, (j : Int) < (0 : Int32).toInt → zI w56M 18 j = zI (zsI w37M 7 13 (0 : Int32)) 94 j := fun j hj => by rw [w56e]; exact (congrFun zRs j).trans (zcpy0 (by omega) (by omega) hj)
    rw [← w56e]
    refine zs_vret (pc := 29) t24_29 mr24 ?_
    show zGo X l 2 0 0 23 204 [(0, .ref 7), (1, .ref 83)] [] w56M _
    have w57 : (zI w56M 7 0).toInt = (zI M 83 0).toInt := (congrArg Int32.toInt ((w56F 7 0 rfl).trans ((zIoj (by decide)).trans ((w37F 7 0 rfl).trans ((w33F 7 0 rfl).trans ((w30F 7 0 rfl).trans ((w27F 7 0 rfl).trans ((zIoj (by decide)).trans ((w22F 7 0 rfl).trans ((w19F 7 0 rfl).trans ((w16F 7 0 rfl).trans ((w13F 7 0 rfl).trans ((zIoj (by decide)).trans ((w8F 7 0 rfl).trans ((w5F 7 0 rfl).trans zIs))))))))))))))).trans rfl
    have w58 : (zI w56M 7 3).toInt = (zI M 83 3).toInt := (congrArg Int32.toInt ((w56F 7 3 rfl).trans ((zIoj (by decide)).trans ((w37F 7 3 rfl).trans ((w33F 7 3 rfl).trans ((w30F 7 3 rfl).trans ((w27F 7 3 rfl).trans ((zIoj (by decide)).trans ((w22F 7 3 rfl).trans ((w19F 7 3 rfl).trans ((w16F 7 3 rfl).trans ((w13F 7 3 rfl).trans zIs)))))))))))).trans rfl
    have w59 : (zI w56M 7 8).toInt = (zI M 83 8).toInt := (congrArg Int32.toInt ((w56F 7 8 rfl).trans ((zIoj (by decide)).trans ((w37F 7 8 rfl).trans ((w33F 7 8 rfl).trans ((w30F 7 8 rfl).trans ((w27F 7 8 rfl).trans zIs))))))).trans rfl
    have w60 : (zI w56M 7 13).toInt = 0 := (congrArg Int32.toInt ((w56F 7 13 rfl).trans zIs)).trans li0
    have w61 : (zI (zsI M 7 0 (zI M 83 0)) 83 0).toInt = (zI M 83 0).toInt := (congrArg Int32.toInt ((zIo (by decide)).trans rfl)).trans rfl
    have w62 : (zI (zsI M 7 0 (zI M 83 0)) 83 3).toInt = (zI M 83 3).toInt := (congrArg Int32.toInt ((zIo (by decide)).trans rfl)).trans rfl
    have w63 : (zI (zsI M 7 0 (zI M 83 0)) 83 8).toInt = (zI M 83 8).toInt := (congrArg Int32.toInt ((zIo (by decide)).trans rfl)).trans rfl
    have w64 : (zI (zsI M 7 0 (zI M 83 0)) 83 13).toInt = (zI M 83 13).toInt := (congrArg Int32.toInt ((zIo (by decide)).trans rfl)).trans rfl
    exact zs_vret (pc := 204) t23_204 mr23 (hQ _ w56s w56I ((((((((((((((((zFr.refl).put rfl).trans (w5F.mono rfl)).trans (w8F.mono rfl)).put rfl).trans (w13F.mono rfl)).trans (w16F.mono rfl)).trans (w19F.mono rfl)).trans (w22F.mono rfl)).put rfl).trans (w27F.mono rfl)).trans (w30F.mono rfl)).trans (w33F.mono rfl)).trans (w37F.mono rfl)).put rfl).trans (w56F.mono rfl)) (zSo.cp x0 (by omega) (by omega) (by omega) (by omega) (fun j hj => ((((w56F 8 j rfl).trans ((zIo (by decide)).trans ((w37F 8 j rfl).trans ((w33F 8 j rfl).trans ((w30F 8 j rfl).trans ((w27F 8 j rfl).trans ((zIo (by decide)).trans ((w22F 8 j rfl).trans ((w19F 8 j rfl).trans ((w16F 8 j rfl).trans ((w13F 8 j rfl).trans ((zIo (by decide)).trans (w8F 8 j rfl))))))))))))).trans (w5C j (by omega))).trans (zIo (by decide)))) (fun j hj => ((((w56F 9 j rfl).trans ((zIo (by decide)).trans ((w37F 9 j rfl).trans ((w33F 9 j rfl).trans ((w30F 9 j rfl).trans ((w27F 9 j rfl).trans ((zIo (by decide)).trans ((w22F 9 j rfl).trans ((w19F 9 j rfl).trans ((w16F 9 j rfl).trans ((w13F 9 j rfl).trans (zIo (by decide))))))))))))).trans (w8C j (by omega))).trans ((w5F 85 j rfl).trans (zIo (by decide))))) (fun j hj => ((((w56F 10 j rfl).trans ((zIo (by decide)).trans ((w37F 10 j rfl).trans ((w33F 10 j rfl).trans ((w30F 10 j rfl).trans ((w27F 10 j rfl).trans ((zIo (by decide)).trans ((w22F 10 j rfl).trans ((w19F 10 j rfl).trans (w16F 10 j rfl)))))))))).trans (w13C j (by omega))).trans ((zIo (by decide)).trans ((w8F 86 j rfl).trans ((w5F 86 j rfl).trans (zIo (by decide))))))) (fun j hj => ((((w56F 11 j rfl).trans ((zIo (by decide)).trans ((w37F 11 j rfl).trans ((w33F 11 j rfl).trans ((w30F 11 j rfl).trans ((w27F 11 j rfl).trans ((zIo (by decide)).trans ((w22F 11 j rfl).trans (w19F 11 j rfl))))))))).trans (w16C j (by omega))).trans ((w13F 87 j rfl).trans ((zIo (by decide)).trans ((w8F 87 j rfl).trans ((w5F 87 j rfl).trans (zIo (by decide)))))))) (fun j hj => ((((w56F 12 j rfl).trans ((zIo (by decide)).trans ((w37F 12 j rfl).trans ((w33F 12 j rfl).trans ((w30F 12 j rfl).trans ((w27F 12 j rfl).trans ((zIo (by decide)).trans (w22F 12 j rfl)))))))).trans (w19C j (by omega))).trans ((w16F 88 j rfl).trans ((w13F 88 j rfl).trans ((zIo (by decide)).trans ((w8F 88 j rfl).trans ((w5F 88 j rfl).trans (zIo (by decide))))))))) (fun j hj => ((((w56F 13 j rfl).trans ((zIo (by decide)).trans ((w37F 13 j rfl).trans ((w33F 13 j rfl).trans ((w30F 13 j rfl).trans ((w27F 13 j rfl).trans (zIo (by decide)))))))).trans (w22C j (by omega))).trans ((w19F 89 j rfl).trans ((w16F 89 j rfl).trans ((w13F 89 j rfl).trans ((zIo (by decide)).trans ((w8F 89 j rfl).trans ((w5F 89 j rfl).trans (zIo (by decide)))))))))) (fun j hj => ((((w56F 14 j rfl).trans ((zIo (by decide)).trans ((w37F 14 j rfl).trans ((w33F 14 j rfl).trans (w30F 14 j rfl))))).trans (w27C j (by omega))).trans ((zIo (by decide)).trans ((w22F 90 j rfl).trans ((w19F 90 j rfl).trans ((w16F 90 j rfl).trans ((w13F 90 j rfl).trans ((zIo (by decide)).trans ((w8F 90 j rfl).trans ((w5F 90 j rfl).trans (zIo (by decide)))))))))))) (fun j hj => ((((w56F 15 j rfl).trans ((zIo (by decide)).trans ((w37F 15 j rfl).trans (w33F 15 j rfl)))).trans (w30C j (by omega))).trans ((w27F 91 j rfl).trans ((zIo (by decide)).trans ((w22F 91 j rfl).trans ((w19F 91 j rfl).trans ((w16F 91 j rfl).trans ((w13F 91 j rfl).trans ((zIo (by decide)).trans ((w8F 91 j rfl).trans ((w5F 91 j rfl).trans (zIo (by decide))))))))))))) (fun j hj => ((((w56F 16 j rfl).trans ((zIo (by decide)).trans (w37F 16 j rfl))).trans (w33C j (by omega))).trans ((w30F 92 j rfl).trans ((w27F 92 j rfl).trans ((zIo (by decide)).trans ((w22F 92 j rfl).trans ((w19F 92 j rfl).trans ((w16F 92 j rfl).trans ((w13F 92 j rfl).trans ((zIo (by decide)).trans ((w8F 92 j rfl).trans ((w5F 92 j rfl).trans (zIo (by decide)))))))))))))) (fun j hj => ((((w56F 17 j rfl).trans (zIo (by decide))).trans (w37C j (by omega))).trans ((w33F 93 j rfl).trans ((w30F 93 j rfl).trans ((w27F 93 j rfl).trans ((zIo (by decide)).trans ((w22F 93 j rfl).trans ((w19F 93 j rfl).trans ((w16F 93 j rfl).trans ((w13F 93 j rfl).trans ((zIo (by decide)).trans ((w8F 93 j rfl).trans ((w5F 93 j rfl).trans (zIo (by decide))))))))))))))) (fun j hj => ((w56C j (by omega)).trans ((zIo (by decide)).trans ((w37F 94 j rfl).trans ((w33F 94 j rfl).trans ((w30F 94 j rfl).trans ((w27F 94 j rfl).trans ((zIo (by decide)).trans ((w22F 94 j rfl).trans ((w19F 94 j rfl).trans ((w16F 94 j rfl).trans ((w13F 94 j rfl).trans ((zIo (by decide)).trans ((w8F 94 j rfl).trans ((w5F 94 j rfl).trans (zIo (by decide)))))))))))))))))))
theorem X23_7_95 {X : zX} {l : Launch} {M : zM} {Q : Option Value → zM → Prop} (hs : zSk zMc M) (hI : zIv cLo cHi M) {F : Nat → Int} (x0 : zSo M 95 F) (hQ : ∀ M', zSk zMc M' → zIv cLo cHi M' → zFr [(7, 7, none), (8, 18, none)] M M' → (zSo M' 7 F) → Q none M') : zCall X l 2 0 0 23 [.ref 7, .ref 95] M Q := by
  refine zs_in (by decide) mf23 (Nat.le_of_ble_eq_true rfl) ?_
  show zGo X l 2 0 0 23 0 [(0, .ref 7), (1, .ref 95)] [] M _
  refine zs_aload_n (pc := 0) t23_0 rfl ?_
  refine zs_aload_n (pc := 1) t23_1 rfl ?_
  have w1 := ib95_0 hI
  refine zs_get (pc := 2) t23_2 (by decide) (zk1 (hs.k fk_zMc_95)) (zfvi rfl rfl) ?_
  have w2 : zIv cLo cHi (zsI M 7 0 (zI M 95 0)) := zIv.put hI (show 0 ≤ (zI M 95 0).toInt ∧ (zI M 95 0).toInt ≤ 8 from ⟨by omega, by omega⟩)
  refine zs_putI (pc := 5) t23_5 (zk1 (hs.k fk_zMc_7)) rfl ?_
  refine zs_aload_n (pc := 8) t23_8 rfl ?_
  refine zs_get (pc := 9) t23_9 (by decide) (zk1 (hs.k fk_zMc_95)) (hs.p rfl fv_zMc_95_1) ?_
  refine zs_iconst (pc := 12) t23_12 (v := 0) (by decide) ?_
  refine zs_aload_n (pc := 13) t23_13 rfl ?_
  refine zs_get (pc := 14) t23_14 (by decide) (zk1 (hs.k fk_zMc_7)) (hs.p rfl fv_zMc_7_1) ?_
  refine zs_iconst (pc := 17) t23_17 (v := 0) (by decide) ?_
  refine zs_aload_n (pc := 18) t23_18 rfl ?_
  refine zs_get (pc := 19) t23_19 (by decide) (zk1 (hs.k fk_zMc_7)) (zfvi rfl zIs) ?_
  have w3 : (0 : Int32).toInt = 0 := li0
  have w4 : (0 : Int32).toInt = 0 := li0
  refine zs_copy (pc := 22) t23_22 (hs.k fk_zMc_96) (hs.k fk_zMc_8) (by decide) (by decide) (by decide) ⟨by omega, by omega, by omega⟩ (by omega) (by omega) ⟨Nat.le_of_ble_eq_true rfl, by decide⟩ ?_
  obtain ⟨w5M, w5e⟩ : ∃ N, N = zsR (zsI M 7 0 (zI M 95 0)) 8 (va_cpy (zI (zsI M 7 0 (zI M 95 0)) 96) (zI (zsI M 7 0 (zI M 95 0)) 8) (0 : Int32).toNatClampNeg (0 : Int32).toNatClampNeg (zI M 95 0).toNatClampNeg) := ⟨_, rfl⟩
  have w5s : zSk zMc w5M := by rw [w5e]; exact hs
  have w5I : zIv cLo cHi w5M := by rw [w5e]; exact zIv.row w2 (fun _ => zrg _)
  have w5F : zFr [(8, 8, none)] (zsI M 7 0 (zI M 95 0)) w5M := by rw [w5e]; exact zFr.row zFr.refl (fun _ => rfl)
  have w5C : ∀ j : Nat, (j : Int) < (zI M 95 0).toInt → zI w5M 8 j = zI (zsI M 7 0 (zI M 95 0)) 96 j := fun j hj => by rw [w5e]; exact (congrFun zRs j).trans (zcpy0 (by omega) (by omega) hj)
  rw [← w5e]
  refine zs_aload_n (pc := 25) t23_25 rfl ?_
  refine zs_get (pc := 26) t23_26 (by decide) (zk1 (w5s.k fk_zMc_95)) (w5s.p rfl fv_zMc_95_2) ?_
  refine zs_iconst (pc := 29) t23_29 (v := 0) (by decide) ?_
  refine zs_aload_n (pc := 30) t23_30 rfl ?_
  refine zs_get (pc := 31) t23_31 (by decide) (zk1 (w5s.k fk_zMc_7)) (w5s.p rfl fv_zMc_7_2) ?_
  refine zs_iconst (pc := 34) t23_34 (v := 0) (by decide) ?_
  refine zs_aload_n (pc := 35) t23_35 rfl ?_
  refine zs_get (pc := 36) t23_36 (by decide) (zk1 (w5s.k fk_zMc_7)) (zfvi rfl ((w5F 7 0 rfl).trans zIs)) ?_
  have w6 : (0 : Int32).toInt = 0 := li0
  have w7 : (0 : Int32).toInt = 0 := li0
  refine zs_copy (pc := 39) t23_39 (w5s.k fk_zMc_97) (w5s.k fk_zMc_9) (by decide) (by decide) (by decide) ⟨by omega, by omega, by omega⟩ (by omega) (by omega) ⟨Nat.le_of_ble_eq_true rfl, by decide⟩ ?_
  obtain ⟨w8M, w8e⟩ : ∃ N, N = zsR w5M 9 (va_cpy (zI w5M 97) (zI w5M 9) (0 : Int32).toNatClampNeg (0 : Int32).toNatClampNeg (zI M 95 0).toNatClampNeg) := ⟨_, rfl⟩
  have w8s : zSk zMc w8M := by rw [w8e]; exact w5s
  have w8I : zIv cLo cHi w8M := by rw [w8e]; exact zIv.row w5I (fun _ => zcpyB (fun j => ib97 w5I j) (fun j => ib9 w5I j))
  have w8F : zFr [(9, 9, none)] w5M w8M := by rw [w8e]; exact zFr.row zFr.refl (fun _ => rfl)
  have w8C : ∀ j : Nat, (j : Int) < (zI M 95 0).toInt → zI w8M 9 j = zI w5M 97 j := fun j hj => by rw [w8e]; exact (congrFun zRs j).trans (zcpy0 (by omega) (by omega) hj)
  rw [← w8e]
  refine zs_aload_n (pc := 42) t23_42 rfl ?_
  refine zs_aload_n (pc := 43) t23_43 rfl ?_
  have w9 := ib95_3 hI
  refine zs_get (pc := 44) t23_44 (by decide) (zk1 (w8s.k fk_zMc_95)) (zfvi rfl ((w8F 95 3 rfl).trans ((w5F 95 3 rfl).trans ((zIo (by decide)).trans rfl)))) ?_
  have w10 : zIv cLo cHi (zsI w8M 7 3 (zI M 95 3)) := zIv.put w8I (show 0 ≤ (zI M 95 3).toInt ∧ (zI M 95 3).toInt ≤ 60 from ⟨by omega, by omega⟩)
  refine zs_putI (pc := 47) t23_47 (zk1 (w8s.k fk_zMc_7)) rfl ?_
  refine zs_aload_n (pc := 50) t23_50 rfl ?_
  refine zs_get (pc := 51) t23_51 (by decide) (zk1 (w8s.k fk_zMc_95)) (w8s.p rfl fv_zMc_95_4) ?_
  refine zs_iconst (pc := 54) t23_54 (v := 0) (by decide) ?_
  refine zs_aload_n (pc := 55) t23_55 rfl ?_
  refine zs_get (pc := 56) t23_56 (by decide) (zk1 (w8s.k fk_zMc_7)) (w8s.p rfl fv_zMc_7_4) ?_
  refine zs_iconst (pc := 59) t23_59 (v := 0) (by decide) ?_
  refine zs_aload_n (pc := 60) t23_60 rfl ?_
  refine zs_get (pc := 61) t23_61 (by decide) (zk1 (w8s.k fk_zMc_7)) (zfvi rfl zIs) ?_
  have w11 : (0 : Int32).toInt = 0 := li0
  have w12 : (0 : Int32).toInt = 0 := li0
  refine zs_copy (pc := 64) t23_64 (w8s.k fk_zMc_98) (w8s.k fk_zMc_10) (by decide) (by decide) (by decide) ⟨by omega, by omega, by omega⟩ (by omega) (by omega) ⟨Nat.le_of_ble_eq_true rfl, by decide⟩ ?_
  obtain ⟨w13M, w13e⟩ : ∃ N, N = zsR (zsI w8M 7 3 (zI M 95 3)) 10 (va_cpy (zI (zsI w8M 7 3 (zI M 95 3)) 98) (zI (zsI w8M 7 3 (zI M 95 3)) 10) (0 : Int32).toNatClampNeg (0 : Int32).toNatClampNeg (zI M 95 3).toNatClampNeg) := ⟨_, rfl⟩
  have w13s : zSk zMc w13M := by rw [w13e]; exact w8s
  have w13I : zIv cLo cHi w13M := by rw [w13e]; exact zIv.row w10 (fun _ => zcpyB (fun j => ib98 w10 j) (fun j => ib10 w10 j))
  have w13F : zFr [(10, 10, none)] (zsI w8M 7 3 (zI M 95 3)) w13M := by rw [w13e]; exact zFr.row zFr.refl (fun _ => rfl)
  have w13C : ∀ j : Nat, (j : Int) < (zI M 95 3).toInt → zI w13M 10 j = zI (zsI w8M 7 3 (zI M 95 3)) 98 j := fun j hj => by rw [w13e]; exact (congrFun zRs j).trans (zcpy0 (by omega) (by omega) hj)
  rw [← w13e]
  refine zs_aload_n (pc := 67) t23_67 rfl ?_
  refine zs_get (pc := 68) t23_68 (by decide) (zk1 (w13s.k fk_zMc_95)) (w13s.p rfl fv_zMc_95_5) ?_
  refine zs_iconst (pc := 71) t23_71 (v := 0) (by decide) ?_
  refine zs_aload_n (pc := 72) t23_72 rfl ?_
  refine zs_get (pc := 73) t23_73 (by decide) (zk1 (w13s.k fk_zMc_7)) (w13s.p rfl fv_zMc_7_5) ?_
  refine zs_iconst (pc := 76) t23_76 (v := 0) (by decide) ?_
  refine zs_aload_n (pc := 77) t23_77 rfl ?_
  refine zs_get (pc := 78) t23_78 (by decide) (zk1 (w13s.k fk_zMc_7)) (zfvi rfl ((w13F 7 3 rfl).trans zIs)) ?_
  have w14 : (0 : Int32).toInt = 0 := li0
  have w15 : (0 : Int32).toInt = 0 := li0
  refine zs_copy (pc := 81) t23_81 (w13s.k fk_zMc_99) (w13s.k fk_zMc_11) (by decide) (by decide) (by decide) ⟨by omega, by omega, by omega⟩ (by omega) (by omega) ⟨Nat.le_of_ble_eq_true rfl, by decide⟩ ?_
  obtain ⟨w16M, w16e⟩ : ∃ N, N = zsR w13M 11 (va_cpy (zI w13M 99) (zI w13M 11) (0 : Int32).toNatClampNeg (0 : Int32).toNatClampNeg (zI M 95 3).toNatClampNeg) := ⟨_, rfl⟩
  have w16s : zSk zMc w16M := by rw [w16e]; exact w13s
  have w16I : zIv cLo cHi w16M := by rw [w16e]; exact zIv.row w13I (fun _ => zrg _)
  have w16F : zFr [(11, 11, none)] w13M w16M := by rw [w16e]; exact zFr.row zFr.refl (fun _ => rfl)
  have w16C : ∀ j : Nat, (j : Int) < (zI M 95 3).toInt → zI w16M 11 j = zI w13M 99 j := fun j hj => by rw [w16e]; exact (congrFun zRs j).trans (zcpy0 (by omega) (by omega) hj)
  rw [← w16e]
  refine zs_aload_n (pc := 84) t23_84 rfl ?_
  refine zs_get (pc := 85) t23_85 (by decide) (zk1 (w16s.k fk_zMc_95)) (w16s.p rfl fv_zMc_95_6) ?_
  refine zs_iconst (pc := 88) t23_88 (v := 0) (by decide) ?_
  refine zs_aload_n (pc := 89) t23_89 rfl ?_
  refine zs_get (pc := 90) t23_90 (by decide) (zk1 (w16s.k fk_zMc_7)) (w16s.p rfl fv_zMc_7_6) ?_
  refine zs_iconst (pc := 93) t23_93 (v := 0) (by decide) ?_
  refine zs_aload_n (pc := 94) t23_94 rfl ?_
  refine zs_get (pc := 95) t23_95 (by decide) (zk1 (w16s.k fk_zMc_7)) (zfvi rfl ((w16F 7 3 rfl).trans ((w13F 7 3 rfl).trans zIs))) ?_
  have w17 : (0 : Int32).toInt = 0 := li0
  have w18 : (0 : Int32).toInt = 0 := li0
  refine zs_copy (pc := 98) t23_98 (w16s.k fk_zMc_100) (w16s.k fk_zMc_12) (by decide) (by decide) (by decide) ⟨by omega, by omega, by omega⟩ (by omega) (by omega) ⟨Nat.le_of_ble_eq_true rfl, by decide⟩ ?_
  obtain ⟨w19M, w19e⟩ : ∃ N, N = zsR w16M 12 (va_cpy (zI w16M 100) (zI w16M 12) (0 : Int32).toNatClampNeg (0 : Int32).toNatClampNeg (zI M 95 3).toNatClampNeg) := ⟨_, rfl⟩
  have w19s : zSk zMc w19M := by rw [w19e]; exact w16s
  have w19I : zIv cLo cHi w19M := by rw [w19e]; exact zIv.row w16I (fun _ => zrg _)
  have w19F : zFr [(12, 12, none)] w16M w19M := by rw [w19e]; exact zFr.row zFr.refl (fun _ => rfl)
  have w19C : ∀ j : Nat, (j : Int) < (zI M 95 3).toInt → zI w19M 12 j = zI w16M 100 j := fun j hj => by rw [w19e]; exact (congrFun zRs j).trans (zcpy0 (by omega) (by omega) hj)
  rw [← w19e]
  refine zs_aload_n (pc := 101) t23_101 rfl ?_
  refine zs_get (pc := 102) t23_102 (by decide) (zk1 (w19s.k fk_zMc_95)) (w19s.p rfl fv_zMc_95_7) ?_
  refine zs_iconst (pc := 105) t23_105 (v := 0) (by decide) ?_
  refine zs_aload_n (pc := 106) t23_106 rfl ?_
  refine zs_get (pc := 107) t23_107 (by decide) (zk1 (w19s.k fk_zMc_7)) (w19s.p rfl fv_zMc_7_7) ?_
  refine zs_iconst (pc := 110) t23_110 (v := 0) (by decide) ?_
  refine zs_aload_n (pc := 111) t23_111 rfl ?_
  refine zs_get (pc := 112) t23_112 (by decide) (zk1 (w19s.k fk_zMc_7)) (zfvi rfl ((w19F 7 3 rfl).trans ((w16F 7 3 rfl).trans ((w13F 7 3 rfl).trans zIs)))) ?_
  have w20 : (0 : Int32).toInt = 0 := li0
  have w21 : (0 : Int32).toInt = 0 := li0
  refine zs_copy (pc := 115) t23_115 (w19s.k fk_zMc_101) (w19s.k fk_zMc_13) (by decide) (by decide) (by decide) ⟨by omega, by omega, by omega⟩ (by omega) (by omega) ⟨Nat.le_of_ble_eq_true rfl, by decide⟩ ?_
  obtain ⟨w22M, w22e⟩ : ∃ N, N = zsR w19M 13 (va_cpy (zI w19M 101) (zI w19M 13) (0 : Int32).toNatClampNeg (0 : Int32).toNatClampNeg (zI M 95 3).toNatClampNeg) := ⟨_, rfl⟩
  have w22s : zSk zMc w22M := by rw [w22e]; exact w19s
  have w22I : zIv cLo cHi w22M := by rw [w22e]; exact zIv.row w19I (fun _ => zrg _)
  have w22F : zFr [(13, 13, none)] w19M w22M := by rw [w22e]; exact zFr.row zFr.refl (fun _ => rfl)
  have w22C : ∀ j : Nat, (j : Int) < (zI M 95 3).toInt → zI w22M 13 j = zI w19M 101 j := fun j hj => by rw [w22e]; exact (congrFun zRs j).trans (zcpy0 (by omega) (by omega) hj)
  rw [← w22e]
  refine zs_aload_n (pc := 118) t23_118 rfl ?_
  refine zs_aload_n (pc := 119) t23_119 rfl ?_
  have w23 := ib95_8 hI
  refine zs_get (pc := 120) t23_120 (by decide) (zk1 (w22s.k fk_zMc_95)) (zfvi rfl ((w22F 95 8 rfl).trans ((w19F 95 8 rfl).trans ((w16F 95 8 rfl).trans ((w13F 95 8 rfl).trans ((zIo (by decide)).trans ((w8F 95 8 rfl).trans ((w5F 95 8 rfl).trans ((zIo (by decide)).trans rfl))))))))) ?_
  have w24 : zIv cLo cHi (zsI w22M 7 8 (zI M 95 8)) := zIv.put w22I (show 0 ≤ (zI M 95 8).toInt ∧ (zI M 95 8).toInt ≤ 12 from ⟨by omega, by omega⟩)
  refine zs_putI (pc := 123) t23_123 (zk1 (w22s.k fk_zMc_7)) rfl ?_
  refine zs_aload_n (pc := 126) t23_126 rfl ?_
  refine zs_get (pc := 127) t23_127 (by decide) (zk1 (w22s.k fk_zMc_95)) (w22s.p rfl fv_zMc_95_9) ?_
  refine zs_iconst (pc := 130) t23_130 (v := 0) (by decide) ?_
  refine zs_aload_n (pc := 131) t23_131 rfl ?_
  refine zs_get (pc := 132) t23_132 (by decide) (zk1 (w22s.k fk_zMc_7)) (w22s.p rfl fv_zMc_7_9) ?_
  refine zs_iconst (pc := 135) t23_135 (v := 0) (by decide) ?_
  refine zs_aload_n (pc := 136) t23_136 rfl ?_
  refine zs_get (pc := 137) t23_137 (by decide) (zk1 (w22s.k fk_zMc_7)) (zfvi rfl zIs) ?_
  have w25 : (0 : Int32).toInt = 0 := li0
  have w26 : (0 : Int32).toInt = 0 := li0
  refine zs_copy (pc := 140) t23_140 (w22s.k fk_zMc_102) (w22s.k fk_zMc_14) (by decide) (by decide) (by decide) ⟨by omega, by omega, by omega⟩ (by omega) (by omega) ⟨Nat.le_of_ble_eq_true rfl, by decide⟩ ?_
  obtain ⟨w27M, w27e⟩ : ∃ N, N = zsR (zsI w22M 7 8 (zI M 95 8)) 14 (va_cpy (zI (zsI w22M 7 8 (zI M 95 8)) 102) (zI (zsI w22M 7 8 (zI M 95 8)) 14) (0 : Int32).toNatClampNeg (0 : Int32).toNatClampNeg (zI M 95 8).toNatClampNeg) := ⟨_, rfl⟩
  have w27s : zSk zMc w27M := by rw [w27e]; exact w22s
  have w27I : zIv cLo cHi w27M := by rw [w27e]; exact zIv.row w24 (fun _ => zrg _)
  have w27F : zFr [(14, 14, none)] (zsI w22M 7 8 (zI M 95 8)) w27M := by rw [w27e]; exact zFr.row zFr.refl (fun _ => rfl)
  have w27C : ∀ j : Nat, (j : Int) < (zI M 95 8).toInt → zI w27M 14 j = zI (zsI w22M 7 8 (zI M 95 8)) 102 j := fun j hj => by rw [w27e]; exact (congrFun zRs j).trans (zcpy0 (by omega) (by omega) hj)
  rw [← w27e]
  refine zs_aload_n (pc := 143) t23_143 rfl ?_
  refine zs_get (pc := 144) t23_144 (by decide) (zk1 (w27s.k fk_zMc_95)) (w27s.p rfl fv_zMc_95_10) ?_
  refine zs_iconst (pc := 147) t23_147 (v := 0) (by decide) ?_
  refine zs_aload_n (pc := 148) t23_148 rfl ?_
  refine zs_get (pc := 149) t23_149 (by decide) (zk1 (w27s.k fk_zMc_7)) (w27s.p rfl fv_zMc_7_10) ?_
  refine zs_iconst (pc := 152) t23_152 (v := 0) (by decide) ?_
  refine zs_aload_n (pc := 153) t23_153 rfl ?_
  refine zs_get (pc := 154) t23_154 (by decide) (zk1 (w27s.k fk_zMc_7)) (zfvi rfl ((w27F 7 8 rfl).trans zIs)) ?_
  have w28 : (0 : Int32).toInt = 0 := li0
  have w29 : (0 : Int32).toInt = 0 := li0
  refine zs_copy (pc := 157) t23_157 (w27s.k fk_zMc_103) (w27s.k fk_zMc_15) (by decide) (by decide) (by decide) ⟨by omega, by omega, by omega⟩ (by omega) (by omega) ⟨Nat.le_of_ble_eq_true rfl, by decide⟩ ?_
  obtain ⟨w30M, w30e⟩ : ∃ N, N = zsR w27M 15 (va_cpy (zI w27M 103) (zI w27M 15) (0 : Int32).toNatClampNeg (0 : Int32).toNatClampNeg (zI M 95 8).toNatClampNeg) := ⟨_, rfl⟩
  have w30s : zSk zMc w30M := by rw [w30e]; exact w27s
  have w30I : zIv cLo cHi w30M := by rw [w30e]; exact zIv.row w27I (fun _ => zrg _)
  have w30F : zFr [(15, 15, none)] w27M w30M := by rw [w30e]; exact zFr.row zFr.refl (fun _ => rfl)
  have w30C : ∀ j : Nat, (j : Int) < (zI M 95 8).toInt → zI w30M 15 j = zI w27M 103 j := fun j hj => by rw [w30e]; exact (congrFun zRs j).trans (zcpy0 (by omega) (by omega) hj)
  rw [← w30e]
  refine zs_aload_n (pc := 160) t23_160 rfl ?_
  refine zs_get (pc := 161) t23_161 (by decide) (zk1 (w30s.k fk_zMc_95)) (w30s.p rfl fv_zMc_95_11) ?_
  refine zs_iconst (pc := 164) t23_164 (v := 0) (by decide) ?_
  refine zs_aload_n (pc := 165) t23_165 rfl ?_
  refine zs_get (pc := 166) t23_166 (by decide) (zk1 (w30s.k fk_zMc_7)) (w30s.p rfl fv_zMc_7_11) ?_
  refine zs_iconst (pc := 169) t23_169 (v := 0) (by decide) ?_
  refine zs_aload_n (pc := 170) t23_170 rfl ?_
  refine zs_get (pc := 171) t23_171 (by decide) (zk1 (w30s.k fk_zMc_7)) (zfvi rfl ((w30F 7 8 rfl).trans ((w27F 7 8 rfl).trans zIs))) ?_
  have w31 : (0 : Int32).toInt = 0 := li0
  have w32 : (0 : Int32).toInt = 0 := li0
  refine zs_copy (pc := 174) t23_174 (w30s.k fk_zMc_104) (w30s.k fk_zMc_16) (by decide) (by decide) (by decide) ⟨by omega, by omega, by omega⟩ (by omega) (by omega) ⟨Nat.le_of_ble_eq_true rfl, by decide⟩ ?_
  obtain ⟨w33M, w33e⟩ : ∃ N, N = zsR w30M 16 (va_cpy (zI w30M 104) (zI w30M 16) (0 : Int32).toNatClampNeg (0 : Int32).toNatClampNeg (zI M 95 8).toNatClampNeg) := ⟨_, rfl⟩
  have w33s : zSk zMc w33M := by rw [w33e]; exact w30s
  have w33I : zIv cLo cHi w33M := by rw [w33e]; exact zIv.row w30I (fun _ => zrg _)
  have w33F : zFr [(16, 16, none)] w30M w33M := by rw [w33e]; exact zFr.row zFr.refl (fun _ => rfl)
  have w33C : ∀ j : Nat, (j : Int) < (zI M 95 8).toInt → zI w33M 16 j = zI w30M 104 j := fun j hj => by rw [w33e]; exact (congrFun zRs j).trans (zcpy0 (by omega) (by omega) hj)
  rw [← w33e]
  refine zs_aload_n (pc := 177) t23_177 rfl ?_
  refine zs_get (pc := 178) t23_178 (by decide) (zk1 (w33s.k fk_zMc_95)) (w33s.p rfl fv_zMc_95_12) ?_
  refine zs_iconst (pc := 181) t23_181 (v := 0) (by decide) ?_
  refine zs_aload_n (pc := 182) t23_182 rfl ?_
  refine zs_get (pc := 183) t23_183 (by decide) (zk1 (w33s.k fk_zMc_7)) (w33s.p rfl fv_zMc_7_12) ?_
  refine zs_iconst (pc := 186) t23_186 (v := 0) (by decide) ?_
  refine zs_bipush (pc := 187) t23_187 (v := 9) (by decide) ?_
  have w34 : (9 : Int32).toInt = 9 := li9
  have w35 : (0 : Int32).toInt = 0 := li0
  have w36 : (0 : Int32).toInt = 0 := li0
  refine zs_copy (pc := 189) t23_189 (w33s.k fk_zMc_105) (w33s.k fk_zMc_17) (by decide) (by decide) (by decide) ⟨by omega, by omega, by omega⟩ (by omega) (by omega) ⟨Nat.le_of_ble_eq_true rfl, by decide⟩ ?_
  obtain ⟨w37M, w37e⟩ : ∃ N, N = zsR w33M 17 (va_cpy (zI w33M 105) (zI w33M 17) (0 : Int32).toNatClampNeg (0 : Int32).toNatClampNeg (9 : Int32).toNatClampNeg) := ⟨_, rfl⟩
  have w37s : zSk zMc w37M := by rw [w37e]; exact w33s
  have w37I : zIv cLo cHi w37M := by rw [w37e]; exact zIv.row w33I (fun _ => zcpyB (fun j => ib105 w33I j) (fun j => ib17 w33I j))
  have w37F : zFr [(17, 17, none)] w33M w37M := by rw [w37e]; exact zFr.row zFr.refl (fun _ => rfl)
  have w37C : ∀ j : Nat, (j : Int) < (9 : Int32).toInt → zI w37M 17 j = zI w33M 105 j := fun j hj => by rw [w37e]; exact (congrFun zRs j).trans (zcpy0 (by omega) (by omega) hj)
  rw [← w37e]
  refine zs_aload_n (pc := 192) t23_192 rfl ?_
  refine zs_aload_n (pc := 193) t23_193 rfl ?_
  refine zs_get (pc := 194) t23_194 (by decide) (zk1 (w37s.k fk_zMc_95)) (w37s.p rfl fv_zMc_95_14) ?_
  refine zs_aload_n (pc := 197) t23_197 rfl ?_
  have w38 := ib95_13 hI
  refine zs_get (pc := 198) t23_198 (by decide) (zk1 (w37s.k fk_zMc_95)) (zfvi rfl ((w37F 95 13 rfl).trans ((w33F 95 13 rfl).trans ((w30F 95 13 rfl).trans ((w27F 95 13 rfl).trans ((zIo (by decide)).trans ((w22F 95 13 rfl).trans ((w19F 95 13 rfl).trans ((w16F 95 13 rfl).trans ((w13F 95 13 rfl).trans ((zIo (by decide)).trans ((w8F 95 13 rfl).trans ((w5F 95 13 rfl).trans ((zIo (by decide)).trans rfl)))))))))))))) ?_
  refine zs_invV (pc := 201) (k := 7) (as' := [.ref 106, .int (zI M 95 13)]) (st := []) t23_201 mf24 rfl rfl (Or.inl ⟨by decide, (zk1 (w37s.k fk_zMc_7))⟩) ⟨by decide, by decide, Nat.le_of_ble_eq_true rfl, Nat.le_of_ble_eq_true rfl⟩ (zs_in (by decide) mf24 (Nat.le_of_ble_eq_true rfl) ?_) (fun _ _ q => q)
  show zGo X l 1 0 0 24 0 [(0, .ref 7), (1, .ref 106), (2, .int (zI M 95 13))] [] w37M _
  refine zs_aload_n (pc := 0) t24_0 rfl ?_
  refine zs_iconst (pc := 1) t24_1 (v := 0) (by decide) ?_
  refine zs_iload_n (pc := 2) t24_2 rfl ?_
  refine zs_sipush (pc := 3) t24_3 (v := 500) (by decide) ?_
  refine zs_invS (pc := 6) (as := [.int (zI M 95 13), .int (500 : Int32)]) (st := [.int (0 : Int32), .ref 7]) t24_6 (by decide) mf20 rfl rfl ⟨by decide, by decide, Nat.le_of_ble_eq_true rfl, Nat.le_of_ble_eq_true rfl⟩ (zs_in (by decide) mf20 (Nat.le_of_ble_eq_true rfl) ?_) (fun _ _ q => q)
  show zGo X l 0 0 0 20 0 [(0, .int (zI M 95 13)), (1, .int (500 : Int32))] [] w37M _
  refine zs_iload_n (pc := 0) t20_0 rfl ?_
  refine zs_iload_n (pc := 1) t20_1 rfl ?_
  refine zs_icmp_gtF (pc := 2) t20_2 rfl li500 (by omega) ?_
  refine zs_iload_n (pc := 5) t20_5 rfl ?_
  refine zs_goto (pc := 6) t20_6 ?_
  refine zs_iret (pc := 10) t20_10 mr20 rfl ?_
  show zGo X l 1 0 0 24 9 [(0, .ref 7), (1, .ref 106), (2, .int (zI M 95 13))] [.int (zI M 95 13), .int (0 : Int32), .ref 7] w37M _
  refine zs_invS (pc := 9) (as := [.int (0 : Int32), .int (zI M 95 13)]) (st := [.ref 7]) t24_9 (by decide) mf21 rfl rfl ⟨by decide, by decide, Nat.le_of_ble_eq_true rfl, Nat.le_of_ble_eq_true rfl⟩ (zs_in (by decide) mf21 (Nat.le_of_ble_eq_true rfl) ?_) (fun _ _ q => q)
  show zGo X l 0 0 0 21 0 [(0, .int (0 : Int32)), (1, .int (zI M 95 13))] [] w37M _
  refine zs_iload_n (pc := 0) t21_0 rfl ?_
  refine zs_iload_n (pc := 1) t21_1 rfl ?_
  by_cases w39 : 0 < (zI M 95 13).toInt
  · refine zs_icmp_ltT (pc := 2) t21_2 li0 rfl (by omega) ?_
    refine zs_iload_n (pc := 9) t21_9 rfl ?_
    refine zs_iret (pc := 10) t21_10 mr21 rfl ?_
    show zGo X l 1 0 0 24 12 [(0, .ref 7), (1, .ref 106), (2, .int (zI M 95 13))] [.int (zI M 95 13), .ref 7] w37M _
    have w40 : zIv cLo cHi (zsI w37M 7 13 (zI M 95 13)) := zIv.put w37I (show 0 ≤ (zI M 95 13).toInt ∧ (zI M 95 13).toInt ≤ 500 from ⟨by omega, by omega⟩)
    refine zs_putI (pc := 12) t24_12 (zk1 (w37s.k fk_zMc_7)) rfl ?_
    refine zs_aload_n (pc := 15) t24_15 rfl ?_
    refine zs_iconst (pc := 16) t24_16 (v := 0) (by decide) ?_
    refine zs_aload_n (pc := 17) t24_17 rfl ?_
    refine zs_get (pc := 18) t24_18 (by decide) (zk1 (w37s.k fk_zMc_7)) (w37s.p rfl fv_zMc_7_14) ?_
    refine zs_iconst (pc := 21) t24_21 (v := 0) (by decide) ?_
    refine zs_aload_n (pc := 22) t24_22 rfl ?_
    refine zs_get (pc := 23) t24_23 (by decide) (zk1 (w37s.k fk_zMc_7)) (zfvi rfl zIs) ?_
    have w41 : (0 : Int32).toInt = 0 := li0
    have w42 : (0 : Int32).toInt = 0 := li0
    refine zs_copy (pc := 26) t24_26 (w37s.k fk_zMc_106) (w37s.k fk_zMc_18) (by decide) (by decide) (by decide) ⟨by omega, by omega, by omega⟩ (by omega) (by omega) ⟨Nat.le_of_ble_eq_true rfl, by decide⟩ ?_
    obtain ⟨w43M, w43e⟩ : ∃ N, N = zsR (zsI w37M 7 13 (zI M 95 13)) 18 (va_cpy (zI (zsI w37M 7 13 (zI M 95 13)) 106) (zI (zsI w37M 7 13 (zI M 95 13)) 18) (0 : Int32).toNatClampNeg (0 : Int32).toNatClampNeg (zI M 95 13).toNatClampNeg) := ⟨_, rfl⟩
    have w43s : zSk zMc w43M := by rw [w43e]; exact w37s
    have w43I : zIv cLo cHi w43M := by rw [w43e]; exact zIv.row w40 (fun _ => zcpyB (fun j => ib106 w40 j) (fun j => ib18 w40 j))
    have w43F : zFr [(18, 18, none)] (zsI w37M 7 13 (zI M 95 13)) w43M := by rw [w43e]; exact zFr.row zFr.refl (fun _ => rfl)
    have w43C : ∀ j : Nat, (j : Int) < (zI M 95 13).toInt → zI w43M 18 j = zI (zsI w37M 7 13 (zI M 95 13)) 106 j := fun j hj => by rw [w43e]; exact (congrFun zRs j).trans (zcpy0 (by omega) (by omega) hj)
    rw [← w43e]
    refine zs_vret (pc := 29) t24_29 mr24 ?_
    show zGo X l 2 0 0 23 204 [(0, .ref 7), (1, .ref 95)] [] w43M _
    have w44 : (zI w43M 7 0).toInt = (zI M 95 0).toInt := (congrArg Int32.toInt ((w43F 7 0 rfl).trans ((zIoj (by decide)).trans ((w37F 7 0 rfl).trans ((w33F 7 0 rfl).trans ((w30F 7 0 rfl).trans ((w27F 7 0 rfl).trans ((zIoj (by decide)).trans ((w22F 7 0 rfl).trans ((w19F 7 0 rfl).trans ((w16F 7 0 rfl).trans ((w13F 7 0 rfl).trans ((zIoj (by decide)).trans ((w8F 7 0 rfl).trans ((w5F 7 0 rfl).trans zIs))))))))))))))).trans rfl
    have w45 : (zI w43M 7 3).toInt = (zI M 95 3).toInt := (congrArg Int32.toInt ((w43F 7 3 rfl).trans ((zIoj (by decide)).trans ((w37F 7 3 rfl).trans ((w33F 7 3 rfl).trans ((w30F 7 3 rfl).trans ((w27F 7 3 rfl).trans ((zIoj (by decide)).trans ((w22F 7 3 rfl).trans ((w19F 7 3 rfl).trans ((w16F 7 3 rfl).trans ((w13F 7 3 rfl).trans zIs)))))))))))).trans rfl
    have w46 : (zI w43M 7 8).toInt = (zI M 95 8).toInt := (congrArg Int32.toInt ((w43F 7 8 rfl).trans ((zIoj (by decide)).trans ((w37F 7 8 rfl).trans ((w33F 7 8 rfl).trans ((w30F 7 8 rfl).trans ((w27F 7 8 rfl).trans zIs))))))).trans rfl
    have w47 : (zI w43M 7 13).toInt = (zI M 95 13).toInt := (congrArg Int32.toInt ((w43F 7 13 rfl).trans zIs)).trans rfl
    have w48 : (zI (zsI M 7 0 (zI M 95 0)) 95 0).toInt = (zI M 95 0).toInt := (congrArg Int32.toInt ((zIo (by decide)).trans rfl)).trans rfl
    have w49 : (zI (zsI M 7 0 (zI M 95 0)) 95 3).toInt = (zI M 95 3).toInt := (congrArg Int32.toInt ((zIo (by decide)).trans rfl)).trans rfl
    have w50 : (zI (zsI M 7 0 (zI M 95 0)) 95 8).toInt = (zI M 95 8).toInt := (congrArg Int32.toInt ((zIo (by decide)).trans rfl)).trans rfl
    have w51 : (zI (zsI M 7 0 (zI M 95 0)) 95 13).toInt = (zI M 95 13).toInt := (congrArg Int32.toInt ((zIo (by decide)).trans rfl)).trans rfl
    exact zs_vret (pc := 204) t23_204 mr23 (hQ _ w43s w43I ((((((((((((((((zFr.refl).put rfl).trans (w5F.mono rfl)).trans (w8F.mono rfl)).put rfl).trans (w13F.mono rfl)).trans (w16F.mono rfl)).trans (w19F.mono rfl)).trans (w22F.mono rfl)).put rfl).trans (w27F.mono rfl)).trans (w30F.mono rfl)).trans (w33F.mono rfl)).trans (w37F.mono rfl)).put rfl).trans (w43F.mono rfl)) (zSo.cp x0 (by omega) (by omega) (by omega) (by omega) (fun j hj => ((((w43F 8 j rfl).trans ((zIo (by decide)).trans ((w37F 8 j rfl).trans ((w33F 8 j rfl).trans ((w30F 8 j rfl).trans ((w27F 8 j rfl).trans ((zIo (by decide)).trans ((w22F 8 j rfl).trans ((w19F 8 j rfl).trans ((w16F 8 j rfl).trans ((w13F 8 j rfl).trans ((zIo (by decide)).trans (w8F 8 j rfl))))))))))))).trans (w5C j (by omega))).trans (zIo (by decide)))) (fun j hj => ((((w43F 9 j rfl).trans ((zIo (by decide)).trans ((w37F 9 j rfl).trans ((w33F 9 j rfl).trans ((w30F 9 j rfl).trans ((w27F 9 j rfl).trans ((zIo (by decide)).trans ((w22F 9 j rfl).trans ((w19F 9 j rfl).trans ((w16F 9 j rfl).trans ((w13F 9 j rfl).trans (zIo (by decide))))))))))))).trans (w8C j (by omega))).trans ((w5F 97 j rfl).trans (zIo (by decide))))) (fun j hj => ((((w43F 10 j rfl).trans ((zIo (by decide)).trans ((w37F 10 j rfl).trans ((w33F 10 j rfl).trans ((w30F 10 j rfl).trans ((w27F 10 j rfl).trans ((zIo (by decide)).trans ((w22F 10 j rfl).trans ((w19F 10 j rfl).trans (w16F 10 j rfl)))))))))).trans (w13C j (by omega))).trans ((zIo (by decide)).trans ((w8F 98 j rfl).trans ((w5F 98 j rfl).trans (zIo (by decide))))))) (fun j hj => ((((w43F 11 j rfl).trans ((zIo (by decide)).trans ((w37F 11 j rfl).trans ((w33F 11 j rfl).trans ((w30F 11 j rfl).trans ((w27F 11 j rfl).trans ((zIo (by decide)).trans ((w22F 11 j rfl).trans (w19F 11 j rfl))))))))).trans (w16C j (by omega))).trans ((w13F 99 j rfl).trans ((zIo (by decide)).trans ((w8F 99 j rfl).trans ((w5F 99 j rfl).trans (zIo (by decide)))))))) (fun j hj => ((((w43F 12 j rfl).trans ((zIo (by decide)).trans ((w37F 12 j rfl).trans ((w33F 12 j rfl).trans ((w30F 12 j rfl).trans ((w27F 12 j rfl).trans ((zIo (by decide)).trans (w22F 12 j rfl)))))))).trans (w19C j (by omega))).trans ((w16F 100 j rfl).trans ((w13F 100 j rfl).trans ((zIo (by decide)).trans ((w8F 100 j rfl).trans ((w5F 100 j rfl).trans (zIo (by decide))))))))) (fun j hj => ((((w43F 13 j rfl).trans ((zIo (by decide)).trans ((w37F 13 j rfl).trans ((w33F 13 j rfl).trans ((w30F 13 j rfl).trans ((w27F 13 j rfl).trans (zIo (by decide)))))))).trans (w22C j (by omega))).trans ((w19F 101 j rfl).trans ((w16F 101 j rfl).trans ((w13F 101 j rfl).trans ((zIo (by decide)).trans ((w8F 101 j rfl).trans ((w5F 101 j rfl).trans (zIo (by decide)))))))))) (fun j hj => ((((w43F 14 j rfl).trans ((zIo (by decide)).trans ((w37F 14 j rfl).trans ((w33F 14 j rfl).trans (w30F 14 j rfl))))).trans (w27C j (by omega))).trans ((zIo (by decide)).trans ((w22F 102 j rfl).trans ((w19F 102 j rfl).trans ((w16F 102 j rfl).trans ((w13F 102 j rfl).trans ((zIo (by decide)).trans ((w8F 102 j rfl).trans ((w5F 102 j rfl).trans (zIo (by decide)))))))))))) (fun j hj => ((((w43F 15 j rfl).trans ((zIo (by decide)).trans ((w37F 15 j rfl).trans (w33F 15 j rfl)))).trans (w30C j (by omega))).trans ((w27F 103 j rfl).trans ((zIo (by decide)).trans ((w22F 103 j rfl).trans ((w19F 103 j rfl).trans ((w16F 103 j rfl).trans ((w13F 103 j rfl).trans ((zIo (by decide)).trans ((w8F 103 j rfl).trans ((w5F 103 j rfl).trans (zIo (by decide))))))))))))) (fun j hj => ((((w43F 16 j rfl).trans ((zIo (by decide)).trans (w37F 16 j rfl))).trans (w33C j (by omega))).trans ((w30F 104 j rfl).trans ((w27F 104 j rfl).trans ((zIo (by decide)).trans ((w22F 104 j rfl).trans ((w19F 104 j rfl).trans ((w16F 104 j rfl).trans ((w13F 104 j rfl).trans ((zIo (by decide)).trans ((w8F 104 j rfl).trans ((w5F 104 j rfl).trans (zIo (by decide)))))))))))))) (fun j hj => ((((w43F 17 j rfl).trans (zIo (by decide))).trans (w37C j (by omega))).trans ((w33F 105 j rfl).trans ((w30F 105 j rfl).trans ((w27F 105 j rfl).trans ((zIo (by decide)).trans ((w22F 105 j rfl).trans ((w19F 105 j rfl).trans ((w16F 105 j rfl).trans ((w13F 105 j rfl).trans ((zIo (by decide)).trans ((w8F 105 j rfl).trans ((w5F 105 j rfl).trans (zIo (by decide))))))))))))))) (fun j hj => ((w43C j (by omega)).trans ((zIo (by decide)).trans ((w37F 106 j rfl).trans ((w33F 106 j rfl).trans ((w30F 106 j rfl).trans ((w27F 106 j rfl).trans ((zIo (by decide)).trans ((w22F 106 j rfl).trans ((w19F 106 j rfl).trans ((w16F 106 j rfl).trans ((w13F 106 j rfl).trans ((zIo (by decide)).trans ((w8F 106 j rfl).trans ((w5F 106 j rfl).trans (zIo (by decide)))))))))))))))))))
  · refine zs_icmp_ltF (pc := 2) t21_2 li0 rfl (by omega) ?_
    refine zs_iload_n (pc := 5) t21_5 rfl ?_
    refine zs_goto (pc := 6) t21_6 ?_
    refine zs_iret (pc := 10) t21_10 mr21 (by decide) ?_
    show zGo X l 1 0 0 24 12 [(0, .ref 7), (1, .ref 106), (2, .int (zI M 95 13))] [.int (0 : Int32), .ref 7] w37M _
    have w52 : zIv cLo cHi (zsI w37M 7 13 (0 : Int32)) := zIv.put w37I (show 0 ≤ (0 : Int32).toInt ∧ (0 : Int32).toInt ≤ 500 from ⟨by decide, by decide⟩)
    refine zs_putI (pc := 12) t24_12 (zk1 (w37s.k fk_zMc_7)) rfl ?_
    refine zs_aload_n (pc := 15) t24_15 rfl ?_
    refine zs_iconst (pc := 16) t24_16 (v := 0) (by decide) ?_
    refine zs_aload_n (pc := 17) t24_17 rfl ?_
    refine zs_get (pc := 18) t24_18 (by decide) (zk1 (w37s.k fk_zMc_7)) (w37s.p rfl fv_zMc_7_14) ?_
    refine zs_iconst (pc := 21) t24_21 (v := 0) (by decide) ?_
    refine zs_aload_n (pc := 22) t24_22 rfl ?_
    refine zs_get (pc := 23) t24_23 (by decide) (zk1 (w37s.k fk_zMc_7)) (zfvi rfl zIs) ?_
    have w53 : (0 : Int32).toInt = 0 := li0
    have w54 : (0 : Int32).toInt = 0 := li0
    have w55 : (0 : Int32).toInt = 0 := li0
    refine zs_copy (pc := 26) t24_26 (w37s.k fk_zMc_106) (w37s.k fk_zMc_18) (by decide) (by decide) (by decide) ⟨by omega, by omega, by omega⟩ (by omega) (by omega) ⟨Nat.le_of_ble_eq_true rfl, by decide⟩ ?_
    obtain ⟨w56M, w56e⟩ : ∃ N, N = zsR (zsI w37M 7 13 (0 : Int32)) 18 (va_cpy (zI (zsI w37M 7 13 (0 : Int32)) 106) (zI (zsI w37M 7 13 (0 : Int32)) 18) (0 : Int32).toNatClampNeg (0 : Int32).toNatClampNeg (0 : Int32).toNatClampNeg) := ⟨_, rfl⟩
    have w56s : zSk zMc w56M := by rw [w56e]; exact w37s
    have w56I : zIv cLo cHi w56M := by rw [w56e]; exact zIv.row w52 (fun _ => zcpyB (fun j => ib106 w52 j) (fun j => ib18 w52 j))
    have w56F : zFr [(18, 18, none)] (zsI w37M 7 13 (0 : Int32)) w56M := by rw [w56e]; exact zFr.row zFr.refl (fun _ => rfl)
    have w56C : ∀ j : Nat, (j : Int) < (0 : Int32).toInt → zI w56M 18 j = zI (zsI w37M 7 13 (0 : Int32)) 106 j := fun j hj => by rw [w56e]; exact (congrFun zRs j).trans (zcpy0 (by omega) (by omega) hj)
    rw [← w56e]
    refine zs_vret (pc := 29) t24_29 mr24 ?_
    show zGo X l 2 0 0 23 204 [(0, .ref 7), (1, .ref 95)] [] w56M _
    have w57 : (zI w56M 7 0).toInt = (zI M 95 0).toInt := (congrArg Int32.toInt ((w56F 7 0 rfl).trans ((zIoj (by decide)).trans ((w37F 7 0 rfl).trans ((w33F 7 0 rfl).trans ((w30F 7 0 rfl).trans ((w27F 7 0 rfl).trans ((zIoj (by decide)).trans ((w22F 7 0 rfl).trans ((w19F 7 0 rfl).trans ((w16F 7 0 rfl).trans ((w13F 7 0 rfl).trans ((zIoj (by decide)).trans ((w8F 7 0 rfl).trans ((w5F 7 0 rfl).trans zIs))))))))))))))).trans rfl
    have w58 : (zI w56M 7 3).toInt = (zI M 95 3).toInt := (congrArg Int32.toInt ((w56F 7 3 rfl).trans ((zIoj (by decide)).trans ((w37F 7 3 rfl).trans ((w33F 7 3 rfl).trans ((w30F 7 3 rfl).trans ((w27F 7 3 rfl).trans ((zIoj (by decide)).trans ((w22F 7 3 rfl).trans ((w19F 7 3 rfl).trans ((w16F 7 3 rfl).trans ((w13F 7 3 rfl).trans zIs)))))))))))).trans rfl
    have w59 : (zI w56M 7 8).toInt = (zI M 95 8).toInt := (congrArg Int32.toInt ((w56F 7 8 rfl).trans ((zIoj (by decide)).trans ((w37F 7 8 rfl).trans ((w33F 7 8 rfl).trans ((w30F 7 8 rfl).trans ((w27F 7 8 rfl).trans zIs))))))).trans rfl
    have w60 : (zI w56M 7 13).toInt = 0 := (congrArg Int32.toInt ((w56F 7 13 rfl).trans zIs)).trans li0
    have w61 : (zI (zsI M 7 0 (zI M 95 0)) 95 0).toInt = (zI M 95 0).toInt := (congrArg Int32.toInt ((zIo (by decide)).trans rfl)).trans rfl
    have w62 : (zI (zsI M 7 0 (zI M 95 0)) 95 3).toInt = (zI M 95 3).toInt := (congrArg Int32.toInt ((zIo (by decide)).trans rfl)).trans rfl
    have w63 : (zI (zsI M 7 0 (zI M 95 0)) 95 8).toInt = (zI M 95 8).toInt := (congrArg Int32.toInt ((zIo (by decide)).trans rfl)).trans rfl
    have w64 : (zI (zsI M 7 0 (zI M 95 0)) 95 13).toInt = (zI M 95 13).toInt := (congrArg Int32.toInt ((zIo (by decide)).trans rfl)).trans rfl
    exact zs_vret (pc := 204) t23_204 mr23 (hQ _ w56s w56I ((((((((((((((((zFr.refl).put rfl).trans (w5F.mono rfl)).trans (w8F.mono rfl)).put rfl).trans (w13F.mono rfl)).trans (w16F.mono rfl)).trans (w19F.mono rfl)).trans (w22F.mono rfl)).put rfl).trans (w27F.mono rfl)).trans (w30F.mono rfl)).trans (w33F.mono rfl)).trans (w37F.mono rfl)).put rfl).trans (w56F.mono rfl)) (zSo.cp x0 (by omega) (by omega) (by omega) (by omega) (fun j hj => ((((w56F 8 j rfl).trans ((zIo (by decide)).trans ((w37F 8 j rfl).trans ((w33F 8 j rfl).trans ((w30F 8 j rfl).trans ((w27F 8 j rfl).trans ((zIo (by decide)).trans ((w22F 8 j rfl).trans ((w19F 8 j rfl).trans ((w16F 8 j rfl).trans ((w13F 8 j rfl).trans ((zIo (by decide)).trans (w8F 8 j rfl))))))))))))).trans (w5C j (by omega))).trans (zIo (by decide)))) (fun j hj => ((((w56F 9 j rfl).trans ((zIo (by decide)).trans ((w37F 9 j rfl).trans ((w33F 9 j rfl).trans ((w30F 9 j rfl).trans ((w27F 9 j rfl).trans ((zIo (by decide)).trans ((w22F 9 j rfl).trans ((w19F 9 j rfl).trans ((w16F 9 j rfl).trans ((w13F 9 j rfl).trans (zIo (by decide))))))))))))).trans (w8C j (by omega))).trans ((w5F 97 j rfl).trans (zIo (by decide))))) (fun j hj => ((((w56F 10 j rfl).trans ((zIo (by decide)).trans ((w37F 10 j rfl).trans ((w33F 10 j rfl).trans ((w30F 10 j rfl).trans ((w27F 10 j rfl).trans ((zIo (by decide)).trans ((w22F 10 j rfl).trans ((w19F 10 j rfl).trans (w16F 10 j rfl)))))))))).trans (w13C j (by omega))).trans ((zIo (by decide)).trans ((w8F 98 j rfl).trans ((w5F 98 j rfl).trans (zIo (by decide))))))) (fun j hj => ((((w56F 11 j rfl).trans ((zIo (by decide)).trans ((w37F 11 j rfl).trans ((w33F 11 j rfl).trans ((w30F 11 j rfl).trans ((w27F 11 j rfl).trans ((zIo (by decide)).trans ((w22F 11 j rfl).trans (w19F 11 j rfl))))))))).trans (w16C j (by omega))).trans ((w13F 99 j rfl).trans ((zIo (by decide)).trans ((w8F 99 j rfl).trans ((w5F 99 j rfl).trans (zIo (by decide)))))))) (fun j hj => ((((w56F 12 j rfl).trans ((zIo (by decide)).trans ((w37F 12 j rfl).trans ((w33F 12 j rfl).trans ((w30F 12 j rfl).trans ((w27F 12 j rfl).trans ((zIo (by decide)).trans (w22F 12 j rfl)))))))).trans (w19C j (by omega))).trans ((w16F 100 j rfl).trans ((w13F 100 j rfl).trans ((zIo (by decide)).trans ((w8F 100 j rfl).trans ((w5F 100 j rfl).trans (zIo (by decide))))))))) (fun j hj => ((((w56F 13 j rfl).trans ((zIo (by decide)).trans ((w37F 13 j rfl).trans ((w33F 13 j rfl).trans ((w30F 13 j rfl).trans ((w27F 13 j rfl).trans (zIo (by decide)))))))).trans (w22C j (by omega))).trans ((w19F 101 j rfl).trans ((w16F 101 j rfl).trans ((w13F 101 j rfl).trans ((zIo (by decide)).trans ((w8F 101 j rfl).trans ((w5F 101 j rfl).trans (zIo (by decide)))))))))) (fun j hj => ((((w56F 14 j rfl).trans ((zIo (by decide)).trans ((w37F 14 j rfl).trans ((w33F 14 j rfl).trans (w30F 14 j rfl))))).trans (w27C j (by omega))).trans ((zIo (by decide)).trans ((w22F 102 j rfl).trans ((w19F 102 j rfl).trans ((w16F 102 j rfl).trans ((w13F 102 j rfl).trans ((zIo (by decide)).trans ((w8F 102 j rfl).trans ((w5F 102 j rfl).trans (zIo (by decide)))))))))))) (fun j hj => ((((w56F 15 j rfl).trans ((zIo (by decide)).trans ((w37F 15 j rfl).trans (w33F 15 j rfl)))).trans (w30C j (by omega))).trans ((w27F 103 j rfl).trans ((zIo (by decide)).trans ((w22F 103 j rfl).trans ((w19F 103 j rfl).trans ((w16F 103 j rfl).trans ((w13F 103 j rfl).trans ((zIo (by decide)).trans ((w8F 103 j rfl).trans ((w5F 103 j rfl).trans (zIo (by decide))))))))))))) (fun j hj => ((((w56F 16 j rfl).trans ((zIo (by decide)).trans (w37F 16 j rfl))).trans (w33C j (by omega))).trans ((w30F 104 j rfl).trans ((w27F 104 j rfl).trans ((zIo (by decide)).trans ((w22F 104 j rfl).trans ((w19F 104 j rfl).trans ((w16F 104 j rfl).trans ((w13F 104 j rfl).trans ((zIo (by decide)).trans ((w8F 104 j rfl).trans ((w5F 104 j rfl).trans (zIo (by decide)))))))))))))) (fun j hj => ((((w56F 17 j rfl).trans (zIo (by decide))).trans (w37C j (by omega))).trans ((w33F 105 j rfl).trans ((w30F 105 j rfl).trans ((w27F 105 j rfl).trans ((zIo (by decide)).trans ((w22F 105 j rfl).trans ((w19F 105 j rfl).trans ((w16F 105 j rfl).trans ((w13F 105 j rfl).trans ((zIo (by decide)).trans ((w8F 105 j rfl).trans ((w5F 105 j rfl).trans (zIo (by decide))))))))))))))) (fun j hj => ((w56C j (by omega)).trans ((zIo (by decide)).trans ((w37F 106 j rfl).trans ((w33F 106 j rfl).trans ((w30F 106 j rfl).trans ((w27F 106 j rfl).trans ((zIo (by decide)).trans ((w22F 106 j rfl).trans ((w19F 106 j rfl).trans ((w16F 106 j rfl).trans ((w13F 106 j rfl).trans ((zIo (by decide)).trans ((w8F 106 j rfl).trans ((w5F 106 j rfl).trans (zIo (by decide)))))))))))))))))))
