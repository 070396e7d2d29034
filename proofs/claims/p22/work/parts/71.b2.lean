theorem X23_83_7 {X : zX} {l : Launch} {M : zM} {Q : Option Value → zM → Prop} (hs : zSk zMc M) (hI : zIv cLo cHi M) {F : Nat → Int} (x0 : zSo M 7 F) (hQ : ∀ M', zSk zMc M' → zIv cLo cHi M' → zFr [(83, 83, none), (84, 94, none)] M M' → (zSo M' 83 F) → Q none M') : zCall X l 2 0 0 23 [.ref 83, .ref 7] M Q := by
  refine zs_in (by decide) mf23 (Nat.le_of_ble_eq_true rfl) ?_
  show zGo X l 2 0 0 23 0 [(0, .ref 83), (1, .ref 7)] [] M _
  refine zs_aload_n (pc := 0) t23_0 rfl ?_
  refine zs_aload_n (pc := 1) t23_1 rfl ?_
  have w1 := ib7_0 hI
  refine zs_get (pc := 2) t23_2 (by decide) (zk1 (hs.k fk_zMc_7)) (zfvi rfl rfl) ?_
  have w2 : zIv cLo cHi (zsI M 83 0 (zI M 7 0)) := zIv.put hI (show 0 ≤ (zI M 7 0).toInt ∧ (zI M 7 0).toInt ≤ 8 from ⟨by omega, by omega⟩)
  refine zs_putI (pc := 5) t23_5 (zk1 (hs.k fk_zMc_83)) rfl ?_
  refine zs_aload_n (pc := 8) t23_8 rfl ?_
  refine zs_get (pc := 9) t23_9 (by decide) (zk1 (hs.k fk_zMc_7)) (hs.p rfl fv_zMc_7_1) ?_
  refine zs_iconst (pc := 12) t23_12 (v := 0) (by decide) ?_
  refine zs_aload_n (pc := 13) t23_13 rfl ?_
  refine zs_get (pc := 14) t23_14 (by decide) (zk1 (hs.k fk_zMc_83)) (hs.p rfl fv_zMc_83_1) ?_
  refine zs_iconst (pc := 17) t23_17 (v := 0) (by decide) ?_
  refine zs_aload_n (pc := 18) t23_18 rfl ?_
  refine zs_get (pc := 19) t23_19 (by decide) (zk1 (hs.k fk_zMc_83)) (zfvi rfl zIs) ?_
  have w3 : (0 : Int32).toInt = 0 := li0
  have w4 : (0 : Int32).toInt = 0 := li0
  refine zs_copy (pc := 22) t23_22 (hs.k fk_zMc_8) (hs.k fk_zMc_84) (by decide) (by decide) (by decide) ⟨by omega, by omega, by omega⟩ (by omega) (by omega) ⟨Nat.le_of_ble_eq_true rfl, by decide⟩ ?_
  obtain ⟨w5M, w5e⟩ : ∃ N, N = zsR (zsI M 83 0 (zI M 7 0)) 84 (va_cpy (zI (zsI M 83 0 (zI M 7 0)) 8) (zI (zsI M 83 0 (zI M 7 0)) 84) (0 : Int32).toNatClampNeg (0 : Int32).toNatClampNeg (zI M 7 0).toNatClampNeg) := ⟨_, rfl⟩
  have w5s : zSk zMc w5M := by rw [w5e]; exact hs
  have w5I : zIv cLo cHi w5M := by rw [w5e]; exact zIv.row w2 (fun _ => zrg _)
  have w5F : zFr [(84, 84, none)] (zsI M 83 0 (zI M 7 0)) w5M := by rw [w5e]; exact zFr.row zFr.refl (fun _ => rfl)
  have w5C : ∀ j : Nat, (j : Int) < (zI M 7 0).toInt → zI w5M 84 j = zI (zsI M 83 0 (zI M 7 0)) 8 j := fun j hj => by rw [w5e]; exact (congrFun zRs j).trans (zcpy0 (by omega) (by omega) hj)
  rw [← w5e]
  refine zs_aload_n (pc := 25) t23_25 rfl ?_
  refine zs_get (pc := 26) t23_26 (by decide) (zk1 (w5s.k fk_zMc_7)) (w5s.p rfl fv_zMc_7_2) ?_
  refine zs_iconst (pc := 29) t23_29 (v := 0) (by decide) ?_
  refine zs_aload_n (pc := 30) t23_30 rfl ?_
  refine zs_get (pc := 31) t23_31 (by decide) (zk1 (w5s.k fk_zMc_83)) (w5s.p rfl fv_zMc_83_2) ?_
  refine zs_iconst (pc := 34) t23_34 (v := 0) (by decide) ?_
  refine zs_aload_n (pc := 35) t23_35 rfl ?_
  refine zs_get (pc := 36) t23_36 (by decide) (zk1 (w5s.k fk_zMc_83)) (zfvi rfl ((w5F 83 0 rfl).trans zIs)) ?_
  have w6 : (0 : Int32).toInt = 0 := li0
  have w7 : (0 : Int32).toInt = 0 := li0
  refine zs_copy (pc := 39) t23_39 (w5s.k fk_zMc_9) (w5s.k fk_zMc_85) (by decide) (by decide) (by decide) ⟨by omega, by omega, by omega⟩ (by omega) (by omega) ⟨Nat.le_of_ble_eq_true rfl, by decide⟩ ?_
  obtain ⟨w8M, w8e⟩ : ∃ N, N = zsR w5M 85 (va_cpy (zI w5M 9) (zI w5M 85) (0 : Int32).toNatClampNeg (0 : Int32).toNatClampNeg (zI M 7 0).toNatClampNeg) := ⟨_, rfl⟩
  have w8s : zSk zMc w8M := by rw [w8e]; exact w5s
  have w8I : zIv cLo cHi w8M := by rw [w8e]; exact zIv.row w5I (fun _ => zcpyB (fun j => ib9 w5I j) (fun j => ib85 w5I j))
  have w8F : zFr [(85, 85, none)] w5M w8M := by rw [w8e]; exact zFr.row zFr.refl (fun _ => rfl)
  have w8C : ∀ j : Nat, (j : Int) < (zI M 7 0).toInt → zI w8M 85 j = zI w5M 9 j := fun j hj => by rw [w8e]; exact (congrFun zRs j).trans (zcpy0 (by omega) (by omega) hj)
  rw [← w8e]
  refine zs_aload_n (pc := 42) t23_42 rfl ?_
  refine zs_aload_n (pc := 43) t23_43 rfl ?_
  have w9 := ib7_3 hI
  refine zs_get (pc := 44) t23_44 (by decide) (zk1 (w8s.k fk_zMc_7)) (zfvi rfl ((w8F 7 3 rfl).trans ((w5F 7 3 rfl).trans ((zIo (by decide)).trans rfl)))) ?_
  have w10 : zIv cLo cHi (zsI w8M 83 3 (zI M 7 3)) := zIv.put w8I (show 0 ≤ (zI M 7 3).toInt ∧ (zI M 7 3).toInt ≤ 60 from ⟨by omega, by omega⟩)
  refine zs_putI (pc := 47) t23_47 (zk1 (w8s.k fk_zMc_83)) rfl ?_
  refine zs_aload_n (pc := 50) t23_50 rfl ?_
  refine zs_get (pc := 51) t23_51 (by decide) (zk1 (w8s.k fk_zMc_7)) (w8s.p rfl fv_zMc_7_4) ?_
  refine zs_iconst (pc := 54) t23_54 (v := 0) (by decide) ?_
  refine zs_aload_n (pc := 55) t23_55 rfl ?_
  refine zs_get (pc := 56) t23_56 (by decide) (zk1 (w8s.k fk_zMc_83)) (w8s.p rfl fv_zMc_83_4) ?_
  refine zs_iconst (pc := 59) t23_59 (v := 0) (by decide) ?_
  refine zs_aload_n (pc := 60) t23_60 rfl ?_
  refine zs_get (pc := 61) t23_61 (by decide) (zk1 (w8s.k fk_zMc_83)) (zfvi rfl zIs) ?_
  have w11 : (0 : Int32).toInt = 0 := li0
  have w12 : (0 : Int32).toInt = 0 := li0
  refine zs_copy (pc := 64) t23_64 (w8s.k fk_zMc_10) (w8s.k fk_zMc_86) (by decide) (by decide) (by decide) ⟨by omega, by omega, by omega⟩ (by omega) (by omega) ⟨Nat.le_of_ble_eq_true rfl, by decide⟩ ?_
  obtain ⟨w13M, w13e⟩ : ∃ N, N = zsR (zsI w8M 83 3 (zI M 7 3)) 86 (va_cpy (zI (zsI w8M 83 3 (zI M 7 3)) 10) (zI (zsI w8M 83 3 (zI M 7 3)) 86) (0 : Int32).toNatClampNeg (0 : Int32).toNatClampNeg (zI M 7 3).toNatClampNeg) := ⟨_, rfl⟩
  have w13s : zSk zMc w13M := by rw [w13e]; exact w8s
  have w13I : zIv cLo cHi w13M := by rw [w13e]; exact zIv.row w10 (fun _ => zcpyB (fun j => ib10 w10 j) (fun j => ib86 w10 j))
  have w13F : zFr [(86, 86, none)] (zsI w8M 83 3 (zI M 7 3)) w13M := by rw [w13e]; exact zFr.row zFr.refl (fun _ => rfl)
  have w13C : ∀ j : Nat, (j : Int) < (zI M 7 3).toInt → zI w13M 86 j = zI (zsI w8M 83 3 (zI M 7 3)) 10 j := fun j hj => by rw [w13e]; exact (congrFun zRs j).trans (zcpy0 (by omega) (by omega) hj)
  rw [← w13e]
  refine zs_aload_n (pc := 67) t23_67 rfl ?_
  refine zs_get (pc := 68) t23_68 (by decide) (zk1 (w13s.k fk_zMc_7)) (w13s.p rfl fv_zMc_7_5) ?_
  refine zs_iconst (pc := 71) t23_71 (v := 0) (by decide) ?_
  refine zs_aload_n (pc := 72) t23_72 rfl ?_
  refine zs_get (pc := 73) t23_73 (by decide) (zk1 (w13s.k fk_zMc_83)) (w13s.p rfl fv_zMc_83_5) ?_
  refine zs_iconst (pc := 76) t23_76 (v := 0) (by decide) ?_
  refine zs_aload_n (pc := 77) t23_77 rfl ?_
  refine zs_get (pc := 78) t23_78 (by decide) (zk1 (w13s.k fk_zMc_83)) (zfvi rfl ((w13F 83 3 rfl).trans zIs)) ?_
  have w14 : (0 : Int32).toInt = 0 := li0
  have w15 : (0 : Int32).toInt = 0 := li0
  refine zs_copy (pc := 81) t23_81 (w13s.k fk_zMc_11) (w13s.k fk_zMc_87) (by decide) (by decide) (by decide) ⟨by omega, by omega, by omega⟩ (by omega) (by omega) ⟨Nat.le_of_ble_eq_true rfl, by decide⟩ ?_
  obtain ⟨w16M, w16e⟩ : ∃ N, N = zsR w13M 87 (va_cpy (zI w13M 11) (zI w13M 87) (0 : Int32).toNatClampNeg (0 : Int32).toNatClampNeg (zI M 7 3).toNatClampNeg) := ⟨_, rfl⟩
  have w16s : zSk zMc w16M := by rw [w16e]; exact w13s
  have w16I : zIv cLo cHi w16M := by rw [w16e]; exact zIv.row w13I (fun _ => zrg _)
  have w16F : zFr [(87, 87, none)] w13M w16M := by rw [w16e]; exact zFr.row zFr.refl (fun _ => rfl)
  have w16C : ∀ j : Nat, (j : Int) < (zI M 7 3).toInt → zI w16M 87 j = zI w13M 11 j := fun j hj => by rw [w16e]; exact (congrFun zRs j).trans (zcpy0 (by omega) (by omega) hj)
  rw [← w16e]
  refine zs_aload_n (pc := 84) t23_84 rfl ?_
  refine zs_get (pc := 85) t23_85 (by decide) (zk1 (w16s.k fk_zMc_7)) (w16s.p rfl fv_zMc_7_6) ?_
  refine zs_iconst (pc := 88) t23_88 (v := 0) (by decide) ?_
  refine zs_aload_n (pc := 89) t23_89 rfl ?_
  refine zs_get (pc := 90) t23_90 (by decide) (zk1 (w16s.k fk_zMc_83)) (w16s.p rfl fv_zMc_83_6) ?_
  refine zs_iconst (pc := 93) t23_93 (v := 0) (by decide) ?_
  refine zs_aload_n (pc := 94) t23_94 rfl ?_
  refine zs_get (pc := 95) t23_95 (by decide) (zk1 (w16s.k fk_zMc_83)) (zfvi rfl ((w16F 83 3 rfl).trans ((w13F 83 3 rfl).trans zIs))) ?_
  have w17 : (0 : Int32).toInt = 0 := li0
  have w18 : (0 : Int32).toInt = 0 := li0
  refine zs_copy (pc := 98) t23_98 (w16s.k fk_zMc_12) (w16s.k fk_zMc_88) (by decide) (by decide) (by decide) ⟨by omega, by omega, by omega⟩ (by omega) (by omega) ⟨Nat.le_of_ble_eq_true rfl, by decide⟩ ?_
  obtain ⟨w19M, w19e⟩ : ∃ N, N = zsR w16M 88 (va_cpy (zI w16M 12) (zI w16M 88) (0 : Int32).toNatClampNeg (0 : Int32).toNatClampNeg (zI M 7 3).toNatClampNeg) := ⟨_, rfl⟩
  have w19s : zSk zMc w19M := by rw [w19e]; exact w16s
  have w19I : zIv cLo cHi w19M := by rw [w19e]; exact zIv.row w16I (fun _ => zrg _)
  have w19F : zFr [(88, 88, none)] w16M w19M := by rw [w19e]; exact zFr.row zFr.refl (fun _ => rfl)
  have w19C : ∀ j : Nat, (j : Int) < (zI M 7 3).toInt → zI w19M 88 j = zI w16M 12 j := fun j hj => by rw [w19e]; exact (congrFun zRs j).trans (zcpy0 (by omega) (by omega) hj)
  rw [← w19e]
  refine zs_aload_n (pc := 101) t23_101 rfl ?_
  refine zs_get (pc := 102) t23_102 (by decide) (zk1 (w19s.k fk_zMc_7)) (w19s.p rfl fv_zMc_7_7) ?_
  refine zs_iconst (pc := 105) t23_105 (v := 0) (by decide) ?_
  refine zs_aload_n (pc := 106) t23_106 rfl ?_
  refine zs_get (pc := 107) t23_107 (by decide) (zk1 (w19s.k fk_zMc_83)) (w19s.p rfl fv_zMc_83_7) ?_
  refine zs_iconst (pc := 110) t23_110 (v := 0) (by decide) ?_
  refine zs_aload_n (pc := 111) t23_111 rfl ?_
  refine zs_get (pc := 112) t23_112 (by decide) (zk1 (w19s.k fk_zMc_83)) (zfvi rfl ((w19F 83 3 rfl).trans ((w16F 83 3 rfl).trans ((w13F 83 3 rfl).trans zIs)))) ?_
  have w20 : (0 : Int32).toInt = 0 := li0
  have w21 : (0 : Int32).toInt = 0 := li0
  refine zs_copy (pc := 115) t23_115 (w19s.k fk_zMc_13) (w19s.k fk_zMc_89) (by decide) (by decide) (by decide) ⟨by omega, by omega, by omega⟩ (by omega) (by omega) ⟨Nat.le_of_ble_eq_true rfl, by decide⟩ ?_
  obtain ⟨w22M, w22e⟩ : ∃ N, N = zsR w19M 89 (va_cpy (zI w19M 13) (zI w19M 89) (0 : Int32).toNatClampNeg (0 : Int32).toNatClampNeg (zI M 7 3).toNatClampNeg) := ⟨_, rfl⟩
  have w22s : zSk zMc w22M := by rw [w22e]; exact w19s
  have w22I : zIv cLo cHi w22M := by rw [w22e]; exact zIv.row w19I (fun _ => zrg _)
  have w22F : zFr [(89, 89, none)] w19M w22M := by rw [w22e]; exact zFr.row zFr.refl (fun _ => rfl)
  have w22C : ∀ j : Nat, (j : Int) < (zI M 7 3).toInt → zI w22M 89 j = zI w19M 13 j := fun j hj => by rw [w22e]; exact (congrFun zRs j).trans (zcpy0 (by omega) (by omega) hj)
  rw [← w22e]
  refine zs_aload_n (pc := 118) t23_118 rfl ?_
  refine zs_aload_n (pc := 119) t23_119 rfl ?_
  have w23 := ib7_8 hI
  refine zs_get (pc := 120) t23_120 (by decide) (zk1 (w22s.k fk_zMc_7)) (zfvi rfl ((w22F 7 8 rfl).trans ((w19F 7 8 rfl).trans ((w16F 7 8 rfl).trans ((w13F 7 8 rfl).trans ((zIo (by decide)).trans ((w8F 7 8 rfl).trans ((w5F 7 8 rfl).trans ((zIo (by decide)).trans rfl))))))))) ?_
  have w24 : zIv cLo cHi (zsI w22M 83 8 (zI M 7 8)) := zIv.put w22I (show 0 ≤ (zI M 7 8).toInt ∧ (zI M 7 8).toInt ≤ 12 from ⟨by omega, by omega⟩)
  refine zs_putI (pc := 123) t23_123 (zk1 (w22s.k fk_zMc_83)) rfl ?_
  refine zs_aload_n (pc := 126) t23_126 rfl ?_
  refine zs_get (pc := 127) t23_127 (by decide) (zk1 (w22s.k fk_zMc_7)) (w22s.p rfl fv_zMc_7_9) ?_
  refine zs_iconst (pc := 130) t23_130 (v := 0) (by decide) ?_
  refine zs_aload_n (pc := 131) t23_131 rfl ?_
  refine zs_get (pc := 132) t23_132 (by decide) (zk1 (w22s.k fk_zMc_83)) (w22s.p rfl fv_zMc_83_9) ?_
  refine zs_iconst (pc := 135) t23_135 (v := 0) (by decide) ?_
  refine zs_aload_n (pc := 136) t23_136 rfl ?_
  refine zs_get (pc := 137) t23_137 (by decide) (zk1 (w22s.k fk_zMc_83)) (zfvi rfl zIs) ?_
  have w25 : (0 : Int32).toInt = 0 := li0
  have w26 : (0 : Int32).toInt = 0 := li0
  refine zs_copy (pc := 140) t23_140 (w22s.k fk_zMc_14) (w22s.k fk_zMc_90) (by decide) (by decide) (by decide) ⟨by omega, by omega, by omega⟩ (by omega) (by omega) ⟨Nat.le_of_ble_eq_true rfl, by decide⟩ ?_
  obtain ⟨w27M, w27e⟩ : ∃ N, N = zsR (zsI w22M 83 8 (zI M 7 8)) 90 (va_cpy (zI (zsI w22M 83 8 (zI M 7 8)) 14) (zI (zsI w22M 83 8 (zI M 7 8)) 90) (0 : Int32).toNatClampNeg (0 : Int32).toNatClampNeg (zI M 7 8).toNatClampNeg) := ⟨_, rfl⟩
  have w27s : zSk zMc w27M := by rw [w27e]; exact w22s
  have w27I : zIv cLo cHi w27M := by rw [w27e]; exact zIv.row w24 (fun _ => zrg _)
  have w27F : zFr [(90, 90, none)] (zsI w22M 83 8 (zI M 7 8)) w27M := by rw [w27e]; exact zFr.row zFr.refl (fun _ => rfl)
  have w27C : ∀ j : Nat, (j : Int) < (zI M 7 8).toInt → zI w27M 90 j = zI (zsI w22M 83 8 (zI M 7 8)) 14 j := fun j hj => by rw [w27e]; exact (congrFun zRs j).trans (zcpy0 (by omega) (by omega) hj)
  rw [← w27e]
  refine zs_aload_n (pc := 143) t23_143 rfl ?_
  refine zs_get (pc := 144) t23_144 (by decide) (zk1 (w27s.k fk_zMc_7)) (w27s.p rfl fv_zMc_7_10) ?_
  refine zs_iconst (pc := 147) t23_147 (v := 0) (by decide) ?_
  refine zs_aload_n (pc := 148) t23_148 rfl ?_
  refine zs_get (pc := 149) t23_149 (by decide) (zk1 (w27s.k fk_zMc_83)) (w27s.p rfl fv_zMc_83_10) ?_
  refine zs_iconst (pc := 152) t23_152 (v := 0) (by decide) ?_
  refine zs_aload_n (pc := 153) t23_153 rfl ?_
  refine zs_get (pc := 154) t23_154 (by decide) (zk1 (w27s.k fk_zMc_83)) (zfvi rfl ((w27F 83 8 rfl).trans zIs)) ?_
  have w28 : (0 : Int32).toInt = 0 := li0
  have w29 : (0 : Int32).toInt = 0 := li0
  refine zs_copy (pc := 157) t23_157 (w27s.k fk_zMc_15) (w27s.k fk_zMc_91) (by decide) (by decide) (by decide) ⟨by omega, by omega, by omega⟩ (by omega) (by omega) ⟨Nat.le_of_ble_eq_true rfl, by decide⟩ ?_
  obtain ⟨w30M, w30e⟩ : ∃ N, N = zsR w27M 91 (va_cpy (zI w27M 15) (zI w27M 91) (0 : Int32).toNatClampNeg (0 : Int32).toNatClampNeg (zI M 7 8).toNatClampNeg) := ⟨_, rfl⟩
  have w30s : zSk zMc w30M := by rw [w30e]; exact w27s
  have w30I : zIv cLo cHi w30M := by rw [w30e]; exact zIv.row w27I (fun _ => zrg _)
  have w30F : zFr [(91, 91, none)] w27M w30M := by rw [w30e]; exact zFr.row zFr.refl (fun _ => rfl)
  have w30C : ∀ j : Nat, (j : Int) < (zI M 7 8).toInt → zI w30M 91 j = zI w27M 15 j := fun j hj => by rw [w30e]; exact (congrFun zRs j).trans (zcpy0 (by omega) (by omega) hj)
  rw [← w30e]
  refine zs_aload_n (pc := 160) t23_160 rfl ?_
  refine zs_get (pc := 161) t23_161 (by decide) (zk1 (w30s.k fk_zMc_7)) (w30s.p rfl fv_zMc_7_11) ?_
  refine zs_iconst (pc := 164) t23_164 (v := 0) (by decide) ?_
  refine zs_aload_n (pc := 165) t23_165 rfl ?_
  refine zs_get (pc := 166) t23_166 (by decide) (zk1 (w30s.k fk_zMc_83)) (w30s.p rfl fv_zMc_83_11) ?_
  refine zs_iconst (pc := 169) t23_169 (v := 0) (by decide) ?_
  refine zs_aload_n (pc := 170) t23_170 rfl ?_
  refine zs_get (pc := 171) t23_171 (by decide) (zk1 (w30s.k fk_zMc_83)) (zfvi rfl ((w30F 83 8 rfl).trans ((w27F 83 8 rfl).trans zIs))) ?_
  have w31 : (0 : Int32).toInt = 0 := li0
  have w32 : (0 : Int32).toInt = 0 := li0
  refine zs_copy (pc := 174) t23_174 (w30s.k fk_zMc_16) (w30s.k fk_zMc_92) (by decide) (by decide) (by decide) ⟨by omega, by omega, by omega⟩ (by omega) (by omega) ⟨Nat.le_of_ble_eq_true rfl, by decide⟩ ?_
  obtain ⟨w33M, w33e⟩ : ∃ N, N = zsR w30M 92 (va_cpy (zI w30M 16) (zI w30M 92) (0 : Int32).toNatClampNeg (0 : Int32).toNatClampNeg (zI M 7 8).toNatClampNeg) := ⟨_, rfl⟩
  have w33s : zSk zMc w33M := by rw [w33e]; exact w30s
  have w33I : zIv cLo cHi w33M := by rw [w33e]; exact zIv.row w30I (fun _ => zrg _)
  have w33F : zFr [(92, 92, none)] w30M w33M := by rw [w33e]; exact zFr.row zFr.refl (fun _ => rfl)
  have w33C : ∀ j : Nat, (j : Int) < (zI M 7 8).toInt → zI w33M 92 j = zI w30M 16 j := fun j hj => by rw [w33e]; exact (congrFun zRs j).trans (zcpy0 (by omega) (by omega) hj)
  rw [← w33e]
  refine zs_aload_n (pc := 177) t23_177 rfl ?_
  refine zs_get (pc := 178) t23_178 (by decide) (zk1 (w33s.k fk_zMc_7)) (w33s.p rfl fv_zMc_7_12) ?_
  refine zs_iconst (pc := 181) t23_181 (v := 0) (by decide) ?_
  refine zs_aload_n (pc := 182) t23_182 rfl ?_
  refine zs_get (pc := 183) t23_183 (by decide) (zk1 (w33s.k fk_zMc_83)) (w33s.p rfl fv_zMc_83_12) ?_
  refine zs_iconst (pc := 186) t23_186 (v := 0) (by decide) ?_
  refine zs_bipush (pc := 187) t23_187 (v := 9) (by decide) ?_
  have w34 : (9 : Int32).toInt = 9 := li9
  have w35 : (0 : Int32).toInt = 0 := li0
  have w36 : (0 : Int32).toInt = 0 := li0
  refine zs_copy (pc := 189) t23_189 (w33s.k fk_zMc_17) (w33s.k fk_zMc_93) (by decide) (by decide) (by decide) ⟨by omega, by omega, by omega⟩ (by omega) (by omega) ⟨Nat.le_of_ble_eq_true rfl, by decide⟩ ?_
  obtain ⟨w37M, w37e⟩ : ∃ N, N = zsR w33M 93 (va_cpy (zI w33M 17) (zI w33M 93) (0 : Int32).toNatClampNeg (0 : Int32).toNatClampNeg (9 : Int32).toNatClampNeg) := ⟨_, rfl⟩
  have w37s : zSk zMc w37M := by rw [w37e]; exact w33s
  have w37I : zIv cLo cHi w37M := by rw [w37e]; exact zIv.row w33I (fun _ => zcpyB (fun j => ib17 w33I j) (fun j => ib93 w33I j))
  have w37F : zFr [(93, 93, none)] w33M w37M := by rw [w37e]; exact zFr.row zFr.refl (fun _ => rfl)
  have w37C : ∀ j : Nat, (j : Int) < (9 : Int32).toInt → zI w37M 93 j = zI w33M 17 j := fun j hj => by rw [w37e]; exact (congrFun zRs j).trans (zcpy0 (by omega) (by omega) hj)
  rw [← w37e]
  refine zs_aload_n (pc := 192) t23_192 rfl ?_
  refine zs_aload_n (pc := 193) t23_193 rfl ?_
  refine zs_get (pc := 194) t23_194 (by decide) (zk1 (w37s.k fk_zMc_7)) (w37s.p rfl fv_zMc_7_14) ?_
  refine zs_aload_n (pc := 197) t23_197 rfl ?_
  have w38 := ib7_13 hI
  refine zs_get (pc := 198) t23_198 (by decide) (zk1 (w37s.k fk_zMc_7)) (zfvi rfl ((w37F 7 13 rfl).trans ((w33F 7 13 rfl).trans ((w30F 7 13 rfl).trans ((w27F 7 13 rfl).trans ((zIo (by decide)).trans ((w22F 7 13 rfl).trans ((w19F 7 13 rfl).trans ((w16F 7 13 rfl).trans ((w13F 7 13 rfl).trans ((zIo (by decide)).trans ((w8F 7 13 rfl).trans ((w5F 7 13 rfl).trans ((zIo (by decide)).trans rfl)))))))))))))) ?_
  refine zs_invV (pc := 201) (k := 83) (as' := [.ref 18, .int (zI M 7 13)]) (st := []) t23_201 mf24 rfl rfl (Or.inl ⟨by decide, (zk1 (w37s.k fk_zMc_83))⟩) ⟨by decide, by decide, Nat.le_of_ble_eq_true rfl, Nat.le_of_ble_eq_true rfl⟩ (zs_in (by decide) mf24 (Nat.le_of_ble_eq_true rfl) ?_) (fun _ _ q => q)
  show zGo X l 1 0 0 24 0 [(0, .ref 83), (1, .ref 18), (2, .int (zI M 7 13))] [] w37M _
  refine zs_aload_n (pc := 0) t24_0 rfl ?_
  refine zs_iconst (pc := 1) t24_1 (v := 0) (by decide) ?_
  refine zs_iload_n (pc := 2) t24_2 rfl ?_
  refine zs_sipush (pc := 3) t24_3 (v := 500) (by decide) ?_
  refine zs_invS (pc := 6) (as := [.int (zI M 7 13), .int (500 : Int32)]) (st := [.int (0 : Int32), .ref 83]) t24_6 (by decide) mf20 rfl rfl ⟨by decide, by decide, Nat.le_of_ble_eq_true rfl, Nat.le_of_ble_eq_true rfl⟩ (zs_in (by decide) mf20 (Nat.le_of_ble_eq_true rfl) ?_) (fun _ _ q => q)
  show zGo X l 0 0 0 20 0 [(0, .int (zI M 7 13)), (1, .int (500 : Int32))] [] w37M _
  refine zs_iload_n (pc := 0) t20_0 rfl ?_
  refine zs_iload_n (pc := 1) t20_1 rfl ?_
  refine zs_icmp_gtF (pc := 2) t20_2 rfl li500 (by omega) ?_
  refine zs_iload_n (pc := 5) t20_5 rfl ?_
  refine zs_goto (pc := 6) t20_6 ?_
  refine zs_iret (pc := 10) t20_10 mr20 rfl ?_
  show zGo X l 1 0 0 24 9 [(0, .ref 83), (1, .ref 18), (2, .int (zI M 7 13))] [.int (zI M 7 13), .int (0 : Int32), .ref 83] w37M _
  refine zs_invS (pc := 9) (as := [.int (0 : Int32), .int (zI M 7 13)]) (st := [.ref 83]) t24_9 (by decide) mf21 rfl rfl ⟨by decide, by decide, Nat.le_of_ble_eq_true rfl, Nat.le_of_ble_eq_true rfl⟩ (zs_in (by decide) mf21 (Nat.le_of_ble_eq_true rfl) ?_) (fun _ _ q => q)
  show zGo X l 0 0 0 21 0 [(0, .int (0 : Int32)), (1, .int (zI M 7 13))] [] w37M _
  refine zs_iload_n (pc := 0) t21_0 rfl ?_
  refine zs_iload_n (pc := 1) t21_1 rfl ?_
  by_cases w39 : 0 < (zI M 7 13).toInt
  · refine zs_icmp_ltT (pc := 2) t21_2 li0 rfl (by omega) ?_
    refine zs_iload_n (pc := 9) t21_9 rfl ?_
    refine zs_iret (pc := 10) t21_10 mr21 rfl ?_
    show zGo X l 1 0 0 24 12 [(0, .ref 83), (1, .ref 18), (2, .int (zI M 7 13))] [.int (zI M 7 13), .ref 83] w37M _
    have w40 : zIv cLo cHi (zsI w37M 83 13 (zI M 7 13)) := zIv.put w37I (show 0 ≤ (zI M 7 13).toInt ∧ (zI M 7 13).toInt ≤ 500 from ⟨by omega, by omega⟩)
    refine zs_putI (pc := 12) t24_12 (zk1 (w37s.k fk_zMc_83)) rfl ?_
    refine zs_aload_n (pc := 15) t24_15 rfl ?_
    refine zs_iconst (pc := 16) t24_16 (v := 0) (by decide) ?_
    refine zs_aload_n (pc := 17) t24_17 rfl ?_
    refine zs_get (pc := 18) t24_18 (by decide) (zk1 (w37s.k fk_zMc_83)) (w37s.p rfl fv_zMc_83_14) ?_
    refine zs_iconst (pc := 21) t24_21 (v := 0) (by decide) ?_
    refine zs_aload_n (pc := 22) t24_22 rfl ?_
    refine zs_get (pc := 23) t24_23 (by decide) (zk1 (w37s.k fk_zMc_83)) (zfvi rfl zIs) ?_
    have w41 : (0 : Int32).toInt = 0 := li0
    have w42 : (0 : Int32).toInt = 0 := li0
    refine zs_copy (pc := 26) t24_26 (w37s.k fk_zMc_18) (w37s.k fk_zMc_94) (by decide) (by decide) (by decide) ⟨by omega, by omega, by omega⟩ (by omega) (by omega) ⟨Nat.le_of_ble_eq_true rfl, by decide⟩ ?_
    obtain ⟨w43M, w43e⟩ : ∃ N, N = zsR (zsI w37M 83 13 (zI M 7 13)) 94 (va_cpy (zI (zsI w37M 83 13 (zI M 7 13)) 18) (zI (zsI w37M 83 13 (zI M 7 13)) 94) (0 : Int32).toNatClampNeg (0 : Int32).toNatClampNeg (zI M 7 13).toNatClampNeg) := ⟨_, rfl⟩
    have w43s : zSk zMc w43M := by rw [w43e]; exact w37s
    have w43I : zIv cLo cHi w43M := by rw [w43e]; exact zIv.row w40 (fun _ => zcpyB (fun j => ib18 w40 j) (fun j => ib94 w40 j))
    have w43F : zFr [(94, 94, none)] (zsI w37M 83 13 (zI M 7 13)) w43M := by rw [w43e]; exact zFr.row zFr.refl (fun _ => rfl)
    have w43C : ∀ j : Nat, (j : Int) < (zI M 7 13).toInt → zI w43M 94 j = zI (zsI w37M 83 13 (zI M 7 13)) 18 j := fun j hj => by rw [w43e]; exact (congrFun zRs j).trans (zcpy0 (by omega) (by omega) hj)
    rw [← w43e]
    refine zs_vret (pc := 29) t24_29 mr24 ?_
    show zGo X l 2 0 0 23 204 [(0, .ref 83), (1, .ref 7)] [] w43M _
    have w44 : (zI w43M 83 0).toInt = (zI M 7 0).toInt := (congrArg Int32.toInt ((w43F 83 0 rfl).trans ((zIoj (by decide)).trans ((w37F 83 0 rfl).trans ((w33F 83 0 rfl).trans ((w30F 83 0 rfl).trans ((w27F 83 0 rfl).trans ((zIoj (by decide)).trans ((w22F 83 0 rfl).trans ((w19F 83 0 rfl).trans ((w16F 83 0 rfl).trans ((w13F 83 0 rfl).trans ((zIoj (by decide)).trans ((w8F 83 0 rfl).trans ((w5F 83 0 rfl).trans zIs))))))))))))))).trans rfl
    have w45 : (zI w43M 83 3).toInt = (zI M 7 3).toInt := (congrArg Int32.toInt ((w43F 83 3 rfl).trans ((zIoj (by decide)).trans ((w37F 83 3 rfl).trans ((w33F 83 3 rfl).trans ((w30F 83 3 rfl).trans ((w27F 83 3 rfl).trans ((zIoj (by decide)).trans ((w22F 83 3 rfl).trans ((w19F 83 3 rfl).trans ((w16F 83 3 rfl).trans ((w13F 83 3 rfl).trans zIs)))))))))))).trans rfl
    have w46 : (zI w43M 83 8).toInt = (zI M 7 8).toInt := (congrArg Int32.toInt ((w43F 83 8 rfl).trans ((zIoj (by decide)).trans ((w37F 83 8 rfl).trans ((w33F 83 8 rfl).trans ((w30F 83 8 rfl).trans ((w27F 83 8 rfl).trans zIs))))))).trans rfl
    have w47 : (zI w43M 83 13).toInt = (zI M 7 13).toInt := (congrArg Int32.toInt ((w43F 83 13 rfl).trans zIs)).trans rfl
    have w48 : (zI (zsI M 83 0 (zI M 7 0)) 7 0).toInt = (zI M 7 0).toInt := (congrArg Int32.toInt ((zIo (by decide)).trans rfl)).trans rfl
    have w49 : (zI (zsI M 83 0 (zI M 7 0)) 7 3).toInt = (zI M 7 3).toInt := (congrArg Int32.toInt ((zIo (by decide)).trans rfl)).trans rfl
    have w50 : (zI (zsI M 83 0 (zI M 7 0)) 7 8).toInt = (zI M 7 8).toInt := (congrArg Int32.toInt ((zIo (by decide)).trans rfl)).trans rfl
    have w51 : (zI (zsI M 83 0 (zI M 7 0)) 7 13).toInt = (zI M 7 13).toInt := (congrArg Int32.toInt ((zIo (by decide)).trans rfl)).trans rfl
    exact zs_vret (pc := 204) t23_204 mr23 (hQ _ w43s w43I ((((((((((((((((zFr.refl).put rfl).trans (w5F.mono rfl)).trans (w8F.mono rfl)).put rfl).trans (w13F.mono rfl)).trans (w16F.mono rfl)).trans (w19F.mono rfl)).trans (w22F.mono rfl)).put rfl).trans (w27F.mono rfl)).trans (w30F.mono rfl)).trans (w33F.mono rfl)).trans (w37F.mono rfl)).put rfl).trans (w43F.mono rfl)) (zSo.cp x0 (by omega) (by omega) (by omega) (by omega) (fun j hj => ((((w43F 84 j rfl).trans ((zIo (by decide)).trans ((w37F 84 j rfl).trans ((w33F 84 j rfl).trans ((w30F 84 j rfl).trans ((w27F 84 j rfl).trans ((zIo (by decide)).trans ((w22F 84 j rfl).trans ((w19F 84 j rfl).trans ((w16F 84 j rfl).trans ((w13F 84 j rfl).trans ((zIo (by decide)).trans (w8F 84 j rfl))))))))))))).trans (w5C j (by omega))).trans (zIo (by decide)))) (fun j hj => ((((w43F 85 j rfl).trans ((zIo (by decide)).trans ((w37F 85 j rfl).trans ((w33F 85 j rfl).trans ((w30F 85 j rfl).trans ((w27F 85 j rfl).trans ((zIo (by decide)).trans ((w22F 85 j rfl).trans ((w19F 85 j rfl).trans ((w16F 85 j rfl).trans ((w13F 85 j rfl).trans (zIo (by decide))))))))))))).trans (w8C j (by omega))).trans ((w5F 9 j rfl).trans (zIo (by decide))))) (fun j hj => ((((w43F 86 j rfl).trans ((zIo (by decide)).trans ((w37F 86 j rfl).trans ((w33F 86 j rfl).trans ((w30F 86 j rfl).trans ((w27F 86 j rfl).trans ((zIo (by decide)).trans ((w22F 86 j rfl).trans ((w19F 86 j rfl).trans (w16F 86 j rfl)))))))))).trans (w13C j (by omega))).trans ((zIo (by decide)).trans ((w8F 10 j rfl).trans ((w5F 10 j rfl).trans (zIo (by decide))))))) (fun j hj => ((((w43F 87 j rfl).trans ((zIo (by decide)).trans ((w37F 87 j rfl).trans ((w33F 87 j rfl).trans ((w30F 87 j rfl).trans ((w27F 87 j rfl).trans ((zIo (by decide)).trans ((w22F 87 j rfl).trans (w19F 87 j rfl))))))))).trans (w16C j (by omega))).trans ((w13F 11 j rfl).trans ((zIo (by decide)).trans ((w8F 11 j rfl).trans ((w5F 11 j rfl).trans (zIo (by decide)))))))) (fun j hj => ((((w43F 88 j rfl).trans ((zIo (by decide)).trans ((w37F 88 j rfl).trans ((w33F 88 j rfl).trans ((w30F 88 j rfl).trans ((w27F 88 j rfl).trans ((zIo (by decide)).trans (w22F 88 j rfl)))))))).trans (w19C j (by omega))).trans ((w16F 12 j rfl).trans ((w13F 12 j rfl).trans ((zIo (by decide)).trans ((w8F 12 j rfl).trans ((w5F 12 j rfl).trans (zIo (by decide))))))))) (fun j hj => ((((w43F 89 j rfl).trans ((zIo (by decide)).trans ((w37F 89 j rfl).trans ((w33F 89 j rfl).trans ((w30F 89 j rfl).trans ((w27F 89 j rfl).trans (zIo (by decide)))))))).trans (w22C j (by omega))).trans ((w19F 13 j rfl).trans ((w16F 13 j rfl).trans ((w13F 13 j rfl).trans ((zIo (by decide)).trans ((w8F 13 j rfl).trans ((w5F 13 j rfl).trans (zIo (by decide)))))))))) (fun j hj => ((((w43F 90 j rfl).trans ((zIo (by decide)).trans ((w37F 90 j rfl).trans ((w33F 90 j rfl).trans (w30F 90 j rfl))))).trans (w27C j (by omega))).trans ((zIo (by decide)).trans ((w22F 14 j rfl).trans ((w19F 14 j rfl).trans ((w16F 14 j rfl).trans ((w13F 14 j rfl).trans ((zIo (by decide)).trans ((w8F 14 j rfl).trans ((w5F 14 j rfl).trans (zIo (by decide)))))))))))) (fun j hj => ((((w43F 91 j rfl).trans ((zIo (by decide)).trans ((w37F 91 j rfl).trans (w33F 91 j rfl)))).trans (w30C j (by omega))).trans ((w27F 15 j rfl).trans ((zIo (by decide)).trans ((w22F 15 j rfl).trans ((w19F 15 j rfl).trans ((w16F 15 j rfl).trans ((w13F 15 j rfl).trans ((zIo (by decide)).trans ((w8F 15 j rfl).trans ((w5F 15 j rfl).trans (zIo (by decide))))))))))))) (fun j hj => ((((w43F 92 j rfl).trans ((zIo (by decide)).trans (w37F 92 j rfl))).trans (w33C j (by omega))).trans ((w30F 16 j rfl).trans ((w27F 16 j rfl).trans ((zIo (by decide)).trans ((w22F 16 j rfl).trans ((w19F 16 j rfl).trans ((w16F 16 j rfl).trans ((w13F 16 j rfl).trans ((zIo (by decide)).trans ((w8F 16 j rfl).trans ((w5F 16 j rfl).trans (zIo (by decide)))))))))))))) (fun j hj => ((((w43F 93 j rfl).trans (zIo (by decide))).trans (w37C j (by omega))).trans ((w33F 17 j rfl).trans ((w30F 17 j rfl).trans ((w27F 17 j rfl).trans ((zIo (by decide)).trans ((w22F 17 j rfl).trans ((w19F 17 j rfl).trans ((w16F 17 j rfl).trans ((w13F 17 j rfl).trans ((zIo (by decide)).trans ((w8F 17 j rfl).trans ((w5F 17 j rfl).trans (zIo (by decide))))))))))))))) (fun j hj => ((w43C j (by omega)).trans ((zIo (by decide)).trans ((w37F 18 j rfl).trans ((w33F 18 j rfl).trans ((w30F 18 j rfl).trans ((w27F 18 j rfl).trans ((zIo (by decide)).trans ((w22F 18 j rfl).trans ((w19F 18 j rfl).trans ((w16F 18 j rfl).trans ((w13F 18 j rfl).trans ((zIo (by decide)).trans ((w8F 18 j rfl).trans ((w5F 18 j rfl).trans (zIo (by decide)))))))))))))))))))
  · refine zs_icmp_ltF (pc := 2) t21_2 li0 rfl (by omega) ?_
    refine zs_iload_n (pc := 5) t21_5 rfl ?_
    refine zs_goto (pc := 6) t21_6 ?_
    refine zs_iret (pc := 10) t21_10 mr21 (by decide) ?_
    show zGo X l 1 0 0 24 12 [(0, .ref 83), (1, .ref 18), (2, .int (zI M 7 13))] [.int (0 : Int32), .ref 83] w37M _
    have w52 : zIv cLo cHi (zsI w37M 83 13 (0 : Int32)) := zIv.put w37I (show 0 ≤ (0 : Int32).toInt ∧ (0 : Int32).toInt ≤ 500 from ⟨by decide, by decide⟩)
    refine zs_putI (pc := 12) t24_12 (zk1 (w37s.k fk_zMc_83)) rfl ?_
    refine zs_aload_n (pc := 15) t24_15 rfl ?_
    refine zs_iconst (pc := 16) t24_16 (v := 0) (by decide) ?_
    refine zs_aload_n (pc := 17) t24_17 rfl ?_
    refine zs_get (pc := 18) t24_18 (by decide) (zk1 (w37s.k fk_zMc_83)) (w37s.p rfl fv_zMc_83_14) ?_
    refine zs_iconst (pc := 21) t24_21 (v := 0) (by decide) ?_
    refine zs_aload_n (pc := 22) t24_22 rfl ?_
    refine zs_get (pc := 23) t24_23 (by decide) (zk1 (w37s.k fk_zMc_83)) (zfvi rfl zIs) ?_
    have w53 : (0 : Int32).toInt = 0 := li0
    have w54 : (0 : Int32).toInt = 0 := li0
    have w55 : (0 : Int32).toInt = 0 := li0
    refine zs_copy (pc := 26) t24_26 (w37s.k fk_zMc_18) (w37s.k fk_zMc_94) (by decide) (by decide) (by decide) ⟨by omega, by omega, by omega⟩ (by omega) (by omega) ⟨Nat.le_of_ble_eq_true rfl, by decide⟩ ?_
    obtain ⟨w56M, w56e⟩ : ∃ N, N = zsR (zsI w37M 83 13 (0 : Int32)) 94 (va_cpy (zI (zsI w37M 83 13 (0 : Int32)) 18) (zI (zsI w37M 83 13 (0 : Int32)) 94) (0 : Int32).toNatClampNeg (0 : Int32).toNatClampNeg (0 : Int32).toNatClampNeg) := ⟨_, rfl⟩
    have w56s : zSk zMc w56M := by rw [w56e]; exact w37s
    have w56I : zIv cLo cHi w56M := by rw [w56e]; exact zIv.row w52 (fun _ => zcpyB (fun j => ib18 w52 j) (fun j => ib94 w52 j))
    have w56F : zFr [(94, 94, none)] (zsI w37M 83 13 (0 : Int32)) w56M := by rw [w56e]; exact zFr.row zFr.refl (fun _ => rfl)
    have w56C : ∀ j : Nat, (j : Int) < (0 : Int32).toInt → zI w56M 94 j = zI (zsI w37M 83 13 (0 : Int32)) 18 j := fun j hj => by rw [w56e]; exact (congrFun zRs j).trans (zcpy0 (by omega) (by omega) hj)
    rw [← w56e]
    refine zs_vret (pc := 29) t24_29 mr24 ?_
    show zGo X l 2 0 0 23 204 [(0, .ref 83), (1, .ref 7)] [] w56M _
    have w57 : (zI w56M 83 0).toInt = (zI M 7 0).toInt := (congrArg Int32.toInt ((w56F 83 0 rfl).trans ((zIoj (by decide)).trans ((w37F 83 0 rfl).trans ((w33F 83 0 rfl).trans ((w30F 83 0 rfl).trans ((w27F 83 0 rfl).trans ((zIoj (by decide)).trans ((w22F 83 0 rfl).trans ((w19F 83 0 rfl).trans ((w16F 83 0 rfl).trans ((w13F 83 0 rfl).trans ((zIoj (by decide)).trans ((w8F 83 0 rfl).trans ((w5F 83 0 rfl).trans zIs))))))))))))))).trans rfl
    have w58 : (zI w56M 83 3).toInt = (zI M 7 3).toInt := (congrArg Int32.toInt ((w56F 83 3 rfl).trans ((zIoj (by decide)).trans ((w37F 83 3 rfl).trans ((w33F 83 3 rfl).trans ((w30F 83 3 rfl).trans ((w27F 83 3 rfl).trans ((zIoj (by decide)).trans ((w22F 83 3 rfl).trans ((w19F 83 3 rfl).trans ((w16F 83 3 rfl).trans ((w13F 83 3 rfl).trans zIs)))))))))))).trans rfl
    have w59 : (zI w56M 83 8).toInt = (zI M 7 8).toInt := (congrArg Int32.toInt ((w56F 83 8 rfl).trans ((zIoj (by decide)).trans ((w37F 83 8 rfl).trans ((w33F 83 8 rfl).trans ((w30F 83 8 rfl).trans ((w27F 83 8 rfl).trans zIs))))))).trans rfl
    have w60 : (zI w56M 83 13).toInt = 0 := (congrArg Int32.toInt ((w56F 83 13 rfl).trans zIs)).trans li0
    have w61 : (zI (zsI M 83 0 (zI M 7 0)) 7 0).toInt = (zI M 7 0).toInt := (congrArg Int32.toInt ((zIo (by decide)).trans rfl)).trans rfl
    have w62 : (zI (zsI M 83 0 (zI M 7 0)) 7 3).toInt = (zI M 7 3).toInt := (congrArg Int32.toInt ((zIo (by decide)).trans rfl)).trans rfl
    have w63 : (zI (zsI M 83 0 (zI M 7 0)) 7 8).toInt = (zI M 7 8).toInt := (congrArg Int32.toInt ((zIo (by decide)).trans rfl)).trans rfl
    have w64 : (zI (zsI M 83 0 (zI M 7 0)) 7 13).toInt = (zI M 7 13).toInt := (congrArg Int32.toInt ((zIo (by decide)).trans rfl)).trans rfl
    exact zs_vret (pc := 204) t23_204 mr23 (hQ _ w56s w56I ((((((((((((((((zFr.refl).put rfl).trans (w5F.mono rfl)).trans (w8F.mono rfl)).put rfl).trans (w13F.mono rfl)).trans (w16F.mono rfl)).trans (w19F.mono rfl)).trans (w22F.mono rfl)).put rfl).trans (w27F.mono rfl)).trans (w30F.mono rfl)).trans (w33F.mono rfl)).trans (w37F.mono rfl)).put rfl).trans (w56F.mono rfl)) (zSo.cp x0 (by omega) (by omega) (by omega) (by omega) (fun j hj => ((((w56F 84 j rfl).trans ((zIo (by decide)).trans ((w37F 84 j rfl).trans ((w33F 84 j rfl).trans ((w30F 84 j rfl).trans ((w27F 84 j rfl).trans ((zIo (by decide)).trans ((w22F 84 j rfl).trans ((w19F 84 j rfl).trans ((w16F 84 j rfl).trans ((w13F 84 j rfl).trans ((zIo (by decide)).trans (w8F 84 j rfl))))))))))))).trans (w5C j (by omega))).trans (zIo (by decide)))) (fun j hj => ((((w56F 85 j rfl).trans ((zIo (by decide)).trans ((w37F 85 j rfl).trans ((w33F 85 j rfl).trans ((w30F 85 j rfl).trans ((w27F 85 j rfl).trans ((zIo (by decide)).trans ((w22F 85 j rfl).trans ((w19F 85 j rfl).trans ((w16F 85 j rfl).trans ((w13F 85 j rfl).trans (zIo (by decide))))))))))))).trans (w8C j (by omega))).trans ((w5F 9 j rfl).trans (zIo (by decide))))) (fun j hj => ((((w56F 86 j rfl).trans ((zIo (by decide)).trans ((w37F 86 j rfl).trans ((w33F 86 j rfl).trans ((w30F 86 j rfl).trans ((w27F 86 j rfl).trans ((zIo (by decide)).trans ((w22F 86 j rfl).trans ((w19F 86 j rfl).trans (w16F 86 j rfl)))))))))).trans (w13C j (by omega))).trans ((zIo (by decide)).trans ((w8F 10 j rfl).trans ((w5F 10 j rfl).trans (zIo (by decide))))))) (fun j hj => ((((w56F 87 j rfl).trans ((zIo (by decide)).trans ((w37F 87 j rfl).trans ((w33F 87 j rfl).trans ((w30F 87 j rfl).trans ((w27F 87 j rfl).trans ((zIo (by decide)).trans ((w22F 87 j rfl).trans (w19F 87 j rfl))))))))).trans (w16C j (by omega))).trans ((w13F 11 j rfl).trans ((zIo (by decide)).trans ((w8F 11 j rfl).trans ((w5F 11 j rfl).trans (zIo (by decide)))))))) (fun j hj => ((((w56F 88 j rfl).trans ((zIo (by decide)).trans ((w37F 88 j rfl).trans ((w33F 88 j rfl).trans ((w30F 88 j rfl).trans ((w27F 88 j rfl).trans ((zIo (by decide)).trans (w22F 88 j rfl)))))))).trans (w19C j (by omega))).trans ((w16F 12 j rfl).trans ((w13F 12 j rfl).trans ((zIo (by decide)).trans ((w8F 12 j rfl).trans ((w5F 12 j rfl).trans (zIo (by decide))))))))) (fun j hj => ((((w56F 89 j rfl).trans ((zIo (by decide)).trans ((w37F 89 j rfl).trans ((w33F 89 j rfl).trans ((w30F 89 j rfl).trans ((w27F 89 j rfl).trans (zIo (by decide)))))))).trans (w22C j (by omega))).trans ((w19F 13 j rfl).trans ((w16F 13 j rfl).trans ((w13F 13 j rfl).trans ((zIo (by decide)).trans ((w8F 13 j rfl).trans ((w5F 13 j rfl).trans (zIo (by decide)))))))))) (fun j hj => ((((w56F 90 j rfl).trans ((zIo (by decide)).trans ((w37F 90 j rfl).trans ((w33F 90 j rfl).trans (w30F 90 j rfl))))).trans (w27C j (by omega))).trans ((zIo (by decide)).trans ((w22F 14 j rfl).trans ((w19F 14 j rfl).trans ((w16F 14 j rfl).trans ((w13F 14 j rfl).trans ((zIo (by decide)).trans ((w8F 14 j rfl).trans ((w5F 14 j rfl).trans (zIo (by decide)))))))))))) (fun j hj => ((((w56F 91 j rfl).trans ((zIo (by decide)).trans ((w37F 91 j rfl).trans (w33F 91 j rfl)))).trans (w30C j (by omega))).trans ((w27F 15 j rfl).trans ((zIo (by decide)).trans ((w22F 15 j rfl).trans ((w19F 15 j rfl).trans ((w16F 15 j rfl).trans ((w13F 15 j rfl).trans ((zIo (by decide)).trans ((w8F 15 j rfl).trans ((w5F 15 j rfl).trans (zIo (by decide))))))))))))) (fun j hj => ((((w56F 92 j rfl).trans ((zIo (by decide)).trans (w37F 92 j rfl))).trans (w33C j (by omega))).trans ((w30F 16 j rfl).trans ((w27F 16 j rfl).trans ((zIo (by decide)).trans ((w22F 16 j rfl).trans ((w19F 16 j rfl).trans ((w16F 16 j rfl).trans ((w13F 16 j rfl).trans ((zIo (by decide)).trans ((w8F 16 j rfl).trans ((w5F 16 j rfl).trans (zIo (by decide)))))))))))))) (fun j hj => ((((w56F 93 j rfl).trans (zIo (by decide))).trans (w37C j (by omega))).trans ((w33F 17 j rfl).trans ((w30F 17 j rfl).trans ((w27F 17 j rfl).trans ((zIo (by decide)).trans ((w22F 17 j rfl).trans ((w19F 17 j rfl).trans ((w16F 17 j rfl).trans ((w13F 17 j rfl).trans ((zIo (by decide)).trans ((w8F 17 j rfl).trans ((w5F 17 j rfl).trans (zIo (by decide))))))))))))))) (fun j hj => ((w56C j (by omega)).trans ((zIo (by decide)).trans ((w37F 18 j rfl).trans ((w33F 18 j rfl).trans ((w30F 18 j rfl).trans ((w27F 18 j rfl).trans ((zIo (by decide)).trans ((w22F 18 j rfl).trans ((w19F 18 j rfl).trans ((w16F 18 j rfl).trans ((w13F 18 j rfl).trans ((zIo (by decide)).trans ((w8F 18 j rfl).trans ((w5F 18 j rfl).trans (zIo (by decide)))))))))))))))))))
theorem X23_95_7 {X : zX} {l : Launch} {M : zM} {Q : Option Value → zM → Prop} (hs : zSk zMc M) (hI : zIv cLo cHi M) {F : Nat → Int} (x0 : zSo M 7 F) (hQ : ∀ M', zSk zMc M' → zIv cLo cHi M' → zFr [(95, 95, none), (96, 106, none)] M M' → (zSo M' 95 F) → Q none M') : zCall X l 2 0 0 23 [.ref 95, .ref 7] M Q := by
  refine zs_in (by decide) mf23 (Nat.le_of_ble_eq_true rfl) ?_
  show zGo X l 2 0 0 23 0 [(0, .ref 95), (1, .ref 7)] [] M _
  refine zs_aload_n (pc := 0) t23_0 rfl ?_
  refine zs_aload_n (pc := 1) t23_1 rfl ?_
  have w1 := ib7_0 hI
  refine zs_get (pc := 2) t23_2 (by decide) (zk1 (hs.k fk_zMc_7)) (zfvi rfl rfl) ?_
  have w2 : zIv cLo cHi (zsI M 95 0 (zI M 7 0)) := zIv.put hI (show 0 ≤ (zI M 7 0).toInt ∧ (zI M 7 0).toInt ≤ 8 from ⟨by omega, by omega⟩)
  refine zs_putI (pc := 5) t23_5 (zk1 (hs.k fk_zMc_95)) rfl ?_
  refine zs_aload_n (pc := 8) t23_8 rfl ?_
  refine zs_get (pc := 9) t23_9 (by decide) (zk1 (hs.k fk_zMc_7)) (hs.p rfl fv_zMc_7_1) ?_
  refine zs_iconst (pc := 12) t23_12 (v := 0) (by decide) ?_
  refine zs_aload_n (pc := 13) t23_13 rfl ?_
  refine zs_get (pc := 14) t23_14 (by decide) (zk1 (hs.k fk_zMc_95)) (hs.p rfl fv_zMc_95_1) ?_
  refine zs_iconst (pc := 17) t23_17 (v := 0) (by decide) ?_
  refine zs_aload_n (pc := 18) t23_18 rfl ?_
  refine zs_get (pc := 19) t23_19 (by decide) (zk1 (hs.k fk_zMc_95)) (zfvi rfl zIs) ?_
  have w3 : (0 : Int32).toInt = 0 := li0
  have w4 : (0 : Int32).toInt = 0 := li0
  refine zs_copy (pc := 22) t23_22 (hs.k fk_zMc_8) (hs.k fk_zMc_96) (by decide) (by decide) (by decide) ⟨by omega, by omega, by omega⟩ (by omega) (by omega) ⟨Nat.le_of_ble_eq_true rfl, by decide⟩ ?_
  obtain ⟨w5M, w5e⟩ : ∃ N, N = zsR (zsI M 95 0 (zI M 7 0)) 96 (va_cpy (zI (zsI M 95 0 (zI M 7 0)) 8) (zI (zsI M 95 0 (zI M 7 0)) 96) (0 : Int32).toNatClampNeg (0 : Int32).toNatClampNeg (zI M 7 0).toNatClampNeg) := ⟨_, rfl⟩
  have w5s : zSk zMc w5M := by rw [w5e]; exact hs
  have w5I : zIv cLo cHi w5M := by rw [w5e]; exact zIv.row w2 (fun _ => zrg _)
  have w5F : zFr [(96, 96, none)] (zsI M 95 0 (zI M 7 0)) w5M := by rw [w5e]; exact zFr.row zFr.refl (fun _ => rfl)
  have w5C : ∀ j : Nat, (j : Int) < (zI M 7 0).toInt → zI w5M 96 j = zI (zsI M 95 0 (zI M 7 0)) 8 j := fun j hj => by rw [w5e]; exact (congrFun zRs j).trans (zcpy0 (by omega) (by omega) hj)
  rw [← w5e]
  refine zs_aload_n (pc := 25) t23_25 rfl ?_
  refine zs_get (pc := 26) t23_26 (by decide) (zk1 (w5s.k fk_zMc_7)) (w5s.p rfl fv_zMc_7_2) ?_
  refine zs_iconst (pc := 29) t23_29 (v := 0) (by decide) ?_
  refine zs_aload_n (pc := 30) t23_30 rfl ?_
  refine zs_get (pc := 31) t23_31 (by decide) (zk1 (w5s.k fk_zMc_95)) (w5s.p rfl fv_zMc_95_2) ?_
  refine zs_iconst (pc := 34) t23_34 (v := 0) (by decide) ?_
  refine zs_aload_n (pc := 35) t23_35 rfl ?_
  refine zs_get (pc := 36) t23_36 (by decide) (zk1 (w5s.k fk_zMc_95)) (zfvi rfl ((w5F 95 0 rfl).trans zIs)) ?_
  have w6 : (0 : Int32).toInt = 0 := li0
  have w7 : (0 : Int32).toInt = 0 := li0
  refine zs_copy (pc := 39) t23_39 (w5s.k fk_zMc_9) (w5s.k fk_zMc_97) (by decide) (by decide) (by decide) ⟨by omega, by omega, by omega⟩ (by omega) (by omega) ⟨Nat.le_of_ble_eq_true rfl, by decide⟩ ?_
  obtain ⟨w8M, w8e⟩ : ∃ N, N = zsR w5M 97 (va_cpy (zI w5M 9) (zI w5M 97) (0 : Int32).toNatClampNeg (0 : Int32).toNatClampNeg (zI M 7 0).toNatClampNeg) := ⟨_, rfl⟩
  have w8s : zSk zMc w8M := by rw [w8e]; exact w5s
  have w8I : zIv cLo cHi w8M := by rw [w8e]; exact zIv.row w5I (fun _ => zcpyB (fun j => ib9 w5I j) (fun j => ib97 w5I j))
  have w8F : zFr [(97, 97, none)] w5M w8M := by rw [w8e]; exact zFr.row zFr.refl (fun _ => rfl)
  have w8C : ∀ j : Nat, (j : Int) < (zI M 7 0).toInt → zI w8M 97 j = zI w5M 9 j := fun j hj => by rw [w8e]; exact (congrFun zRs j).trans (zcpy0 (by omega) (by omega) hj)
  rw [← w8e]
  refine zs_aload_n (pc := 42) t23_42 rfl ?_
  refine zs_aload_n (pc := 43) t23_43 rfl ?_
  have w9 := ib7_3 hI
  refine zs_get (pc := 44) t23_44 (by decide) (zk1 (w8s.k fk_zMc_7)) (zfvi rfl ((w8F 7 3 rfl).trans ((w5F 7 3 rfl).trans ((zIo (by decide)).trans rfl)))) ?_
  have w10 : zIv cLo cHi (zsI w8M 95 3 (zI M 7 3)) := zIv.put w8I (show 0 ≤ (zI M 7 3).toInt ∧ (zI M 7 3).toInt ≤ 60 from ⟨by omega, by omega⟩)
  refine zs_putI (pc := 47) t23_47 (zk1 (w8s.k fk_zMc_95)) rfl ?_
  refine zs_aload_n (pc := 50) t23_50 rfl ?_
  refine zs_get (pc := 51) t23_51 (by decide) (zk1 (w8s.k fk_zMc_7)) (w8s.p rfl fv_zMc_7_4) ?_
  refine zs_iconst (pc := 54) t23_54 (v := 0) (by decide) ?_
  refine zs_aload_n (pc := 55) t23_55 rfl ?_
  refine zs_get (pc := 56) t23_56 (by decide) (zk1 (w8s.k fk_zMc_95)) (w8s.p rfl fv_zMc_95_4) ?_
  refine zs_iconst (pc := 59) t23_59 (v := 0) (by decide) ?_
  refine zs_aload_n (pc := 60) t23_60 rfl ?_
  refine zs_get (pc := 61) t23_61 (by decide) (zk1 (w8s.k fk_zMc_95)) (zfvi rfl zIs) ?_
  have w11 : (0 : Int32).toInt = 0 := li0
  have w12 : (0 : Int32).toInt = 0 := li0
  refine zs_copy (pc := 64) t23_64 (w8s.k fk_zMc_10) (w8s.k fk_zMc_98) (by decide) (by decide) (by decide) ⟨by omega, by omega, by omega⟩ (by omega) (by omega) ⟨Nat.le_of_ble_eq_true rfl, by decide⟩ ?_
  obtain ⟨w13M, w13e⟩ : ∃ N, N = zsR (zsI w8M 95 3 (zI M 7 3)) 98 (va_cpy (zI (zsI w8M 95 3 (zI M 7 3)) 10) (zI (zsI w8M 95 3 (zI M 7 3)) 98) (0 : Int32).toNatClampNeg (0 : Int32).toNatClampNeg (zI M 7 3).toNatClampNeg) := ⟨_, rfl⟩
  have w13s : zSk zMc w13M := by rw [w13e]; exact w8s
  have w13I : zIv cLo cHi w13M := by rw [w13e]; exact zIv.row w10 (fun _ => zcpyB (fun j => ib10 w10 j) (fun j => ib98 w10 j))
  have w13F : zFr [(98, 98, none)] (zsI w8M 95 3 (zI M 7 3)) w13M := by rw [w13e]; exact zFr.row zFr.refl (fun _ => rfl)
  have w13C : ∀ j : Nat, (j : Int) < (zI M 7 3).toInt → zI w13M 98 j = zI (zsI w8M 95 3 (zI M 7 3)) 10 j := fun j hj => by rw [w13e]; exact (congrFun zRs j).trans (zcpy0 (by omega) (by omega) hj)
  rw [← w13e]
  refine zs_aload_n (pc := 67) t23_67 rfl ?_
  refine zs_get (pc := 68) t23_68 (by decide) (zk1 (w13s.k fk_zMc_7)) (w13s.p rfl fv_zMc_7_5) ?_
  refine zs_iconst (pc := 71) t23_71 (v := 0) (by decide) ?_
  refine zs_aload_n (pc := 72) t23_72 rfl ?_
  refine zs_get (pc := 73) t23_73 (by decide) (zk1 (w13s.k fk_zMc_95)) (w13s.p rfl fv_zMc_95_5) ?_
  refine zs_iconst (pc := 76) t23_76 (v := 0) (by decide) ?_
  refine zs_aload_n (pc := 77) t23_77 rfl ?_
  refine zs_get (pc := 78) t23_78 (by decide) (zk1 (w13s.k fk_zMc_95)) (zfvi rfl ((w13F 95 3 rfl).trans zIs)) ?_
  have w14 : (0 : Int32).toInt = 0 := li0
  have w15 : (0 : Int32).toInt = 0 := li0
  refine zs_copy (pc := 81) t23_81 (w13s.k fk_zMc_11) (w13s.k fk_zMc_99) (by decide) (by decide) (by decide) ⟨by omega, by omega, by omega⟩ (by omega) (by omega) ⟨Nat.le_of_ble_eq_true rfl, by decide⟩ ?_
  obtain ⟨w16M, w16e⟩ : ∃ N, N = zsR w13M 99 (va_cpy (zI w13M 11) (zI w13M 99) (0 : Int32).toNatClampNeg (0 : Int32).toNatClampNeg (zI M 7 3).toNatClampNeg) := ⟨_, rfl⟩
  have w16s : zSk zMc w16M := by rw [w16e]; exact w13s
  have w16I : zIv cLo cHi w16M := by rw [w16e]; exact zIv.row w13I (fun _ => zrg _)
  have w16F : zFr [(99, 99, none)] w13M w16M := by rw [w16e]; exact zFr.row zFr.refl (fun _ => rfl)
  have w16C : ∀ j : Nat, (j : Int) < (zI M 7 3).toInt → zI w16M 99 j = zI w13M 11 j := fun j hj => by rw [w16e]; exact (congrFun zRs j).trans (zcpy0 (by omega) (by omega) hj)
  rw [← w16e]
  refine zs_aload_n (pc := 84) t23_84 rfl ?_
  refine zs_get (pc := 85) t23_85 (by decide) (zk1 (w16s.k fk_zMc_7)) (w16s.p rfl fv_zMc_7_6) ?_
  refine zs_iconst (pc := 88) t23_88 (v := 0) (by decide) ?_
  refine zs_aload_n (pc := 89) t23_89 rfl ?_
  refine zs_get (pc := 90) t23_90 (by decide) (zk1 (w16s.k fk_zMc_95)) (w16s.p rfl fv_zMc_95_6) ?_
  refine zs_iconst (pc := 93) t23_93 (v := 0) (by decide) ?_
  refine zs_aload_n (pc := 94) t23_94 rfl ?_
  refine zs_get (pc := 95) t23_95 (by decide) (zk1 (w16s.k fk_zMc_95)) (zfvi rfl ((w16F 95 3 rfl).trans ((w13F 95 3 rfl).trans zIs))) ?_
  have w17 : (0 : Int32).toInt = 0 := li0
  have w18 : (0 : Int32).toInt = 0 := li0
  refine zs_copy (pc := 98) t23_98 (w16s.k fk_zMc_12) (w16s.k fk_zMc_100) (by decide) (by decide) (by decide) ⟨by omega, by omega, by omega⟩ (by omega) (by omega) ⟨Nat.le_of_ble_eq_true rfl, by decide⟩ ?_
  obtain ⟨w19M, w19e⟩ : ∃ N, N = zsR w16M 100 (va_cpy (zI w16M 12) (zI w16M 100) (0 : Int32).toNatClampNeg (0 : Int32).toNatClampNeg (zI M 7 3).toNatClampNeg) := ⟨_, rfl⟩
  have w19s : zSk zMc w19M := by rw [w19e]; exact w16s
  have w19I : zIv cLo cHi w19M := by rw [w19e]; exact zIv.row w16I (fun _ => zrg _)
  have w19F : zFr [(100, 100, none)] w16M w19M := by rw [w19e]; exact zFr.row zFr.refl (fun _ => rfl)
  have w19C : ∀ j : Nat, (j : Int) < (zI M 7 3).toInt → zI w19M 100 j = zI w16M 12 j := fun j hj => by rw [w19e]; exact (congrFun zRs j).trans (zcpy0 (by omega) (by omega) hj)
  rw [← w19e]
  refine zs_aload_n (pc := 101) t23_101 rfl ?_
  refine zs_get (pc := 102) t23_102 (by decide) (zk1 (w19s.k fk_zMc_7)) (w19s.p rfl fv_zMc_7_7) ?_
  refine zs_iconst (pc := 105) t23_105 (v := 0) (by decide) ?_
  refine zs_aload_n (pc := 106) t23_106 rfl ?_
  refine zs_get (pc := 107) t23_107 (by decide) (zk1 (w19s.k fk_zMc_95)) (w19s.p rfl fv_zMc_95_7) ?_
  refine zs_iconst (pc := 110) t23_110 (v := 0) (by decide) ?_
  refine zs_aload_n (pc := 111) t23_111 rfl ?_
  refine zs_get (pc := 112) t23_112 (by decide) (zk1 (w19s.k fk_zMc_95)) (zfvi rfl ((w19F 95 3 rfl).trans ((w16F 95 3 rfl).trans ((w13F 95 3 rfl).trans zIs)))) ?_
  have w20 : (0 : Int32).toInt = 0 := li0
  have w21 : (0 : Int32).toInt = 0 := li0
  refine zs_copy (pc := 115) t23_115 (w19s.k fk_zMc_13) (w19s.k fk_zMc_101) (by decide) (by decide) (by decide) ⟨by omega, by omega, by omega⟩ (by omega) (by omega) ⟨Nat.le_of_ble_eq_true rfl, by decide⟩ ?_
  obtain ⟨w22M, w22e⟩ : ∃ N, N = zsR w19M 101 (va_cpy (zI w19M 13) (zI w19M 101) (0 : Int32).toNatClampNeg (0 : Int32).toNatClampNeg (zI M 7 3).toNatClampNeg) := ⟨_, rfl⟩
  have w22s : zSk zMc w22M := by rw [w22e]; exact w19s
  have w22I : zIv cLo cHi w22M := by rw [w22e]; exact zIv.row w19I (fun _ => zrg _)
  have w22F : zFr [(101, 101, none)] w19M w22M := by rw [w22e]; exact zFr.row zFr.refl (fun _ => rfl)
  have w22C : ∀ j : Nat, (j : Int) < (zI M 7 3).toInt → zI w22M 101 j = zI w19M 13 j := fun j hj => by rw [w22e]; exact (congrFun zRs j).trans (zcpy0 (by omega) (by omega) hj)
  rw [← w22e]
  refine zs_aload_n (pc := 118) t23_118 rfl ?_
  refine zs_aload_n (pc := 119) t23_119 rfl ?_
  have w23 := ib7_8 hI
  refine zs_get (pc := 120) t23_120 (by decide) (zk1 (w22s.k fk_zMc_7)) (zfvi rfl ((w22F 7 8 rfl).trans ((w19F 7 8 rfl).trans ((w16F 7 8 rfl).trans ((w13F 7 8 rfl).trans ((zIo (by decide)).trans ((w8F 7 8 rfl).trans ((w5F 7 8 rfl).trans ((zIo (by decide)).trans rfl))))))))) ?_
  have w24 : zIv cLo cHi (zsI w22M 95 8 (zI M 7 8)) := zIv.put w22I (show 0 ≤ (zI M 7 8).toInt ∧ (zI M 7 8).toInt ≤ 12 from ⟨by omega, by omega⟩)
  refine zs_putI (pc := 123) t23_123 (zk1 (w22s.k fk_zMc_95)) rfl ?_
  refine zs_aload_n (pc := 126) t23_126 rfl ?_
  refine zs_get (pc := 127) t23_127 (by decide) (zk1 (w22s.k fk_zMc_7)) (w22s.p rfl fv_zMc_7_9) ?_
  refine zs_iconst (pc := 130) t23_130 (v := 0) (by decide) ?_
  refine zs_aload_n (pc := 131) t23_131 rfl ?_
  refine zs_get (pc := 132) t23_132 (by decide) (zk1 (w22s.k fk_zMc_95)) (w22s.p rfl fv_zMc_95_9) ?_
  refine zs_iconst (pc := 135) t23_135 (v := 0) (by decide) ?_
  refine zs_aload_n (pc := 136) t23_136 rfl ?_
  refine zs_get (pc := 137) t23_137 (by decide) (zk1 (w22s.k fk_zMc_95)) (zfvi rfl zIs) ?_
  have w25 : (0 : Int32).toInt = 0 := li0
  have w26 : (0 : Int32).toInt = 0 := li0
  refine zs_copy (pc := 140) t23_140 (w22s.k fk_zMc_14) (w22s.k fk_zMc_102) (by decide) (by decide) (by decide) ⟨by omega, by omega, by omega⟩ (by omega) (by omega) ⟨Nat.le_of_ble_eq_true rfl, by decide⟩ ?_
  obtain ⟨w27M, w27e⟩ : ∃ N, N = zsR (zsI w22M 95 8 (zI M 7 8)) 102 (va_cpy (zI (zsI w22M 95 8 (zI M 7 8)) 14) (zI (zsI w22M 95 8 (zI M 7 8)) 102) (0 : Int32).toNatClampNeg (0 : Int32).toNatClampNeg (zI M 7 8).toNatClampNeg) := ⟨_, rfl⟩
  have w27s : zSk zMc w27M := by rw [w27e]; exact w22s
  have w27I : zIv cLo cHi w27M := by rw [w27e]; exact zIv.row w24 (fun _ => zrg _)
  have w27F : zFr [(102, 102, none)] (zsI w22M 95 8 (zI M 7 8)) w27M := by rw [w27e]; exact zFr.row zFr.refl (fun _ => rfl)
  have w27C : ∀ j : Nat, (j : Int) < (zI M 7 8).toInt → zI w27M 102 j = zI (zsI w22M 95 8 (zI M 7 8)) 14 j := fun j hj => by rw [w27e]; exact (congrFun zRs j).trans (zcpy0 (by omega) (by omega) hj)
  rw [← w27e]
  refine zs_aload_n (pc := 143) t23_143 rfl ?_
  refine zs_get (pc := 144) t23_144 (by decide) (zk1 (w27s.k fk_zMc_7)) (w27s.p rfl fv_zMc_7_10) ?_
  refine zs_iconst (pc := 147) t23_147 (v := 0) (by decide) ?_
  refine zs_aload_n (pc := 148) t23_148 rfl ?_
  refine zs_get (pc := 149) t23_149 (by decide) (zk1 (w27s.k fk_zMc_95)) (w27s.p rfl fv_zMc_95_10) ?_
  refine zs_iconst (pc := 152) t23_152 (v := 0) (by decide) ?_
  refine zs_aload_n (pc := 153) t23_153 rfl ?_
  refine zs_get (pc := 154) t23_154 (by decide) (zk1 (w27s.k fk_zMc_95)) (zfvi rfl ((w27F 95 8 rfl).trans zIs)) ?_
  have w28 : (0 : Int32).toInt = 0 := li0
  have w29 : (0 : Int32).toInt = 0 := li0
  refine zs_copy (pc := 157) t23_157 (w27s.k fk_zMc_15) (w27s.k fk_zMc_103) (by decide) (by decide) (by decide) ⟨by omega, by omega, by omega⟩ (by omega) (by omega) ⟨Nat.le_of_ble_eq_true rfl, by decide⟩ ?_
  obtain ⟨w30M, w30e⟩ : ∃ N, N = zsR w27M 103 (va_cpy (zI w27M 15) (zI w27M 103) (0 : Int32).toNatClampNeg (0 : Int32).toNatClampNeg (zI M 7 8).toNatClampNeg) := ⟨_, rfl⟩
  have w30s : zSk zMc w30M := by rw [w30e]; exact w27s
  have w30I : zIv cLo cHi w30M := by rw [w30e]; exact zIv.row w27I (fun _ => zrg _)
  have w30F : zFr [(103, 103, none)] w27M w30M := by rw [w30e]; exact zFr.row zFr.refl (fun _ => rfl)
  have w30C : ∀ j : Nat, (j : Int) < (zI M 7 8).toInt → zI w30M 103 j = zI w27M 15 j := fun j hj => by rw [w30e]; exact (congrFun zRs j).trans (zcpy0 (by omega) (by omega) hj)
  rw [← w30e]
  refine zs_aload_n (pc := 160) t23_160 rfl ?_
  refine zs_get (pc := 161) t23_161 (by decide) (zk1 (w30s.k fk_zMc_7)) (w30s.p rfl fv_zMc_7_11) ?_
  refine zs_iconst (pc := 164) t23_164 (v := 0) (by decide) ?_
  refine zs_aload_n (pc := 165) t23_165 rfl ?_
  refine zs_get (pc := 166) t23_166 (by decide) (zk1 (w30s.k fk_zMc_95)) (w30s.p rfl fv_zMc_95_11) ?_
  refine zs_iconst (pc := 169) t23_169 (v := 0) (by decide) ?_
  refine zs_aload_n (pc := 170) t23_170 rfl ?_
  refine zs_get (pc := 171) t23_171 (by decide) (zk1 (w30s.k fk_zMc_95)) (zfvi rfl ((w30F 95 8 rfl).trans ((w27F 95 8 rfl).trans zIs))) ?_
  have w31 : (0 : Int32).toInt = 0 := li0
  have w32 : (0 : Int32).toInt = 0 := li0
  refine zs_copy (pc := 174) t23_174 (w30s.k fk_zMc_16) (w30s.k fk_zMc_104) (by decide) (by decide) (by decide) ⟨by omega, by omega, by omega⟩ (by omega) (by omega) ⟨Nat.le_of_ble_eq_true rfl, by decide⟩ ?_
  obtain ⟨w33M, w33e⟩ : ∃ N, N = zsR w30M 104 (va_cpy (zI w30M 16) (zI w30M 104) (0 : Int32).toNatClampNeg (0 : Int32).toNatClampNeg (zI M 7 8).toNatClampNeg) := ⟨_, rfl⟩
  have w33s : zSk zMc w33M := by rw [w33e]; exact w30s
  have w33I : zIv cLo cHi w33M := by rw [w33e]; exact zIv.row w30I (fun _ => zrg _)
  have w33F : zFr [(104, 104, none)] w30M w33M := by rw [w33e]; exact zFr.row zFr.refl (fun _ => rfl)
  have w33C : ∀ j : Nat, (j : Int) < (zI M 7 8).toInt → zI w33M 104 j = zI w30M 16 j := fun j hj => by rw [w33e]; exact (congrFun zRs j).trans (zcpy0 (by omega) (by omega) hj)
  rw [← w33e]
  refine zs_aload_n (pc := 177) t23_177 rfl ?_
  refine zs_get (pc := 178) t23_178 (by decide) (zk1 (w33s.k fk_zMc_7)) (w33s.p rfl fv_zMc_7_12) ?_
  refine zs_iconst (pc := 181) t23_181 (v := 0) (by decide) ?_
  refine zs_aload_n (pc := 182) t23_182 rfl ?_
  refine zs_get (pc := 183) t23_183 (by decide) (zk1 (w33s.k fk_zMc_95)) (w33s.p rfl fv_zMc_95_12) ?_
  refine zs_iconst (pc := 186) t23_186 (v := 0) (by decide) ?_
  refine zs_bipush (pc := 187) t23_187 (v := 9) (by decide) ?_
  have w34 : (9 : Int32).toInt = 9 := li9
  have w35 : (0 : Int32).toInt = 0 := li0
  have w36 : (0 : Int32).toInt = 0 := li0
  refine zs_copy (pc := 189) t23_189 (w33s.k fk_zMc_17) (w33s.k fk_zMc_105) (by decide) (by decide) (by decide) ⟨by omega, by omega, by omega⟩ (by omega) (by omega) ⟨Nat.le_of_ble_eq_true rfl, by decide⟩ ?_
  obtain ⟨w37M, w37e⟩ : ∃ N, N = zsR w33M 105 (va_cpy (zI w33M 17) (zI w33M 105) (0 : Int32).toNatClampNeg (0 : Int32).toNatClampNeg (9 : Int32).toNatClampNeg) := ⟨_, rfl⟩
  have w37s : zSk zMc w37M := by rw [w37e]; exact w33s
  have w37I : zIv cLo cHi w37M := by rw [w37e]; exact zIv.row w33I (fun _ => zcpyB (fun j => ib17 w33I j) (fun j => ib105 w33I j))
  have w37F : zFr [(105, 105, none)] w33M w37M := by rw [w37e]; exact zFr.row zFr.refl (fun _ => rfl)
  have w37C : ∀ j : Nat, (j : Int) < (9 : Int32).toInt → zI w37M 105 j = zI w33M 17 j := fun j hj => by rw [w37e]; exact (congrFun zRs j).trans (zcpy0 (by omega) (by omega) hj)
  rw [← w37e]
  refine zs_aload_n (pc := 192) t23_192 rfl ?_
  refine zs_aload_n (pc := 193) t23_193 rfl ?_
  refine zs_get (pc := 194) t23_194 (by decide) (zk1 (w37s.k fk_zMc_7)) (w37s.p rfl fv_zMc_7_14) ?_
  refine zs_aload_n (pc := 197) t23_197 rfl ?_
  have w38 := ib7_13 hI
  refine zs_get (pc := 198) t23_198 (by decide) (zk1 (w37s.k fk_zMc_7)) (zfvi rfl ((w37F 7 13 rfl).trans ((w33F 7 13 rfl).trans ((w30F 7 13 rfl).trans ((w27F 7 13 rfl).trans ((zIo (by decide)).trans ((w22F 7 13 rfl).trans ((w19F 7 13 rfl).trans ((w16F 7 13 rfl).trans ((w13F 7 13 rfl).trans ((zIo (by decide)).trans ((w8F 7 13 rfl).trans ((w5F 7 13 rfl).trans ((zIo (by decide)).trans rfl)))))))))))))) ?_
  refine zs_invV (pc := 201) (k := 95) (as' := [.ref 18, .int (zI M 7 13)]) (st := []) t23_201 mf24 rfl rfl (Or.inl ⟨by decide, (zk1 (w37s.k fk_zMc_95))⟩) ⟨by decide, by decide, Nat.le_of_ble_eq_true rfl, Nat.le_of_ble_eq_true rfl⟩ (zs_in (by decide) mf24 (Nat.le_of_ble_eq_true rfl) ?_) (fun _ _ q => q)
  show zGo X l 1 0 0 24 0 [(0, .ref 95), (1, .ref 18), (2, .int (zI M 7 13))] [] w37M _
  refine zs_aload_n (pc := 0) t24_0 rfl ?_
  refine zs_iconst (pc := 1) t24_1 (v := 0) (by decide) ?_
  refine zs_iload_n (pc := 2) t24_2 rfl ?_
  refine zs_sipush (pc := 3) t24_3 (v := 500) (by decide) ?_
  refine zs_invS (pc := 6) (as := [.int (zI M 7 13), .int (500 : Int32)]) (st := [.int (0 : Int32), .ref 95]) t24_6 (by decide) mf20 rfl rfl ⟨by decide, by decide, Nat.le_of_ble_eq_true rfl, Nat.le_of_ble_eq_true rfl⟩ (zs_in (by decide) mf20 (Nat.le_of_ble_eq_true rfl) ?_) (fun _ _ q => q)
  show zGo X l 0 0 0 20 0 [(0, .int (zI M 7 13)), (1, .int (500 : Int32))] [] w37M _
  refine zs_iload_n (pc := 0) t20_0 rfl ?_
  refine zs_iload_n (pc := 1) t20_1 rfl ?_
  refine zs_icmp_gtF (pc := 2) t20_2 rfl li500 (by omega) ?_
  refine zs_iload_n (pc := 5) t20_5 rfl ?_
  refine zs_goto (pc := 6) t20_6 ?_
  refine zs_iret (pc := 10) t20_10 mr20 rfl ?_
  show zGo X l 1 0 0 24 9 [(0, .ref 95), (1, .ref 18), (2, .int (zI M 7 13))] [.int (zI M 7 13), .int (0 : Int32), .ref 95] w37M _
  refine zs_invS (pc := 9) (as := [.int (0 : Int32), .int (zI M 7 13)]) (st := [.ref 95]) t24_9 (by decide) mf21 rfl rfl ⟨by decide, by decide, Nat.le_of_ble_eq_true rfl, Nat.le_of_ble_eq_true rfl⟩ (zs_in (by decide) mf21 (Nat.le_of_ble_eq_true rfl) ?_) (fun _ _ q => q)
  show zGo X l 0 0 0 21 0 [(0, .int (0 : Int32)), (1, .int (zI M 7 13))] [] w37M _
  refine zs_iload_n (pc := 0) t21_0 rfl ?_
  refine zs_iload_n (pc := 1) t21_1 rfl ?_
  by_cases w39 : 0 < (zI M 7 13).toInt
  · refine zs_icmp_ltT (pc := 2) t21_2 li0 rfl (by omega) ?_
    refine zs_iload_n (pc := 9) t21_9 rfl ?_
    refine zs_iret (pc := 10) t21_10 mr21 rfl ?_
    show zGo X l 1 0 0 24 12 [(0, .ref 95), (1, .ref 18), (2, .int (zI M 7 13))] [.int (zI M 7 13), .ref 95] w37M _
    have w40 : zIv cLo cHi (zsI w37M 95 13 (zI M 7 13)) := zIv.put w37I (show 0 ≤ (zI M 7 13).toInt ∧ (zI M 7 13).toInt ≤ 500 from ⟨by omega, by omega⟩)
    refine zs_putI (pc := 12) t24_12 (zk1 (w37s.k fk_zMc_95)) rfl ?_
    refine zs_aload_n (pc := 15) t24_15 rfl ?_
    refine zs_iconst (pc := 16) t24_16 (v := 0) (by decide) ?_
    refine zs_aload_n (pc := 17) t24_17 rfl ?_
    refine zs_get (pc := 18) t24_18 (by decide) (zk1 (w37s.k fk_zMc_95)) (w37s.p rfl fv_zMc_95_14) ?_
    refine zs_iconst (pc := 21) t24_21 (v := 0) (by decide) ?_
    refine zs_aload_n (pc := 22) t24_22 rfl ?_
    refine zs_get (pc := 23) t24_23 (by decide) (zk1 (w37s.k fk_zMc_95)) (zfvi rfl zIs) ?_
    have w41 : (0 : Int32).toInt = 0 := li0
    have w42 : (0 : Int32).toInt = 0 := li0
    refine zs_copy (pc := 26) t24_26 (w37s.k fk_zMc_18) (w37s.k fk_zMc_106) (by decide) (by decide) (by decide) ⟨by omega, by omega, by omega⟩ (by omega) (by omega) ⟨Nat.le_of_ble_eq_true rfl, by decide⟩ ?_
    obtain ⟨w43M, w43e⟩ : ∃ N, N = zsR (zsI w37M 95 13 (zI M 7 13)) 106 (va_cpy (zI (zsI w37M 95 13 (zI M 7 13)) 18) (zI (zsI w37M 95 13 (zI M 7 13)) 106) (0 : Int32).toNatClampNeg (0 : Int32).toNatClampNeg (zI M 7 13).toNatClampNeg) := ⟨_, rfl⟩
    have w43s : zSk zMc w43M := by rw [w43e]; exact w37s
    have w43I : zIv cLo cHi w43M := by rw [w43e]; exact zIv.row w40 (fun _ => zcpyB (fun j => ib18 w40 j) (fun j => ib106 w40 j))
    have w43F : zFr [(106, 106, none)] (zsI w37M 95 13 (zI M 7 13)) w43M := by rw [w43e]; exact zFr.row zFr.refl (fun _ => rfl)
    have w43C : ∀ j : Nat, (j : Int) < (zI M 7 13).toInt → zI w43M 106 j = zI (zsI w37M 95 13 (zI M 7 13)) 18 j := fun j hj => by rw [w43e]; exact (congrFun zRs j).trans (zcpy0 (by omega) (by omega) hj)
    rw [← w43e]
    refine zs_vret (pc := 29) t24_29 mr24 ?_
    show zGo X l 2 0 0 23 204 [(0, .ref 95), (1, .ref 7)] [] w43M _
    have w44 : (zI w43M 95 0).toInt = (zI M 7 0).toInt := (congrArg Int32.toInt ((w43F 95 0 rfl).trans ((zIoj (by decide)).trans ((w37F 95 0 rfl).trans ((w33F 95 0 rfl).trans ((w30F 95 0 rfl).trans ((w27F 95 0 rfl).trans ((zIoj (by decide)).trans ((w22F 95 0 rfl).trans ((w19F 95 0 rfl).trans ((w16F 95 0 rfl).trans ((w13F 95 0 rfl).trans ((zIoj (by decide)).trans ((w8F 95 0 rfl).trans ((w5F 95 0 rfl).trans zIs))))))))))))))).trans rfl
    have w45 : (zI w43M 95 3).toInt = (zI M 7 3).toInt := (congrArg Int32.toInt ((w43F 95 3 rfl).trans ((zIoj (by decide)).trans ((w37F 95 3 rfl).trans ((w33F 95 3 rfl).trans ((w30F 95 3 rfl).trans ((w27F 95 3 rfl).trans ((zIoj (by decide)).trans ((w22F 95 3 rfl).trans ((w19F 95 3 rfl).trans ((w16F 95 3 rfl).trans ((w13F 95 3 rfl).trans zIs)))))))))))).trans rfl
    have w46 : (zI w43M 95 8).toInt = (zI M 7 8).toInt := (congrArg Int32.toInt ((w43F 95 8 rfl).trans ((zIoj (by decide)).trans ((w37F 95 8 rfl).trans ((w33F 95 8 rfl).trans ((w30F 95 8 rfl).trans ((w27F 95 8 rfl).trans zIs))))))).trans rfl
    have w47 : (zI w43M 95 13).toInt = (zI M 7 13).toInt := (congrArg Int32.toInt ((w43F 95 13 rfl).trans zIs)).trans rfl
    have w48 : (zI (zsI M 95 0 (zI M 7 0)) 7 0).toInt = (zI M 7 0).toInt := (congrArg Int32.toInt ((zIo (by decide)).trans rfl)).trans rfl
    have w49 : (zI (zsI M 95 0 (zI M 7 0)) 7 3).toInt = (zI M 7 3).toInt := (congrArg Int32.toInt ((zIo (by decide)).trans rfl)).trans rfl
    have w50 : (zI (zsI M 95 0 (zI M 7 0)) 7 8).toInt = (zI M 7 8).toInt := (congrArg Int32.toInt ((zIo (by decide)).trans rfl)).trans rfl
    have w51 : (zI (zsI M 95 0 (zI M 7 0)) 7 13).toInt = (zI M 7 13).toInt := (congrArg Int32.toInt ((zIo (by decide)).trans rfl)).trans rfl
    exact zs_vret (pc := 204) t23_204 mr23 (hQ _ w43s w43I ((((((((((((((((zFr.refl).put rfl).trans (w5F.mono rfl)).trans (w8F.mono rfl)).put rfl).trans (w13F.mono rfl)).trans (w16F.mono rfl)).trans (w19F.mono rfl)).trans (w22F.mono rfl)).put rfl).trans (w27F.mono rfl)).trans (w30F.mono rfl)).trans (w33F.mono rfl)).trans (w37F.mono rfl)).put rfl).trans (w43F.mono rfl)) (zSo.cp x0 (by omega) (by omega) (by omega) (by omega) (fun j hj => ((((w43F 96 j rfl).trans ((zIo (by decide)).trans ((w37F 96 j rfl).trans ((w33F 96 j rfl).trans ((w30F 96 j rfl).trans ((w27F 96 j rfl).trans ((zIo (by decide)).trans ((w22F 96 j rfl).trans ((w19F 96 j rfl).trans ((w16F 96 j rfl).trans ((w13F 96 j rfl).trans ((zIo (by decide)).trans (w8F 96 j rfl))))))))))))).trans (w5C j (by omega))).trans (zIo (by decide)))) (fun j hj => ((((w43F 97 j rfl).trans ((zIo (by decide)).trans ((w37F 97 j rfl).trans ((w33F 97 j rfl).trans ((w30F 97 j rfl).trans ((w27F 97 j rfl).trans ((zIo (by decide)).trans ((w22F 97 j rfl).trans ((w19F 97 j rfl).trans ((w16F 97 j rfl).trans ((w13F 97 j rfl).trans (zIo (by decide))))))))))))).trans (w8C j (by omega))).trans ((w5F 9 j rfl).trans (zIo (by decide))))) (fun j hj => ((((w43F 98 j rfl).trans ((zIo (by decide)).trans ((w37F 98 j rfl).trans ((w33F 98 j rfl).trans ((w30F 98 j rfl).trans ((w27F 98 j rfl).trans ((zIo (by decide)).trans ((w22F 98 j rfl).trans ((w19F 98 j rfl).trans (w16F 98 j rfl)))))))))).trans (w13C j (by omega))).trans ((zIo (by decide)).trans ((w8F 10 j rfl).trans ((w5F 10 j rfl).trans (zIo (by decide))))))) (fun j hj => ((((w43F 99 j rfl).trans ((zIo (by decide)).trans ((w37F 99 j rfl).trans ((w33F 99 j rfl).trans ((w30F 99 j rfl).trans ((w27F 99 j rfl).trans ((zIo (by decide)).trans ((w22F 99 j rfl).trans (w19F 99 j rfl))))))))).trans (w16C j (by omega))).trans ((w13F 11 j rfl).trans ((zIo (by decide)).trans ((w8F 11 j rfl).trans ((w5F 11 j rfl).trans (zIo (by decide)))))))) (fun j hj => ((((w43F 100 j rfl).trans ((zIo (by decide)).trans ((w37F 100 j rfl).trans ((w33F 100 j rfl).trans ((w30F 100 j rfl).trans ((w27F 100 j rfl).trans ((zIo (by decide)).trans (w22F 100 j rfl)))))))).trans (w19C j (by omega))).trans ((w16F 12 j rfl).trans ((w13F 12 j rfl).trans ((zIo (by decide)).trans ((w8F 12 j rfl).trans ((w5F 12 j rfl).trans (zIo (by decide))))))))) (fun j hj => ((((w43F 101 j rfl).trans ((zIo (by decide)).trans ((w37F 101 j rfl).trans ((w33F 101 j rfl).trans ((w30F 101 j rfl).trans ((w27F 101 j rfl).trans (zIo (by decide)))))))).trans (w22C j (by omega))).trans ((w19F 13 j rfl).trans ((w16F 13 j rfl).trans ((w13F 13 j rfl).trans ((zIo (by decide)).trans ((w8F 13 j rfl).trans ((w5F 13 j rfl).trans (zIo (by decide)))))))))) (fun j hj => ((((w43F 102 j rfl).trans ((zIo (by decide)).trans ((w37F 102 j rfl).trans ((w33F 102 j rfl).trans (w30F 102 j rfl))))).trans (w27C j (by omega))).trans ((zIo (by decide)).trans ((w22F 14 j rfl).trans ((w19F 14 j rfl).trans ((w16F 14 j rfl).trans ((w13F 14 j rfl).trans ((zIo (by decide)).trans ((w8F 14 j rfl).trans ((w5F 14 j rfl).trans (zIo (by decide)))))))))))) (fun j hj => ((((w43F 103 j rfl).trans ((zIo (by decide)).trans ((w37F 103 j rfl).trans (w33F 103 j rfl)))).trans (w30C j (by omega))).trans ((w27F 15 j rfl).trans ((zIo (by decide)).trans ((w22F 15 j rfl).trans ((w19F 15 j rfl).trans ((w16F 15 j rfl).trans ((w13F 15 j rfl).trans ((zIo (by decide)).trans ((w8F 15 j rfl).trans ((w5F 15 j rfl).trans (zIo (by decide))))))))))))) (fun j hj => ((((w43F 104 j rfl).trans ((zIo (by decide)).trans (w37F 104 j rfl))).trans (w33C j (by omega))).trans ((w30F 16 j rfl).trans ((w27F 16 j rfl).trans ((zIo (by decide)).trans ((w22F 16 j rfl).trans ((w19F 16 j rfl).trans ((w16F 16 j rfl).trans ((w13F 16 j rfl).trans ((zIo (by decide)).trans ((w8F 16 j rfl).trans ((w5F 16 j rfl).trans (zIo (by decide)))))))))))))) (fun j hj => ((((w43F 105 j rfl).trans (zIo (by decide))).trans (w37C j (by omega))).trans ((w33F 17 j rfl).trans ((w30F 17 j rfl).trans ((w27F 17 j rfl).trans ((zIo (by decide)).trans ((w22F 17 j rfl).trans ((w19F 17 j rfl).trans ((w16F 17 j rfl).trans ((w13F 17 j rfl).trans ((zIo (by decide)).trans ((w8F 17 j rfl).trans ((w5F 17 j rfl).trans (zIo (by decide))))))))))))))) (fun j hj => ((w43C j (by omega)).trans ((zIo (by decide)).trans ((w37F 18 j rfl).trans ((w33F 18 j rfl).trans ((w30F 18 j rfl).trans ((w27F 18 j rfl).trans ((zIo (by decide)).trans ((w22F 18 j rfl).trans ((w19F 18 j rfl).trans ((w16F 18 j rfl).trans ((w13F 18 j rfl).trans ((zIo (by decide)).trans ((w8F 18 j rfl).trans ((w5F 18 j rfl).trans (zIo (by decide)))))))))))))))))))
  · refine zs_icmp_ltF (pc := 2) t21_2 li0 rfl (by omega) ?_
    refine zs_iload_n (pc := 5) t21_5 rfl ?_
    refine zs_goto (pc := 6) t21_6 ?_
    refine zs_iret (pc := 10) t21_10 mr21 (by decide) ?_
    show zGo X l 1 0 0 24 12 [(0, .ref 95), (1, .ref 18), (2, .int (zI M 7 13))] [.int (0 : Int32), .ref 95] w37M _
    have w52 : zIv cLo cHi (zsI w37M 95 13 (0 : Int32)) := zIv.put w37I (show 0 ≤ (0 : Int32).toInt ∧ (0 : Int32).toInt ≤ 500 from ⟨by decide, by decide⟩)
    refine zs_putI (pc := 12) t24_12 (zk1 (w37s.k fk_zMc_95)) rfl ?_
    refine zs_aload_n (pc := 15) t24_15 rfl ?_
    refine zs_iconst (pc := 16) t24_16 (v := 0) (by decide) ?_
    refine zs_aload_n (pc := 17) t24_17 rfl ?_
    refine zs_get (pc := 18) t24_18 (by decide) (zk1 (w37s.k fk_zMc_95)) (w37s.p rfl fv_zMc_95_14) ?_
    refine zs_iconst (pc := 21) t24_21 (v := 0) (by decide) ?_
    refine zs_aload_n (pc := 22) t24_22 rfl ?_
    refine zs_get (pc := 23) t24_23 (by decide) (zk1 (w37s.k fk_zMc_95)) (zfvi rfl zIs) ?_
    have w53 : (0 : Int32).toInt = 0 := li0
    have w54 : (0 : Int32).toInt = 0 := li0
    have w55 : (0 : Int32).toInt = 0 := li0
    refine zs_copy (pc := 26) t24_26 (w37s.k fk_zMc_18) (w37s.k fk_zMc_106) (by decide) (by decide) (by decide) ⟨by omega, by omega, by omega⟩ (by omega) (by omega) ⟨Nat.le_of_ble_eq_true rfl, by decide⟩ ?_
    obtain ⟨w56M, w56e⟩ : ∃ N, N = zsR (zsI w37M 95 13 (0 : Int32)) 106 (va_cpy (zI (zsI w37M 95 13 (0 : Int32)) 18) (zI (zsI w37M 95 13 (0 : Int32)) 106) (0 : Int32).toNatClampNeg (0 : Int32).toNatClampNeg (0 : Int32).toNatClampNeg) := ⟨_, rfl⟩
    have w56s : zSk zMc w56M := by rw [w56e]; exact w37s
    have w56I : zIv cLo cHi w56M := by rw [w56e]; exact zIv.row w52 (fun _ => zcpyB (fun j => ib18 w52 j) (fun j => ib106 w52 j))
    have w56F : zFr [(106, 106, none)] (zsI w37M 95 13 (0 : Int32)) w56M := by rw [w56e]; exact zFr.row zFr.refl (fun _ => rfl)
    have w56C : ∀ j : Nat, (j : Int) < (0 : Int32).toInt → zI w56M 106 j = zI (zsI w37M 95 13 (0 : Int32)) 18 j := fun j hj => by rw [w56e]; exact (congrFun zRs j).trans (zcpy0 (by omega) (by omega) hj)
    rw [← w56e]
    refine zs_vret (pc := 29) t24_29 mr24 ?_
    show zGo X l 2 0 0 23 204 [(0, .ref 95), (1, .ref 7)] [] w56M _
    have w57 : (zI w56M 95 0).toInt = (zI M 7 0).toInt := (congrArg Int32.toInt ((w56F 95 0 rfl).trans ((zIoj (by decide)).trans ((w37F 95 0 rfl).trans ((w33F 95 0 rfl).trans ((w30F 95 0 rfl).trans ((w27F 95 0 rfl).trans ((zIoj (by decide)).trans ((w22F 95 0 rfl).trans ((w19F 95 0 rfl).trans ((w16F 95 0 rfl).trans ((w13F 95 0 rfl).trans ((zIoj (by decide)).trans ((w8F 95 0 rfl).trans ((w5F 95 0 rfl).trans zIs))))))))))))))).trans rfl
    have w58 : (zI w56M 95 3).toInt = (zI M 7 3).toInt := (congrArg Int32.toInt ((w56F 95 3 rfl).trans ((zIoj (by decide)).trans ((w37F 95 3 rfl).trans ((w33F 95 3 rfl).trans ((w30F 95 3 rfl).trans ((w27F 95 3 rfl).trans ((zIoj (by decide)).trans ((w22F 95 3 rfl).trans ((w19F 95 3 rfl).trans ((w16F 95 3 rfl).trans ((w13F 95 3 rfl).trans zIs)))))))))))).trans rfl
    have w59 : (zI w56M 95 8).toInt = (zI M 7 8).toInt := (congrArg Int32.toInt ((w56F 95 8 rfl).trans ((zIoj (by decide)).trans ((w37F 95 8 rfl).trans ((w33F 95 8 rfl).trans ((w30F 95 8 rfl).trans ((w27F 95 8 rfl).trans zIs))))))).trans rfl
    have w60 : (zI w56M 95 13).toInt = 0 := (congrArg Int32.toInt ((w56F 95 13 rfl).trans zIs)).trans li0
    have w61 : (zI (zsI M 95 0 (zI M 7 0)) 7 0).toInt = (zI M 7 0).toInt := (congrArg Int32.toInt ((zIo (by decide)).trans rfl)).trans rfl
    have w62 : (zI (zsI M 95 0 (zI M 7 0)) 7 3).toInt = (zI M 7 3).toInt := (congrArg Int32.toInt ((zIo (by decide)).trans rfl)).trans rfl
    have w63 : (zI (zsI M 95 0 (zI M 7 0)) 7 8).toInt = (zI M 7 8).toInt := (congrArg Int32.toInt ((zIo (by decide)).trans rfl)).trans rfl
    have w64 : (zI (zsI M 95 0 (zI M 7 0)) 7 13).toInt = (zI M 7 13).toInt := (congrArg Int32.toInt ((zIo (by decide)).trans rfl)).trans rfl
    exact zs_vret (pc := 204) t23_204 mr23 (hQ _ w56s w56I ((((((((((((((((zFr.refl).put rfl).trans (w5F.mono rfl)).trans (w8F.mono rfl)).put rfl).trans (w13F.mono rfl)).trans (w16F.mono rfl)).trans (w19F.mono rfl)).trans (w22F.mono rfl)).put rfl).trans (w27F.mono rfl)).trans (w30F.mono rfl)).trans (w33F.mono rfl)).trans (w37F.mono rfl)).put rfl).trans (w56F.mono rfl)) (zSo.cp x0 (by omega) (by omega) (by omega) (by omega) (fun j hj => ((((w56F 96 j rfl).trans ((zIo (by decide)).trans ((w37F 96 j rfl).trans ((w33F 96 j rfl).trans ((w30F 96 j rfl).trans ((w27F 96 j rfl).trans ((zIo (by decide)).trans ((w22F 96 j rfl).trans ((w19F 96 j rfl).trans ((w16F 96 j rfl).trans ((w13F 96 j rfl).trans ((zIo (by decide)).trans (w8F 96 j rfl))))))))))))).trans (w5C j (by omega))).trans (zIo (by decide)))) (fun j hj => ((((w56F 97 j rfl).trans ((zIo (by decide)).trans ((w37F 97 j rfl).trans ((w33F 97 j rfl).trans ((w30F 97 j rfl).trans ((w27F 97 j rfl).trans ((zIo (by decide)).trans ((w22F 97 j rfl).trans ((w19F 97 j rfl).trans ((w16F 97 j rfl).trans ((w13F 97 j rfl).trans (zIo (by decide))))))))))))).trans (w8C j (by omega))).trans ((w5F 9 j rfl).trans (zIo (by decide))))) (fun j hj => ((((w56F 98 j rfl).trans ((zIo (by decide)).trans ((w37F 98 j rfl).trans ((w33F 98 j rfl).trans ((w30F 98 j rfl).trans ((w27F 98 j rfl).trans ((zIo (by decide)).trans ((w22F 98 j rfl).trans ((w19F 98 j rfl).trans (w16F 98 j rfl)))))))))).trans (w13C j (by omega))).trans ((zIo (by decide)).trans ((w8F 10 j rfl).trans ((w5F 10 j rfl).trans (zIo (by decide))))))) (fun j hj => ((((w56F 99 j rfl).trans ((zIo (by decide)).trans ((w37F 99 j rfl).trans ((w33F 99 j rfl).trans ((w30F 99 j rfl).trans ((w27F 99 j rfl).trans ((zIo (by decide)).trans ((w22F 99 j rfl).trans (w19F 99 j rfl))))))))).trans (w16C j (by omega))).trans ((w13F 11 j rfl).trans ((zIo (by decide)).trans ((w8F 11 j rfl).trans ((w5F 11 j rfl).trans (zIo (by decide)))))))) (fun j hj => ((((w56F 100 j rfl).trans ((zIo (by decide)).trans ((w37F 100 j rfl).trans ((w33F 100 j rfl).trans ((w30F 100 j rfl).trans ((w27F 100 j rfl).trans ((zIo (by decide)).trans (w22F 100 j rfl)))))))).trans (w19C j (by omega))).trans ((w16F 12 j rfl).trans ((w13F 12 j rfl).trans ((zIo (by decide)).trans ((w8F 12 j rfl).trans ((w5F 12 j rfl).trans (zIo (by decide))))))))) (fun j hj => ((((w56F 101 j rfl).trans ((zIo (by decide)).trans ((w37F 101 j rfl).trans ((w33F 101 j rfl).trans ((w30F 101 j rfl).trans ((w27F 101 j rfl).trans (zIo (by decide)))))))).trans (w22C j (by omega))).trans ((w19F 13 j rfl).trans ((w16F 13 j rfl).trans ((w13F 13 j rfl).trans ((zIo (by decide)).trans ((w8F 13 j rfl).trans ((w5F 13 j rfl).trans (zIo (by decide)))))))))) (fun j hj => ((((w56F 102 j rfl).trans ((zIo (by decide)).trans ((w37F 102 j rfl).trans ((w33F 102 j rfl).trans (w30F 102 j rfl))))).trans (w27C j (by omega))).trans ((zIo (by decide)).trans ((w22F 14 j rfl).trans ((w19F 14 j rfl).trans ((w16F 14 j rfl).trans ((w13F 14 j rfl).trans ((zIo (by decide)).trans ((w8F 14 j rfl).trans ((w5F 14 j rfl).trans (zIo (by decide)))))))))))) (fun j hj => ((((w56F 103 j rfl).trans ((zIo (by decide)).trans ((w37F 103 j rfl).trans (w33F 103 j rfl)))).trans (w30C j (by omega))).trans ((w27F 15 j rfl).trans ((zIo (by decide)).trans ((w22F 15 j rfl).trans ((w19F 15 j rfl).trans ((w16F 15 j rfl).trans ((w13F 15 j rfl).trans ((zIo (by decide)).trans ((w8F 15 j rfl).trans ((w5F 15 j rfl).trans (zIo (by decide))))))))))))) (fun j hj => ((((w56F 104 j rfl).trans ((zIo (by decide)).trans (w37F 104 j rfl))).trans (w33C j (by omega))).trans ((w30F 16 j rfl).trans ((w27F 16 j rfl).trans ((zIo (by decide)).trans ((w22F 16 j rfl).trans ((w19F 16 j rfl).trans ((w16F 16 j rfl).trans ((w13F 16 j rfl).trans ((zIo (by decide)).trans ((w8F 16 j rfl).trans ((w5F 16 j rfl).trans (zIo (by decide)))))))))))))) (fun j hj => ((((w56F 105 j rfl).trans (zIo (by decide))).trans (w37C j (by omega))).trans ((w33F 17 j rfl).trans ((w30F 17 j rfl).trans ((w27F 17 j rfl).trans ((zIo (by decide)).trans ((w22F 17 j rfl).trans ((w19F 17 j rfl).trans ((w16F 17 j rfl).trans ((w13F 17 j rfl).trans ((zIo (by decide)).trans ((w8F 17 j rfl).trans ((w5F 17 j rfl).trans (zIo (by decide))))))))))))))) (fun j hj => ((w56C j (by omega)).trans ((zIo (by decide)).trans ((w37F 18 j rfl).trans ((w33F 18 j rfl).trans ((w30F 18 j rfl).trans ((w27F 18 j rfl).trans ((zIo (by decide)).trans ((w22F 18 j rfl).trans ((w19F 18 j rfl).trans ((w16F 18 j rfl).trans ((w13F 18 j rfl).trans ((zIo (by decide)).trans ((w8F 18 j rfl).trans ((w5F 18 j rfl).trans (zIo (by decide)))))))))))))))))))
theorem X23_107_7 {X : zX} {l : Launch} {M : zM} {Q : Option Value → zM → Prop} (hs : zSk zMc M) (hI : zIv cLo cHi M) {F : Nat → Int} (x0 : zSo M 7 F) (hQ : ∀ M', zSk zMc M' → zIv cLo cHi M' → zFr [(107, 107, none), (108, 118, none)] M M' → (zSo M' 107 F) → Q none M') : zCall X l 2 0 0 23 [.ref 107, .ref 7] M Q := by
  refine zs_in (by decide) mf23 (Nat.le_of_ble_eq_true rfl) ?_
  show zGo X l 2 0 0 23 0 [(0, .ref 107), (1, .ref 7)] [] M _
  refine zs_aload_n (pc := 0) t23_0 rfl ?_
  refine zs_aload_n (pc := 1) t23_1 rfl ?_
  have w1 := ib7_0 hI
  refine zs_get (pc := 2) t23_2 (by decide) (zk1 (hs.k fk_zMc_7)) (zfvi rfl rfl) ?_
  have w2 : zIv cLo cHi (zsI M 107 0 (zI M 7 0)) := zIv.put hI (show 0 ≤ (zI M 7 0).toInt ∧ (zI M 7 0).toInt ≤ 8 from ⟨by omega, by omega⟩)
  refine zs_putI (pc := 5) t23_5 (zk1 (hs.k fk_zMc_107)) rfl ?_
  refine zs_aload_n (pc := 8) t23_8 rfl ?_
  refine zs_get (pc := 9) t23_9 (by decide) (zk1 (hs.k fk_zMc_7)) (hs.p rfl fv_zMc_7_1) ?_
  refine zs_iconst (pc := 12) t23_12 (v := 0) (by decide) ?_
  refine zs_aload_n (pc := 13) t23_13 rfl ?_
  refine zs_get (pc := 14) t23_14 (by decide) (zk1 (hs.k fk_zMc_107)) (hs.p rfl fv_zMc_107_1) ?_
  refine zs_iconst (pc := 17) t23_17 (v := 0) (by decide) ?_
  refine zs_aload_n (pc := 18) t23_18 rfl ?_
  refine zs_get (pc := 19) t23_19 (by decide) (zk1 (hs.k fk_zMc_107)) (zfvi rfl zIs) ?_
  have w3 : (0 : Int32).toInt = 0 := li0
  have w4 : (0 : Int32).toInt = 0 := li0
  refine zs_copy (pc := 22) t23_22 (hs.k fk_zMc_8) (hs.k fk_zMc_108) (by decide) (by decide) (by decide) ⟨by omega, by omega, by omega⟩ (by omega) (by omega) ⟨Nat.le_of_ble_eq_true rfl, by decide⟩ ?_
  obtain ⟨w5M, w5e⟩ : ∃ N, N = zsR (zsI M 107 0 (zI M 7 0)) 108 (va_cpy (zI (zsI M 107 0 (zI M 7 0)) 8) (zI (zsI M 107 0 (zI M 7 0)) 108) (0 : Int32).toNatClampNeg (0 : Int32).toNatClampNeg (zI M 7 0).toNatClampNeg) := ⟨_, rfl⟩
  have w5s : zSk zMc w5M := by rw [w5e]; exact hs
  have w5I : zIv cLo cHi w5M := by rw [w5e]; exact zIv.row w2 (fun _ => zrg _)
  have w5F : zFr [(108, 108, none)] (zsI M 107 0 (zI M 7 0)) w5M := by rw [w5e]; exact zFr.row zFr.refl (fun _ => rfl)
  have w5C : ∀ j : Nat, (j : Int) < (zI M 7 0).toInt → zI w5M 108 j = zI (zsI M 107 0 (zI M 7 0)) 8 j := fun j hj => by rw [w5e]; exact (congrFun zRs j).trans (zcpy0 (by omega) (by omega) hj)
  rw [← w5e]
  refine zs_aload_n (pc := 25) t23_25 rfl ?_
  refine zs_get (pc := 26) t23_26 (by decide) (zk1 (w5s.k fk_zMc_7)) (w5s.p rfl fv_zMc_7_2) ?_
  refine zs_iconst (pc := 29) t23_29 (v := 0) (by decide) ?_
  refine zs_aload_n (pc := 30) t23_30 rfl ?_
  refine zs_get (pc := 31) t23_31 (by decide) (zk1 (w5s.k fk_zMc_107)) (w5s.p rfl fv_zMc_107_2) ?_
  refine zs_iconst (pc := 34) t23_34 (v := 0) (by decide) ?_
  refine zs_aload_n (pc := 35) t23_35 rfl ?_
  refine zs_get (pc := 36) t23_36 (by decide) (zk1 (w5s.k fk_zMc_107)) (zfvi rfl ((w5F 107 0 rfl).trans zIs)) ?_
  have w6 : (0 : Int32).toInt = 0 := li0
  have w7 : (0 : Int32).toInt = 0 := li0
  refine zs_copy (pc := 39) t23_39 (w5s.k fk_zMc_9) (w5s.k fk_zMc_109) (by decide) (by decide) (by decide) ⟨by omega, by omega, by omega⟩ (by omega) (by omega) ⟨Nat.le_of_ble_eq_true rfl, by decide⟩ ?_
  obtain ⟨w8M, w8e⟩ : ∃ N, N = zsR w5M 109 (va_cpy (zI w5M 9) (zI w5M 109) (0 : Int32).toNatClampNeg (0 : Int32).toNatClampNeg (zI M 7 0).toNatClampNeg) := ⟨_, rfl⟩
  have w8s : zSk zMc w8M := by rw [w8e]; exact w5s
  have w8I : zIv cLo cHi w8M := by rw [w8e]; exact zIv.row w5I (fun _ => zcpyB (fun j => ib9 w5I j) (fun j => ib109 w5I j))
  have w8F : zFr [(109, 109, none)] w5M w8M := by rw [w8e]; exact zFr.row zFr.refl (fun _ => rfl)
  have w8C : ∀ j : Nat, (j : Int) < (zI M 7 0).toInt → zI w8M 109 j = zI w5M 9 j := fun j hj => by rw [w8e]; exact (congrFun zRs j).trans (zcpy0 (by omega) (by omega) hj)
  rw [← w8e]
  refine zs_aload_n (pc := 42) t23_42 rfl ?_
  refine zs_aload_n (pc := 43) t23_43 rfl ?_
  have w9 := ib7_3 hI
  refine zs_get (pc := 44) t23_44 (by decide) (zk1 (w8s.k fk_zMc_7)) (zfvi rfl ((w8F 7 3 rfl).trans ((w5F 7 3 rfl).trans ((zIo (by decide)).trans rfl)))) ?_
  have w10 : zIv cLo cHi (zsI w8M 107 3 (zI M 7 3)) := zIv.put w8I (show 0 ≤ (zI M 7 3).toInt ∧ (zI M 7 3).toInt ≤ 60 from ⟨by omega, by omega⟩)
  refine zs_putI (pc := 47) t23_47 (zk1 (w8s.k fk_zMc_107)) rfl ?_
  refine zs_aload_n (pc := 50) t23_50 rfl ?_
  refine zs_get (pc := 51) t23_51 (by decide) (zk1 (w8s.k fk_zMc_7)) (w8s.p rfl fv_zMc_7_4) ?_
  refine zs_iconst (pc := 54) t23_54 (v := 0) (by decide) ?_
  refine zs_aload_n (pc := 55) t23_55 rfl ?_
  refine zs_get (pc := 56) t23_56 (by decide) (zk1 (w8s.k fk_zMc_107)) (w8s.p rfl fv_zMc_107_4) ?_
  refine zs_iconst (pc := 59) t23_59 (v := 0) (by decide) ?_
  refine zs_aload_n (pc := 60) t23_60 rfl ?_
  refine zs_get (pc := 61) t23_61 (by decide) (zk1 (w8s.k fk_zMc_107)) (zfvi rfl zIs) ?_
  have w11 : (0 : Int32).toInt = 0 := li0
  have w12 : (0 : Int32).toInt = 0 := li0
  refine zs_copy (pc := 64) t23_64 (w8s.k fk_zMc_10) (w8s.k fk_zMc_110) (by decide) (by decide) (by decide) ⟨by omega, by omega, by omega⟩ (by omega) (by omega) ⟨Nat.le_of_ble_eq_true rfl, by decide⟩ ?_
  obtain ⟨w13M, w13e⟩ : ∃ N, N = zsR (zsI w8M 107 3 (zI M 7 3)) 110 (va_cpy (zI (zsI w8M 107 3 (zI M 7 3)) 10) (zI (zsI w8M 107 3 (zI M 7 3)) 110) (0 : Int32).toNatClampNeg (0 : Int32).toNatClampNeg (zI M 7 3).toNatClampNeg) := ⟨_, rfl⟩
  have w13s : zSk zMc w13M := by rw [w13e]; exact w8s
  have w13I : zIv cLo cHi w13M := by rw [w13e]; exact zIv.row w10 (fun _ => zcpyB (fun j => ib10 w10 j) (fun j => ib110 w10 j))
  have w13F : zFr [(110, 110, none)] (zsI w8M 107 3 (zI M 7 3)) w13M := by rw [w13e]; exact zFr.row zFr.refl (fun _ => rfl)
  have w13C : ∀ j : Nat, (j : Int) < (zI M 7 3).toInt → zI w13M 110 j = zI (zsI w8M 107 3 (zI M 7 3)) 10 j := fun j hj => by rw [w13e]; exact (congrFun zRs j).trans (zcpy0 (by omega) (by omega) hj)
  rw [← w13e]
  refine zs_aload_n (pc := 67) t23_67 rfl ?_
  refine zs_get (pc := 68) t23_68 (by decide) (zk1 (w13s.k fk_zMc_7)) (w13s.p rfl fv_zMc_7_5) ?_
  refine zs_iconst (pc := 71) t23_71 (v := 0) (by decide) ?_
  refine zs_aload_n (pc := 72) t23_72 rfl ?_
  refine zs_get (pc := 73) t23_73 (by decide) (zk1 (w13s.k fk_zMc_107)) (w13s.p rfl fv_zMc_107_5) ?_
  refine zs_iconst (pc := 76) t23_76 (v := 0) (by decide) ?_
  refine zs_aload_n (pc := 77) t23_77 rfl ?_
  refine zs_get (pc := 78) t23_78 (by decide) (zk1 (w13s.k fk_zMc_107)) (zfvi rfl ((w13F 107 3 rfl).trans zIs)) ?_
  have w14 : (0 : Int32).toInt = 0 := li0
  have w15 : (0 : Int32).toInt = 0 := li0
  refine zs_copy (pc := 81) t23_81 (w13s.k fk_zMc_11) (w13s.k fk_zMc_111) (by decide) (by decide) (by decide) ⟨by omega, by omega, by omega⟩ (by omega) (by omega) ⟨Nat.le_of_ble_eq_true rfl, by decide⟩ ?_
  obtain ⟨w16M, w16e⟩ : ∃ N, N = zsR w13M 111 (va_cpy (zI w13M 11) (zI w13M 111) (0 : Int32).toNatClampNeg (0 : Int32).toNatClampNeg (zI M 7 3).toNatClampNeg) := ⟨_, rfl⟩
  have w16s : zSk zMc w16M := by rw [w16e]; exact w13s
  have w16I : zIv cLo cHi w16M := by rw [w16e]; exact zIv.row w13I (fun _ => zrg _)
  have w16F : zFr [(111, 111, none)] w13M w16M := by rw [w16e]; exact zFr.row zFr.refl (fun _ => rfl)
  have w16C : ∀ j : Nat, (j : Int) < (zI M 7 3).toInt → zI w16M 111 j = zI w13M 11 j := fun j hj => by rw [w16e]; exact (congrFun zRs j).trans (zcpy0 (by omega) (by omega) hj)
  rw [← w16e]
  refine zs_aload_n (pc := 84) t23_84 rfl ?_
  refine zs_get (pc := 85) t23_85 (by decide) (zk1 (w16s.k fk_zMc_7)) (w16s.p rfl fv_zMc_7_6) ?_
  refine zs_iconst (pc := 88) t23_88 (v := 0) (by decide) ?_
  refine zs_aload_n (pc := 89) t23_89 rfl ?_
  refine zs_get (pc := 90) t23_90 (by decide) (zk1 (w16s.k fk_zMc_107)) (w16s.p rfl fv_zMc_107_6) ?_
  refine zs_iconst (pc := 93) t23_93 (v := 0) (by decide) ?_
  refine zs_aload_n (pc := 94) t23_94 rfl ?_
  refine zs_get (pc := 95) t23_95 (by decide) (zk1 (w16s.k fk_zMc_107)) (zfvi rfl ((w16F 107 3 rfl).trans ((w13F 107 3 rfl).trans zIs))) ?_
  have w17 : (0 : Int32).toInt = 0 := li0
  have w18 : (0 : Int32).toInt = 0 := li0
  refine zs_copy (pc := 98) t23_98 (w16s.k fk_zMc_12) (w16s.k fk_zMc_112) (by decide) (by decide) (by decide) ⟨by omega, by omega, by omega⟩ (by omega) (by omega) ⟨Nat.le_of_ble_eq_true rfl, by decide⟩ ?_
  obtain ⟨w19M, w19e⟩ : ∃ N, N = zsR w16M 112 (va_cpy (zI w16M 12) (zI w16M 112) (0 : Int32).toNatClampNeg (0 : Int32).toNatClampNeg (zI M 7 3).toNatClampNeg) := ⟨_, rfl⟩
  have w19s : zSk zMc w19M := by rw [w19e]; exact w16s
  have w19I : zIv cLo cHi w19M := by rw [w19e]; exact zIv.row w16I (fun _ => zrg _)
  have w19F : zFr [(112, 112, none)] w16M w19M := by rw [w19e]; exact zFr.row zFr.refl (fun _ => rfl)
  have w19C : ∀ j : Nat, (j : Int) < (zI M 7 3).toInt → zI w19M 112 j = zI w16M 12 j := fun j hj => by rw [w19e]; exact (congrFun zRs j).trans (zcpy0 (by omega) (by omega) hj)
  rw [← w19e]
  refine zs_aload_n (pc := 101) t23_101 rfl ?_
  refine zs_get (pc := 102) t23_102 (by decide) (zk1 (w19s.k fk_zMc_7)) (w19s.p rfl fv_zMc_7_7) ?_
  refine zs_iconst (pc := 105) t23_105 (v := 0) (by decide) ?_
  refine zs_aload_n (pc := 106) t23_106 rfl ?_
  refine zs_get (pc := 107) t23_107 (by decide) (zk1 (w19s.k fk_zMc_107)) (w19s.p rfl fv_zMc_107_7) ?_
  refine zs_iconst (pc := 110) t23_110 (v := 0) (by decide) ?_
  refine zs_aload_n (pc := 111) t23_111 rfl ?_
  refine zs_get (pc := 112) t23_112 (by decide) (zk1 (w19s.k fk_zMc_107)) (zfvi rfl ((w19F 107 3 rfl).trans ((w16F 107 3 rfl).trans ((w13F 107 3 rfl).trans zIs)))) ?_
  have w20 : (0 : Int32).toInt = 0 := li0
  have w21 : (0 : Int32).toInt = 0 := li0
  refine zs_copy (pc := 115) t23_115 (w19s.k fk_zMc_13) (w19s.k fk_zMc_113) (by decide) (by decide) (by decide) ⟨by omega, by omega, by omega⟩ (by omega) (by omega) ⟨Nat.le_of_ble_eq_true rfl, by decide⟩ ?_
  obtain ⟨w22M, w22e⟩ : ∃ N, N = zsR w19M 113 (va_cpy (zI w19M 13) (zI w19M 113) (0 : Int32).toNatClampNeg (0 : Int32).toNatClampNeg (zI M 7 3).toNatClampNeg) := ⟨_, rfl⟩
  have w22s : zSk zMc w22M := by rw [w22e]; exact w19s
  have w22I : zIv cLo cHi w22M := by rw [w22e]; exact zIv.row w19I (fun _ => zrg _)
  have w22F : zFr [(113, 113, none)] w19M w22M := by rw [w22e]; exact zFr.row zFr.refl (fun _ => rfl)
  have w22C : ∀ j : Nat, (j : Int) < (zI M 7 3).toInt → zI w22M 113 j = zI w19M 13 j := fun j hj => by rw [w22e]; exact (congrFun zRs j).trans (zcpy0 (by omega) (by omega) hj)
  rw [← w22e]
  refine zs_aload_n (pc := 118) t23_118 rfl ?_
  refine zs_aload_n (pc := 119) t23_119 rfl ?_
  have w23 := ib7_8 hI
  refine zs_get (pc := 120) t23_120 (by decide) (zk1 (w22s.k fk_zMc_7)) (zfvi rfl ((w22F 7 8 rfl).trans ((w19F 7 8 rfl).trans ((w16F 7 8 rfl).trans ((w13F 7 8 rfl).trans ((zIo (by decide)).trans ((w8F 7 8 rfl).trans ((w5F 7 8 rfl).trans ((zIo (by decide)).trans rfl))))))))) ?_
  have w24 : zIv cLo cHi (zsI w22M 107 8 (zI M 7 8)) := zIv.put w22I (show 0 ≤ (zI M 7 8).toInt ∧ (zI M 7 8).toInt ≤ 12 from ⟨by omega, by omega⟩)
  refine zs_putI (pc := 123) t23_123 (zk1 (w22s.k fk_zMc_107)) rfl ?_
  refine zs_aload_n (pc := 126) t23_126 rfl ?_
  refine zs_get (pc := 127) t23_127 (by decide) (zk1 (w22s.k fk_zMc_7)) (w22s.p rfl fv_zMc_7_9) ?_
  refine zs_iconst (pc := 130) t23_130 (v := 0) (by decide) ?_
  refine zs_aload_n (pc := 131) t23_131 rfl ?_
  refine zs_get (pc := 132) t23_132 (by decide) (zk1 (w22s.k fk_zMc_107)) (w22s.p rfl fv_zMc_107_9) ?_
  refine zs_iconst (pc := 135) t23_135 (v := 0) (by decide) ?_
  refine zs_aload_n (pc := 136) t23_136 rfl ?_
  refine zs_get (pc := 137) t23_137 (by decide) (zk1 (w22s.k fk_zMc_107)) (zfvi rfl zIs) ?_
  have w25 : (0 : Int32).toInt = 0 := li0
  have w26 : (0 : Int32).toInt = 0 := li0
  refine zs_copy (pc := 140) t23_140 (w22s.k fk_zMc_14) (w22s.k fk_zMc_114) (by decide) (by decide) (by decide) ⟨by omega, by omega, by omega⟩ (by omega) (by omega) ⟨Nat.le_of_ble_eq_true rfl, by decide⟩ ?_
  obtain ⟨w27M, w27e⟩ : ∃ N, N = zsR (zsI w22M 107 8 (zI M 7 8)) 114 (va_cpy (zI (zsI w22M 107 8 (zI M 7 8)) 14) (zI (zsI w22M 107 8 (zI M 7 8)) 114) (0 : Int32).toNatClampNeg (0 : Int32).toNatClampNeg (zI M 7 8).toNatClampNeg) := ⟨_, rfl⟩
  have w27s : zSk zMc w27M := by rw [w27e]; exact w22s
  have w27I : zIv cLo cHi w27M := by rw [w27e]; exact zIv.row w24 (fun _ => zrg _)
  have w27F : zFr [(114, 114, none)] (zsI w22M 107 8 (zI M 7 8)) w27M := by rw [w27e]; exact zFr.row zFr.refl (fun _ => rfl)
  have w27C : ∀ j : Nat, (j : Int) < (zI M 7 8).toInt → zI w27M 114 j = zI (zsI w22M 107 8 (zI M 7 8)) 14 j := fun j hj => by rw [w27e]; exact (congrFun zRs j).trans (zcpy0 (by omega) (by omega) hj)
  rw [← w27e]
  refine zs_aload_n (pc := 143) t23_143 rfl ?_
  refine zs_get (pc := 144) t23_144 (by decide) (zk1 (w27s.k fk_zMc_7)) (w27s.p rfl fv_zMc_7_10) ?_
  refine zs_iconst (pc := 147) t23_147 (v := 0) (by decide) ?_
  refine zs_aload_n (pc := 148) t23_148 rfl ?_
  refine zs_get (pc := 149) t23_149 (by decide) (zk1 (w27s.k fk_zMc_107)) (w27s.p rfl fv_zMc_107_10) ?_
  refine zs_iconst (pc := 152) t23_152 (v := 0) (by decide) ?_
  refine zs_aload_n (pc := 153) t23_153 rfl ?_
  refine zs_get (pc := 154) t23_154 (by decide) (zk1 (w27s.k fk_zMc_107)) (zfvi rfl ((w27F 107 8 rfl).trans zIs)) ?_
  have w28 : (0 : Int32).toInt = 0 := li0
  have w29 : (0 : Int32).toInt = 0 := li0
  refine zs_copy (pc := 157) t23_157 (w27s.k fk_zMc_15) (w27s.k fk_zMc_115) (by decide) (by decide) (by decide) ⟨by omega, by omega, by omega⟩ (by omega) (by omega) ⟨Nat.le_of_ble_eq_true rfl, by decide⟩ ?_
  obtain ⟨w30M, w30e⟩ : ∃ N, N = zsR w27M 115 (va_cpy (zI w27M 15) (zI w27M 115) (0 : Int32).toNatClampNeg (0 : Int32).toNatClampNeg (zI M 7 8).toNatClampNeg) := ⟨_, rfl⟩
  have w30s : zSk zMc w30M := by rw [w30e]; exact w27s
  have w30I : zIv cLo cHi w30M := by rw [w30e]; exact zIv.row w27I (fun _ => zrg _)
  have w30F : zFr [(115, 115, none)] w27M w30M := by rw [w30e]; exact zFr.row zFr.refl (fun _ => rfl)
  have w30C : ∀ j : Nat, (j : Int) < (zI M 7 8).toInt → zI w30M 115 j = zI w27M 15 j := fun j hj => by rw [w30e]; exact (congrFun zRs j).trans (zcpy0 (by omega) (by omega) hj)
  rw [← w30e]
  refine zs_aload_n (pc := 160) t23_160 rfl ?_
  refine zs_get (pc := 161) t23_161 (by decide) (zk1 (w30s.k fk_zMc_7)) (w30s.p rfl fv_zMc_7_11) ?_
  refine zs_iconst (pc := 164) t23_164 (v := 0) (by decide) ?_
  refine zs_aload_n (pc := 165) t23_165 rfl ?_
  refine zs_get (pc := 166) t23_166 (by decide) (zk1 (w30s.k fk_zMc_107)) (w30s.p rfl fv_zMc_107_11) ?_
  refine zs_iconst (pc := 169) t23_169 (v := 0) (by decide) ?_
  refine zs_aload_n (pc := 170) t23_170 rfl ?_
  refine zs_get (pc := 171) t23_171 (by decide) (zk1 (w30s.k fk_zMc_107)) (zfvi rfl ((w30F 107 8 rfl).trans ((w27F 107 8 rfl).trans zIs))) ?_
  have w31 : (0 : Int32).toInt = 0 := li0
  have w32 : (0 : Int32).toInt = 0 := li0
  refine zs_copy (pc := 174) t23_174 (w30s.k fk_zMc_16) (w30s.k fk_zMc_116) (by decide) (by decide) (by decide) ⟨by omega, by omega, by omega⟩ (by omega) (by omega) ⟨Nat.le_of_ble_eq_true rfl, by decide⟩ ?_
  obtain ⟨w33M, w33e⟩ : ∃ N, N = zsR w30M 116 (va_cpy (zI w30M 16) (zI w30M 116) (0 : Int32).toNatClampNeg (0 : Int32).toNatClampNeg (zI M 7 8).toNatClampNeg) := ⟨_, rfl⟩
  have w33s : zSk zMc w33M := by rw [w33e]; exact w30s
  have w33I : zIv cLo cHi w33M := by rw [w33e]; exact zIv.row w30I (fun _ => zrg _)
  have w33F : zFr [(116, 116, none)] w30M w33M := by rw [w33e]; exact zFr.row zFr.refl (fun _ => rfl)
  have w33C : ∀ j : Nat, (j : Int) < (zI M 7 8).toInt → zI w33M 116 j = zI w30M 16 j := fun j hj => by rw [w33e]; exact (congrFun zRs j).trans (zcpy0 (by omega) (by omega) hj)
  rw [← w33e]
  refine zs_aload_n (pc := 177) t23_177 rfl ?_
  refine zs_get (pc := 178) t23_178 (by decide) (zk1 (w33s.k fk_zMc_7)) (w33s.p rfl fv_zMc_7_12) ?_
  refine zs_iconst (pc := 181) t23_181 (v := 0) (by decide) ?_
  refine zs_aload_n (pc := 182) t23_182 rfl ?_
  refine zs_get (pc := 183) t23_183 (by decide) (zk1 (w33s.k fk_zMc_107)) (w33s.p rfl fv_zMc_107_12) ?_
  refine zs_iconst (pc := 186) t23_186 (v := 0) (by decide) ?_
  refine zs_bipush (pc := 187) t23_187 (v := 9) (by decide) ?_
  have w34 : (9 : Int32).toInt = 9 := li9
  have w35 : (0 : Int32).toInt = 0 := li0
  have w36 : (0 : Int32).toInt = 0 := li0
  refine zs_copy (pc := 189) t23_189 (w33s.k fk_zMc_17) (w33s.k fk_zMc_117) (by decide) (by decide) (by decide) ⟨by omega, by omega, by omega⟩ (by omega) (by omega) ⟨Nat.le_of_ble_eq_true rfl, by decide⟩ ?_
  obtain ⟨w37M, w37e⟩ : ∃ N, N = zsR w33M 117 (va_cpy (zI w33M 17) (zI w33M 117) (0 : Int32).toNatClampNeg (0 : Int32).toNatClampNeg (9 : Int32).toNatClampNeg) := ⟨_, rfl⟩
  have w37s : zSk zMc w37M := by rw [w37e]; exact w33s
  have w37I : zIv cLo cHi w37M := by rw [w37e]; exact zIv.row w33I (fun _ => zcpyB (fun j => ib17 w33I j) (fun j => ib117 w33I j))
  have w37F : zFr [(117, 117, none)] w33M w37M := by rw [w37e]; exact zFr.row zFr.refl (fun _ => rfl)
  have w37C : ∀ j : Nat, (j : Int) < (9 : Int32).toInt → zI w37M 117 j = zI w33M 17 j := fun j hj => by rw [w37e]; exact (congrFun zRs j).trans (zcpy0 (by omega) (by omega) hj)
  rw [← w37e]
  refine zs_aload_n (pc := 192) t23_192 rfl ?_
  refine zs_aload_n (pc := 193) t23_193 rfl ?_
  refine zs_get (pc := 194) t23_194 (by decide) (zk1 (w37s.k fk_zMc_7)) (w37s.p rfl fv_zMc_7_14) ?_
  refine zs_aload_n (pc := 197) t23_197 rfl ?_
  have w38 := ib7_13 hI
  refine zs_get (pc := 198) t23_198 (by decide) (zk1 (w37s.k fk_zMc_7)) (zfvi rfl ((w37F 7 13 rfl).trans ((w33F 7 13 rfl).trans ((w30F 7 13 rfl).trans ((w27F 7 13 rfl).trans ((zIo (by decide)).trans ((w22F 7 13 rfl).trans ((w19F 7 13 rfl).trans ((w16F 7 13 rfl).trans ((w13F 7 13 rfl).trans ((zIo (by decide)).trans ((w8F 7 13 rfl).trans ((w5F 7 13 rfl).trans ((zIo (by decide)).trans rfl)))))))))))))) ?_
  refine zs_invV (pc := 201) (k := 107) (as' := [.ref 18, .int (zI M 7 13)]) (st := []) t23_201 mf24 rfl rfl (Or.inl ⟨by decide, (zk1 (w37s.k fk_zMc_107))⟩) ⟨by decide, by decide, Nat.le_of_ble_eq_true rfl, Nat.le_of_ble_eq_true rfl⟩ (zs_in (by decide) mf24 (Nat.le_of_ble_eq_true rfl) ?_) (fun _ _ q => q)
  show zGo X l 1 0 0 24 0 [(0, .ref 107), (1, .ref 18), (2, .int (zI M 7 13))] [] w37M _
  refine zs_aload_n (pc := 0) t24_0 rfl ?_
  refine zs_iconst (pc := 1) t24_1 (v := 0) (by decide) ?_
  refine zs_iload_n (pc := 2) t24_2 rfl ?_
  refine zs_sipush (pc := 3) t24_3 (v := 500) (by decide) ?_
  refine zs_invS (pc := 6) (as := [.int (zI M 7 13), .int (500 : Int32)]) (st := [.int (0 : Int32), .ref 107]) t24_6 (by decide) mf20 rfl rfl ⟨by decide, by decide, Nat.le_of_ble_eq_true rfl, Nat.le_of_ble_eq_true rfl⟩ (zs_in (by decide) mf20 (Nat.le_of_ble_eq_true rfl) ?_) (fun _ _ q => q)
  show zGo X l 0 0 0 20 0 [(0, .int (zI M 7 13)), (1, .int (500 : Int32))] [] w37M _
  refine zs_iload_n (pc := 0) t20_0 rfl ?_
  refine zs_iload_n (pc := 1) t20_1 rfl ?_
  refine zs_icmp_gtF (pc := 2) t20_2 rfl li500 (by omega) ?_
  refine zs_iload_n (pc := 5) t20_5 rfl ?_
  refine zs_goto (pc := 6) t20_6 ?_
  refine zs_iret (pc := 10) t20_10 mr20 rfl ?_
  show zGo X l 1 0 0 24 9 [(0, .ref 107), (1, .ref 18), (2, .int (zI M 7 13))] [.int (zI M 7 13), .int (0 : Int32), .ref 107] w37M _
  refine zs_invS (pc := 9) (as := [.int (0 : Int32), .int (zI M 7 13)]) (st := [.ref 107]) t24_9 (by decide) mf21 rfl rfl ⟨by decide, by decide, Nat.le_of_ble_eq_true rfl, Nat.le_of_ble_eq_true rfl⟩ (zs_in (by decide) mf21 (Nat.le_of_ble_eq_true rfl) ?_) (fun _ _ q => q)
  show zGo X l 0 0 0 21 0 [(0, .int (0 : Int32)), (1, .int (zI M 7 13))] [] w37M _
  refine zs_iload_n (pc := 0) t21_0 rfl ?_
  refine zs_iload_n (pc := 1) t21_1 rfl ?_
  by_cases w39 : 0 < (zI M 7 13).toInt
  · refine zs_icmp_ltT (pc := 2) t21_2 li0 rfl (by omega) ?_
    refine zs_iload_n (pc := 9) t21_9 rfl ?_
    refine zs_iret (pc := 10) t21_10 mr21 rfl ?_
    show zGo X l 1 0 0 24 12 [(0, .ref 107), (1, .ref 18), (2, .int (zI M 7 13))] [.int (zI M 7 13), .ref 107] w37M _
    have w40 : zIv cLo cHi (zsI w37M 107 13 (zI M 7 13)) := zIv.put w37I (show 0 ≤ (zI M 7 13).toInt ∧ (zI M 7 13).toInt ≤ 500 from ⟨by omega, by omega⟩)
    refine zs_putI (pc := 12) t24_12 (zk1 (w37s.k fk_zMc_107)) rfl ?_
    refine zs_aload_n (pc := 15) t24_15 rfl ?_
    refine zs_iconst (pc := 16) t24_16 (v := 0) (by decide) ?_
    refine zs_aload_n (pc := 17) t24_17 rfl ?_
    refine zs_get (pc := 18) t24_18 (by decide) (zk1 (w37s.k fk_zMc_107)) (w37s.p rfl fv_zMc_107_14) ?_
    refine zs_iconst (pc := 21) t24_21 (v := 0) (by decide) ?_
    refine zs_aload_n (pc := 22) t24_22 rfl ?_
    refine zs_get (pc := 23) t24_23 (by decide) (zk1 (w37s.k fk_zMc_107)) (zfvi rfl zIs) ?_
    have w41 : (0 : Int32).toInt = 0 := li0
    have w42 : (0 : Int32).toInt = 0 := li0
    refine zs_copy (pc := 26) t24_26 (w37s.k fk_zMc_18) (w37s.k fk_zMc_118) (by decide) (by decide) (by decide) ⟨by omega, by omega, by omega⟩ (by omega) (by omega) ⟨Nat.le_of_ble_eq_true rfl, by decide⟩ ?_
    obtain ⟨w43M, w43e⟩ : ∃ N, N = zsR (zsI w37M 107 13 (zI M 7 13)) 118 (va_cpy (zI (zsI w37M 107 13 (zI M 7 13)) 18) (zI (zsI w37M 107 13 (zI M 7 13)) 118) (0 : Int32).toNatClampNeg (0 : Int32).toNatClampNeg (zI M 7 13).toNatClampNeg) := ⟨_, rfl⟩
    have w43s : zSk zMc w43M := by rw [w43e]; exact w37s
    have w43I : zIv cLo cHi w43M := by rw [w43e]; exact zIv.row w40 (fun _ => zcpyB (fun j => ib18 w40 j) (fun j => ib118 w40 j))
    have w43F : zFr [(118, 118, none)] (zsI w37M 107 13 (zI M 7 13)) w43M := by rw [w43e]; exact zFr.row zFr.refl (fun _ => rfl)
    have w43C : ∀ j : Nat, (j : Int) < (zI M 7 13).toInt → zI w43M 118 j = zI (zsI w37M 107 13 (zI M 7 13)) 18 j := fun j hj => by rw [w43e]; exact (congrFun zRs j).trans (zcpy0 (by omega) (by omega) hj)
    rw [← w43e]
    refine zs_vret (pc := 29) t24_29 mr24 ?_
    show zGo X l 2 0 0 23 204 [(0, .ref 107), (1, .ref 7)] [] w43M _
    have w44 : (zI w43M 107 0).toInt = (zI M 7 0).toInt := (congrArg Int32.toInt ((w43F 107 0 rfl).trans ((zIoj (by decide)).trans ((w37F 107 0 rfl).trans ((w33F 107 0 rfl).trans ((w30F 107 0 rfl).trans ((w27F 107 0 rfl).trans ((zIoj (by decide)).trans ((w22F 107 0 rfl).trans ((w19F 107 0 rfl).trans ((w16F 107 0 rfl).trans ((w13F 107 0 rfl).trans ((zIoj (by decide)).trans ((w8F 107 0 rfl).trans ((w5F 107 0 rfl).trans zIs))))))))))))))).trans rfl
    have w45 : (zI w43M 107 3).toInt = (zI M 7 3).toInt := (congrArg Int32.toInt ((w43F 107 3 rfl).trans ((zIoj (by decide)).trans ((w37F 107 3 rfl).trans ((w33F 107 3 rfl).trans ((w30F 107 3 rfl).trans ((w27F 107 3 rfl).trans ((zIoj (by decide)).trans ((w22F 107 3 rfl).trans ((w19F 107 3 rfl).trans ((w16F 107 3 rfl).trans ((w13F 107 3 rfl).trans zIs)))))))))))).trans rfl
    have w46 : (zI w43M 107 8).toInt = (zI M 7 8).toInt := (congrArg Int32.toInt ((w43F 107 8 rfl).trans ((zIoj (by decide)).trans ((w37F 107 8 rfl).trans ((w33F 107 8 rfl).trans ((w30F 107 8 rfl).trans ((w27F 107 8 rfl).trans zIs))))))).trans rfl
    have w47 : (zI w43M 107 13).toInt = (zI M 7 13).toInt := (congrArg Int32.toInt ((w43F 107 13 rfl).trans zIs)).trans rfl
    have w48 : (zI (zsI M 107 0 (zI M 7 0)) 7 0).toInt = (zI M 7 0).toInt := (congrArg Int32.toInt ((zIo (by decide)).trans rfl)).trans rfl
    have w49 : (zI (zsI M 107 0 (zI M 7 0)) 7 3).toInt = (zI M 7 3).toInt := (congrArg Int32.toInt ((zIo (by decide)).trans rfl)).trans rfl
    have w50 : (zI (zsI M 107 0 (zI M 7 0)) 7 8).toInt = (zI M 7 8).toInt := (congrArg Int32.toInt ((zIo (by decide)).trans rfl)).trans rfl
    have w51 : (zI (zsI M 107 0 (zI M 7 0)) 7 13).toInt = (zI M 7 13).toInt := (congrArg Int32.toInt ((zIo (by decide)).trans rfl)).trans rfl
    exact zs_vret (pc := 204) t23_204 mr23 (hQ _ w43s w43I ((((((((((((((((zFr.refl).put rfl).trans (w5F.mono rfl)).trans (w8F.mono rfl)).put rfl).trans (w13F.mono rfl)).trans (w16F.mono rfl)).trans (w19F.mono rfl)).trans (w22F.mono rfl)).put rfl).trans (w27F.mono rfl)).trans (w30F.mono rfl)).trans (w33F.mono rfl)).trans (w37F.mono rfl)).put rfl).trans (w43F.mono rfl)) (zSo.cp x0 (by omega) (by omega) (by omega) (by omega) (fun j hj => ((((w43F 108 j rfl).trans ((zIo (by decide)).trans ((w37F 108 j rfl).trans ((w33F 108 j rfl).trans ((w30F 108 j rfl).trans ((w27F 108 j rfl).trans ((zIo (by decide)).trans ((w22F 108 j rfl).trans ((w19F 108 j rfl).trans ((w16F 108 j rfl).trans ((w13F 108 j rfl).trans ((zIo (by decide)).trans (w8F 108 j rfl))))))))))))).trans (w5C j (by omega))).trans (zIo (by decide)))) (fun j hj => ((((w43F 109 j rfl).trans ((zIo (by decide)).trans ((w37F 109 j rfl).trans ((w33F 109 j rfl).trans ((w30F 109 j rfl).trans ((w27F 109 j rfl).trans ((zIo (by decide)).trans ((w22F 109 j rfl).trans ((w19F 109 j rfl).trans ((w16F 109 j rfl).trans ((w13F 109 j rfl).trans (zIo (by decide))))))))))))).trans (w8C j (by omega))).trans ((w5F 9 j rfl).trans (zIo (by decide))))) (fun j hj => ((((w43F 110 j rfl).trans ((zIo (by decide)).trans ((w37F 110 j rfl).trans ((w33F 110 j rfl).trans ((w30F 110 j rfl).trans ((w27F 110 j rfl).trans ((zIo (by decide)).trans ((w22F 110 j rfl).trans ((w19F 110 j rfl).trans (w16F 110 j rfl)))))))))).trans (w13C j (by omega))).trans ((zIo (by decide)).trans ((w8F 10 j rfl).trans ((w5F 10 j rfl).trans (zIo (by decide))))))) (fun j hj => ((((w43F 111 j rfl).trans ((zIo (by decide)).trans ((w37F 111 j rfl).trans ((w33F 111 j rfl).trans ((w30F 111 j rfl).trans ((w27F 111 j rfl).trans ((zIo (by decide)).trans ((w22F 111 j rfl).trans (w19F 111 j rfl))))))))).trans (w16C j (by omega))).trans ((w13F 11 j rfl).trans ((zIo (by decide)).trans ((w8F 11 j rfl).trans ((w5F 11 j rfl).trans (zIo (by decide)))))))) (fun j hj => ((((w43F 112 j rfl).trans ((zIo (by decide)).trans ((w37F 112 j rfl).trans ((w33F 112 j rfl).trans ((w30F 112 j rfl).trans ((w27F 112 j rfl).trans ((zIo (by decide)).trans (w22F 112 j rfl)))))))).trans (w19C j (by omega))).trans ((w16F 12 j rfl).trans ((w13F 12 j rfl).trans ((zIo (by decide)).trans ((w8F 12 j rfl).trans ((w5F 12 j rfl).trans (zIo (by decide))))))))) (fun j hj => ((((w43F 113 j rfl).trans ((zIo (by decide)).trans ((w37F 113 j rfl).trans ((w33F 113 j rfl).trans ((w30F 113 j rfl).trans ((w27F 113 j rfl).trans (zIo (by decide)))))))).trans (w22C j (by omega))).trans ((w19F 13 j rfl).trans ((w16F 13 j rfl).trans ((w13F 13 j rfl).trans ((zIo (by decide)).trans ((w8F 13 j rfl).trans ((w5F 13 j rfl).trans (zIo (by decide)))))))))) (fun j hj => ((((w43F 114 j rfl).trans ((zIo (by decide)).trans ((w37F 114 j rfl).trans ((w33F 114 j rfl).trans (w30F 114 j rfl))))).trans (w27C j (by omega))).trans ((zIo (by decide)).trans ((w22F 14 j rfl).trans ((w19F 14 j rfl).trans ((w16F 14 j rfl).trans ((w13F 14 j rfl).trans ((zIo (by decide)).trans ((w8F 14 j rfl).trans ((w5F 14 j rfl).trans (zIo (by decide)))))))))))) (fun j hj => ((((w43F 115 j rfl).trans ((zIo (by decide)).trans ((w37F 115 j rfl).trans (w33F 115 j rfl)))).trans (w30C j (by omega))).trans ((w27F 15 j rfl).trans ((zIo (by decide)).trans ((w22F 15 j rfl).trans ((w19F 15 j rfl).trans ((w16F 15 j rfl).trans ((w13F 15 j rfl).trans ((zIo (by decide)).trans ((w8F 15 j rfl).trans ((w5F 15 j rfl).trans (zIo (by decide))))))))))))) (fun j hj => ((((w43F 116 j rfl).trans ((zIo (by decide)).trans (w37F 116 j rfl))).trans (w33C j (by omega))).trans ((w30F 16 j rfl).trans ((w27F 16 j rfl).trans ((zIo (by decide)).trans ((w22F 16 j rfl).trans ((w19F 16 j rfl).trans ((w16F 16 j rfl).trans ((w13F 16 j rfl).trans ((zIo (by decide)).trans ((w8F 16 j rfl).trans ((w5F 16 j rfl).trans (zIo (by decide)))))))))))))) (fun j hj => ((((w43F 117 j rfl).trans (zIo (by decide))).trans (w37C j (by omega))).trans ((w33F 17 j rfl).trans ((w30F 17 j rfl).trans ((w27F 17 j rfl).trans ((zIo (by decide)).trans ((w22F 17 j rfl).trans ((w19F 17 j rfl).trans ((w16F 17 j rfl).trans ((w13F 17 j rfl).trans ((zIo (by decide)).trans ((w8F 17 j rfl).trans ((w5F 17 j rfl).trans (zIo (by decide))))))))))))))) (fun j hj => ((w43C j (by omega)).trans ((zIo (by decide)).trans ((w37F 18 j rfl).trans ((w33F 18 j rfl).trans ((w30F 18 j rfl).trans ((w27F 18 j rfl).trans ((zIo (by decide)).trans ((w22F 18 j rfl).trans ((w19F 18 j rfl).trans ((w16F 18 j rfl).trans ((w13F 18 j rfl).trans ((zIo (by decide)).trans ((w8F 18 j rfl).trans ((w5F 18 j rfl).trans (zIo (by decide)))))))))))))))))))
  · refine zs_icmp_ltF (pc := 2) t21_2 li0 rfl (by omega) ?_
    refine zs_iload_n (pc := 5) t21_5 rfl ?_
    refine zs_goto (pc := 6) t21_6 ?_
    refine zs_iret (pc := 10) t21_10 mr21 (by decide) ?_
    show zGo X l 1 0 0 24 12 [(0, .ref 107), (1, .ref 18), (2, .int (zI M 7 13))] [.int (0 : Int32), .ref 107] w37M _
    have w52 : zIv cLo cHi (zsI w37M 107 13 (0 : Int32)) := zIv.put w37I (show 0 ≤ (0 : Int32).toInt ∧ (0 : Int32).toInt ≤ 500 from ⟨by decide, by decide⟩)
    refine zs_putI (pc := 12) t24_12 (zk1 (w37s.k fk_zMc_107)) rfl ?_
    refine zs_aload_n (pc := 15) t24_15 rfl ?_
    refine zs_iconst (pc := 16) t24_16 (v := 0) (by decide) ?_
    refine zs_aload_n (pc := 17) t24_17 rfl ?_
    refine zs_get (pc := 18) t24_18 (by decide) (zk1 (w37s.k fk_zMc_107)) (w37s.p rfl fv_zMc_107_14) ?_
    refine zs_iconst (pc := 21) t24_21 (v := 0) (by decide) ?_
    refine zs_aload_n (pc := 22) t24_22 rfl ?_
    refine zs_get (pc := 23) t24_23 (by decide) (zk1 (w37s.k fk_zMc_107)) (zfvi rfl zIs) ?_
    have w53 : (0 : Int32).toInt = 0 := li0
    have w54 : (0 : Int32).toInt = 0 := li0
    have w55 : (0 : Int32).toInt = 0 := li0
    refine zs_copy (pc := 26) t24_26 (w37s.k fk_zMc_18) (w37s.k fk_zMc_118) (by decide) (by decide) (by decide) ⟨by omega, by omega, by omega⟩ (by omega) (by omega) ⟨Nat.le_of_ble_eq_true rfl, by decide⟩ ?_
    obtain ⟨w56M, w56e⟩ : ∃ N, N = zsR (zsI w37M 107 13 (0 : Int32)) 118 (va_cpy (zI (zsI w37M 107 13 (0 : Int32)) 18) (zI (zsI w37M 107 13 (0 : Int32)) 118) (0 : Int32).toNatClampNeg (0 : Int32).toNatClampNeg (0 : Int32).toNatClampNeg) := ⟨_, rfl⟩
    have w56s : zSk zMc w56M := by rw [w56e]; exact w37s
    have w56I : zIv cLo cHi w56M := by rw [w56e]; exact zIv.row w52 (fun _ => zcpyB (fun j => ib18 w52 j) (fun j => ib118 w52 j))
    have w56F : zFr [(118, 118, none)] (zsI w37M 107 13 (0 : Int32)) w56M := by rw [w56e]; exact zFr.row zFr.refl (fun _ => rfl)
    have w56C : ∀ j : Nat, (j : Int) < (0 : Int32).toInt → zI w56M 118 j = zI (zsI w37M 107 13 (0 : Int32)) 18 j := fun j hj => by rw [w56e]; exact (congrFun zRs j).trans (zcpy0 (by omega) (by omega) hj)
    rw [← w56e]
    refine zs_vret (pc := 29) t24_29 mr24 ?_
    show zGo X l 2 0 0 23 204 [(0, .ref 107), (1, .ref 7)] [] w56M _
    have w57 : (zI w56M 107 0).toInt = (zI M 7 0).toInt := (congrArg Int32.toInt ((w56F 107 0 rfl).trans ((zIoj (by decide)).trans ((w37F 107 0 rfl).trans ((w33F 107 0 rfl).trans ((w30F 107 0 rfl).trans ((w27F 107 0 rfl).trans ((zIoj (by decide)).trans ((w22F 107 0 rfl).trans ((w19F 107 0 rfl).trans ((w16F 107 0 rfl).trans ((w13F 107 0 rfl).trans ((zIoj (by decide)).trans ((w8F 107 0 rfl).trans ((w5F 107 0 rfl).trans zIs))))))))))))))).trans rfl
    have w58 : (zI w56M 107 3).toInt = (zI M 7 3).toInt := (congrArg Int32.toInt ((w56F 107 3 rfl).trans ((zIoj (by decide)).trans ((w37F 107 3 rfl).trans ((w33F 107 3 rfl).trans ((w30F 107 3 rfl).trans ((w27F 107 3 rfl).trans ((zIoj (by decide)).trans ((w22F 107 3 rfl).trans ((w19F 107 3 rfl).trans ((w16F 107 3 rfl).trans ((w13F 107 3 rfl).trans zIs)))))))))))).trans rfl
    have w59 : (zI w56M 107 8).toInt = (zI M 7 8).toInt := (congrArg Int32.toInt ((w56F 107 8 rfl).trans ((zIoj (by decide)).trans ((w37F 107 8 rfl).trans ((w33F 107 8 rfl).trans ((w30F 107 8 rfl).trans ((w27F 107 8 rfl).trans zIs))))))).trans rfl
    have w60 : (zI w56M 107 13).toInt = 0 := (congrArg Int32.toInt ((w56F 107 13 rfl).trans zIs)).trans li0
    have w61 : (zI (zsI M 107 0 (zI M 7 0)) 7 0).toInt = (zI M 7 0).toInt := (congrArg Int32.toInt ((zIo (by decide)).trans rfl)).trans rfl
    have w62 : (zI (zsI M 107 0 (zI M 7 0)) 7 3).toInt = (zI M 7 3).toInt := (congrArg Int32.toInt ((zIo (by decide)).trans rfl)).trans rfl
    have w63 : (zI (zsI M 107 0 (zI M 7 0)) 7 8).toInt = (zI M 7 8).toInt := (congrArg Int32.toInt ((zIo (by decide)).trans rfl)).trans rfl
    have w64 : (zI (zsI M 107 0 (zI M 7 0)) 7 13).toInt = (zI M 7 13).toInt := (congrArg Int32.toInt ((zIo (by decide)).trans rfl)).trans rfl
    exact zs_vret (pc := 204) t23_204 mr23 (hQ _ w56s w56I ((((((((((((((((zFr.refl).put rfl).trans (w5F.mono rfl)).trans (w8F.mono rfl)).put rfl).trans (w13F.mono rfl)).trans (w16F.mono rfl)).trans (w19F.mono rfl)).trans (w22F.mono rfl)).put rfl).trans (w27F.mono rfl)).trans (w30F.mono rfl)).trans (w33F.mono rfl)).trans (w37F.mono rfl)).put rfl).trans (w56F.mono rfl)) (zSo.cp x0 (by omega) (by omega) (by omega) (by omega) (fun j hj => ((((w56F 108 j rfl).trans ((zIo (by decide)).trans ((w37F 108 j rfl).trans ((w33F 108 j rfl).trans ((w30F 108 j rfl).trans ((w27F 108 j rfl).trans ((zIo (by decide)).trans ((w22F 108 j rfl).trans ((w19F 108 j rfl).trans ((w16F 108 j rfl).trans ((w13F 108 j rfl).trans ((zIo (by decide)).trans (w8F 108 j rfl))))))))))))).trans (w5C j (by omega))).trans (zIo (by decide)))) (fun j hj => ((((w56F 109 j rfl).trans ((zIo (by decide)).trans ((w37F 109 j rfl).trans ((w33F 109 j rfl).trans ((w30F 109 j rfl).trans ((w27F 109 j rfl).trans ((zIo (by decide)).trans ((w22F 109 j rfl).trans ((w19F 109 j rfl).trans ((w16F 109 j rfl).trans ((w13F 109 j rfl).trans (zIo (by decide))))))))))))).trans (w8C j (by omega))).trans ((w5F 9 j rfl).trans (zIo (by decide))))) (fun j hj => ((((w56F 110 j rfl).trans ((zIo (by decide)).trans ((w37F 110 j rfl).trans ((w33F 110 j rfl).trans ((w30F 110 j rfl).trans ((w27F 110 j rfl).trans ((zIo (by decide)).trans ((w22F 110 j rfl).trans ((w19F 110 j rfl).trans (w16F 110 j rfl)))))))))).trans (w13C j (by omega))).trans ((zIo (by decide)).trans ((w8F 10 j rfl).trans ((w5F 10 j rfl).trans (zIo (by decide))))))) (fun j hj => ((((w56F 111 j rfl).trans ((zIo (by decide)).trans ((w37F 111 j rfl).trans ((w33F 111 j rfl).trans ((w30F 111 j rfl).trans ((w27F 111 j rfl).trans ((zIo (by decide)).trans ((w22F 111 j rfl).trans (w19F 111 j rfl))))))))).trans (w16C j (by omega))).trans ((w13F 11 j rfl).trans ((zIo (by decide)).trans ((w8F 11 j rfl).trans ((w5F 11 j rfl).trans (zIo (by decide)))))))) (fun j hj => ((((w56F 112 j rfl).trans ((zIo (by decide)).trans ((w37F 112 j rfl).trans ((w33F 112 j rfl).trans ((w30F 112 j rfl).trans ((w27F 112 j rfl).trans ((zIo (by decide)).trans (w22F 112 j rfl)))))))).trans (w19C j (by omega))).trans ((w16F 12 j rfl).trans ((w13F 12 j rfl).trans ((zIo (by decide)).trans ((w8F 12 j rfl).trans ((w5F 12 j rfl).trans (zIo (by decide))))))))) (fun j hj => ((((w56F 113 j rfl).trans ((zIo (by decide)).trans ((w37F 113 j rfl).trans ((w33F 113 j rfl).trans ((w30F 113 j rfl).trans ((w27F 113 j rfl).trans (zIo (by decide)))))))).trans (w22C j (by omega))).trans ((w19F 13 j rfl).trans ((w16F 13 j rfl).trans ((w13F 13 j rfl).trans ((zIo (by decide)).trans ((w8F 13 j rfl).trans ((w5F 13 j rfl).trans (zIo (by decide)))))))))) (fun j hj => ((((w56F 114 j rfl).trans ((zIo (by decide)).trans ((w37F 114 j rfl).trans ((w33F 114 j rfl).trans (w30F 114 j rfl))))).trans (w27C j (by omega))).trans ((zIo (by decide)).trans ((w22F 14 j rfl).trans ((w19F 14 j rfl).trans ((w16F 14 j rfl).trans ((w13F 14 j rfl).trans ((zIo (by decide)).trans ((w8F 14 j rfl).trans ((w5F 14 j rfl).trans (zIo (by decide)))))))))))) (fun j hj => ((((w56F 115 j rfl).trans ((zIo (by decide)).trans ((w37F 115 j rfl).trans (w33F 115 j rfl)))).trans (w30C j (by omega))).trans ((w27F 15 j rfl).trans ((zIo (by decide)).trans ((w22F 15 j rfl).trans ((w19F 15 j rfl).trans ((w16F 15 j rfl).trans ((w13F 15 j rfl).trans ((zIo (by decide)).trans ((w8F 15 j rfl).trans ((w5F 15 j rfl).trans (zIo (by decide))))))))))))) (fun j hj => ((((w56F 116 j rfl).trans ((zIo (by decide)).trans (w37F 116 j rfl))).trans (w33C j (by omega))).trans ((w30F 16 j rfl).trans ((w27F 16 j rfl).trans ((zIo (by decide)).trans ((w22F 16 j rfl).trans ((w19F 16 j rfl).trans ((w16F 16 j rfl).trans ((w13F 16 j rfl).trans ((zIo (by decide)).trans ((w8F 16 j rfl).trans ((w5F 16 j rfl).trans (zIo (by decide)))))))))))))) (fun j hj => ((((w56F 117 j rfl).trans (zIo (by decide))).trans (w37C j (by omega))).trans ((w33F 17 j rfl).trans ((w30F 17 j rfl).trans ((w27F 17 j rfl).trans ((zIo (by decide)).trans ((w22F 17 j rfl).trans ((w19F 17 j rfl).trans ((w16F 17 j rfl).trans ((w13F 17 j rfl).trans ((zIo (by decide)).trans ((w8F 17 j rfl).trans ((w5F 17 j rfl).trans (zIo (by decide))))))))))))))) (fun j hj => ((w56C j (by omega)).trans ((zIo (by decide)).trans ((w37F 18 j rfl).trans ((w33F 18 j rfl).trans ((w30F 18 j rfl).trans ((w27F 18 j rfl).trans ((zIo (by decide)).trans ((w22F 18 j rfl).trans ((w19F 18 j rfl).trans ((w16F 18 j rfl).trans ((w13F 18 j rfl).trans ((zIo (by decide)).trans ((w8F 18 j rfl).trans ((w5F 18 j rfl).trans (zIo (by decide)))))))))))))))))))
