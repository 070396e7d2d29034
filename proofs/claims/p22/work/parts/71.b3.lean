theorem X23_119_7 {X : zX} {l : Launch} {M : zM} {Q : Option Value → zM → Prop} (hs : zSk zMc M) (hI : zIv cLo cHi M) {F : Nat → Int} (x0 : zSo M 7 F) (hQ : ∀ M', zSk zMc M' → zIv cLo cHi M' → zFr [(119, 119, none), (120, 130, none)] M M' → (zSo M' 119 F) → Q none M') : zCall X l 2 0 0 23 [.ref 119, .ref 7] M Q := by
  refine zs_in (by decide) mf23 (Nat.le_of_ble_eq_true rfl) ?_
  show zGo X l 2 0 0 23 0 [(0, .ref 119), (1, .ref 7)] [] M _
  refine zs_aload_n (pc := 0) t23_0 rfl ?_
  refine zs_aload_n (pc := 1) t23_1 rfl ?_
  have w1 := ib7_0 hI
  refine zs_get (pc := 2) t23_2 (by decide) (zk1 (hs.k fk_zMc_7)) (zfvi rfl rfl) ?_
  have w2 : zIv cLo cHi (zsI M 119 0 (zI M 7 0)) := zIv.put hI (show 0 ≤ (zI M 7 0).toInt ∧ (zI M 7 0).toInt ≤ 8 from ⟨by omega, by omega⟩)
  refine zs_putI (pc := 5) t23_5 (zk1 (hs.k fk_zMc_119)) rfl ?_
  refine zs_aload_n (pc := 8) t23_8 rfl ?_
  refine zs_get (pc := 9) t23_9 (by decide) (zk1 (hs.k fk_zMc_7)) (hs.p rfl fv_zMc_7_1) ?_
  refine zs_iconst (pc := 12) t23_12 (v := 0) (by decide) ?_
  refine zs_aload_n (pc := 13) t23_13 rfl ?_
  refine zs_get (pc := 14) t23_14 (by decide) (zk1 (hs.k fk_zMc_119)) (hs.p rfl fv_zMc_119_1) ?_
  refine zs_iconst (pc := 17) t23_17 (v := 0) (by decide) ?_
  refine zs_aload_n (pc := 18) t23_18 rfl ?_
  refine zs_get (pc := 19) t23_19 (by decide) (zk1 (hs.k fk_zMc_119)) (zfvi rfl zIs) ?_
  have w3 : (0 : Int32).toInt = 0 := li0
  have w4 : (0 : Int32).toInt = 0 := li0
  refine zs_copy (pc := 22) t23_22 (hs.k fk_zMc_8) (hs.k fk_zMc_120) (by decide) (by decide) (by decide) ⟨by omega, by omega, by omega⟩ (by omega) (by omega) ⟨Nat.le_of_ble_eq_true rfl, by decide⟩ ?_
  obtain ⟨w5M, w5e⟩ : ∃ N, N = zsR (zsI M 119 0 (zI M 7 0)) 120 (va_cpy (zI (zsI M 119 0 (zI M 7 0)) 8) (zI (zsI M 119 0 (zI M 7 0)) 120) (0 : Int32).toNatClampNeg (0 : Int32).toNatClampNeg (zI M 7 0).toNatClampNeg) := ⟨_, rfl⟩
  have w5s : zSk zMc w5M := by rw [w5e]; exact hs
  have w5I : zIv cLo cHi w5M := by rw [w5e]; exact zIv.row w2 (fun _ => zrg _)
  have w5F : zFr [(120, 120, none)] (zsI M 119 0 (zI M 7 0)) w5M := by rw [w5e]; exact zFr.row zFr.refl (fun _ => rfl)
  have w5C : ∀ j : Nat, (j : Int) < (zI M 7 0).toInt → zI w5M 120 j = zI (zsI M 119 0 (zI M 7 0)) 8 j := fun j hj => by rw [w5e]; exact (congrFun zRs j).trans (zcpy0 (by omega) (by omega) hj)
  rw [← w5e]
  refine zs_aload_n (pc := 25) t23_25 rfl ?_
  refine zs_get (pc := 26) t23_26 (by decide) (zk1 (w5s.k fk_zMc_7)) (w5s.p rfl fv_zMc_7_2) ?_
  refine zs_iconst (pc := 29) t23_29 (v := 0) (by decide) ?_
  refine zs_aload_n (pc := 30) t23_30 rfl ?_
  refine zs_get (pc := 31) t23_31 (by decide) (zk1 (w5s.k fk_zMc_119)) (w5s.p rfl fv_zMc_119_2) ?_
  refine zs_iconst (pc := 34) t23_34 (v := 0) (by decide) ?_
  refine zs_aload_n (pc := 35) t23_35 rfl ?_
  refine zs_get (pc := 36) t23_36 (by decide) (zk1 (w5s.k fk_zMc_119)) (zfvi rfl ((w5F 119 0 rfl).trans zIs)) ?_
  have w6 : (0 : Int32).toInt = 0 := li0
  have w7 : (0 : Int32).toInt = 0 := li0
  refine zs_copy (pc := 39) t23_39 (w5s.k fk_zMc_9) (w5s.k fk_zMc_121) (by decide) (by decide) (by decide) ⟨by omega, by omega, by omega⟩ (by omega) (by omega) ⟨Nat.le_of_ble_eq_true rfl, by decide⟩ ?_
  obtain ⟨w8M, w8e⟩ : ∃ N, N = zsR w5M 121 (va_cpy (zI w5M 9) (zI w5M 121) (0 : Int32).toNatClampNeg (0 : Int32).toNatClampNeg (zI M 7 0).toNatClampNeg) := ⟨_, rfl⟩
  have w8s : zSk zMc w8M := by rw [w8e]; exact w5s
  have w8I : zIv cLo cHi w8M := by rw [w8e]; exact zIv.row w5I (fun _ => zcpyB (fun j => ib9 w5I j) (fun j => ib121 w5I j))
  have w8F : zFr [(121, 121, none)] w5M w8M := by rw [w8e]; exact zFr.row zFr.refl (fun _ => rfl)
  have w8C : ∀ j : Nat, (j : Int) < (zI M 7 0).toInt → zI w8M 121 j = zI w5M 9 j := fun j hj => by rw [w8e]; exact (congrFun zRs j).trans (zcpy0 (by omega) (by omega) hj)
  rw [← w8e]
  refine zs_aload_n (pc := 42) t23_42 rfl ?_
  refine zs_aload_n (pc := 43) t23_43 rfl ?_
  have w9 := ib7_3 hI
  refine zs_get (pc := 44) t23_44 (by decide) (zk1 (w8s.k fk_zMc_7)) (zfvi rfl ((w8F 7 3 rfl).trans ((w5F 7 3 rfl).trans ((zIo (by decide)).trans rfl)))) ?_
  have w10 : zIv cLo cHi (zsI w8M 119 3 (zI M 7 3)) := zIv.put w8I (show 0 ≤ (zI M 7 3).toInt ∧ (zI M 7 3).toInt ≤ 60 from ⟨by omega, by omega⟩)
  refine zs_putI (pc := 47) t23_47 (zk1 (w8s.k fk_zMc_119)) rfl ?_
  refine zs_aload_n (pc := 50) t23_50 rfl ?_
  refine zs_get (pc := 51) t23_51 (by decide) (zk1 (w8s.k fk_zMc_7)) (w8s.p rfl fv_zMc_7_4) ?_
  refine zs_iconst (pc := 54) t23_54 (v := 0) (by decide) ?_
  refine zs_aload_n (pc := 55) t23_55 rfl ?_
  refine zs_get (pc := 56) t23_56 (by decide) (zk1 (w8s.k fk_zMc_119)) (w8s.p rfl fv_zMc_119_4) ?_
  refine zs_iconst (pc := 59) t23_59 (v := 0) (by decide) ?_
  refine zs_aload_n (pc := 60) t23_60 rfl ?_
  refine zs_get (pc := 61) t23_61 (by decide) (zk1 (w8s.k fk_zMc_119)) (zfvi rfl zIs) ?_
  have w11 : (0 : Int32).toInt = 0 := li0
  have w12 : (0 : Int32).toInt = 0 := li0
  refine zs_copy (pc := 64) t23_64 (w8s.k fk_zMc_10) (w8s.k fk_zMc_122) (by decide) (by decide) (by decide) ⟨by omega, by omega, by omega⟩ (by omega) (by omega) ⟨Nat.le_of_ble_eq_true rfl, by decide⟩ ?_
  obtain ⟨w13M, w13e⟩ : ∃ N, N = zsR (zsI w8M 119 3 (zI M 7 3)) 122 (va_cpy (zI (zsI w8M 119 3 (zI M 7 3)) 10) (zI (zsI w8M 119 3 (zI M 7 3)) 122) (0 : Int32).toNatClampNeg (0 : Int32).toNatClampNeg (zI M 7 3).toNatClampNeg) := ⟨_, rfl⟩
  have w13s : zSk zMc w13M := by rw [w13e]; exact w8s
  have w13I : zIv cLo cHi w13M := by rw [w13e]; exact zIv.row w10 (fun _ => zcpyB (fun j => ib10 w10 j) (fun j => ib122 w10 j))
  have w13F : zFr [(122, 122, none)] (zsI w8M 119 3 (zI M 7 3)) w13M := by rw [w13e]; exact zFr.row zFr.refl (fun _ => rfl)
  have w13C : ∀ j : Nat, (j : Int) < (zI M 7 3).toInt → zI w13M 122 j = zI (zsI w8M 119 3 (zI M 7 3)) 10 j := fun j hj => by rw [w13e]; exact (congrFun zRs j).trans (zcpy0 (by omega) (by omega) hj)
  rw [← w13e]
  refine zs_aload_n (pc := 67) t23_67 rfl ?_
  refine zs_get (pc := 68) t23_68 (by decide) (zk1 (w13s.k fk_zMc_7)) (w13s.p rfl fv_zMc_7_5) ?_
  refine zs_iconst (pc := 71) t23_71 (v := 0) (by decide) ?_
  refine zs_aload_n (pc := 72) t23_72 rfl ?_
  refine zs_get (pc := 73) t23_73 (by decide) (zk1 (w13s.k fk_zMc_119)) (w13s.p rfl fv_zMc_119_5) ?_
  refine zs_iconst (pc := 76) t23_76 (v := 0) (by decide) ?_
  refine zs_aload_n (pc := 77) t23_77 rfl ?_
  refine zs_get (pc := 78) t23_78 (by decide) (zk1 (w13s.k fk_zMc_119)) (zfvi rfl ((w13F 119 3 rfl).trans zIs)) ?_
  have w14 : (0 : Int32).toInt = 0 := li0
  have w15 : (0 : Int32).toInt = 0 := li0
  refine zs_copy (pc := 81) t23_81 (w13s.k fk_zMc_11) (w13s.k fk_zMc_123) (by decide) (by decide) (by decide) ⟨by omega, by omega, by omega⟩ (by omega) (by omega) ⟨Nat.le_of_ble_eq_true rfl, by decide⟩ ?_
  obtain ⟨w16M, w16e⟩ : ∃ N, N = zsR w13M 123 (va_cpy (zI w13M 11) (zI w13M 123) (0 : Int32).toNatClampNeg (0 : Int32).toNatClampNeg (zI M 7 3).toNatClampNeg) := ⟨_, rfl⟩
  have w16s : zSk zMc w16M := by rw [w16e]; exact w13s
  have w16I : zIv cLo cHi w16M := by rw [w16e]; exact zIv.row w13I (fun _ => zrg _)
  have w16F : zFr [(123, 123, none)] w13M w16M := by rw [w16e]; exact zFr.row zFr.refl (fun _ => rfl)
  have w16C : ∀ j : Nat, (j : Int) < (zI M 7 3).toInt → zI w16M 123 j = zI w13M 11 j := fun j hj => by rw [w16e]; exact (congrFun zRs j).trans (zcpy0 (by omega) (by omega) hj)
  rw [← w16e]
  refine zs_aload_n (pc := 84) t23_84 rfl ?_
  refine zs_get (pc := 85) t23_85 (by decide) (zk1 (w16s.k fk_zMc_7)) (w16s.p rfl fv_zMc_7_6) ?_
  refine zs_iconst (pc := 88) t23_88 (v := 0) (by decide) ?_
  refine zs_aload_n (pc := 89) t23_89 rfl ?_
  refine zs_get (pc := 90) t23_90 (by decide) (zk1 (w16s.k fk_zMc_119)) (w16s.p rfl fv_zMc_119_6) ?_
  refine zs_iconst (pc := 93) t23_93 (v := 0) (by decide) ?_
  refine zs_aload_n (pc := 94) t23_94 rfl ?_
  refine zs_get (pc := 95) t23_95 (by decide) (zk1 (w16s.k fk_zMc_119)) (zfvi rfl ((w16F 119 3 rfl).trans ((w13F 119 3 rfl).trans zIs))) ?_
  have w17 : (0 : Int32).toInt = 0 := li0
  have w18 : (0 : Int32).toInt = 0 := li0
  refine zs_copy (pc := 98) t23_98 (w16s.k fk_zMc_12) (w16s.k fk_zMc_124) (by decide) (by decide) (by decide) ⟨by omega, by omega, by omega⟩ (by omega) (by omega) ⟨Nat.le_of_ble_eq_true rfl, by decide⟩ ?_
  obtain ⟨w19M, w19e⟩ : ∃ N, N = zsR w16M 124 (va_cpy (zI w16M 12) (zI w16M 124) (0 : Int32).toNatClampNeg (0 : Int32).toNatClampNeg (zI M 7 3).toNatClampNeg) := ⟨_, rfl⟩
  have w19s : zSk zMc w19M := by rw [w19e]; exact w16s
  have w19I : zIv cLo cHi w19M := by rw [w19e]; exact zIv.row w16I (fun _ => zrg _)
  have w19F : zFr [(124, 124, none)] w16M w19M := by rw [w19e]; exact zFr.row zFr.refl (fun _ => rfl)
  have w19C : ∀ j : Nat, (j : Int) < (zI M 7 3).toInt → zI w19M 124 j = zI w16M 12 j := fun j hj => by rw [w19e]; exact (congrFun zRs j).trans (zcpy0 (by omega) (by omega) hj)
  rw [← w19e]
  refine zs_aload_n (pc := 101) t23_101 rfl ?_
  refine zs_get (pc := 102) t23_102 (by decide) (zk1 (w19s.k fk_zMc_7)) (w19s.p rfl fv_zMc_7_7) ?_
  refine zs_iconst (pc := 105) t23_105 (v := 0) (by decide) ?_
  refine zs_aload_n (pc := 106) t23_106 rfl ?_
  refine zs_get (pc := 107) t23_107 (by decide) (zk1 (w19s.k fk_zMc_119)) (w19s.p rfl fv_zMc_119_7) ?_
  refine zs_iconst (pc := 110) t23_110 (v := 0) (by decide) ?_
  refine zs_aload_n (pc := 111) t23_111 rfl ?_
  refine zs_get (pc := 112) t23_112 (by decide) (zk1 (w19s.k fk_zMc_119)) (zfvi rfl ((w19F 119 3 rfl).trans ((w16F 119 3 rfl).trans ((w13F 119 3 rfl).trans zIs)))) ?_
  have w20 : (0 : Int32).toInt = 0 := li0
  have w21 : (0 : Int32).toInt = 0 := li0
  refine zs_copy (pc := 115) t23_115 (w19s.k fk_zMc_13) (w19s.k fk_zMc_125) (by decide) (by decide) (by decide) ⟨by omega, by omega, by omega⟩ (by omega) (by omega) ⟨Nat.le_of_ble_eq_true rfl, by decide⟩ ?_
  obtain ⟨w22M, w22e⟩ : ∃ N, N = zsR w19M 125 (va_cpy (zI w19M 13) (zI w19M 125) (0 : Int32).toNatClampNeg (0 : Int32).toNatClampNeg (zI M 7 3).toNatClampNeg) := ⟨_, rfl⟩
  have w22s : zSk zMc w22M := by rw [w22e]; exact w19s
  have w22I : zIv cLo cHi w22M := by rw [w22e]; exact zIv.row w19I (fun _ => zrg _)
  have w22F : zFr [(125, 125, none)] w19M w22M := by rw [w22e]; exact zFr.row zFr.refl (fun _ => rfl)
  have w22C : ∀ j : Nat, (j : Int) < (zI M 7 3).toInt → zI w22M 125 j = zI w19M 13 j := fun j hj => by rw [w22e]; exact (congrFun zRs j).trans (zcpy0 (by omega) (by omega) hj)
  rw [← w22e]
  refine zs_aload_n (pc := 118) t23_118 rfl ?_
  refine zs_aload_n (pc := 119) t23_119 rfl ?_
  have w23 := ib7_8 hI
  refine zs_get (pc := 120) t23_120 (by decide) (zk1 (w22s.k fk_zMc_7)) (zfvi rfl ((w22F 7 8 rfl).trans ((w19F 7 8 rfl).trans ((w16F 7 8 rfl).trans ((w13F 7 8 rfl).trans ((zIo (by decide)).trans ((w8F 7 8 rfl).trans ((w5F 7 8 rfl).trans ((zIo (by decide)).trans rfl))))))))) ?_
  have w24 : zIv cLo cHi (zsI w22M 119 8 (zI M 7 8)) := zIv.put w22I (show 0 ≤ (zI M 7 8).toInt ∧ (zI M 7 8).toInt ≤ 12 from ⟨by omega, by omega⟩)
  refine zs_putI (pc := 123) t23_123 (zk1 (w22s.k fk_zMc_119)) rfl ?_
  refine zs_aload_n (pc := 126) t23_126 rfl ?_
  refine zs_get (pc := 127) t23_127 (by decide) (zk1 (w22s.k fk_zMc_7)) (w22s.p rfl fv_zMc_7_9) ?_
  refine zs_iconst (pc := 130) t23_130 (v := 0) (by decide) ?_
  refine zs_aload_n (pc := 131) t23_131 rfl ?_
  refine zs_get (pc := 132) t23_132 (by decide) (zk1 (w22s.k fk_zMc_119)) (w22s.p rfl fv_zMc_119_9) ?_
  refine zs_iconst (pc := 135) t23_135 (v := 0) (by decide) ?_
  refine zs_aload_n (pc := 136) t23_136 rfl ?_
  refine zs_get (pc := 137) t23_137 (by decide) (zk1 (w22s.k fk_zMc_119)) (zfvi rfl zIs) ?_
  have w25 : (0 : Int32).toInt = 0 := li0
  have w26 : (0 : Int32).toInt = 0 := li0
  refine zs_copy (pc := 140) t23_140 (w22s.k fk_zMc_14) (w22s.k fk_zMc_126) (by decide) (by decide) (by decide) ⟨by omega, by omega, by omega⟩ (by omega) (by omega) ⟨Nat.le_of_ble_eq_true rfl, by decide⟩ ?_
  obtain ⟨w27M, w27e⟩ : ∃ N, N = zsR (zsI w22M 119 8 (zI M 7 8)) 126 (va_cpy (zI (zsI w22M 119 8 (zI M 7 8)) 14) (zI (zsI w22M 119 8 (zI M 7 8)) 126) (0 : Int32).toNatClampNeg (0 : Int32).toNatClampNeg (zI M 7 8).toNatClampNeg) := ⟨_, rfl⟩
  have w27s : zSk zMc w27M := by rw [w27e]; exact w22s
  have w27I : zIv cLo cHi w27M := by rw [w27e]; exact zIv.row w24 (fun _ => zrg _)
  have w27F : zFr [(126, 126, none)] (zsI w22M 119 8 (zI M 7 8)) w27M := by rw [w27e]; exact zFr.row zFr.refl (fun _ => rfl)
  have w27C : ∀ j : Nat, (j : Int) < (zI M 7 8).toInt → zI w27M 126 j = zI (zsI w22M 119 8 (zI M 7 8)) 14 j := fun j hj => by rw [w27e]; exact (congrFun zRs j).trans (zcpy0 (by omega) (by omega) hj)
  rw [← w27e]
  refine zs_aload_n (pc := 143) t23_143 rfl ?_
  refine zs_get (pc := 144) t23_144 (by decide) (zk1 (w27s.k fk_zMc_7)) (w27s.p rfl fv_zMc_7_10) ?_
  refine zs_iconst (pc := 147) t23_147 (v := 0) (by decide) ?_
  refine zs_aload_n (pc := 148) t23_148 rfl ?_
  refine zs_get (pc := 149) t23_149 (by decide) (zk1 (w27s.k fk_zMc_119)) (w27s.p rfl fv_zMc_119_10) ?_
  refine zs_iconst (pc := 152) t23_152 (v := 0) (by decide) ?_
  refine zs_aload_n (pc := 153) t23_153 rfl ?_
  refine zs_get (pc := 154) t23_154 (by decide) (zk1 (w27s.k fk_zMc_119)) (zfvi rfl ((w27F 119 8 rfl).trans zIs)) ?_
  have w28 : (0 : Int32).toInt = 0 := li0
  have w29 : (0 : Int32).toInt = 0 := li0
  refine zs_copy (pc := 157) t23_157 (w27s.k fk_zMc_15) (w27s.k fk_zMc_127) (by decide) (by decide) (by decide) ⟨by omega, by omega, by omega⟩ (by omega) (by omega) ⟨Nat.le_of_ble_eq_true rfl, by decide⟩ ?_
  obtain ⟨w30M, w30e⟩ : ∃ N, N = zsR w27M 127 (va_cpy (zI w27M 15) (zI w27M 127) (0 : Int32).toNatClampNeg (0 : Int32).toNatClampNeg (zI M 7 8).toNatClampNeg) := ⟨_, rfl⟩
  have w30s : zSk zMc w30M := by rw [w30e]; exact w27s
  have w30I : zIv cLo cHi w30M := by rw [w30e]; exact zIv.row w27I (fun _ => zrg _)
  have w30F : zFr [(127, 127, none)] w27M w30M := by rw [w30e]; exact zFr.row zFr.refl (fun _ => rfl)
  have w30C : ∀ j : Nat, (j : Int) < (zI M 7 8).toInt → zI w30M 127 j = zI w27M 15 j := fun j hj => by rw [w30e]; exact (congrFun zRs j).trans (zcpy0 (by omega) (by omega) hj)
  rw [← w30e]
  refine zs_aload_n (pc := 160) t23_160 rfl ?_
  refine zs_get (pc := 161) t23_161 (by decide) (zk1 (w30s.k fk_zMc_7)) (w30s.p rfl fv_zMc_7_11) ?_
  refine zs_iconst (pc := 164) t23_164 (v := 0) (by decide) ?_
  refine zs_aload_n (pc := 165) t23_165 rfl ?_
  refine zs_get (pc := 166) t23_166 (by decide) (zk1 (w30s.k fk_zMc_119)) (w30s.p rfl fv_zMc_119_11) ?_
  refine zs_iconst (pc := 169) t23_169 (v := 0) (by decide) ?_
  refine zs_aload_n (pc := 170) t23_170 rfl ?_
  refine zs_get (pc := 171) t23_171 (by decide) (zk1 (w30s.k fk_zMc_119)) (zfvi rfl ((w30F 119 8 rfl).trans ((w27F 119 8 rfl).trans zIs))) ?_
  have w31 : (0 : Int32).toInt = 0 := li0
  have w32 : (0 : Int32).toInt = 0 := li0
  refine zs_copy (pc := 174) t23_174 (w30s.k fk_zMc_16) (w30s.k fk_zMc_128) (by decide) (by decide) (by decide) ⟨by omega, by omega, by omega⟩ (by omega) (by omega) ⟨Nat.le_of_ble_eq_true rfl, by decide⟩ ?_
  obtain ⟨w33M, w33e⟩ : ∃ N, N = zsR w30M 128 (va_cpy (zI w30M 16) (zI w30M 128) (0 : Int32).toNatClampNeg (0 : Int32).toNatClampNeg (zI M 7 8).toNatClampNeg) := ⟨_, rfl⟩
  have w33s : zSk zMc w33M := by rw [w33e]; exact w30s
  have w33I : zIv cLo cHi w33M := by rw [w33e]; exact zIv.row w30I (fun _ => zrg _)
  have w33F : zFr [(128, 128, none)] w30M w33M := by rw [w33e]; exact zFr.row zFr.refl (fun _ => rfl)
  have w33C : ∀ j : Nat, (j : Int) < (zI M 7 8).toInt → zI w33M 128 j = zI w30M 16 j := fun j hj => by rw [w33e]; exact (congrFun zRs j).trans (zcpy0 (by omega) (by omega) hj)
  rw [← w33e]
  refine zs_aload_n (pc := 177) t23_177 rfl ?_
  refine zs_get (pc := 178) t23_178 (by decide) (zk1 (w33s.k fk_zMc_7)) (w33s.p rfl fv_zMc_7_12) ?_
  refine zs_iconst (pc := 181) t23_181 (v := 0) (by decide) ?_
  refine zs_aload_n (pc := 182) t23_182 rfl ?_
  refine zs_get (pc := 183) t23_183 (by decide) (zk1 (w33s.k fk_zMc_119)) (w33s.p rfl fv_zMc_119_12) ?_
  refine zs_iconst (pc := 186) t23_186 (v := 0) (by decide) ?_
  refine zs_bipush (pc := 187) t23_187 (v := 9) (by decide) ?_
  have w34 : (9 : Int32).toInt = 9 := li9
  have w35 : (0 : Int32).toInt = 0 := li0
  have w36 : (0 : Int32).toInt = 0 := li0
  refine zs_copy (pc := 189) t23_189 (w33s.k fk_zMc_17) (w33s.k fk_zMc_129) (by decide) (by decide) (by decide) ⟨by omega, by omega, by omega⟩ (by omega) (by omega) ⟨Nat.le_of_ble_eq_true rfl, by decide⟩ ?_
  obtain ⟨w37M, w37e⟩ : ∃ N, N = zsR w33M 129 (va_cpy (zI w33M 17) (zI w33M 129) (0 : Int32).toNatClampNeg (0 : Int32).toNatClampNeg (9 : Int32).toNatClampNeg) := ⟨_, rfl⟩
  have w37s : zSk zMc w37M := by rw [w37e]; exact w33s
  have w37I : zIv cLo cHi w37M := by rw [w37e]; exact zIv.row w33I (fun _ => zcpyB (fun j => ib17 w33I j) (fun j => ib129 w33I j))
  have w37F : zFr [(129, 129, none)] w33M w37M := by rw [w37e]; exact zFr.row zFr.refl (fun _ => rfl)
  have w37C : ∀ j : Nat, (j : Int) < (9 : Int32).toInt → zI w37M 129 j = zI w33M 17 j := fun j hj => by rw [w37e]; exact (congrFun zRs j).trans (zcpy0 (by omega) (by omega) hj)
  rw [← w37e]
  refine zs_aload_n (pc := 192) t23_192 rfl ?_
  refine zs_aload_n (pc := 193) t23_193 rfl ?_
  refine zs_get (pc := 194) t23_194 (by decide) (zk1 (w37s.k fk_zMc_7)) (w37s.p rfl fv_zMc_7_14) ?_
  refine zs_aload_n (pc := 197) t23_197 rfl ?_
  have w38 := ib7_13 hI
  refine zs_get (pc := 198) t23_198 (by decide) (zk1 (w37s.k fk_zMc_7)) (zfvi rfl ((w37F 7 13 rfl).trans ((w33F 7 13 rfl).trans ((w30F 7 13 rfl).trans ((w27F 7 13 rfl).trans ((zIo (by decide)).trans ((w22F 7 13 rfl).trans ((w19F 7 13 rfl).trans ((w16F 7 13 rfl).trans ((w13F 7 13 rfl).trans ((zIo (by decide)).trans ((w8F 7 13 rfl).trans ((w5F 7 13 rfl).trans ((zIo (by decide)).trans rfl)))))))))))))) ?_
  refine zs_invV (pc := 201) (k := 119) (as' := [.ref 18, .int (zI M 7 13)]) (st := []) t23_201 mf24 rfl rfl (Or.inl ⟨by decide, (zk1 (w37s.k fk_zMc_119))⟩) ⟨by decide, by decide, Nat.le_of_ble_eq_true rfl, Nat.le_of_ble_eq_true rfl⟩ (zs_in (by decide) mf24 (Nat.le_of_ble_eq_true rfl) ?_) (fun _ _ q => q)
  show zGo X l 1 0 0 24 0 [(0, .ref 119), (1, .ref 18), (2, .int (zI M 7 13))] [] w37M _
  refine zs_aload_n (pc := 0) t24_0 rfl ?_
  refine zs_iconst (pc := 1) t24_1 (v := 0) (by decide) ?_
  refine zs_iload_n (pc := 2) t24_2 rfl ?_
  refine zs_sipush (pc := 3) t24_3 (v := 500) (by decide) ?_
  refine zs_invS (pc := 6) (as := [.int (zI M 7 13), .int (500 : Int32)]) (st := [.int (0 : Int32), .ref 119]) t24_6 (by decide) mf20 rfl rfl ⟨by decide, by decide, Nat.le_of_ble_eq_true rfl, Nat.le_of_ble_eq_true rfl⟩ (zs_in (by decide) mf20 (Nat.le_of_ble_eq_true rfl) ?_) (fun _ _ q => q)
  show zGo X l 0 0 0 20 0 [(0, .int (zI M 7 13)), (1, .int (500 : Int32))] [] w37M _
  refine zs_iload_n (pc := 0) t20_0 rfl ?_
  refine zs_iload_n (pc := 1) t20_1 rfl ?_
  refine zs_icmp_gtF (pc := 2) t20_2 rfl li500 (by omega) ?_
  refine zs_iload_n (pc := 5) t20_5 rfl ?_
  refine zs_goto (pc := 6) t20_6 ?_
  refine zs_iret (pc := 10) t20_10 mr20 rfl ?_
  show zGo X l 1 0 0 24 9 [(0, .ref 119), (1, .ref 18), (2, .int (zI M 7 13))] [.int (zI M 7 13), .int (0 : Int32), .ref 119] w37M _
  refine zs_invS (pc := 9) (as := [.int (0 : Int32), .int (zI M 7 13)]) (st := [.ref 119]) t24_9 (by decide) mf21 rfl rfl ⟨by decide, by decide, Nat.le_of_ble_eq_true rfl, Nat.le_of_ble_eq_true rfl⟩ (zs_in (by decide) mf21 (Nat.le_of_ble_eq_true rfl) ?_) (fun _ _ q => q)
  show zGo X l 0 0 0 21 0 [(0, .int (0 : Int32)), (1, .int (zI M 7 13))] [] w37M _
  refine zs_iload_n (pc := 0) t21_0 rfl ?_
  refine zs_iload_n (pc := 1) t21_1 rfl ?_
  by_cases w39 : 0 < (zI M 7 13).toInt
  · refine zs_icmp_ltT (pc := 2) t21_2 li0 rfl (by omega) ?_
    refine zs_iload_n (pc := 9) t21_9 rfl ?_
    refine zs_iret (pc := 10) t21_10 mr21 rfl ?_
    show zGo X l 1 0 0 24 12 [(0, .ref 119), (1, .ref 18), (2, .int (zI M 7 13))] [.int (zI M 7 13), .ref 119] w37M _
    have w40 : zIv cLo cHi (zsI w37M 119 13 (zI M 7 13)) := zIv.put w37I (show 0 ≤ (zI M 7 13).toInt ∧ (zI M 7 13).toInt ≤ 500 from ⟨by omega, by omega⟩)
    refine zs_putI (pc := 12) t24_12 (zk1 (w37s.k fk_zMc_119)) rfl ?_
    refine zs_aload_n (pc := 15) t24_15 rfl ?_
    refine zs_iconst (pc := 16) t24_16 (v := 0) (by decide) ?_
    refine zs_aload_n (pc := 17) t24_17 rfl ?_
    refine zs_get (pc := 18) t24_18 (by decide) (zk1 (w37s.k fk_zMc_119)) (w37s.p rfl fv_zMc_119_14) ?_
    refine zs_iconst (pc := 21) t24_21 (v := 0) (by decide) ?_
    refine zs_aload_n (pc := 22) t24_22 rfl ?_
    refine zs_get (pc := 23) t24_23 (by decide) (zk1 (w37s.k fk_zMc_119)) (zfvi rfl zIs) ?_
    have w41 : (0 : Int32).toInt = 0 := li0
    have w42 : (0 : Int32).toInt = 0 := li0
    refine zs_copy (pc := 26) t24_26 (w37s.k fk_zMc_18) (w37s.k fk_zMc_130) (by decide) (by decide) (by decide) ⟨by omega, by omega, by omega⟩ (by omega) (by omega) ⟨Nat.le_of_ble_eq_true rfl, by decide⟩ ?_
    obtain ⟨w43M, w43e⟩ : ∃ N, N = zsR (zsI w37M 119 13 (zI M 7 13)) 130 (va_cpy (zI (zsI w37M 119 13 (zI M 7 13)) 18) (zI (zsI w37M 119 13 (zI M 7 13)) 130) (0 : Int32).toNatClampNeg (0 : Int32).toNatClampNeg (zI M 7 13).toNatClampNeg) := ⟨_, rfl⟩
    have w43s : zSk zMc w43M := by rw [w43e]; exact w37s
    have w43I : zIv cLo cHi w43M := by rw [w43e]; exact zIv.row w40 (fun _ => zcpyB (fun j => ib18 w40 j) (fun j => ib130 w40 j))
    have w43F : zFr [(130, 130, none)] (zsI w37M 119 13 (zI M 7 13)) w43M := by rw [w43e]; exact zFr.row zFr.refl (fun _ => rfl)
    have w43C : ∀ j : Nat, (j : Int) < (zI M 7 13).toInt → zI w43M 130 j = zI (zsI w37M 119 13 (zI M 7 13)) 18 j := fun j hj => by rw [w43e]; exact (congrFun zRs j).trans (zcpy0 (by omega) (by omega) hj)
    rw [← w43e]
    refine zs_vret (pc := 29) t24_29 mr24 ?_
    show zGo X l 2 0 0 23 204 [(0, .ref 119), (1, .ref 7)] [] w43M _
    have w44 : (zI w43M 119 0).toInt = (zI M 7 0).toInt := (congrArg Int32.toInt ((w43F 119 0 rfl).trans ((zIoj (by decide)).trans ((w37F 119 0 rfl).trans ((w33F 119 0 rfl).trans ((w30F 119 0 rfl).trans ((w27F 119 0 rfl).trans ((zIoj (by decide)).trans ((w22F 119 0 rfl).trans ((w19F 119 0 rfl).trans ((w16F 119 0 rfl).trans ((w13F 119 0 rfl).trans ((zIoj (by decide)).trans ((w8F 119 0 rfl).trans ((w5F 119 0 rfl).trans zIs))))))))))))))).trans rfl
    have w45 : (zI w43M 119 3).toInt = (zI M 7 3).toInt := (congrArg Int32.toInt ((w43F 119 3 rfl).trans ((zIoj (by decide)).trans ((w37F 119 3 rfl).trans ((w33F 119 3 rfl).trans ((w30F 119 3 rfl).trans ((w27F 119 3 rfl).trans ((zIoj (by decide)).trans ((w22F 119 3 rfl).trans ((w19F 119 3 rfl).trans ((w16F 119 3 rfl).trans ((w13F 119 3 rfl).trans zIs)))))))))))).trans rfl
    have w46 : (zI w43M 119 8).toInt = (zI M 7 8).toInt := (congrArg Int32.toInt ((w43F 119 8 rfl).trans ((zIoj (by decide)).trans ((w37F 119 8 rfl).trans ((w33F 119 8 rfl).trans ((w30F 119 8 rfl).trans ((w27F 119 8 rfl).trans zIs))))))).trans rfl
    have w47 : (zI w43M 119 13).toInt = (zI M 7 13).toInt := (congrArg Int32.toInt ((w43F 119 13 rfl).trans zIs)).trans rfl
    have w48 : (zI (zsI M 119 0 (zI M 7 0)) 7 0).toInt = (zI M 7 0).toInt := (congrArg Int32.toInt ((zIo (by decide)).trans rfl)).trans rfl
    have w49 : (zI (zsI M 119 0 (zI M 7 0)) 7 3).toInt = (zI M 7 3).toInt := (congrArg Int32.toInt ((zIo (by decide)).trans rfl)).trans rfl
    have w50 : (zI (zsI M 119 0 (zI M 7 0)) 7 8).toInt = (zI M 7 8).toInt := (congrArg Int32.toInt ((zIo (by decide)).trans rfl)).trans rfl
    have w51 : (zI (zsI M 119 0 (zI M 7 0)) 7 13).toInt = (zI M 7 13).toInt := (congrArg Int32.toInt ((zIo (by decide)).trans rfl)).trans rfl
    exact zs_vret (pc := 204) t23_204 mr23 (hQ _ w43s w43I ((((((((((((((((zFr.refl).put rfl).trans (w5F.mono rfl)).trans (w8F.mono rfl)).put rfl).trans (w13F.mono rfl)).trans (w16F.mono rfl)).trans (w19F.mono rfl)).trans (w22F.mono rfl)).put rfl).trans (w27F.mono rfl)).trans (w30F.mono rfl)).trans (w33F.mono rfl)).trans (w37F.mono rfl)).put rfl).trans (w43F.mono rfl)) (zSo.cp x0 (by omega) (by omega) (by omega) (by omega) (fun j hj => ((((w43F 120 j rfl).trans ((zIo (by decide)).trans ((w37F 120 j rfl).trans ((w33F 120 j rfl).trans ((w30F 120 j rfl).trans ((w27F 120 j rfl).trans ((zIo (by decide)).trans ((w22F 120 j rfl).trans ((w19F 120 j rfl).trans ((w16F 120 j rfl).trans ((w13F 120 j rfl).trans ((zIo (by decide)).trans (w8F 120 j rfl))))))))))))).trans (w5C j (by omega))).trans (zIo (by decide)))) (fun j hj => ((((w43F 121 j rfl).trans ((zIo (by decide)).trans ((w37F 121 j rfl).trans ((w33F 121 j rfl).trans ((w30F 121 j rfl).trans ((w27F 121 j rfl).trans ((zIo (by decide)).trans ((w22F 121 j rfl).trans ((w19F 121 j rfl).trans ((w16F 121 j rfl).trans ((w13F 121 j rfl).trans (zIo (by decide))))))))))))).trans (w8C j (by omega))).trans ((w5F 9 j rfl).trans (zIo (by decide))))) (fun j hj => ((((w43F 122 j rfl).trans ((zIo (by decide)).trans ((w37F 122 j rfl).trans ((w33F 122 j rfl).trans ((w30F 122 j rfl).trans ((w27F 122 j rfl).trans ((zIo (by decide)).trans ((w22F 122 j rfl).trans ((w19F 122 j rfl).trans (w16F 122 j rfl)))))))))).trans (w13C j (by omega))).trans ((zIo (by decide)).trans ((w8F 10 j rfl).trans ((w5F 10 j rfl).trans (zIo (by decide))))))) (fun j hj => ((((w43F 123 j rfl).trans ((zIo (by decide)).trans ((w37F 123 j rfl).trans ((w33F 123 j rfl).trans ((w30F 123 j rfl).trans ((w27F 123 j rfl).trans ((zIo (by decide)).trans ((w22F 123 j rfl).trans (w19F 123 j rfl))))))))).trans (w16C j (by omega))).trans ((w13F 11 j rfl).trans ((zIo (by decide)).trans ((w8F 11 j rfl).trans ((w5F 11 j rfl).trans (zIo (by decide)))))))) (fun j hj => ((((w43F 124 j rfl).trans ((zIo (by decide)).trans ((w37F 124 j rfl).trans ((w33F 124 j rfl).trans ((w30F 124 j rfl).trans ((w27F 124 j rfl).trans ((zIo (by decide)).trans (w22F 124 j rfl)))))))).trans (w19C j (by omega))).trans ((w16F 12 j rfl).trans ((w13F 12 j rfl).trans ((zIo (by decide)).trans ((w8F 12 j rfl).trans ((w5F 12 j rfl).trans (zIo (by decide))))))))) (fun j hj => ((((w43F 125 j rfl).trans ((zIo (by decide)).trans ((w37F 125 j rfl).trans ((w33F 125 j rfl).trans ((w30F 125 j rfl).trans ((w27F 125 j rfl).trans (zIo (by decide)))))))).trans (w22C j (by omega))).trans ((w19F 13 j rfl).trans ((w16F 13 j rfl).trans ((w13F 13 j rfl).trans ((zIo (by decide)).trans ((w8F 13 j rfl).trans ((w5F 13 j rfl).trans (zIo (by decide)))))))))) (fun j hj => ((((w43F 126 j rfl).trans ((zIo (by decide)).trans ((w37F 126 j rfl).trans ((w33F 126 j rfl).trans (w30F 126 j rfl))))).trans (w27C j (by omega))).trans ((zIo (by decide)).trans ((w22F 14 j rfl).trans ((w19F 14 j rfl).trans ((w16F 14 j rfl).trans ((w13F 14 j rfl).trans ((zIo (by decide)).trans ((w8F 14 j rfl).trans ((w5F 14 j rfl).trans (zIo (by decide)))))))))))) (fun j hj => ((((w43F 127 j rfl).trans ((zIo (by decide)).trans ((w37F 127 j rfl).trans (w33F 127 j rfl)))).trans (w30C j (by omega))).trans ((w27F 15 j rfl).trans ((zIo (by decide)).trans ((w22F 15 j rfl).trans ((w19F 15 j rfl).trans ((w16F 15 j rfl).trans ((w13F 15 j rfl).trans ((zIo (by decide)).trans ((w8F 15 j rfl).trans ((w5F 15 j rfl).trans (zIo (by decide))))))))))))) (fun j hj => ((((w43F 128 j rfl).trans ((zIo (by decide)).trans (w37F 128 j rfl))).trans (w33C j (by omega))).trans ((w30F 16 j rfl).trans ((w27F 16 j rfl).trans ((zIo (by decide)).trans ((w22F 16 j rfl).trans ((w19F 16 j rfl).trans ((w16F 16 j rfl).trans ((w13F 16 j rfl).trans ((zIo (by decide)).trans ((w8F 16 j rfl).trans ((w5F 16 j rfl).trans (zIo (by decide)))))))))))))) (fun j hj => ((((w43F 129 j rfl).trans (zIo (by decide))).trans (w37C j (by omega))).trans ((w33F 17 j rfl).trans ((w30F 17 j rfl).trans ((w27F 17 j rfl).trans ((zIo (by decide)).trans ((w22F 17 j rfl).trans ((w19F 17 j rfl).trans ((w16F 17 j rfl).trans ((w13F 17 j rfl).trans ((zIo (by decide)).trans ((w8F 17 j rfl).trans ((w5F 17 j rfl).trans (zIo (by decide))))))))))))))) (fun j hj => ((w43C j (by omega)).trans ((zIo (by decide)).trans ((w37F 18 j rfl).trans ((w33F 18 j rfl).trans ((w30F 18 j rfl).trans ((w27F 18 j rfl).trans ((zIo (by decide)).trans ((w22F 18 j rfl).trans ((w19F 18 j rfl).trans ((w16F 18 j rfl).trans ((w13F 18 j rfl).trans ((zIo (by decide)).trans ((w8F 18 j rfl).trans ((w5F 18 j rfl).trans (zIo (by decide)))))))))))))))))))
  · refine zs_icmp_ltF (pc := 2) t21_2 li0 rfl (by omega) ?_
    refine zs_iload_n (pc := 5) t21_5 rfl ?_
    refine zs_goto (pc := 6) t21_6 ?_
    refine zs_iret (pc := 10) t21_10 mr21 (by decide) ?_
    show zGo X l 1 0 0 24 12 [(0, .ref 119), (1, .ref 18), (2, .int (zI M 7 13))] [.int (0 : Int32), .ref 119] w37M _
    have w52 : zIv cLo cHi (zsI w37M 119 13 (0 : Int32)) := zIv.put w37I (show 0 ≤ (0 : Int32).toInt ∧ (0 : Int32).toInt ≤ 500 from ⟨by decide, by decide⟩)
    refine zs_putI (pc := 12) t24_12 (zk1 (w37s.k fk_zMc_119)) rfl ?_
    refine zs_aload_n (pc := 15) t24_15 rfl ?_
    refine zs_iconst (pc := 16) t24_16 (v := 0) (by decide) ?_
    refine zs_aload_n (pc := 17) t24_17 rfl ?_
    refine zs_get (pc := 18) t24_18 (by decide) (zk1 (w37s.k fk_zMc_119)) (w37s.p rfl fv_zMc_119_14) ?_
    refine zs_iconst (pc := 21) t24_21 (v := 0) (by decide) ?_
    refine zs_aload_n (pc := 22) t24_22 rfl ?_
    refine zs_get (pc := 23) t24_23 (by decide) (zk1 (w37s.k fk_zMc_119)) (zfvi rfl zIs) ?_
    have w53 : (0 : Int32).toInt = 0 := li0
    have w54 : (0 : Int32).toInt = 0 := li0
    have w55 : (0 : Int32).toInt = 0 := li0
    refine zs_copy (pc := 26) t24_26 (w37s.k fk_zMc_18) (w37s.k fk_zMc_130) (by decide) (by decide) (by decide) ⟨by omega, by omega, by omega⟩ (by omega) (by omega) ⟨Nat.le_of_ble_eq_true rfl, by decide⟩ ?_
    obtain ⟨w56M, w56e⟩ : ∃ N, N = zsR (zsI w37M 119 13 (0 : Int32)) 130 (va_cpy (zI (zsI w37M 119 13 (0 : Int32)) 18) (zI (zsI w37M 119 13 (0 : Int32)) 130) (0 : Int32).toNatClampNeg (0 : Int32).toNatClampNeg (0 : Int32).toNatClampNeg) := ⟨_, rfl⟩
    have w56s : zSk zMc w56M := by rw [w56e]; exact w37s
    have w56I : zIv cLo cHi w56M := by rw [w56e]; exact zIv.row w52 (fun _ => zcpyB (fun j => ib18 w52 j) (fun j => ib130 w52 j))
    have w56F : zFr [(130, 130, none)] (zsI w37M 119 13 (0 : Int32)) w56M := by rw [w56e]; exact zFr.row zFr.refl (fun _ => rfl)
    have w56C : ∀ j : Nat, (j : Int) < (0 : Int32).toInt → zI w56M 130 j = zI (zsI w37M 119 13 (0 : Int32)) 18 j := fun j hj => by rw [w56e]; exact (congrFun zRs j).trans (zcpy0 (by omega) (by omega) hj)
    rw [← w56e]
    refine zs_vret (pc := 29) t24_29 mr24 ?_
    show zGo X l 2 0 0 23 204 [(0, .ref 119), (1, .ref 7)] [] w56M _
    have w57 : (zI w56M 119 0).toInt = (zI M 7 0).toInt := (congrArg Int32.toInt ((w56F 119 0 rfl).trans ((zIoj (by decide)).trans ((w37F 119 0 rfl).trans ((w33F 119 0 rfl).trans ((w30F 119 0 rfl).trans ((w27F 119 0 rfl).trans ((zIoj (by decide)).trans ((w22F 119 0 rfl).trans ((w19F 119 0 rfl).trans ((w16F 119 0 rfl).trans ((w13F 119 0 rfl).trans ((zIoj (by decide)).trans ((w8F 119 0 rfl).trans ((w5F 119 0 rfl).trans zIs))))))))))))))).trans rfl
    have w58 : (zI w56M 119 3).toInt = (zI M 7 3).toInt := (congrArg Int32.toInt ((w56F 119 3 rfl).trans ((zIoj (by decide)).trans ((w37F 119 3 rfl).trans ((w33F 119 3 rfl).trans ((w30F 119 3 rfl).trans ((w27F 119 3 rfl).trans ((zIoj (by decide)).trans ((w22F 119 3 rfl).trans ((w19F 119 3 rfl).trans ((w16F 119 3 rfl).trans ((w13F 119 3 rfl).trans zIs)))))))))))).trans rfl
    have w59 : (zI w56M 119 8).toInt = (zI M 7 8).toInt := (congrArg Int32.toInt ((w56F 119 8 rfl).trans ((zIoj (by decide)).trans ((w37F 119 8 rfl).trans ((w33F 119 8 rfl).trans ((w30F 119 8 rfl).trans ((w27F 119 8 rfl).trans zIs))))))).trans rfl
    have w60 : (zI w56M 119 13).toInt = 0 := (congrArg Int32.toInt ((w56F 119 13 rfl).trans zIs)).trans li0
    have w61 : (zI (zsI M 119 0 (zI M 7 0)) 7 0).toInt = (zI M 7 0).toInt := (congrArg Int32.toInt ((zIo (by decide)).trans rfl)).trans rfl
    have w62 : (zI (zsI M 119 0 (zI M 7 0)) 7 3).toInt = (zI M 7 3).toInt := (congrArg Int32.toInt ((zIo (by decide)).trans rfl)).trans rfl
    have w63 : (zI (zsI M 119 0 (zI M 7 0)) 7 8).toInt = (zI M 7 8).toInt := (congrArg Int32.toInt ((zIo (by decide)).trans rfl)).trans rfl
    have w64 : (zI (zsI M 119 0 (zI M 7 0)) 7 13).toInt = (zI M 7 13).toInt := (congrArg Int32.toInt ((zIo (by decide)).trans rfl)).trans rfl
    exact zs_vret (pc := 204) t23_204 mr23 (hQ _ w56s w56I ((((((((((((((((zFr.refl).put rfl).trans (w5F.mono rfl)).trans (w8F.mono rfl)).put rfl).trans (w13F.mono rfl)).trans (w16F.mono rfl)).trans (w19F.mono rfl)).trans (w22F.mono rfl)).put rfl).trans (w27F.mono rfl)).trans (w30F.mono rfl)).trans (w33F.mono rfl)).trans (w37F.mono rfl)).put rfl).trans (w56F.mono rfl)) (zSo.cp x0 (by omega) (by omega) (by omega) (by omega) (fun j hj => ((((w56F 120 j rfl).trans ((zIo (by decide)).trans ((w37F 120 j rfl).trans ((w33F 120 j rfl).trans ((w30F 120 j rfl).trans ((w27F 120 j rfl).trans ((zIo (by decide)).trans ((w22F 120 j rfl).trans ((w19F 120 j rfl).trans ((w16F 120 j rfl).trans ((w13F 120 j rfl).trans ((zIo (by decide)).trans (w8F 120 j rfl))))))))))))).trans (w5C j (by omega))).trans (zIo (by decide)))) (fun j hj => ((((w56F 121 j rfl).trans ((zIo (by decide)).trans ((w37F 121 j rfl).trans ((w33F 121 j rfl).trans ((w30F 121 j rfl).trans ((w27F 121 j rfl).trans ((zIo (by decide)).trans ((w22F 121 j rfl).trans ((w19F 121 j rfl).trans ((w16F 121 j rfl).trans ((w13F 121 j rfl).trans (zIo (by decide))))))))))))).trans (w8C j (by omega))).trans ((w5F 9 j rfl).trans (zIo (by decide))))) (fun j hj => ((((w56F 122 j rfl).trans ((zIo (by decide)).trans ((w37F 122 j rfl).trans ((w33F 122 j rfl).trans ((w30F 122 j rfl).trans ((w27F 122 j rfl).trans ((zIo (by decide)).trans ((w22F 122 j rfl).trans ((w19F 122 j rfl).trans (w16F 122 j rfl)))))))))).trans (w13C j (by omega))).trans ((zIo (by decide)).trans ((w8F 10 j rfl).trans ((w5F 10 j rfl).trans (zIo (by decide))))))) (fun j hj => ((((w56F 123 j rfl).trans ((zIo (by decide)).trans ((w37F 123 j rfl).trans ((w33F 123 j rfl).trans ((w30F 123 j rfl).trans ((w27F 123 j rfl).trans ((zIo (by decide)).trans ((w22F 123 j rfl).trans (w19F 123 j rfl))))))))).trans (w16C j (by omega))).trans ((w13F 11 j rfl).trans ((zIo (by decide)).trans ((w8F 11 j rfl).trans ((w5F 11 j rfl).trans (zIo (by decide)))))))) (fun j hj => ((((w56F 124 j rfl).trans ((zIo (by decide)).trans ((w37F 124 j rfl).trans ((w33F 124 j rfl).trans ((w30F 124 j rfl).trans ((w27F 124 j rfl).trans ((zIo (by decide)).trans (w22F 124 j rfl)))))))).trans (w19C j (by omega))).trans ((w16F 12 j rfl).trans ((w13F 12 j rfl).trans ((zIo (by decide)).trans ((w8F 12 j rfl).trans ((w5F 12 j rfl).trans (zIo (by decide))))))))) (fun j hj => ((((w56F 125 j rfl).trans ((zIo (by decide)).trans ((w37F 125 j rfl).trans ((w33F 125 j rfl).trans ((w30F 125 j rfl).trans ((w27F 125 j rfl).trans (zIo (by decide)))))))).trans (w22C j (by omega))).trans ((w19F 13 j rfl).trans ((w16F 13 j rfl).trans ((w13F 13 j rfl).trans ((zIo (by decide)).trans ((w8F 13 j rfl).trans ((w5F 13 j rfl).trans (zIo (by decide)))))))))) (fun j hj => ((((w56F 126 j rfl).trans ((zIo (by decide)).trans ((w37F 126 j rfl).trans ((w33F 126 j rfl).trans (w30F 126 j rfl))))).trans (w27C j (by omega))).trans ((zIo (by decide)).trans ((w22F 14 j rfl).trans ((w19F 14 j rfl).trans ((w16F 14 j rfl).trans ((w13F 14 j rfl).trans ((zIo (by decide)).trans ((w8F 14 j rfl).trans ((w5F 14 j rfl).trans (zIo (by decide)))))))))))) (fun j hj => ((((w56F 127 j rfl).trans ((zIo (by decide)).trans ((w37F 127 j rfl).trans (w33F 127 j rfl)))).trans (w30C j (by omega))).trans ((w27F 15 j rfl).trans ((zIo (by decide)).trans ((w22F 15 j rfl).trans ((w19F 15 j rfl).trans ((w16F 15 j rfl).trans ((w13F 15 j rfl).trans ((zIo (by decide)).trans ((w8F 15 j rfl).trans ((w5F 15 j rfl).trans (zIo (by decide))))))))))))) (fun j hj => ((((w56F 128 j rfl).trans ((zIo (by decide)).trans (w37F 128 j rfl))).trans (w33C j (by omega))).trans ((w30F 16 j rfl).trans ((w27F 16 j rfl).trans ((zIo (by decide)).trans ((w22F 16 j rfl).trans ((w19F 16 j rfl).trans ((w16F 16 j rfl).trans ((w13F 16 j rfl).trans ((zIo (by decide)).trans ((w8F 16 j rfl).trans ((w5F 16 j rfl).trans (zIo (by decide)))))))))))))) (fun j hj => ((((w56F 129 j rfl).trans (zIo (by decide))).trans (w37C j (by omega))).trans ((w33F 17 j rfl).trans ((w30F 17 j rfl).trans ((w27F 17 j rfl).trans ((zIo (by decide)).trans ((w22F 17 j rfl).trans ((w19F 17 j rfl).trans ((w16F 17 j rfl).trans ((w13F 17 j rfl).trans ((zIo (by decide)).trans ((w8F 17 j rfl).trans ((w5F 17 j rfl).trans (zIo (by decide))))))))))))))) (fun j hj => ((w56C j (by omega)).trans ((zIo (by decide)).trans ((w37F 18 j rfl).trans ((w33F 18 j rfl).trans ((w30F 18 j rfl).trans ((w27F 18 j rfl).trans ((zIo (by decide)).trans ((w22F 18 j rfl).trans ((w19F 18 j rfl).trans ((w16F 18 j rfl).trans ((w13F 18 j rfl).trans ((zIo (by decide)).trans ((w8F 18 j rfl).trans ((w5F 18 j rfl).trans (zIo (by decide)))))))))))))))))))
theorem X23_131_7 {X : zX} {l : Launch} {M : zM} {Q : Option Value → zM → Prop} (hs : zSk zMc M) (hI : zIv cLo cHi M) {F : Nat → Int} (x0 : zSo M 7 F) (hQ : ∀ M', zSk zMc M' → zIv cLo cHi M' → zFr [(131, 131, none), (132, 142, none)] M M' → (zSo M' 131 F) → Q none M') : zCall X l 2 0 0 23 [.ref 131, .ref 7] M Q := by
  refine zs_in (by decide) mf23 (Nat.le_of_ble_eq_true rfl) ?_
  show zGo X l 2 0 0 23 0 [(0, .ref 131), (1, .ref 7)] [] M _
  refine zs_aload_n (pc := 0) t23_0 rfl ?_
  refine zs_aload_n (pc := 1) t23_1 rfl ?_
  have w1 := ib7_0 hI
  refine zs_get (pc := 2) t23_2 (by decide) (zk1 (hs.k fk_zMc_7)) (zfvi rfl rfl) ?_
  have w2 : zIv cLo cHi (zsI M 131 0 (zI M 7 0)) := zIv.put hI (show 0 ≤ (zI M 7 0).toInt ∧ (zI M 7 0).toInt ≤ 8 from ⟨by omega, by omega⟩)
  refine zs_putI (pc := 5) t23_5 (zk1 (hs.k fk_zMc_131)) rfl ?_
  refine zs_aload_n (pc := 8) t23_8 rfl ?_
  refine zs_get (pc := 9) t23_9 (by decide) (zk1 (hs.k fk_zMc_7)) (hs.p rfl fv_zMc_7_1) ?_
  refine zs_iconst (pc := 12) t23_12 (v := 0) (by decide) ?_
  refine zs_aload_n (pc := 13) t23_13 rfl ?_
  refine zs_get (pc := 14) t23_14 (by decide) (zk1 (hs.k fk_zMc_131)) (hs.p rfl fv_zMc_131_1) ?_
  refine zs_iconst (pc := 17) t23_17 (v := 0) (by decide) ?_
  refine zs_aload_n (pc := 18) t23_18 rfl ?_
  refine zs_get (pc := 19) t23_19 (by decide) (zk1 (hs.k fk_zMc_131)) (zfvi rfl zIs) ?_
  have w3 : (0 : Int32).toInt = 0 := li0
  have w4 : (0 : Int32).toInt = 0 := li0
  refine zs_copy (pc := 22) t23_22 (hs.k fk_zMc_8) (hs.k fk_zMc_132) (by decide) (by decide) (by decide) ⟨by omega, by omega, by omega⟩ (by omega) (by omega) ⟨Nat.le_of_ble_eq_true rfl, by decide⟩ ?_
  obtain ⟨w5M, w5e⟩ : ∃ N, N = zsR (zsI M 131 0 (zI M 7 0)) 132 (va_cpy (zI (zsI M 131 0 (zI M 7 0)) 8) (zI (zsI M 131 0 (zI M 7 0)) 132) (0 : Int32).toNatClampNeg (0 : Int32).toNatClampNeg (zI M 7 0).toNatClampNeg) := ⟨_, rfl⟩
  have w5s : zSk zMc w5M := by rw [w5e]; exact hs
  have w5I : zIv cLo cHi w5M := by rw [w5e]; exact zIv.row w2 (fun _ => zrg _)
  have w5F : zFr [(132, 132, none)] (zsI M 131 0 (zI M 7 0)) w5M := by rw [w5e]; exact zFr.row zFr.refl (fun _ => rfl)
  have w5C : ∀ j : Nat, (j : Int) < (zI M 7 0).toInt → zI w5M 132 j = zI (zsI M 131 0 (zI M 7 0)) 8 j := fun j hj => by rw [w5e]; exact (congrFun zRs j).trans (zcpy0 (by omega) (by omega) hj)
  rw [← w5e]
  refine zs_aload_n (pc := 25) t23_25 rfl ?_
  refine zs_get (pc := 26) t23_26 (by decide) (zk1 (w5s.k fk_zMc_7)) (w5s.p rfl fv_zMc_7_2) ?_
  refine zs_iconst (pc := 29) t23_29 (v := 0) (by decide) ?_
  refine zs_aload_n (pc := 30) t23_30 rfl ?_
  refine zs_get (pc := 31) t23_31 (by decide) (zk1 (w5s.k fk_zMc_131)) (w5s.p rfl fv_zMc_131_2) ?_
  refine zs_iconst (pc := 34) t23_34 (v := 0) (by decide) ?_
  refine zs_aload_n (pc := 35) t23_35 rfl ?_
  refine zs_get (pc := 36) t23_36 (by decide) (zk1 (w5s.k fk_zMc_131)) (zfvi rfl ((w5F 131 0 rfl).trans zIs)) ?_
  have w6 : (0 : Int32).toInt = 0 := li0
  have w7 : (0 : Int32).toInt = 0 := li0
  refine zs_copy (pc := 39) t23_39 (w5s.k fk_zMc_9) (w5s.k fk_zMc_133) (by decide) (by decide) (by decide) ⟨by omega, by omega, by omega⟩ (by omega) (by omega) ⟨Nat.le_of_ble_eq_true rfl, by decide⟩ ?_
  obtain ⟨w8M, w8e⟩ : ∃ N, N = zsR w5M 133 (va_cpy (zI w5M 9) (zI w5M 133) (0 : Int32).toNatClampNeg (0 : Int32).toNatClampNeg (zI M 7 0).toNatClampNeg) := ⟨_, rfl⟩
  have w8s : zSk zMc w8M := by rw [w8e]; exact w5s
  have w8I : zIv cLo cHi w8M := by rw [w8e]; exact zIv.row w5I (fun _ => zcpyB (fun j => ib9 w5I j) (fun j => ib133 w5I j))
  have w8F : zFr [(133, 133, none)] w5M w8M := by rw [w8e]; exact zFr.row zFr.refl (fun _ => rfl)
  have w8C : ∀ j : Nat, (j : Int) < (zI M 7 0).toInt → zI w8M 133 j = zI w5M 9 j := fun j hj => by rw [w8e]; exact (congrFun zRs j).trans (zcpy0 (by omega) (by omega) hj)
  rw [← w8e]
  refine zs_aload_n (pc := 42) t23_42 rfl ?_
  refine zs_aload_n (pc := 43) t23_43 rfl ?_
  have w9 := ib7_3 hI
  refine zs_get (pc := 44) t23_44 (by decide) (zk1 (w8s.k fk_zMc_7)) (zfvi rfl ((w8F 7 3 rfl).trans ((w5F 7 3 rfl).trans ((zIo (by decide)).trans rfl)))) ?_
  have w10 : zIv cLo cHi (zsI w8M 131 3 (zI M 7 3)) := zIv.put w8I (show 0 ≤ (zI M 7 3).toInt ∧ (zI M 7 3).toInt ≤ 60 from ⟨by omega, by omega⟩)
  refine zs_putI (pc := 47) t23_47 (zk1 (w8s.k fk_zMc_131)) rfl ?_
  refine zs_aload_n (pc := 50) t23_50 rfl ?_
  refine zs_get (pc := 51) t23_51 (by decide) (zk1 (w8s.k fk_zMc_7)) (w8s.p rfl fv_zMc_7_4) ?_
  refine zs_iconst (pc := 54) t23_54 (v := 0) (by decide) ?_
  refine zs_aload_n (pc := 55) t23_55 rfl ?_
  refine zs_get (pc := 56) t23_56 (by decide) (zk1 (w8s.k fk_zMc_131)) (w8s.p rfl fv_zMc_131_4) ?_
  refine zs_iconst (pc := 59) t23_59 (v := 0) (by decide) ?_
  refine zs_aload_n (pc := 60) t23_60 rfl ?_
  refine zs_get (pc := 61) t23_61 (by decide) (zk1 (w8s.k fk_zMc_131)) (zfvi rfl zIs) ?_
  have w11 : (0 : Int32).toInt = 0 := li0
  have w12 : (0 : Int32).toInt = 0 := li0
  refine zs_copy (pc := 64) t23_64 (w8s.k fk_zMc_10) (w8s.k fk_zMc_134) (by decide) (by decide) (by decide) ⟨by omega, by omega, by omega⟩ (by omega) (by omega) ⟨Nat.le_of_ble_eq_true rfl, by decide⟩ ?_
  obtain ⟨w13M, w13e⟩ : ∃ N, N = zsR (zsI w8M 131 3 (zI M 7 3)) 134 (va_cpy (zI (zsI w8M 131 3 (zI M 7 3)) 10) (zI (zsI w8M 131 3 (zI M 7 3)) 134) (0 : Int32).toNatClampNeg (0 : Int32).toNatClampNeg (zI M 7 3).toNatClampNeg) := ⟨_, rfl⟩
  have w13s : zSk zMc w13M := by rw [w13e]; exact w8s
  have w13I : zIv cLo cHi w13M := by rw [w13e]; exact zIv.row w10 (fun _ => zcpyB (fun j => ib10 w10 j) (fun j => ib134 w10 j))
  have w13F : zFr [(134, 134, none)] (zsI w8M 131 3 (zI M 7 3)) w13M := by rw [w13e]; exact zFr.row zFr.refl (fun _ => rfl)
  have w13C : ∀ j : Nat, (j : Int) < (zI M 7 3).toInt → zI w13M 134 j = zI (zsI w8M 131 3 (zI M 7 3)) 10 j := fun j hj => by rw [w13e]; exact (congrFun zRs j).trans (zcpy0 (by omega) (by omega) hj)
  rw [← w13e]
  refine zs_aload_n (pc := 67) t23_67 rfl ?_
  refine zs_get (pc := 68) t23_68 (by decide) (zk1 (w13s.k fk_zMc_7)) (w13s.p rfl fv_zMc_7_5) ?_
  refine zs_iconst (pc := 71) t23_71 (v := 0) (by decide) ?_
  refine zs_aload_n (pc := 72) t23_72 rfl ?_
  refine zs_get (pc := 73) t23_73 (by decide) (zk1 (w13s.k fk_zMc_131)) (w13s.p rfl fv_zMc_131_5) ?_
  refine zs_iconst (pc := 76) t23_76 (v := 0) (by decide) ?_
  refine zs_aload_n (pc := 77) t23_77 rfl ?_
  refine zs_get (pc := 78) t23_78 (by decide) (zk1 (w13s.k fk_zMc_131)) (zfvi rfl ((w13F 131 3 rfl).trans zIs)) ?_
  have w14 : (0 : Int32).toInt = 0 := li0
  have w15 : (0 : Int32).toInt = 0 := li0
  refine zs_copy (pc := 81) t23_81 (w13s.k fk_zMc_11) (w13s.k fk_zMc_135) (by decide) (by decide) (by decide) ⟨by omega, by omega, by omega⟩ (by omega) (by omega) ⟨Nat.le_of_ble_eq_true rfl, by decide⟩ ?_
  obtain ⟨w16M, w16e⟩ : ∃ N, N = zsR w13M 135 (va_cpy (zI w13M 11) (zI w13M 135) (0 : Int32).toNatClampNeg (0 : Int32).toNatClampNeg (zI M 7 3).toNatClampNeg) := ⟨_, rfl⟩
  have w16s : zSk zMc w16M := by rw [w16e]; exact w13s
  have w16I : zIv cLo cHi w16M := by rw [w16e]; exact zIv.row w13I (fun _ => zrg _)
  have w16F : zFr [(135, 135, none)] w13M w16M := by rw [w16e]; exact zFr.row zFr.refl (fun _ => rfl)
  have w16C : ∀ j : Nat, (j : Int) < (zI M 7 3).toInt → zI w16M 135 j = zI w13M 11 j := fun j hj => by rw [w16e]; exact (congrFun zRs j).trans (zcpy0 (by omega) (by omega) hj)
  rw [← w16e]
  refine zs_aload_n (pc := 84) t23_84 rfl ?_
  refine zs_get (pc := 85) t23_85 (by decide) (zk1 (w16s.k fk_zMc_7)) (w16s.p rfl fv_zMc_7_6) ?_
  refine zs_iconst (pc := 88) t23_88 (v := 0) (by decide) ?_
  refine zs_aload_n (pc := 89) t23_89 rfl ?_
  refine zs_get (pc := 90) t23_90 (by decide) (zk1 (w16s.k fk_zMc_131)) (w16s.p rfl fv_zMc_131_6) ?_
  refine zs_iconst (pc := 93) t23_93 (v := 0) (by decide) ?_
  refine zs_aload_n (pc := 94) t23_94 rfl ?_
  refine zs_get (pc := 95) t23_95 (by decide) (zk1 (w16s.k fk_zMc_131)) (zfvi rfl ((w16F 131 3 rfl).trans ((w13F 131 3 rfl).trans zIs))) ?_
  have w17 : (0 : Int32).toInt = 0 := li0
  have w18 : (0 : Int32).toInt = 0 := li0
  refine zs_copy (pc := 98) t23_98 (w16s.k fk_zMc_12) (w16s.k fk_zMc_136) (by decide) (by decide) (by decide) ⟨by omega, by omega, by omega⟩ (by omega) (by omega) ⟨Nat.le_of_ble_eq_true rfl, by decide⟩ ?_
  obtain ⟨w19M, w19e⟩ : ∃ N, N = zsR w16M 136 (va_cpy (zI w16M 12) (zI w16M 136) (0 : Int32).toNatClampNeg (0 : Int32).toNatClampNeg (zI M 7 3).toNatClampNeg) := ⟨_, rfl⟩
  have w19s : zSk zMc w19M := by rw [w19e]; exact w16s
  have w19I : zIv cLo cHi w19M := by rw [w19e]; exact zIv.row w16I (fun _ => zrg _)
  have w19F : zFr [(136, 136, none)] w16M w19M := by rw [w19e]; exact zFr.row zFr.refl (fun _ => rfl)
  have w19C : ∀ j : Nat, (j : Int) < (zI M 7 3).toInt → zI w19M 136 j = zI w16M 12 j := fun j hj => by rw [w19e]; exact (congrFun zRs j).trans (zcpy0 (by omega) (by omega) hj)
  rw [← w19e]
  refine zs_aload_n (pc := 101) t23_101 rfl ?_
  refine zs_get (pc := 102) t23_102 (by decide) (zk1 (w19s.k fk_zMc_7)) (w19s.p rfl fv_zMc_7_7) ?_
  refine zs_iconst (pc := 105) t23_105 (v := 0) (by decide) ?_
  refine zs_aload_n (pc := 106) t23_106 rfl ?_
  refine zs_get (pc := 107) t23_107 (by decide) (zk1 (w19s.k fk_zMc_131)) (w19s.p rfl fv_zMc_131_7) ?_
  refine zs_iconst (pc := 110) t23_110 (v := 0) (by decide) ?_
  refine zs_aload_n (pc := 111) t23_111 rfl ?_
  refine zs_get (pc := 112) t23_112 (by decide) (zk1 (w19s.k fk_zMc_131)) (zfvi rfl ((w19F 131 3 rfl).trans ((w16F 131 3 rfl).trans ((w13F 131 3 rfl).trans zIs)))) ?_
  have w20 : (0 : Int32).toInt = 0 := li0
  have w21 : (0 : Int32).toInt = 0 := li0
  refine zs_copy (pc := 115) t23_115 (w19s.k fk_zMc_13) (w19s.k fk_zMc_137) (by decide) (by decide) (by decide) ⟨by omega, by omega, by omega⟩ (by omega) (by omega) ⟨Nat.le_of_ble_eq_true rfl, by decide⟩ ?_
  obtain ⟨w22M, w22e⟩ : ∃ N, N = zsR w19M 137 (va_cpy (zI w19M 13) (zI w19M 137) (0 : Int32).toNatClampNeg (0 : Int32).toNatClampNeg (zI M 7 3).toNatClampNeg) := ⟨_, rfl⟩
  have w22s : zSk zMc w22M := by rw [w22e]; exact w19s
  have w22I : zIv cLo cHi w22M := by rw [w22e]; exact zIv.row w19I (fun _ => zrg _)
  have w22F : zFr [(137, 137, none)] w19M w22M := by rw [w22e]; exact zFr.row zFr.refl (fun _ => rfl)
  have w22C : ∀ j : Nat, (j : Int) < (zI M 7 3).toInt → zI w22M 137 j = zI w19M 13 j := fun j hj => by rw [w22e]; exact (congrFun zRs j).trans (zcpy0 (by omega) (by omega) hj)
  rw [← w22e]
  refine zs_aload_n (pc := 118) t23_118 rfl ?_
  refine zs_aload_n (pc := 119) t23_119 rfl ?_
  have w23 := ib7_8 hI
  refine zs_get (pc := 120) t23_120 (by decide) (zk1 (w22s.k fk_zMc_7)) (zfvi rfl ((w22F 7 8 rfl).trans ((w19F 7 8 rfl).trans ((w16F 7 8 rfl).trans ((w13F 7 8 rfl).trans ((zIo (by decide)).trans ((w8F 7 8 rfl).trans ((w5F 7 8 rfl).trans ((zIo (by decide)).trans rfl))))))))) ?_
  have w24 : zIv cLo cHi (zsI w22M 131 8 (zI M 7 8)) := zIv.put w22I (show 0 ≤ (zI M 7 8).toInt ∧ (zI M 7 8).toInt ≤ 12 from ⟨by omega, by omega⟩)
  refine zs_putI (pc := 123) t23_123 (zk1 (w22s.k fk_zMc_131)) rfl ?_
  refine zs_aload_n (pc := 126) t23_126 rfl ?_
  refine zs_get (pc := 127) t23_127 (by decide) (zk1 (w22s.k fk_zMc_7)) (w22s.p rfl fv_zMc_7_9) ?_
  refine zs_iconst (pc := 130) t23_130 (v := 0) (by decide) ?_
  refine zs_aload_n (pc := 131) t23_131 rfl ?_
  refine zs_get (pc := 132) t23_132 (by decide) (zk1 (w22s.k fk_zMc_131)) (w22s.p rfl fv_zMc_131_9) ?_
  refine zs_iconst (pc := 135) t23_135 (v := 0) (by decide) ?_
  refine zs_aload_n (pc := 136) t23_136 rfl ?_
  refine zs_get (pc := 137) t23_137 (by decide) (zk1 (w22s.k fk_zMc_131)) (zfvi rfl zIs) ?_
  have w25 : (0 : Int32).toInt = 0 := li0
  have w26 : (0 : Int32).toInt = 0 := li0
  refine zs_copy (pc := 140) t23_140 (w22s.k fk_zMc_14) (w22s.k fk_zMc_138) (by decide) (by decide) (by decide) ⟨by omega, by omega, by omega⟩ (by omega) (by omega) ⟨Nat.le_of_ble_eq_true rfl, by decide⟩ ?_
  obtain ⟨w27M, w27e⟩ : ∃ N, N = zsR (zsI w22M 131 8 (zI M 7 8)) 138 (va_cpy (zI (zsI w22M 131 8 (zI M 7 8)) 14) (zI (zsI w22M 131 8 (zI M 7 8)) 138) (0 : Int32).toNatClampNeg (0 : Int32).toNatClampNeg (zI M 7 8).toNatClampNeg) := ⟨_, rfl⟩
  have w27s : zSk zMc w27M := by rw [w27e]; exact w22s
  have w27I : zIv cLo cHi w27M := by rw [w27e]; exact zIv.row w24 (fun _ => zrg _)
  have w27F : zFr [(138, 138, none)] (zsI w22M 131 8 (zI M 7 8)) w27M := by rw [w27e]; exact zFr.row zFr.refl (fun _ => rfl)
  have w27C : ∀ j : Nat, (j : Int) < (zI M 7 8).toInt → zI w27M 138 j = zI (zsI w22M 131 8 (zI M 7 8)) 14 j := fun j hj => by rw [w27e]; exact (congrFun zRs j).trans (zcpy0 (by omega) (by omega) hj)
  rw [← w27e]
  refine zs_aload_n (pc := 143) t23_143 rfl ?_
  refine zs_get (pc := 144) t23_144 (by decide) (zk1 (w27s.k fk_zMc_7)) (w27s.p rfl fv_zMc_7_10) ?_
  refine zs_iconst (pc := 147) t23_147 (v := 0) (by decide) ?_
  refine zs_aload_n (pc := 148) t23_148 rfl ?_
  refine zs_get (pc := 149) t23_149 (by decide) (zk1 (w27s.k fk_zMc_131)) (w27s.p rfl fv_zMc_131_10) ?_
  refine zs_iconst (pc := 152) t23_152 (v := 0) (by decide) ?_
  refine zs_aload_n (pc := 153) t23_153 rfl ?_
  refine zs_get (pc := 154) t23_154 (by decide) (zk1 (w27s.k fk_zMc_131)) (zfvi rfl ((w27F 131 8 rfl).trans zIs)) ?_
  have w28 : (0 : Int32).toInt = 0 := li0
  have w29 : (0 : Int32).toInt = 0 := li0
  refine zs_copy (pc := 157) t23_157 (w27s.k fk_zMc_15) (w27s.k fk_zMc_139) (by decide) (by decide) (by decide) ⟨by omega, by omega, by omega⟩ (by omega) (by omega) ⟨Nat.le_of_ble_eq_true rfl, by decide⟩ ?_
  obtain ⟨w30M, w30e⟩ : ∃ N, N = zsR w27M 139 (va_cpy (zI w27M 15) (zI w27M 139) (0 : Int32).toNatClampNeg (0 : Int32).toNatClampNeg (zI M 7 8).toNatClampNeg) := ⟨_, rfl⟩
  have w30s : zSk zMc w30M := by rw [w30e]; exact w27s
  have w30I : zIv cLo cHi w30M := by rw [w30e]; exact zIv.row w27I (fun _ => zrg _)
  have w30F : zFr [(139, 139, none)] w27M w30M := by rw [w30e]; exact zFr.row zFr.refl (fun _ => rfl)
  have w30C : ∀ j : Nat, (j : Int) < (zI M 7 8).toInt → zI w30M 139 j = zI w27M 15 j := fun j hj => by rw [w30e]; exact (congrFun zRs j).trans (zcpy0 (by omega) (by omega) hj)
  rw [← w30e]
  refine zs_aload_n (pc := 160) t23_160 rfl ?_
  refine zs_get (pc := 161) t23_161 (by decide) (zk1 (w30s.k fk_zMc_7)) (w30s.p rfl fv_zMc_7_11) ?_
  refine zs_iconst (pc := 164) t23_164 (v := 0) (by decide) ?_
  refine zs_aload_n (pc := 165) t23_165 rfl ?_
  refine zs_get (pc := 166) t23_166 (by decide) (zk1 (w30s.k fk_zMc_131)) (w30s.p rfl fv_zMc_131_11) ?_
  refine zs_iconst (pc := 169) t23_169 (v := 0) (by decide) ?_
  refine zs_aload_n (pc := 170) t23_170 rfl ?_
  refine zs_get (pc := 171) t23_171 (by decide) (zk1 (w30s.k fk_zMc_131)) (zfvi rfl ((w30F 131 8 rfl).trans ((w27F 131 8 rfl).trans zIs))) ?_
  have w31 : (0 : Int32).toInt = 0 := li0
  have w32 : (0 : Int32).toInt = 0 := li0
  refine zs_copy (pc := 174) t23_174 (w30s.k fk_zMc_16) (w30s.k fk_zMc_140) (by decide) (by decide) (by decide) ⟨by omega, by omega, by omega⟩ (by omega) (by omega) ⟨Nat.le_of_ble_eq_true rfl, by decide⟩ ?_
  obtain ⟨w33M, w33e⟩ : ∃ N, N = zsR w30M 140 (va_cpy (zI w30M 16) (zI w30M 140) (0 : Int32).toNatClampNeg (0 : Int32).toNatClampNeg (zI M 7 8).toNatClampNeg) := ⟨_, rfl⟩
  have w33s : zSk zMc w33M := by rw [w33e]; exact w30s
  have w33I : zIv cLo cHi w33M := by rw [w33e]; exact zIv.row w30I (fun _ => zrg _)
  have w33F : zFr [(140, 140, none)] w30M w33M := by rw [w33e]; exact zFr.row zFr.refl (fun _ => rfl)
  have w33C : ∀ j : Nat, (j : Int) < (zI M 7 8).toInt → zI w33M 140 j = zI w30M 16 j := fun j hj => by rw [w33e]; exact (congrFun zRs j).trans (zcpy0 (by omega) (by omega) hj)
  rw [← w33e]
  refine zs_aload_n (pc := 177) t23_177 rfl ?_
  refine zs_get (pc := 178) t23_178 (by decide) (zk1 (w33s.k fk_zMc_7)) (w33s.p rfl fv_zMc_7_12) ?_
  refine zs_iconst (pc := 181) t23_181 (v := 0) (by decide) ?_
  refine zs_aload_n (pc := 182) t23_182 rfl ?_
  refine zs_get (pc := 183) t23_183 (by decide) (zk1 (w33s.k fk_zMc_131)) (w33s.p rfl fv_zMc_131_12) ?_
  refine zs_iconst (pc := 186) t23_186 (v := 0) (by decide) ?_
  refine zs_bipush (pc := 187) t23_187 (v := 9) (by decide) ?_
  have w34 : (9 : Int32).toInt = 9 := li9
  have w35 : (0 : Int32).toInt = 0 := li0
  have w36 : (0 : Int32).toInt = 0 := li0
  refine zs_copy (pc := 189) t23_189 (w33s.k fk_zMc_17) (w33s.k fk_zMc_141) (by decide) (by decide) (by decide) ⟨by omega, by omega, by omega⟩ (by omega) (by omega) ⟨Nat.le_of_ble_eq_true rfl, by decide⟩ ?_
  obtain ⟨w37M, w37e⟩ : ∃ N, N = zsR w33M 141 (va_cpy (zI w33M 17) (zI w33M 141) (0 : Int32).toNatClampNeg (0 : Int32).toNatClampNeg (9 : Int32).toNatClampNeg) := ⟨_, rfl⟩
  have w37s : zSk zMc w37M := by rw [w37e]; exact w33s
  have w37I : zIv cLo cHi w37M := by rw [w37e]; exact zIv.row w33I (fun _ => zcpyB (fun j => ib17 w33I j) (fun j => ib141 w33I j))
  have w37F : zFr [(141, 141, none)] w33M w37M := by rw [w37e]; exact zFr.row zFr.refl (fun _ => rfl)
  have w37C : ∀ j : Nat, (j : Int) < (9 : Int32).toInt → zI w37M 141 j = zI w33M 17 j := fun j hj => by rw [w37e]; exact (congrFun zRs j).trans (zcpy0 (by omega) (by omega) hj)
  rw [← w37e]
  refine zs_aload_n (pc := 192) t23_192 rfl ?_
  refine zs_aload_n (pc := 193) t23_193 rfl ?_
  refine zs_get (pc := 194) t23_194 (by decide) (zk1 (w37s.k fk_zMc_7)) (w37s.p rfl fv_zMc_7_14) ?_
  refine zs_aload_n (pc := 197) t23_197 rfl ?_
  have w38 := ib7_13 hI
  refine zs_get (pc := 198) t23_198 (by decide) (zk1 (w37s.k fk_zMc_7)) (zfvi rfl ((w37F 7 13 rfl).trans ((w33F 7 13 rfl).trans ((w30F 7 13 rfl).trans ((w27F 7 13 rfl).trans ((zIo (by decide)).trans ((w22F 7 13 rfl).trans ((w19F 7 13 rfl).trans ((w16F 7 13 rfl).trans ((w13F 7 13 rfl).trans ((zIo (by decide)).trans ((w8F 7 13 rfl).trans ((w5F 7 13 rfl).trans ((zIo (by decide)).trans rfl)))))))))))))) ?_
  refine zs_invV (pc := 201) (k := 131) (as' := [.ref 18, .int (zI M 7 13)]) (st := []) t23_201 mf24 rfl rfl (Or.inl ⟨by decide, (zk1 (w37s.k fk_zMc_131))⟩) ⟨by decide, by decide, Nat.le_of_ble_eq_true rfl, Nat.le_of_ble_eq_true rfl⟩ (zs_in (by decide) mf24 (Nat.le_of_ble_eq_true rfl) ?_) (fun _ _ q => q)
  show zGo X l 1 0 0 24 0 [(0, .ref 131), (1, .ref 18), (2, .int (zI M 7 13))] [] w37M _
  refine zs_aload_n (pc := 0) t24_0 rfl ?_
  refine zs_iconst (pc := 1) t24_1 (v := 0) (by decide) ?_
  refine zs_iload_n (pc := 2) t24_2 rfl ?_
  refine zs_sipush (pc := 3) t24_3 (v := 500) (by decide) ?_
  refine zs_invS (pc := 6) (as := [.int (zI M 7 13), .int (500 : Int32)]) (st := [.int (0 : Int32), .ref 131]) t24_6 (by decide) mf20 rfl rfl ⟨by decide, by decide, Nat.le_of_ble_eq_true rfl, Nat.le_of_ble_eq_true rfl⟩ (zs_in (by decide) mf20 (Nat.le_of_ble_eq_true rfl) ?_) (fun _ _ q => q)
  show zGo X l 0 0 0 20 0 [(0, .int (zI M 7 13)), (1, .int (500 : Int32))] [] w37M _
  refine zs_iload_n (pc := 0) t20_0 rfl ?_
  refine zs_iload_n (pc := 1) t20_1 rfl ?_
  refine zs_icmp_gtF (pc := 2) t20_2 rfl li500 (by omega) ?_
  refine zs_iload_n (pc := 5) t20_5 rfl ?_
  refine zs_goto (pc := 6) t20_6 ?_
  refine zs_iret (pc := 10) t20_10 mr20 rfl ?_
  show zGo X l 1 0 0 24 9 [(0, .ref 131), (1, .ref 18), (2, .int (zI M 7 13))] [.int (zI M 7 13), .int (0 : Int32), .ref 131] w37M _
  refine zs_invS (pc := 9) (as := [.int (0 : Int32), .int (zI M 7 13)]) (st := [.ref 131]) t24_9 (by decide) mf21 rfl rfl ⟨by decide, by decide, Nat.le_of_ble_eq_true rfl, Nat.le_of_ble_eq_true rfl⟩ (zs_in (by decide) mf21 (Nat.le_of_ble_eq_true rfl) ?_) (fun _ _ q => q)
  show zGo X l 0 0 0 21 0 [(0, .int (0 : Int32)), (1, .int (zI M 7 13))] [] w37M _
  refine zs_iload_n (pc := 0) t21_0 rfl ?_
  refine zs_iload_n (pc := 1) t21_1 rfl ?_
  by_cases w39 : 0 < (zI M 7 13).toInt
  · refine zs_icmp_ltT (pc := 2) t21_2 li0 rfl (by omega) ?_
    refine zs_iload_n (pc := 9) t21_9 rfl ?_
    refine zs_iret (pc := 10) t21_10 mr21 rfl ?_
    show zGo X l 1 0 0 24 12 [(0, .ref 131), (1, .ref 18), (2, .int (zI M 7 13))] [.int (zI M 7 13), .ref 131] w37M _
    have w40 : zIv cLo cHi (zsI w37M 131 13 (zI M 7 13)) := zIv.put w37I (show 0 ≤ (zI M 7 13).toInt ∧ (zI M 7 13).toInt ≤ 500 from ⟨by omega, by omega⟩)
    refine zs_putI (pc := 12) t24_12 (zk1 (w37s.k fk_zMc_131)) rfl ?_
    refine zs_aload_n (pc := 15) t24_15 rfl ?_
    refine zs_iconst (pc := 16) t24_16 (v := 0) (by decide) ?_
    refine zs_aload_n (pc := 17) t24_17 rfl ?_
    refine zs_get (pc := 18) t24_18 (by decide) (zk1 (w37s.k fk_zMc_131)) (w37s.p rfl fv_zMc_131_14) ?_
    refine zs_iconst (pc := 21) t24_21 (v := 0) (by decide) ?_
    refine zs_aload_n (pc := 22) t24_22 rfl ?_
    refine zs_get (pc := 23) t24_23 (by decide) (zk1 (w37s.k fk_zMc_131)) (zfvi rfl zIs) ?_
    have w41 : (0 : Int32).toInt = 0 := li0
    have w42 : (0 : Int32).toInt = 0 := li0
    refine zs_copy (pc := 26) t24_26 (w37s.k fk_zMc_18) (w37s.k fk_zMc_142) (by decide) (by decide) (by decide) ⟨by omega, by omega, by omega⟩ (by omega) (by omega) ⟨Nat.le_of_ble_eq_true rfl, by decide⟩ ?_
    obtain ⟨w43M, w43e⟩ : ∃ N, N = zsR (zsI w37M 131 13 (zI M 7 13)) 142 (va_cpy (zI (zsI w37M 131 13 (zI M 7 13)) 18) (zI (zsI w37M 131 13 (zI M 7 13)) 142) (0 : Int32).toNatClampNeg (0 : Int32).toNatClampNeg (zI M 7 13).toNatClampNeg) := ⟨_, rfl⟩
    have w43s : zSk zMc w43M := by rw [w43e]; exact w37s
    have w43I : zIv cLo cHi w43M := by rw [w43e]; exact zIv.row w40 (fun _ => zcpyB (fun j => ib18 w40 j) (fun j => ib142 w40 j))
    have w43F : zFr [(142, 142, none)] (zsI w37M 131 13 (zI M 7 13)) w43M := by rw [w43e]; exact zFr.row zFr.refl (fun _ => rfl)
    have w43C : ∀ j : Nat, (j : Int) < (zI M 7 13).toInt → zI w43M 142 j = zI (zsI w37M 131 13 (zI M 7 13)) 18 j := fun j hj => by rw [w43e]; exact (congrFun zRs j).trans (zcpy0 (by omega) (by omega) hj)
    rw [← w43e]
    refine zs_vret (pc := 29) t24_29 mr24 ?_
    show zGo X l 2 0 0 23 204 [(0, .ref 131), (1, .ref 7)] [] w43M _
    have w44 : (zI w43M 131 0).toInt = (zI M 7 0).toInt := (congrArg Int32.toInt ((w43F 131 0 rfl).trans ((zIoj (by decide)).trans ((w37F 131 0 rfl).trans ((w33F 131 0 rfl).trans ((w30F 131 0 rfl).trans ((w27F 131 0 rfl).trans ((zIoj (by decide)).trans ((w22F 131 0 rfl).trans ((w19F 131 0 rfl).trans ((w16F 131 0 rfl).trans ((w13F 131 0 rfl).trans ((zIoj (by decide)).trans ((w8F 131 0 rfl).trans ((w5F 131 0 rfl).trans zIs))))))))))))))).trans rfl
    have w45 : (zI w43M 131 3).toInt = (zI M 7 3).toInt := (congrArg Int32.toInt ((w43F 131 3 rfl).trans ((zIoj (by decide)).trans ((w37F 131 3 rfl).trans ((w33F 131 3 rfl).trans ((w30F 131 3 rfl).trans ((w27F 131 3 rfl).trans ((zIoj (by decide)).trans ((w22F 131 3 rfl).trans ((w19F 131 3 rfl).trans ((w16F 131 3 rfl).trans ((w13F 131 3 rfl).trans zIs)))))))))))).trans rfl
    have w46 : (zI w43M 131 8).toInt = (zI M 7 8).toInt := (congrArg Int32.toInt ((w43F 131 8 rfl).trans ((zIoj (by decide)).trans ((w37F 131 8 rfl).trans ((w33F 131 8 rfl).trans ((w30F 131 8 rfl).trans ((w27F 131 8 rfl).trans zIs))))))).trans rfl
    have w47 : (zI w43M 131 13).toInt = (zI M 7 13).toInt := (congrArg Int32.toInt ((w43F 131 13 rfl).trans zIs)).trans rfl
    have w48 : (zI (zsI M 131 0 (zI M 7 0)) 7 0).toInt = (zI M 7 0).toInt := (congrArg Int32.toInt ((zIo (by decide)).trans rfl)).trans rfl
    have w49 : (zI (zsI M 131 0 (zI M 7 0)) 7 3).toInt = (zI M 7 3).toInt := (congrArg Int32.toInt ((zIo (by decide)).trans rfl)).trans rfl
    have w50 : (zI (zsI M 131 0 (zI M 7 0)) 7 8).toInt = (zI M 7 8).toInt := (congrArg Int32.toInt ((zIo (by decide)).trans rfl)).trans rfl
    have w51 : (zI (zsI M 131 0 (zI M 7 0)) 7 13).toInt = (zI M 7 13).toInt := (congrArg Int32.toInt ((zIo (by decide)).trans rfl)).trans rfl
    exact zs_vret (pc := 204) t23_204 mr23 (hQ _ w43s w43I ((((((((((((((((zFr.refl).put rfl).trans (w5F.mono rfl)).trans (w8F.mono rfl)).put rfl).trans (w13F.mono rfl)).trans (w16F.mono rfl)).trans (w19F.mono rfl)).trans (w22F.mono rfl)).put rfl).trans (w27F.mono rfl)).trans (w30F.mono rfl)).trans (w33F.mono rfl)).trans (w37F.mono rfl)).put rfl).trans (w43F.mono rfl)) (zSo.cp x0 (by omega) (by omega) (by omega) (by omega) (fun j hj => ((((w43F 132 j rfl).trans ((zIo (by decide)).trans ((w37F 132 j rfl).trans ((w33F 132 j rfl).trans ((w30F 132 j rfl).trans ((w27F 132 j rfl).trans ((zIo (by decide)).trans ((w22F 132 j rfl).trans ((w19F 132 j rfl).trans ((w16F 132 j rfl).trans ((w13F 132 j rfl).trans ((zIo (by decide)).trans (w8F 132 j rfl))))))))))))).trans (w5C j (by omega))).trans (zIo (by decide)))) (fun j hj => ((((w43F 133 j rfl).trans ((zIo (by decide)).trans ((w37F 133 j rfl).trans ((w33F 133 j rfl).trans ((w30F 133 j rfl).trans ((w27F 133 j rfl).trans ((zIo (by decide)).trans ((w22F 133 j rfl).trans ((w19F 133 j rfl).trans ((w16F 133 j rfl).trans ((w13F 133 j rfl).trans (zIo (by decide))))))))))))).trans (w8C j (by omega))).trans ((w5F 9 j rfl).trans (zIo (by decide))))) (fun j hj => ((((w43F 134 j rfl).trans ((zIo (by decide)).trans ((w37F 134 j rfl).trans ((w33F 134 j rfl).trans ((w30F 134 j rfl).trans ((w27F 134 j rfl).trans ((zIo (by decide)).trans ((w22F 134 j rfl).trans ((w19F 134 j rfl).trans (w16F 134 j rfl)))))))))).trans (w13C j (by omega))).trans ((zIo (by decide)).trans ((w8F 10 j rfl).trans ((w5F 10 j rfl).trans (zIo (by decide))))))) (fun j hj => ((((w43F 135 j rfl).trans ((zIo (by decide)).trans ((w37F 135 j rfl).trans ((w33F 135 j rfl).trans ((w30F 135 j rfl).trans ((w27F 135 j rfl).trans ((zIo (by decide)).trans ((w22F 135 j rfl).trans (w19F 135 j rfl))))))))).trans (w16C j (by omega))).trans ((w13F 11 j rfl).trans ((zIo (by decide)).trans ((w8F 11 j rfl).trans ((w5F 11 j rfl).trans (zIo (by decide)))))))) (fun j hj => ((((w43F 136 j rfl).trans ((zIo (by decide)).trans ((w37F 136 j rfl).trans ((w33F 136 j rfl).trans ((w30F 136 j rfl).trans ((w27F 136 j rfl).trans ((zIo (by decide)).trans (w22F 136 j rfl)))))))).trans (w19C j (by omega))).trans ((w16F 12 j rfl).trans ((w13F 12 j rfl).trans ((zIo (by decide)).trans ((w8F 12 j rfl).trans ((w5F 12 j rfl).trans (zIo (by decide))))))))) (fun j hj => ((((w43F 137 j rfl).trans ((zIo (by decide)).trans ((w37F 137 j rfl).trans ((w33F 137 j rfl).trans ((w30F 137 j rfl).trans ((w27F 137 j rfl).trans (zIo (by decide)))))))).trans (w22C j (by omega))).trans ((w19F 13 j rfl).trans ((w16F 13 j rfl).trans ((w13F 13 j rfl).trans ((zIo (by decide)).trans ((w8F 13 j rfl).trans ((w5F 13 j rfl).trans (zIo (by decide)))))))))) (fun j hj => ((((w43F 138 j rfl).trans ((zIo (by decide)).trans ((w37F 138 j rfl).trans ((w33F 138 j rfl).trans (w30F 138 j rfl))))).trans (w27C j (by omega))).trans ((zIo (by decide)).trans ((w22F 14 j rfl).trans ((w19F 14 j rfl).trans ((w16F 14 j rfl).trans ((w13F 14 j rfl).trans ((zIo (by decide)).trans ((w8F 14 j rfl).trans ((w5F 14 j rfl).trans (zIo (by decide)))))))))))) (fun j hj => ((((w43F 139 j rfl).trans ((zIo (by decide)).trans ((w37F 139 j rfl).trans (w33F 139 j rfl)))).trans (w30C j (by omega))).trans ((w27F 15 j rfl).trans ((zIo (by decide)).trans ((w22F 15 j rfl).trans ((w19F 15 j rfl).trans ((w16F 15 j rfl).trans ((w13F 15 j rfl).trans ((zIo (by decide)).trans ((w8F 15 j rfl).trans ((w5F 15 j rfl).trans (zIo (by decide))))))))))))) (fun j hj => ((((w43F 140 j rfl).trans ((zIo (by decide)).trans (w37F 140 j rfl))).trans (w33C j (by omega))).trans ((w30F 16 j rfl).trans ((w27F 16 j rfl).trans ((zIo (by decide)).trans ((w22F 16 j rfl).trans ((w19F 16 j rfl).trans ((w16F 16 j rfl).trans ((w13F 16 j rfl).trans ((zIo (by decide)).trans ((w8F 16 j rfl).trans ((w5F 16 j rfl).trans (zIo (by decide)))))))))))))) (fun j hj => ((((w43F 141 j rfl).trans (zIo (by decide))).trans (w37C j (by omega))).trans ((w33F 17 j rfl).trans ((w30F 17 j rfl).trans ((w27F 17 j rfl).trans ((zIo (by decide)).trans ((w22F 17 j rfl).trans ((w19F 17 j rfl).trans ((w16F 17 j rfl).trans ((w13F 17 j rfl).trans ((zIo (by decide)).trans ((w8F 17 j rfl).trans ((w5F 17 j rfl).trans (zIo (by decide))))))))))))))) (fun j hj => ((w43C j (by omega)).trans ((zIo (by decide)).trans ((w37F 18 j rfl).trans ((w33F 18 j rfl).trans ((w30F 18 j rfl).trans ((w27F 18 j rfl).trans ((zIo (by decide)).trans ((w22F 18 j rfl).trans ((w19F 18 j rfl).trans ((w16F 18 j rfl).trans ((w13F 18 j rfl).trans ((zIo (by decide)).trans ((w8F 18 j rfl).trans ((w5F 18 j rfl).trans (zIo (by decide)))))))))))))))))))
  · refine zs_icmp_ltF (pc := 2) t21_2 li0 rfl (by omega) ?_
    refine zs_iload_n (pc := 5) t21_5 rfl ?_
    refine zs_goto (pc := 6) t21_6 ?_
    refine zs_iret (pc := 10) t21_10 mr21 (by decide) ?_
    show zGo X l 1 0 0 24 12 [(0, .ref 131), (1, .ref 18), (2, .int (zI M 7 13))] [.int (0 : Int32), .ref 131] w37M _
    have w52 : zIv cLo cHi (zsI w37M 131 13 (0 : Int32)) := zIv.put w37I (show 0 ≤ (0 : Int32).toInt ∧ (0 : Int32).toInt ≤ 500 from ⟨by decide, by decide⟩)
    refine zs_putI (pc := 12) t24_12 (zk1 (w37s.k fk_zMc_131)) rfl ?_
    refine zs_aload_n (pc := 15) t24_15 rfl ?_
    refine zs_iconst (pc := 16) t24_16 (v := 0) (by decide) ?_
    refine zs_aload_n (pc := 17) t24_17 rfl ?_
    refine zs_get (pc := 18) t24_18 (by decide) (zk1 (w37s.k fk_zMc_131)) (w37s.p rfl fv_zMc_131_14) ?_
    refine zs_iconst (pc := 21) t24_21 (v := 0) (by decide) ?_
    refine zs_aload_n (pc := 22) t24_22 rfl ?_
    refine zs_get (pc := 23) t24_23 (by decide) (zk1 (w37s.k fk_zMc_131)) (zfvi rfl zIs) ?_
    have w53 : (0 : Int32).toInt = 0 := li0
    have w54 : (0 : Int32).toInt = 0 := li0
    have w55 : (0 : Int32).toInt = 0 := li0
    refine zs_copy (pc := 26) t24_26 (w37s.k fk_zMc_18) (w37s.k fk_zMc_142) (by decide) (by decide) (by decide) ⟨by omega, by omega, by omega⟩ (by omega) (by omega) ⟨Nat.le_of_ble_eq_true rfl, by decide⟩ ?_
    obtain ⟨w56M, w56e⟩ : ∃ N, N = zsR (zsI w37M 131 13 (0 : Int32)) 142 (va_cpy (zI (zsI w37M 131 13 (0 : Int32)) 18) (zI (zsI w37M 131 13 (0 : Int32)) 142) (0 : Int32).toNatClampNeg (0 : Int32).toNatClampNeg (0 : Int32).toNatClampNeg) := ⟨_, rfl⟩
    have w56s : zSk zMc w56M := by rw [w56e]; exact w37s
    have w56I : zIv cLo cHi w56M := by rw [w56e]; exact zIv.row w52 (fun _ => zcpyB (fun j => ib18 w52 j) (fun j => ib142 w52 j))
    have w56F : zFr [(142, 142, none)] (zsI w37M 131 13 (0 : Int32)) w56M := by rw [w56e]; exact zFr.row zFr.refl (fun _ => rfl)
    have w56C : ∀ j : Nat, (j : Int) < (0 : Int32).toInt → zI w56M 142 j = zI (zsI w37M 131 13 (0 : Int32)) 18 j := fun j hj => by rw [w56e]; exact (congrFun zRs j).trans (zcpy0 (by omega) (by omega) hj)
    rw [← w56e]
    refine zs_vret (pc := 29) t24_29 mr24 ?_
    show zGo X l 2 0 0 23 204 [(0, .ref 131), (1, .ref 7)] [] w56M _
    have w57 : (zI w56M 131 0).toInt = (zI M 7 0).toInt := (congrArg Int32.toInt ((w56F 131 0 rfl).trans ((zIoj (by decide)).trans ((w37F 131 0 rfl).trans ((w33F 131 0 rfl).trans ((w30F 131 0 rfl).trans ((w27F 131 0 rfl).trans ((zIoj (by decide)).trans ((w22F 131 0 rfl).trans ((w19F 131 0 rfl).trans ((w16F 131 0 rfl).trans ((w13F 131 0 rfl).trans ((zIoj (by decide)).trans ((w8F 131 0 rfl).trans ((w5F 131 0 rfl).trans zIs))))))))))))))).trans rfl
    have w58 : (zI w56M 131 3).toInt = (zI M 7 3).toInt := (congrArg Int32.toInt ((w56F 131 3 rfl).trans ((zIoj (by decide)).trans ((w37F 131 3 rfl).trans ((w33F 131 3 rfl).trans ((w30F 131 3 rfl).trans ((w27F 131 3 rfl).trans ((zIoj (by decide)).trans ((w22F 131 3 rfl).trans ((w19F 131 3 rfl).trans ((w16F 131 3 rfl).trans ((w13F 131 3 rfl).trans zIs)))))))))))).trans rfl
    have w59 : (zI w56M 131 8).toInt = (zI M 7 8).toInt := (congrArg Int32.toInt ((w56F 131 8 rfl).trans ((zIoj (by decide)).trans ((w37F 131 8 rfl).trans ((w33F 131 8 rfl).trans ((w30F 131 8 rfl).trans ((w27F 131 8 rfl).trans zIs))))))).trans rfl
    have w60 : (zI w56M 131 13).toInt = 0 := (congrArg Int32.toInt ((w56F 131 13 rfl).trans zIs)).trans li0
    have w61 : (zI (zsI M 131 0 (zI M 7 0)) 7 0).toInt = (zI M 7 0).toInt := (congrArg Int32.toInt ((zIo (by decide)).trans rfl)).trans rfl
    have w62 : (zI (zsI M 131 0 (zI M 7 0)) 7 3).toInt = (zI M 7 3).toInt := (congrArg Int32.toInt ((zIo (by decide)).trans rfl)).trans rfl
    have w63 : (zI (zsI M 131 0 (zI M 7 0)) 7 8).toInt = (zI M 7 8).toInt := (congrArg Int32.toInt ((zIo (by decide)).trans rfl)).trans rfl
    have w64 : (zI (zsI M 131 0 (zI M 7 0)) 7 13).toInt = (zI M 7 13).toInt := (congrArg Int32.toInt ((zIo (by decide)).trans rfl)).trans rfl
    exact zs_vret (pc := 204) t23_204 mr23 (hQ _ w56s w56I ((((((((((((((((zFr.refl).put rfl).trans (w5F.mono rfl)).trans (w8F.mono rfl)).put rfl).trans (w13F.mono rfl)).trans (w16F.mono rfl)).trans (w19F.mono rfl)).trans (w22F.mono rfl)).put rfl).trans (w27F.mono rfl)).trans (w30F.mono rfl)).trans (w33F.mono rfl)).trans (w37F.mono rfl)).put rfl).trans (w56F.mono rfl)) (zSo.cp x0 (by omega) (by omega) (by omega) (by omega) (fun j hj => ((((w56F 132 j rfl).trans ((zIo (by decide)).trans ((w37F 132 j rfl).trans ((w33F 132 j rfl).trans ((w30F 132 j rfl).trans ((w27F 132 j rfl).trans ((zIo (by decide)).trans ((w22F 132 j rfl).trans ((w19F 132 j rfl).trans ((w16F 132 j rfl).trans ((w13F 132 j rfl).trans ((zIo (by decide)).trans (w8F 132 j rfl))))))))))))).trans (w5C j (by omega))).trans (zIo (by decide)))) (fun j hj => ((((w56F 133 j rfl).trans ((zIo (by decide)).trans ((w37F 133 j rfl).trans ((w33F 133 j rfl).trans ((w30F 133 j rfl).trans ((w27F 133 j rfl).trans ((zIo (by decide)).trans ((w22F 133 j rfl).trans ((w19F 133 j rfl).trans ((w16F 133 j rfl).trans ((w13F 133 j rfl).trans (zIo (by decide))))))))))))).trans (w8C j (by omega))).trans ((w5F 9 j rfl).trans (zIo (by decide))))) (fun j hj => ((((w56F 134 j rfl).trans ((zIo (by decide)).trans ((w37F 134 j rfl).trans ((w33F 134 j rfl).trans ((w30F 134 j rfl).trans ((w27F 134 j rfl).trans ((zIo (by decide)).trans ((w22F 134 j rfl).trans ((w19F 134 j rfl).trans (w16F 134 j rfl)))))))))).trans (w13C j (by omega))).trans ((zIo (by decide)).trans ((w8F 10 j rfl).trans ((w5F 10 j rfl).trans (zIo (by decide))))))) (fun j hj => ((((w56F 135 j rfl).trans ((zIo (by decide)).trans ((w37F 135 j rfl).trans ((w33F 135 j rfl).trans ((w30F 135 j rfl).trans ((w27F 135 j rfl).trans ((zIo (by decide)).trans ((w22F 135 j rfl).trans (w19F 135 j rfl))))))))).trans (w16C j (by omega))).trans ((w13F 11 j rfl).trans ((zIo (by decide)).trans ((w8F 11 j rfl).trans ((w5F 11 j rfl).trans (zIo (by decide)))))))) (fun j hj => ((((w56F 136 j rfl).trans ((zIo (by decide)).trans ((w37F 136 j rfl).trans ((w33F 136 j rfl).trans ((w30F 136 j rfl).trans ((w27F 136 j rfl).trans ((zIo (by decide)).trans (w22F 136 j rfl)))))))).trans (w19C j (by omega))).trans ((w16F 12 j rfl).trans ((w13F 12 j rfl).trans ((zIo (by decide)).trans ((w8F 12 j rfl).trans ((w5F 12 j rfl).trans (zIo (by decide))))))))) (fun j hj => ((((w56F 137 j rfl).trans ((zIo (by decide)).trans ((w37F 137 j rfl).trans ((w33F 137 j rfl).trans ((w30F 137 j rfl).trans ((w27F 137 j rfl).trans (zIo (by decide)))))))).trans (w22C j (by omega))).trans ((w19F 13 j rfl).trans ((w16F 13 j rfl).trans ((w13F 13 j rfl).trans ((zIo (by decide)).trans ((w8F 13 j rfl).trans ((w5F 13 j rfl).trans (zIo (by decide)))))))))) (fun j hj => ((((w56F 138 j rfl).trans ((zIo (by decide)).trans ((w37F 138 j rfl).trans ((w33F 138 j rfl).trans (w30F 138 j rfl))))).trans (w27C j (by omega))).trans ((zIo (by decide)).trans ((w22F 14 j rfl).trans ((w19F 14 j rfl).trans ((w16F 14 j rfl).trans ((w13F 14 j rfl).trans ((zIo (by decide)).trans ((w8F 14 j rfl).trans ((w5F 14 j rfl).trans (zIo (by decide)))))))))))) (fun j hj => ((((w56F 139 j rfl).trans ((zIo (by decide)).trans ((w37F 139 j rfl).trans (w33F 139 j rfl)))).trans (w30C j (by omega))).trans ((w27F 15 j rfl).trans ((zIo (by decide)).trans ((w22F 15 j rfl).trans ((w19F 15 j rfl).trans ((w16F 15 j rfl).trans ((w13F 15 j rfl).trans ((zIo (by decide)).trans ((w8F 15 j rfl).trans ((w5F 15 j rfl).trans (zIo (by decide))))))))))))) (fun j hj => ((((w56F 140 j rfl).trans ((zIo (by decide)).trans (w37F 140 j rfl))).trans (w33C j (by omega))).trans ((w30F 16 j rfl).trans ((w27F 16 j rfl).trans ((zIo (by decide)).trans ((w22F 16 j rfl).trans ((w19F 16 j rfl).trans ((w16F 16 j rfl).trans ((w13F 16 j rfl).trans ((zIo (by decide)).trans ((w8F 16 j rfl).trans ((w5F 16 j rfl).trans (zIo (by decide)))))))))))))) (fun j hj => ((((w56F 141 j rfl).trans (zIo (by decide))).trans (w37C j (by omega))).trans ((w33F 17 j rfl).trans ((w30F 17 j rfl).trans ((w27F 17 j rfl).trans ((zIo (by decide)).trans ((w22F 17 j rfl).trans ((w19F 17 j rfl).trans ((w16F 17 j rfl).trans ((w13F 17 j rfl).trans ((zIo (by decide)).trans ((w8F 17 j rfl).trans ((w5F 17 j rfl).trans (zIo (by decide))))))))))))))) (fun j hj => ((w56C j (by omega)).trans ((zIo (by decide)).trans ((w37F 18 j rfl).trans ((w33F 18 j rfl).trans ((w30F 18 j rfl).trans ((w27F 18 j rfl).trans ((zIo (by decide)).trans ((w22F 18 j rfl).trans ((w19F 18 j rfl).trans ((w16F 18 j rfl).trans ((w13F 18 j rfl).trans ((zIo (by decide)).trans ((w8F 18 j rfl).trans ((w5F 18 j rfl).trans (zIo (by decide)))))))))))))))))))
theorem X23_143_7 {X : zX} {l : Launch} {M : zM} {Q : Option Value → zM → Prop} (hs : zSk zMc M) (hI : zIv cLo cHi M) {F : Nat → Int} (x0 : zSo M 7 F) (hQ : ∀ M', zSk zMc M' → zIv cLo cHi M' → zFr [(143, 143, none), (144, 154, none)] M M' → (zSo M' 143 F) → Q none M') : zCall X l 2 0 0 23 [.ref 143, .ref 7] M Q := by
  refine zs_in (by decide) mf23 (Nat.le_of_ble_eq_true rfl) ?_
  show zGo X l 2 0 0 23 0 [(0, .ref 143), (1, .ref 7)] [] M _
  refine zs_aload_n (pc := 0) t23_0 rfl ?_
  refine zs_aload_n (pc := 1) t23_1 rfl ?_
  have w1 := ib7_0 hI
  refine zs_get (pc := 2) t23_2 (by decide) (zk1 (hs.k fk_zMc_7)) (zfvi rfl rfl) ?_
  have w2 : zIv cLo cHi (zsI M 143 0 (zI M 7 0)) := zIv.put hI (show 0 ≤ (zI M 7 0).toInt ∧ (zI M 7 0).toInt ≤ 8 from ⟨by omega, by omega⟩)
  refine zs_putI (pc := 5) t23_5 (zk1 (hs.k fk_zMc_143)) rfl ?_
  refine zs_aload_n (pc := 8) t23_8 rfl ?_
  refine zs_get (pc := 9) t23_9 (by decide) (zk1 (hs.k fk_zMc_7)) (hs.p rfl fv_zMc_7_1) ?_
  refine zs_iconst (pc := 12) t23_12 (v := 0) (by decide) ?_
  refine zs_aload_n (pc := 13) t23_13 rfl ?_
  refine zs_get (pc := 14) t23_14 (by decide) (zk1 (hs.k fk_zMc_143)) (hs.p rfl fv_zMc_143_1) ?_
  refine zs_iconst (pc := 17) t23_17 (v := 0) (by decide) ?_
  refine zs_aload_n (pc := 18) t23_18 rfl ?_
  refine zs_get (pc := 19) t23_19 (by decide) (zk1 (hs.k fk_zMc_143)) (zfvi rfl zIs) ?_
  have w3 : (0 : Int32).toInt = 0 := li0
  have w4 : (0 : Int32).toInt = 0 := li0
  refine zs_copy (pc := 22) t23_22 (hs.k fk_zMc_8) (hs.k fk_zMc_144) (by decide) (by decide) (by decide) ⟨by omega, by omega, by omega⟩ (by omega) (by omega) ⟨Nat.le_of_ble_eq_true rfl, by decide⟩ ?_
  obtain ⟨w5M, w5e⟩ : ∃ N, N = zsR (zsI M 143 0 (zI M 7 0)) 144 (va_cpy (zI (zsI M 143 0 (zI M 7 0)) 8) (zI (zsI M 143 0 (zI M 7 0)) 144) (0 : Int32).toNatClampNeg (0 : Int32).toNatClampNeg (zI M 7 0).toNatClampNeg) := ⟨_, rfl⟩
  have w5s : zSk zMc w5M := by rw [w5e]; exact hs
  have w5I : zIv cLo cHi w5M := by rw [w5e]; exact zIv.row w2 (fun _ => zrg _)
  have w5F : zFr [(144, 144, none)] (zsI M 143 0 (zI M 7 0)) w5M := by rw [w5e]; exact zFr.row zFr.refl (fun _ => rfl)
  have w5C : ∀ j : Nat, (j : Int) < (zI M 7 0).toInt → zI w5M 144 j = zI (zsI M 143 0 (zI M 7 0)) 8 j := fun j hj => by rw [w5e]; exact (congrFun zRs j).trans (zcpy0 (by omega) (by omega) hj)
  rw [← w5e]
  refine zs_aload_n (pc := 25) t23_25 rfl ?_
  refine zs_get (pc := 26) t23_26 (by decide) (zk1 (w5s.k fk_zMc_7)) (w5s.p rfl fv_zMc_7_2) ?_
  refine zs_iconst (pc := 29) t23_29 (v := 0) (by decide) ?_
  refine zs_aload_n (pc := 30) t23_30 rfl ?_
  refine zs_get (pc := 31) t23_31 (by decide) (zk1 (w5s.k fk_zMc_143)) (w5s.p rfl fv_zMc_143_2) ?_
  refine zs_iconst (pc := 34) t23_34 (v := 0) (by decide) ?_
  refine zs_aload_n (pc := 35) t23_35 rfl ?_
  refine zs_get (pc := 36) t23_36 (by decide) (zk1 (w5s.k fk_zMc_143)) (zfvi rfl ((w5F 143 0 rfl).trans zIs)) ?_
  have w6 : (0 : Int32).toInt = 0 := li0
  have w7 : (0 : Int32).toInt = 0 := li0
  refine zs_copy (pc := 39) t23_39 (w5s.k fk_zMc_9) (w5s.k fk_zMc_145) (by decide) (by decide) (by decide) ⟨by omega, by omega, by omega⟩ (by omega) (by omega) ⟨Nat.le_of_ble_eq_true rfl, by decide⟩ ?_
  obtain ⟨w8M, w8e⟩ : ∃ N, N = zsR w5M 145 (va_cpy (zI w5M 9) (zI w5M 145) (0 : Int32).toNatClampNeg (0 : Int32).toNatClampNeg (zI M 7 0).toNatClampNeg) := ⟨_, rfl⟩
  have w8s : zSk zMc w8M := by rw [w8e]; exact w5s
  have w8I : zIv cLo cHi w8M := by rw [w8e]; exact zIv.row w5I (fun _ => zcpyB (fun j => ib9 w5I j) (fun j => ib145 w5I j))
  have w8F : zFr [(145, 145, none)] w5M w8M := by rw [w8e]; exact zFr.row zFr.refl (fun _ => rfl)
  have w8C : ∀ j : Nat, (j : Int) < (zI M 7 0).toInt → zI w8M 145 j = zI w5M 9 j := fun j hj => by rw [w8e]; exact (congrFun zRs j).trans (zcpy0 (by omega) (by omega) hj)
  rw [← w8e]
  refine zs_aload_n (pc := 42) t23_42 rfl ?_
  refine zs_aload_n (pc := 43) t23_43 rfl ?_
  have w9 := ib7_3 hI
  refine zs_get (pc := 44) t23_44 (by decide) (zk1 (w8s.k fk_zMc_7)) (zfvi rfl ((w8F 7 3 rfl).trans ((w5F 7 3 rfl).trans ((zIo (by decide)).trans rfl)))) ?_
  have w10 : zIv cLo cHi (zsI w8M 143 3 (zI M 7 3)) := zIv.put w8I (show 0 ≤ (zI M 7 3).toInt ∧ (zI M 7 3).toInt ≤ 60 from ⟨by omega, by omega⟩)
  refine zs_putI (pc := 47) t23_47 (zk1 (w8s.k fk_zMc_143)) rfl ?_
  refine zs_aload_n (pc := 50) t23_50 rfl ?_
  refine zs_get (pc := 51) t23_51 (by decide) (zk1 (w8s.k fk_zMc_7)) (w8s.p rfl fv_zMc_7_4) ?_
  refine zs_iconst (pc := 54) t23_54 (v := 0) (by decide) ?_
  refine zs_aload_n (pc := 55) t23_55 rfl ?_
  refine zs_get (pc := 56) t23_56 (by decide) (zk1 (w8s.k fk_zMc_143)) (w8s.p rfl fv_zMc_143_4) ?_
  refine zs_iconst (pc := 59) t23_59 (v := 0) (by decide) ?_
  refine zs_aload_n (pc := 60) t23_60 rfl ?_
  refine zs_get (pc := 61) t23_61 (by decide) (zk1 (w8s.k fk_zMc_143)) (zfvi rfl zIs) ?_
  have w11 : (0 : Int32).toInt = 0 := li0
  have w12 : (0 : Int32).toInt = 0 := li0
  refine zs_copy (pc := 64) t23_64 (w8s.k fk_zMc_10) (w8s.k fk_zMc_146) (by decide) (by decide) (by decide) ⟨by omega, by omega, by omega⟩ (by omega) (by omega) ⟨Nat.le_of_ble_eq_true rfl, by decide⟩ ?_
  obtain ⟨w13M, w13e⟩ : ∃ N, N = zsR (zsI w8M 143 3 (zI M 7 3)) 146 (va_cpy (zI (zsI w8M 143 3 (zI M 7 3)) 10) (zI (zsI w8M 143 3 (zI M 7 3)) 146) (0 : Int32).toNatClampNeg (0 : Int32).toNatClampNeg (zI M 7 3).toNatClampNeg) := ⟨_, rfl⟩
  have w13s : zSk zMc w13M := by rw [w13e]; exact w8s
  have w13I : zIv cLo cHi w13M := by rw [w13e]; exact zIv.row w10 (fun _ => zcpyB (fun j => ib10 w10 j) (fun j => ib146 w10 j))
  have w13F : zFr [(146, 146, none)] (zsI w8M 143 3 (zI M 7 3)) w13M := by rw [w13e]; exact zFr.row zFr.refl (fun _ => rfl)
  have w13C : ∀ j : Nat, (j : Int) < (zI M 7 3).toInt → zI w13M 146 j = zI (zsI w8M 143 3 (zI M 7 3)) 10 j := fun j hj => by rw [w13e]; exact (congrFun zRs j).trans (zcpy0 (by omega) (by omega) hj)
  rw [← w13e]
  refine zs_aload_n (pc := 67) t23_67 rfl ?_
  refine zs_get (pc := 68) t23_68 (by decide) (zk1 (w13s.k fk_zMc_7)) (w13s.p rfl fv_zMc_7_5) ?_
  refine zs_iconst (pc := 71) t23_71 (v := 0) (by decide) ?_
  refine zs_aload_n (pc := 72) t23_72 rfl ?_
  refine zs_get (pc := 73) t23_73 (by decide) (zk1 (w13s.k fk_zMc_143)) (w13s.p rfl fv_zMc_143_5) ?_
  refine zs_iconst (pc := 76) t23_76 (v := 0) (by decide) ?_
  refine zs_aload_n (pc := 77) t23_77 rfl ?_
  refine zs_get (pc := 78) t23_78 (by decide) (zk1 (w13s.k fk_zMc_143)) (zfvi rfl ((w13F 143 3 rfl).trans zIs)) ?_
  have w14 : (0 : Int32).toInt = 0 := li0
  have w15 : (0 : Int32).toInt = 0 := li0
  refine zs_copy (pc := 81) t23_81 (w13s.k fk_zMc_11) (w13s.k fk_zMc_147) (by decide) (by decide) (by decide) ⟨by omega, by omega, by omega⟩ (by omega) (by omega) ⟨Nat.le_of_ble_eq_true rfl, by decide⟩ ?_
  obtain ⟨w16M, w16e⟩ : ∃ N, N = zsR w13M 147 (va_cpy (zI w13M 11) (zI w13M 147) (0 : Int32).toNatClampNeg (0 : Int32).toNatClampNeg (zI M 7 3).toNatClampNeg) := ⟨_, rfl⟩
  have w16s : zSk zMc w16M := by rw [w16e]; exact w13s
  have w16I : zIv cLo cHi w16M := by rw [w16e]; exact zIv.row w13I (fun _ => zrg _)
  have w16F : zFr [(147, 147, none)] w13M w16M := by rw [w16e]; exact zFr.row zFr.refl (fun _ => rfl)
  have w16C : ∀ j : Nat, (j : Int) < (zI M 7 3).toInt → zI w16M 147 j = zI w13M 11 j := fun j hj => by rw [w16e]; exact (congrFun zRs j).trans (zcpy0 (by omega) (by omega) hj)
  rw [← w16e]
  refine zs_aload_n (pc := 84) t23_84 rfl ?_
  refine zs_get (pc := 85) t23_85 (by decide) (zk1 (w16s.k fk_zMc_7)) (w16s.p rfl fv_zMc_7_6) ?_
  refine zs_iconst (pc := 88) t23_88 (v := 0) (by decide) ?_
  refine zs_aload_n (pc := 89) t23_89 rfl ?_
  refine zs_get (pc := 90) t23_90 (by decide) (zk1 (w16s.k fk_zMc_143)) (w16s.p rfl fv_zMc_143_6) ?_
  refine zs_iconst (pc := 93) t23_93 (v := 0) (by decide) ?_
  refine zs_aload_n (pc := 94) t23_94 rfl ?_
  refine zs_get (pc := 95) t23_95 (by decide) (zk1 (w16s.k fk_zMc_143)) (zfvi rfl ((w16F 143 3 rfl).trans ((w13F 143 3 rfl).trans zIs))) ?_
  have w17 : (0 : Int32).toInt = 0 := li0
  have w18 : (0 : Int32).toInt = 0 := li0
  refine zs_copy (pc := 98) t23_98 (w16s.k fk_zMc_12) (w16s.k fk_zMc_148) (by decide) (by decide) (by decide) ⟨by omega, by omega, by omega⟩ (by omega) (by omega) ⟨Nat.le_of_ble_eq_true rfl, by decide⟩ ?_
  obtain ⟨w19M, w19e⟩ : ∃ N, N = zsR w16M 148 (va_cpy (zI w16M 12) (zI w16M 148) (0 : Int32).toNatClampNeg (0 : Int32).toNatClampNeg (zI M 7 3).toNatClampNeg) := ⟨_, rfl⟩
  have w19s : zSk zMc w19M := by rw [w19e]; exact w16s
  have w19I : zIv cLo cHi w19M := by rw [w19e]; exact zIv.row w16I (fun _ => zrg _)
  have w19F : zFr [(148, 148, none)] w16M w19M := by rw [w19e]; exact zFr.row zFr.refl (fun _ => rfl)
  have w19C : ∀ j : Nat, (j : Int) < (zI M 7 3).toInt → zI w19M 148 j = zI w16M 12 j := fun j hj => by rw [w19e]; exact (congrFun zRs j).trans (zcpy0 (by omega) (by omega) hj)
  rw [← w19e]
  refine zs_aload_n (pc := 101) t23_101 rfl ?_
  refine zs_get (pc := 102) t23_102 (by decide) (zk1 (w19s.k fk_zMc_7)) (w19s.p rfl fv_zMc_7_7) ?_
  refine zs_iconst (pc := 105) t23_105 (v := 0) (by decide) ?_
  refine zs_aload_n (pc := 106) t23_106 rfl ?_
  refine zs_get (pc := 107) t23_107 (by decide) (zk1 (w19s.k fk_zMc_143)) (w19s.p rfl fv_zMc_143_7) ?_
  refine zs_iconst (pc := 110) t23_110 (v := 0) (by decide) ?_
  refine zs_aload_n (pc := 111) t23_111 rfl ?_
  refine zs_get (pc := 112) t23_112 (by decide) (zk1 (w19s.k fk_zMc_143)) (zfvi rfl ((w19F 143 3 rfl).trans ((w16F 143 3 rfl).trans ((w13F 143 3 rfl).trans zIs)))) ?_
  have w20 : (0 : Int32).toInt = 0 := li0
  have w21 : (0 : Int32).toInt = 0 := li0
  refine zs_copy (pc := 115) t23_115 (w19s.k fk_zMc_13) (w19s.k fk_zMc_149) (by decide) (by decide) (by decide) ⟨by omega, by omega, by omega⟩ (by omega) (by omega) ⟨Nat.le_of_ble_eq_true rfl, by decide⟩ ?_
  obtain ⟨w22M, w22e⟩ : ∃ N, N = zsR w19M 149 (va_cpy (zI w19M 13) (zI w19M 149) (0 : Int32).toNatClampNeg (0 : Int32).toNatClampNeg (zI M 7 3).toNatClampNeg) := ⟨_, rfl⟩
  have w22s : zSk zMc w22M := by rw [w22e]; exact w19s
  have w22I : zIv cLo cHi w22M := by rw [w22e]; exact zIv.row w19I (fun _ => zrg _)
  have w22F : zFr [(149, 149, none)] w19M w22M := by rw [w22e]; exact zFr.row zFr.refl (fun _ => rfl)
  have w22C : ∀ j : Nat, (j : Int) < (zI M 7 3).toInt → zI w22M 149 j = zI w19M 13 j := fun j hj => by rw [w22e]; exact (congrFun zRs j).trans (zcpy0 (by omega) (by omega) hj)
  rw [← w22e]
  refine zs_aload_n (pc := 118) t23_118 rfl ?_
  refine zs_aload_n (pc := 119) t23_119 rfl ?_
  have w23 := ib7_8 hI
  refine zs_get (pc := 120) t23_120 (by decide) (zk1 (w22s.k fk_zMc_7)) (zfvi rfl ((w22F 7 8 rfl).trans ((w19F 7 8 rfl).trans ((w16F 7 8 rfl).trans ((w13F 7 8 rfl).trans ((zIo (by decide)).trans ((w8F 7 8 rfl).trans ((w5F 7 8 rfl).trans ((zIo (by decide)).trans rfl))))))))) ?_
  have w24 : zIv cLo cHi (zsI w22M 143 8 (zI M 7 8)) := zIv.put w22I (show 0 ≤ (zI M 7 8).toInt ∧ (zI M 7 8).toInt ≤ 12 from ⟨by omega, by omega⟩)
  refine zs_putI (pc := 123) t23_123 (zk1 (w22s.k fk_zMc_143)) rfl ?_
  refine zs_aload_n (pc := 126) t23_126 rfl ?_
  refine zs_get (pc := 127) t23_127 (by decide) (zk1 (w22s.k fk_zMc_7)) (w22s.p rfl fv_zMc_7_9) ?_
  refine zs_iconst (pc := 130) t23_130 (v := 0) (by decide) ?_
  refine zs_aload_n (pc := 131) t23_131 rfl ?_
  refine zs_get (pc := 132) t23_132 (by decide) (zk1 (w22s.k fk_zMc_143)) (w22s.p rfl fv_zMc_143_9) ?_
  refine zs_iconst (pc := 135) t23_135 (v := 0) (by decide) ?_
  refine zs_aload_n (pc := 136) t23_136 rfl ?_
  refine zs_get (pc := 137) t23_137 (by decide) (zk1 (w22s.k fk_zMc_143)) (zfvi rfl zIs) ?_
  have w25 : (0 : Int32).toInt = 0 := li0
  have w26 : (0 : Int32).toInt = 0 := li0
  refine zs_copy (pc := 140) t23_140 (w22s.k fk_zMc_14) (w22s.k fk_zMc_150) (by decide) (by decide) (by decide) ⟨by omega, by omega, by omega⟩ (by omega) (by omega) ⟨Nat.le_of_ble_eq_true rfl, by decide⟩ ?_
  obtain ⟨w27M, w27e⟩ : ∃ N, N = zsR (zsI w22M 143 8 (zI M 7 8)) 150 (va_cpy (zI (zsI w22M 143 8 (zI M 7 8)) 14) (zI (zsI w22M 143 8 (zI M 7 8)) 150) (0 : Int32).toNatClampNeg (0 : Int32).toNatClampNeg (zI M 7 8).toNatClampNeg) := ⟨_, rfl⟩
  have w27s : zSk zMc w27M := by rw [w27e]; exact w22s
  have w27I : zIv cLo cHi w27M := by rw [w27e]; exact zIv.row w24 (fun _ => zrg _)
  have w27F : zFr [(150, 150, none)] (zsI w22M 143 8 (zI M 7 8)) w27M := by rw [w27e]; exact zFr.row zFr.refl (fun _ => rfl)
  have w27C : ∀ j : Nat, (j : Int) < (zI M 7 8).toInt → zI w27M 150 j = zI (zsI w22M 143 8 (zI M 7 8)) 14 j := fun j hj => by rw [w27e]; exact (congrFun zRs j).trans (zcpy0 (by omega) (by omega) hj)
  rw [← w27e]
  refine zs_aload_n (pc := 143) t23_143 rfl ?_
  refine zs_get (pc := 144) t23_144 (by decide) (zk1 (w27s.k fk_zMc_7)) (w27s.p rfl fv_zMc_7_10) ?_
  refine zs_iconst (pc := 147) t23_147 (v := 0) (by decide) ?_
  refine zs_aload_n (pc := 148) t23_148 rfl ?_
  refine zs_get (pc := 149) t23_149 (by decide) (zk1 (w27s.k fk_zMc_143)) (w27s.p rfl fv_zMc_143_10) ?_
  refine zs_iconst (pc := 152) t23_152 (v := 0) (by decide) ?_
  refine zs_aload_n (pc := 153) t23_153 rfl ?_
  refine zs_get (pc := 154) t23_154 (by decide) (zk1 (w27s.k fk_zMc_143)) (zfvi rfl ((w27F 143 8 rfl).trans zIs)) ?_
  have w28 : (0 : Int32).toInt = 0 := li0
  have w29 : (0 : Int32).toInt = 0 := li0
  refine zs_copy (pc := 157) t23_157 (w27s.k fk_zMc_15) (w27s.k fk_zMc_151) (by decide) (by decide) (by decide) ⟨by omega, by omega, by omega⟩ (by omega) (by omega) ⟨Nat.le_of_ble_eq_true rfl, by decide⟩ ?_
  obtain ⟨w30M, w30e⟩ : ∃ N, N = zsR w27M 151 (va_cpy (zI w27M 15) (zI w27M 151) (0 : Int32).toNatClampNeg (0 : Int32).toNatClampNeg (zI M 7 8).toNatClampNeg) := ⟨_, rfl⟩
  have w30s : zSk zMc w30M := by rw [w30e]; exact w27s
  have w30I : zIv cLo cHi w30M := by rw [w30e]; exact zIv.row w27I (fun _ => zrg _)
  have w30F : zFr [(151, 151, none)] w27M w30M := by rw [w30e]; exact zFr.row zFr.refl (fun _ => rfl)
  have w30C : ∀ j : Nat, (j : Int) < (zI M 7 8).toInt → zI w30M 151 j = zI w27M 15 j := fun j hj => by rw [w30e]; exact (congrFun zRs j).trans (zcpy0 (by omega) (by omega) hj)
  rw [← w30e]
  refine zs_aload_n (pc := 160) t23_160 rfl ?_
  refine zs_get (pc := 161) t23_161 (by decide) (zk1 (w30s.k fk_zMc_7)) (w30s.p rfl fv_zMc_7_11) ?_
  refine zs_iconst (pc := 164) t23_164 (v := 0) (by decide) ?_
  refine zs_aload_n (pc := 165) t23_165 rfl ?_
  refine zs_get (pc := 166) t23_166 (by decide) (zk1 (w30s.k fk_zMc_143)) (w30s.p rfl fv_zMc_143_11) ?_
  refine zs_iconst (pc := 169) t23_169 (v := 0) (by decide) ?_
  refine zs_aload_n (pc := 170) t23_170 rfl ?_
  refine zs_get (pc := 171) t23_171 (by decide) (zk1 (w30s.k fk_zMc_143)) (zfvi rfl ((w30F 143 8 rfl).trans ((w27F 143 8 rfl).trans zIs))) ?_
  have w31 : (0 : Int32).toInt = 0 := li0
  have w32 : (0 : Int32).toInt = 0 := li0
  refine zs_copy (pc := 174) t23_174 (w30s.k fk_zMc_16) (w30s.k fk_zMc_152) (by decide) (by decide) (by decide) ⟨by omega, by omega, by omega⟩ (by omega) (by omega) ⟨Nat.le_of_ble_eq_true rfl, by decide⟩ ?_
  obtain ⟨w33M, w33e⟩ : ∃ N, N = zsR w30M 152 (va_cpy (zI w30M 16) (zI w30M 152) (0 : Int32).toNatClampNeg (0 : Int32).toNatClampNeg (zI M 7 8).toNatClampNeg) := ⟨_, rfl⟩
  have w33s : zSk zMc w33M := by rw [w33e]; exact w30s
  have w33I : zIv cLo cHi w33M := by rw [w33e]; exact zIv.row w30I (fun _ => zrg _)
  have w33F : zFr [(152, 152, none)] w30M w33M := by rw [w33e]; exact zFr.row zFr.refl (fun _ => rfl)
  have w33C : ∀ j : Nat, (j : Int) < (zI M 7 8).toInt → zI w33M 152 j = zI w30M 16 j := fun j hj => by rw [w33e]; exact (congrFun zRs j).trans (zcpy0 (by omega) (by omega) hj)
  rw [← w33e]
  refine zs_aload_n (pc := 177) t23_177 rfl ?_
  refine zs_get (pc := 178) t23_178 (by decide) (zk1 (w33s.k fk_zMc_7)) (w33s.p rfl fv_zMc_7_12) ?_
  refine zs_iconst (pc := 181) t23_181 (v := 0) (by decide) ?_
  refine zs_aload_n (pc := 182) t23_182 rfl ?_
  refine zs_get (pc := 183) t23_183 (by decide) (zk1 (w33s.k fk_zMc_143)) (w33s.p rfl fv_zMc_143_12) ?_
  refine zs_iconst (pc := 186) t23_186 (v := 0) (by decide) ?_
  refine zs_bipush (pc := 187) t23_187 (v := 9) (by decide) ?_
  have w34 : (9 : Int32).toInt = 9 := li9
  have w35 : (0 : Int32).toInt = 0 := li0
  have w36 : (0 : Int32).toInt = 0 := li0
  refine zs_copy (pc := 189) t23_189 (w33s.k fk_zMc_17) (w33s.k fk_zMc_153) (by decide) (by decide) (by decide) ⟨by omega, by omega, by omega⟩ (by omega) (by omega) ⟨Nat.le_of_ble_eq_true rfl, by decide⟩ ?_
  obtain ⟨w37M, w37e⟩ : ∃ N, N = zsR w33M 153 (va_cpy (zI w33M 17) (zI w33M 153) (0 : Int32).toNatClampNeg (0 : Int32).toNatClampNeg (9 : Int32).toNatClampNeg) := ⟨_, rfl⟩
  have w37s : zSk zMc w37M := by rw [w37e]; exact w33s
  have w37I : zIv cLo cHi w37M := by rw [w37e]; exact zIv.row w33I (fun _ => zcpyB (fun j => ib17 w33I j) (fun j => ib153 w33I j))
  have w37F : zFr [(153, 153, none)] w33M w37M := by rw [w37e]; exact zFr.row zFr.refl (fun _ => rfl)
  have w37C : ∀ j : Nat, (j : Int) < (9 : Int32).toInt → zI w37M 153 j = zI w33M 17 j := fun j hj => by rw [w37e]; exact (congrFun zRs j).trans (zcpy0 (by omega) (by omega) hj)
  rw [← w37e]
  refine zs_aload_n (pc := 192) t23_192 rfl ?_
  refine zs_aload_n (pc := 193) t23_193 rfl ?_
  refine zs_get (pc := 194) t23_194 (by decide) (zk1 (w37s.k fk_zMc_7)) (w37s.p rfl fv_zMc_7_14) ?_
  refine zs_aload_n (pc := 197) t23_197 rfl ?_
  have w38 := ib7_13 hI
  refine zs_get (pc := 198) t23_198 (by decide) (zk1 (w37s.k fk_zMc_7)) (zfvi rfl ((w37F 7 13 rfl).trans ((w33F 7 13 rfl).trans ((w30F 7 13 rfl).trans ((w27F 7 13 rfl).trans ((zIo (by decide)).trans ((w22F 7 13 rfl).trans ((w19F 7 13 rfl).trans ((w16F 7 13 rfl).trans ((w13F 7 13 rfl).trans ((zIo (by decide)).trans ((w8F 7 13 rfl).trans ((w5F 7 13 rfl).trans ((zIo (by decide)).trans rfl)))))))))))))) ?_
  refine zs_invV (pc := 201) (k := 143) (as' := [.ref 18, .int (zI M 7 13)]) (st := []) t23_201 mf24 rfl rfl (Or.inl ⟨by decide, (zk1 (w37s.k fk_zMc_143))⟩) ⟨by decide, by decide, Nat.le_of_ble_eq_true rfl, Nat.le_of_ble_eq_true rfl⟩ (zs_in (by decide) mf24 (Nat.le_of_ble_eq_true rfl) ?_) (fun _ _ q => q)
  show zGo X l 1 0 0 24 0 [(0, .ref 143), (1, .ref 18), (2, .int (zI M 7 13))] [] w37M _
  refine zs_aload_n (pc := 0) t24_0 rfl ?_
  refine zs_iconst (pc := 1) t24_1 (v := 0) (by decide) ?_
  refine zs_iload_n (pc := 2) t24_2 rfl ?_
  refine zs_sipush (pc := 3) t24_3 (v := 500) (by decide) ?_
  refine zs_invS (pc := 6) (as := [.int (zI M 7 13), .int (500 : Int32)]) (st := [.int (0 : Int32), .ref 143]) t24_6 (by decide) mf20 rfl rfl ⟨by decide, by decide, Nat.le_of_ble_eq_true rfl, Nat.le_of_ble_eq_true rfl⟩ (zs_in (by decide) mf20 (Nat.le_of_ble_eq_true rfl) ?_) (fun _ _ q => q)
  show zGo X l 0 0 0 20 0 [(0, .int (zI M 7 13)), (1, .int (500 : Int32))] [] w37M _
  refine zs_iload_n (pc := 0) t20_0 rfl ?_
  refine zs_iload_n (pc := 1) t20_1 rfl ?_
  refine zs_icmp_gtF (pc := 2) t20_2 rfl li500 (by omega) ?_
  refine zs_iload_n (pc := 5) t20_5 rfl ?_
  refine zs_goto (pc := 6) t20_6 ?_
  refine zs_iret (pc := 10) t20_10 mr20 rfl ?_
  show zGo X l 1 0 0 24 9 [(0, .ref 143), (1, .ref 18), (2, .int (zI M 7 13))] [.int (zI M 7 13), .int (0 : Int32), .ref 143] w37M _
  refine zs_invS (pc := 9) (as := [.int (0 : Int32), .int (zI M 7 13)]) (st := [.ref 143]) t24_9 (by decide) mf21 rfl rfl ⟨by decide, by decide, Nat.le_of_ble_eq_true rfl, Nat.le_of_ble_eq_true rfl⟩ (zs_in (by decide) mf21 (Nat.le_of_ble_eq_true rfl) ?_) (fun _ _ q => q)
  show zGo X l 0 0 0 21 0 [(0, .int (0 : Int32)), (1, .int (zI M 7 13))] [] w37M _
  refine zs_iload_n (pc := 0) t21_0 rfl ?_
  refine zs_iload_n (pc := 1) t21_1 rfl ?_
  by_cases w39 : 0 < (zI M 7 13).toInt
  · refine zs_icmp_ltT (pc := 2) t21_2 li0 rfl (by omega) ?_
    refine zs_iload_n (pc := 9) t21_9 rfl ?_
    refine zs_iret (pc := 10) t21_10 mr21 rfl ?_
    show zGo X l 1 0 0 24 12 [(0, .ref 143), (1, .ref 18), (2, .int (zI M 7 13))] [.int (zI M 7 13), .ref 143] w37M _
    have w40 : zIv cLo cHi (zsI w37M 143 13 (zI M 7 13)) := zIv.put w37I (show 0 ≤ (zI M 7 13).toInt ∧ (zI M 7 13).toInt ≤ 500 from ⟨by omega, by omega⟩)
    refine zs_putI (pc := 12) t24_12 (zk1 (w37s.k fk_zMc_143)) rfl ?_
    refine zs_aload_n (pc := 15) t24_15 rfl ?_
    refine zs_iconst (pc := 16) t24_16 (v := 0) (by decide) ?_
    refine zs_aload_n (pc := 17) t24_17 rfl ?_
    refine zs_get (pc := 18) t24_18 (by decide) (zk1 (w37s.k fk_zMc_143)) (w37s.p rfl fv_zMc_143_14) ?_
    refine zs_iconst (pc := 21) t24_21 (v := 0) (by decide) ?_
    refine zs_aload_n (pc := 22) t24_22 rfl ?_
    refine zs_get (pc := 23) t24_23 (by decide) (zk1 (w37s.k fk_zMc_143)) (zfvi rfl zIs) ?_
    have w41 : (0 : Int32).toInt = 0 := li0
    have w42 : (0 : Int32).toInt = 0 := li0
    refine zs_copy (pc := 26) t24_26 (w37s.k fk_zMc_18) (w37s.k fk_zMc_154) (by decide) (by decide) (by decide) ⟨by omega, by omega, by omega⟩ (by omega) (by omega) ⟨Nat.le_of_ble_eq_true rfl, by decide⟩ ?_
    obtain ⟨w43M, w43e⟩ : ∃ N, N = zsR (zsI w37M 143 13 (zI M 7 13)) 154 (va_cpy (zI (zsI w37M 143 13 (zI M 7 13)) 18) (zI (zsI w37M 143 13 (zI M 7 13)) 154) (0 : Int32).toNatClampNeg (0 : Int32).toNatClampNeg (zI M 7 13).toNatClampNeg) := ⟨_, rfl⟩
    have w43s : zSk zMc w43M := by rw [w43e]; exact w37s
    have w43I : zIv cLo cHi w43M := by rw [w43e]; exact zIv.row w40 (fun _ => zcpyB (fun j => ib18 w40 j) (fun j => ib154 w40 j))
    have w43F : zFr [(154, 154, none)] (zsI w37M 143 13 (zI M 7 13)) w43M := by rw [w43e]; exact zFr.row zFr.refl (fun _ => rfl)
    have w43C : ∀ j : Nat, (j : Int) < (zI M 7 13).toInt → zI w43M 154 j = zI (zsI w37M 143 13 (zI M 7 13)) 18 j := fun j hj => by rw [w43e]; exact (congrFun zRs j).trans (zcpy0 (by omega) (by omega) hj)
    rw [← w43e]
    refine zs_vret (pc := 29) t24_29 mr24 ?_
    show zGo X l 2 0 0 23 204 [(0, .ref 143), (1, .ref 7)] [] w43M _
    have w44 : (zI w43M 143 0).toInt = (zI M 7 0).toInt := (congrArg Int32.toInt ((w43F 143 0 rfl).trans ((zIoj (by decide)).trans ((w37F 143 0 rfl).trans ((w33F 143 0 rfl).trans ((w30F 143 0 rfl).trans ((w27F 143 0 rfl).trans ((zIoj (by decide)).trans ((w22F 143 0 rfl).trans ((w19F 143 0 rfl).trans ((w16F 143 0 rfl).trans ((w13F 143 0 rfl).trans ((zIoj (by decide)).trans ((w8F 143 0 rfl).trans ((w5F 143 0 rfl).trans zIs))))))))))))))).trans rfl
    have w45 : (zI w43M 143 3).toInt = (zI M 7 3).toInt := (congrArg Int32.toInt ((w43F 143 3 rfl).trans ((zIoj (by decide)).trans ((w37F 143 3 rfl).trans ((w33F 143 3 rfl).trans ((w30F 143 3 rfl).trans ((w27F 143 3 rfl).trans ((zIoj (by decide)).trans ((w22F 143 3 rfl).trans ((w19F 143 3 rfl).trans ((w16F 143 3 rfl).trans ((w13F 143 3 rfl).trans zIs)))))))))))).trans rfl
    have w46 : (zI w43M 143 8).toInt = (zI M 7 8).toInt := (congrArg Int32.toInt ((w43F 143 8 rfl).trans ((zIoj (by decide)).trans ((w37F 143 8 rfl).trans ((w33F 143 8 rfl).trans ((w30F 143 8 rfl).trans ((w27F 143 8 rfl).trans zIs))))))).trans rfl
    have w47 : (zI w43M 143 13).toInt = (zI M 7 13).toInt := (congrArg Int32.toInt ((w43F 143 13 rfl).trans zIs)).trans rfl
    have w48 : (zI (zsI M 143 0 (zI M 7 0)) 7 0).toInt = (zI M 7 0).toInt := (congrArg Int32.toInt ((zIo (by decide)).trans rfl)).trans rfl
    have w49 : (zI (zsI M 143 0 (zI M 7 0)) 7 3).toInt = (zI M 7 3).toInt := (congrArg Int32.toInt ((zIo (by decide)).trans rfl)).trans rfl
    have w50 : (zI (zsI M 143 0 (zI M 7 0)) 7 8).toInt = (zI M 7 8).toInt := (congrArg Int32.toInt ((zIo (by decide)).trans rfl)).trans rfl
    have w51 : (zI (zsI M 143 0 (zI M 7 0)) 7 13).toInt = (zI M 7 13).toInt := (congrArg Int32.toInt ((zIo (by decide)).trans rfl)).trans rfl
    exact zs_vret (pc := 204) t23_204 mr23 (hQ _ w43s w43I ((((((((((((((((zFr.refl).put rfl).trans (w5F.mono rfl)).trans (w8F.mono rfl)).put rfl).trans (w13F.mono rfl)).trans (w16F.mono rfl)).trans (w19F.mono rfl)).trans (w22F.mono rfl)).put rfl).trans (w27F.mono rfl)).trans (w30F.mono rfl)).trans (w33F.mono rfl)).trans (w37F.mono rfl)).put rfl).trans (w43F.mono rfl)) (zSo.cp x0 (by omega) (by omega) (by omega) (by omega) (fun j hj => ((((w43F 144 j rfl).trans ((zIo (by decide)).trans ((w37F 144 j rfl).trans ((w33F 144 j rfl).trans ((w30F 144 j rfl).trans ((w27F 144 j rfl).trans ((zIo (by decide)).trans ((w22F 144 j rfl).trans ((w19F 144 j rfl).trans ((w16F 144 j rfl).trans ((w13F 144 j rfl).trans ((zIo (by decide)).trans (w8F 144 j rfl))))))))))))).trans (w5C j (by omega))).trans (zIo (by decide)))) (fun j hj => ((((w43F 145 j rfl).trans ((zIo (by decide)).trans ((w37F 145 j rfl).trans ((w33F 145 j rfl).trans ((w30F 145 j rfl).trans ((w27F 145 j rfl).trans ((zIo (by decide)).trans ((w22F 145 j rfl).trans ((w19F 145 j rfl).trans ((w16F 145 j rfl).trans ((w13F 145 j rfl).trans (zIo (by decide))))))))))))).trans (w8C j (by omega))).trans ((w5F 9 j rfl).trans (zIo (by decide))))) (fun j hj => ((((w43F 146 j rfl).trans ((zIo (by decide)).trans ((w37F 146 j rfl).trans ((w33F 146 j rfl).trans ((w30F 146 j rfl).trans ((w27F 146 j rfl).trans ((zIo (by decide)).trans ((w22F 146 j rfl).trans ((w19F 146 j rfl).trans (w16F 146 j rfl)))))))))).trans (w13C j (by omega))).trans ((zIo (by decide)).trans ((w8F 10 j rfl).trans ((w5F 10 j rfl).trans (zIo (by decide))))))) (fun j hj => ((((w43F 147 j rfl).trans ((zIo (by decide)).trans ((w37F 147 j rfl).trans ((w33F 147 j rfl).trans ((w30F 147 j rfl).trans ((w27F 147 j rfl).trans ((zIo (by decide)).trans ((w22F 147 j rfl).trans (w19F 147 j rfl))))))))).trans (w16C j (by omega))).trans ((w13F 11 j rfl).trans ((zIo (by decide)).trans ((w8F 11 j rfl).trans ((w5F 11 j rfl).trans (zIo (by decide)))))))) (fun j hj => ((((w43F 148 j rfl).trans ((zIo (by decide)).trans ((w37F 148 j rfl).trans ((w33F 148 j rfl).trans ((w30F 148 j rfl).trans ((w27F 148 j rfl).trans ((zIo (by decide)).trans (w22F 148 j rfl)))))))).trans (w19C j (by omega))).trans ((w16F 12 j rfl).trans ((w13F 12 j rfl).trans ((zIo (by decide)).trans ((w8F 12 j rfl).trans ((w5F 12 j rfl).trans (zIo (by decide))))))))) (fun j hj => ((((w43F 149 j rfl).trans ((zIo (by decide)).trans ((w37F 149 j rfl).trans ((w33F 149 j rfl).trans ((w30F 149 j rfl).trans ((w27F 149 j rfl).trans (zIo (by decide)))))))).trans (w22C j (by omega))).trans ((w19F 13 j rfl).trans ((w16F 13 j rfl).trans ((w13F 13 j rfl).trans ((zIo (by decide)).trans ((w8F 13 j rfl).trans ((w5F 13 j rfl).trans (zIo (by decide)))))))))) (fun j hj => ((((w43F 150 j rfl).trans ((zIo (by decide)).trans ((w37F 150 j rfl).trans ((w33F 150 j rfl).trans (w30F 150 j rfl))))).trans (w27C j (by omega))).trans ((zIo (by decide)).trans ((w22F 14 j rfl).trans ((w19F 14 j rfl).trans ((w16F 14 j rfl).trans ((w13F 14 j rfl).trans ((zIo (by decide)).trans ((w8F 14 j rfl).trans ((w5F 14 j rfl).trans (zIo (by decide)))))))))))) (fun j hj => ((((w43F 151 j rfl).trans ((zIo (by decide)).trans ((w37F 151 j rfl).trans (w33F 151 j rfl)))).trans (w30C j (by omega))).trans ((w27F 15 j rfl).trans ((zIo (by decide)).trans ((w22F 15 j rfl).trans ((w19F 15 j rfl).trans ((w16F 15 j rfl).trans ((w13F 15 j rfl).trans ((zIo (by decide)).trans ((w8F 15 j rfl).trans ((w5F 15 j rfl).trans (zIo (by decide))))))))))))) (fun j hj => ((((w43F 152 j rfl).trans ((zIo (by decide)).trans (w37F 152 j rfl))).trans (w33C j (by omega))).trans ((w30F 16 j rfl).trans ((w27F 16 j rfl).trans ((zIo (by decide)).trans ((w22F 16 j rfl).trans ((w19F 16 j rfl).trans ((w16F 16 j rfl).trans ((w13F 16 j rfl).trans ((zIo (by decide)).trans ((w8F 16 j rfl).trans ((w5F 16 j rfl).trans (zIo (by decide)))))))))))))) (fun j hj => ((((w43F 153 j rfl).trans (zIo (by decide))).trans (w37C j (by omega))).trans ((w33F 17 j rfl).trans ((w30F 17 j rfl).trans ((w27F 17 j rfl).trans ((zIo (by decide)).trans ((w22F 17 j rfl).trans ((w19F 17 j rfl).trans ((w16F 17 j rfl).trans ((w13F 17 j rfl).trans ((zIo (by decide)).trans ((w8F 17 j rfl).trans ((w5F 17 j rfl).trans (zIo (by decide))))))))))))))) (fun j hj => ((w43C j (by omega)).trans ((zIo (by decide)).trans ((w37F 18 j rfl).trans ((w33F 18 j rfl).trans ((w30F 18 j rfl).trans ((w27F 18 j rfl).trans ((zIo (by decide)).trans ((w22F 18 j rfl).trans ((w19F 18 j rfl).trans ((w16F 18 j rfl).trans ((w13F 18 j rfl).trans ((zIo (by decide)).trans ((w8F 18 j rfl).trans ((w5F 18 j rfl).trans (zIo (by decide)))))))))))))))))))
  · refine zs_icmp_ltF (pc := 2) t21_2 li0 rfl (by omega) ?_
    refine zs_iload_n (pc := 5) t21_5 rfl ?_
    refine zs_goto (pc := 6) t21_6 ?_
    refine zs_iret (pc := 10) t21_10 mr21 (by decide) ?_
    show zGo X l 1 0 0 24 12 [(0, .ref 143), (1, .ref 18), (2, .int (zI M 7 13))] [.int (0 : Int32), .ref 143] w37M _
    have w52 : zIv cLo cHi (zsI w37M 143 13 (0 : Int32)) := zIv.put w37I (show 0 ≤ (0 : Int32).toInt ∧ (0 : Int32).toInt ≤ 500 from ⟨by decide, by decide⟩)
    refine zs_putI (pc := 12) t24_12 (zk1 (w37s.k fk_zMc_143)) rfl ?_
    refine zs_aload_n (pc := 15) t24_15 rfl ?_
    refine zs_iconst (pc := 16) t24_16 (v := 0) (by decide) ?_
    refine zs_aload_n (pc := 17) t24_17 rfl ?_
    refine zs_get (pc := 18) t24_18 (by decide) (zk1 (w37s.k fk_zMc_143)) (w37s.p rfl fv_zMc_143_14) ?_
    refine zs_iconst (pc := 21) t24_21 (v := 0) (by decide) ?_
    refine zs_aload_n (pc := 22) t24_22 rfl ?_
    refine zs_get (pc := 23) t24_23 (by decide) (zk1 (w37s.k fk_zMc_143)) (zfvi rfl zIs) ?_
    have w53 : (0 : Int32).toInt = 0 := li0
    have w54 : (0 : Int32).toInt = 0 := li0
    have w55 : (0 : Int32).toInt = 0 := li0
    refine zs_copy (pc := 26) t24_26 (w37s.k fk_zMc_18) (w37s.k fk_zMc_154) (by decide) (by decide) (by decide) ⟨by omega, by omega, by omega⟩ (by omega) (by omega) ⟨Nat.le_of_ble_eq_true rfl, by decide⟩ ?_
    obtain ⟨w56M, w56e⟩ : ∃ N, N = zsR (zsI w37M 143 13 (0 : Int32)) 154 (va_cpy (zI (zsI w37M 143 13 (0 : Int32)) 18) (zI (zsI w37M 143 13 (0 : Int32)) 154) (0 : Int32).toNatClampNeg (0 : Int32).toNatClampNeg (0 : Int32).toNatClampNeg) := ⟨_, rfl⟩
    have w56s : zSk zMc w56M := by rw [w56e]; exact w37s
    have w56I : zIv cLo cHi w56M := by rw [w56e]; exact zIv.row w52 (fun _ => zcpyB (fun j => ib18 w52 j) (fun j => ib154 w52 j))
    have w56F : zFr [(154, 154, none)] (zsI w37M 143 13 (0 : Int32)) w56M := by rw [w56e]; exact zFr.row zFr.refl (fun _ => rfl)
    have w56C : ∀ j : Nat, (j : Int) < (0 : Int32).toInt → zI w56M 154 j = zI (zsI w37M 143 13 (0 : Int32)) 18 j := fun j hj => by rw [w56e]; exact (congrFun zRs j).trans (zcpy0 (by omega) (by omega) hj)
    rw [← w56e]
    refine zs_vret (pc := 29) t24_29 mr24 ?_
    show zGo X l 2 0 0 23 204 [(0, .ref 143), (1, .ref 7)] [] w56M _
    have w57 : (zI w56M 143 0).toInt = (zI M 7 0).toInt := (congrArg Int32.toInt ((w56F 143 0 rfl).trans ((zIoj (by decide)).trans ((w37F 143 0 rfl).trans ((w33F 143 0 rfl).trans ((w30F 143 0 rfl).trans ((w27F 143 0 rfl).trans ((zIoj (by decide)).trans ((w22F 143 0 rfl).trans ((w19F 143 0 rfl).trans ((w16F 143 0 rfl).trans ((w13F 143 0 rfl).trans ((zIoj (by decide)).trans ((w8F 143 0 rfl).trans ((w5F 143 0 rfl).trans zIs))))))))))))))).trans rfl
    have w58 : (zI w56M 143 3).toInt = (zI M 7 3).toInt := (congrArg Int32.toInt ((w56F 143 3 rfl).trans ((zIoj (by decide)).trans ((w37F 143 3 rfl).trans ((w33F 143 3 rfl).trans ((w30F 143 3 rfl).trans ((w27F 143 3 rfl).trans ((zIoj (by decide)).trans ((w22F 143 3 rfl).trans ((w19F 143 3 rfl).trans ((w16F 143 3 rfl).trans ((w13F 143 3 rfl).trans zIs)))))))))))).trans rfl
    have w59 : (zI w56M 143 8).toInt = (zI M 7 8).toInt := (congrArg Int32.toInt ((w56F 143 8 rfl).trans ((zIoj (by decide)).trans ((w37F 143 8 rfl).trans ((w33F 143 8 rfl).trans ((w30F 143 8 rfl).trans ((w27F 143 8 rfl).trans zIs))))))).trans rfl
    have w60 : (zI w56M 143 13).toInt = 0 := (congrArg Int32.toInt ((w56F 143 13 rfl).trans zIs)).trans li0
    have w61 : (zI (zsI M 143 0 (zI M 7 0)) 7 0).toInt = (zI M 7 0).toInt := (congrArg Int32.toInt ((zIo (by decide)).trans rfl)).trans rfl
    have w62 : (zI (zsI M 143 0 (zI M 7 0)) 7 3).toInt = (zI M 7 3).toInt := (congrArg Int32.toInt ((zIo (by decide)).trans rfl)).trans rfl
    have w63 : (zI (zsI M 143 0 (zI M 7 0)) 7 8).toInt = (zI M 7 8).toInt := (congrArg Int32.toInt ((zIo (by decide)).trans rfl)).trans rfl
    have w64 : (zI (zsI M 143 0 (zI M 7 0)) 7 13).toInt = (zI M 7 13).toInt := (congrArg Int32.toInt ((zIo (by decide)).trans rfl)).trans rfl
    exact zs_vret (pc := 204) t23_204 mr23 (hQ _ w56s w56I ((((((((((((((((zFr.refl).put rfl).trans (w5F.mono rfl)).trans (w8F.mono rfl)).put rfl).trans (w13F.mono rfl)).trans (w16F.mono rfl)).trans (w19F.mono rfl)).trans (w22F.mono rfl)).put rfl).trans (w27F.mono rfl)).trans (w30F.mono rfl)).trans (w33F.mono rfl)).trans (w37F.mono rfl)).put rfl).trans (w56F.mono rfl)) (zSo.cp x0 (by omega) (by omega) (by omega) (by omega) (fun j hj => ((((w56F 144 j rfl).trans ((zIo (by decide)).trans ((w37F 144 j rfl).trans ((w33F 144 j rfl).trans ((w30F 144 j rfl).trans ((w27F 144 j rfl).trans ((zIo (by decide)).trans ((w22F 144 j rfl).trans ((w19F 144 j rfl).trans ((w16F 144 j rfl).trans ((w13F 144 j rfl).trans ((zIo (by decide)).trans (w8F 144 j rfl))))))))))))).trans (w5C j (by omega))).trans (zIo (by decide)))) (fun j hj => ((((w56F 145 j rfl).trans ((zIo (by decide)).trans ((w37F 145 j rfl).trans ((w33F 145 j rfl).trans ((w30F 145 j rfl).trans ((w27F 145 j rfl).trans ((zIo (by decide)).trans ((w22F 145 j rfl).trans ((w19F 145 j rfl).trans ((w16F 145 j rfl).trans ((w13F 145 j rfl).trans (zIo (by decide))))))))))))).trans (w8C j (by omega))).trans ((w5F 9 j rfl).trans (zIo (by decide))))) (fun j hj => ((((w56F 146 j rfl).trans ((zIo (by decide)).trans ((w37F 146 j rfl).trans ((w33F 146 j rfl).trans ((w30F 146 j rfl).trans ((w27F 146 j rfl).trans ((zIo (by decide)).trans ((w22F 146 j rfl).trans ((w19F 146 j rfl).trans (w16F 146 j rfl)))))))))).trans (w13C j (by omega))).trans ((zIo (by decide)).trans ((w8F 10 j rfl).trans ((w5F 10 j rfl).trans (zIo (by decide))))))) (fun j hj => ((((w56F 147 j rfl).trans ((zIo (by decide)).trans ((w37F 147 j rfl).trans ((w33F 147 j rfl).trans ((w30F 147 j rfl).trans ((w27F 147 j rfl).trans ((zIo (by decide)).trans ((w22F 147 j rfl).trans (w19F 147 j rfl))))))))).trans (w16C j (by omega))).trans ((w13F 11 j rfl).trans ((zIo (by decide)).trans ((w8F 11 j rfl).trans ((w5F 11 j rfl).trans (zIo (by decide)))))))) (fun j hj => ((((w56F 148 j rfl).trans ((zIo (by decide)).trans ((w37F 148 j rfl).trans ((w33F 148 j rfl).trans ((w30F 148 j rfl).trans ((w27F 148 j rfl).trans ((zIo (by decide)).trans (w22F 148 j rfl)))))))).trans (w19C j (by omega))).trans ((w16F 12 j rfl).trans ((w13F 12 j rfl).trans ((zIo (by decide)).trans ((w8F 12 j rfl).trans ((w5F 12 j rfl).trans (zIo (by decide))))))))) (fun j hj => ((((w56F 149 j rfl).trans ((zIo (by decide)).trans ((w37F 149 j rfl).trans ((w33F 149 j rfl).trans ((w30F 149 j rfl).trans ((w27F 149 j rfl).trans (zIo (by decide)))))))).trans (w22C j (by omega))).trans ((w19F 13 j rfl).trans ((w16F 13 j rfl).trans ((w13F 13 j rfl).trans ((zIo (by decide)).trans ((w8F 13 j rfl).trans ((w5F 13 j rfl).trans (zIo (by decide)))))))))) (fun j hj => ((((w56F 150 j rfl).trans ((zIo (by decide)).trans ((w37F 150 j rfl).trans ((w33F 150 j rfl).trans (w30F 150 j rfl))))).trans (w27C j (by omega))).trans ((zIo (by decide)).trans ((w22F 14 j rfl).trans ((w19F 14 j rfl).trans ((w16F 14 j rfl).trans ((w13F 14 j rfl).trans ((zIo (by decide)).trans ((w8F 14 j rfl).trans ((w5F 14 j rfl).trans (zIo (by decide)))))))))))) (fun j hj => ((((w56F 151 j rfl).trans ((zIo (by decide)).trans ((w37F 151 j rfl).trans (w33F 151 j rfl)))).trans (w30C j (by omega))).trans ((w27F 15 j rfl).trans ((zIo (by decide)).trans ((w22F 15 j rfl).trans ((w19F 15 j rfl).trans ((w16F 15 j rfl).trans ((w13F 15 j rfl).trans ((zIo (by decide)).trans ((w8F 15 j rfl).trans ((w5F 15 j rfl).trans (zIo (by decide))))))))))))) (fun j hj => ((((w56F 152 j rfl).trans ((zIo (by decide)).trans (w37F 152 j rfl))).trans (w33C j (by omega))).trans ((w30F 16 j rfl).trans ((w27F 16 j rfl).trans ((zIo (by decide)).trans ((w22F 16 j rfl).trans ((w19F 16 j rfl).trans ((w16F 16 j rfl).trans ((w13F 16 j rfl).trans ((zIo (by decide)).trans ((w8F 16 j rfl).trans ((w5F 16 j rfl).trans (zIo (by decide)))))))))))))) (fun j hj => ((((w56F 153 j rfl).trans (zIo (by decide))).trans (w37C j (by omega))).trans ((w33F 17 j rfl).trans ((w30F 17 j rfl).trans ((w27F 17 j rfl).trans ((zIo (by decide)).trans ((w22F 17 j rfl).trans ((w19F 17 j rfl).trans ((w16F 17 j rfl).trans ((w13F 17 j rfl).trans ((zIo (by decide)).trans ((w8F 17 j rfl).trans ((w5F 17 j rfl).trans (zIo (by decide))))))))))))))) (fun j hj => ((w56C j (by omega)).trans ((zIo (by decide)).trans ((w37F 18 j rfl).trans ((w33F 18 j rfl).trans ((w30F 18 j rfl).trans ((w27F 18 j rfl).trans ((zIo (by decide)).trans ((w22F 18 j rfl).trans ((w19F 18 j rfl).trans ((w16F 18 j rfl).trans ((w13F 18 j rfl).trans ((zIo (by decide)).trans ((w8F 18 j rfl).trans ((w5F 18 j rfl).trans (zIo (by decide)))))))))))))))))))
