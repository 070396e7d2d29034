theorem C23_7_107 {X : zX} {l : Launch} {M : zM} {Q : Option Value → zM → Prop} (hs : zSk zMc M) (hI : zIv cLo cHi M) (hQ : ∀ M', zSk zMc M' → zIv cLo cHi M' → zFr [(7, 18, none)] M M' → Q none M') : zCall X l 2 0 0 23 [.ref 7, .ref 107] M Q := by
  refine zs_in (by decide) mf23 (Nat.le_of_ble_eq_true rfl) ?_
  show zGo X l 2 0 0 23 0 [(0, .ref 7), (1, .ref 107)] [] M _
  refine zs_aload_n (pc := 0) t23_0 rfl ?_
  refine zs_aload_n (pc := 1) t23_1 rfl ?_
  have w1 := ib107_0 hI
  refine zs_get (pc := 2) t23_2 (by decide) (zk1 (hs.k fk_zMc_107)) (zfvi rfl rfl) ?_
  have w2 : zIv cLo cHi (zsI M 7 0 (zI M 107 0)) := zIv.put hI (show 0 ≤ (zI M 107 0).toInt ∧ (zI M 107 0).toInt ≤ 8 from ⟨by omega, by omega⟩)
  refine zs_putI (pc := 5) t23_5 (zk1 (hs.k fk_zMc_7)) rfl ?_
  refine zs_aload_n (pc := 8) t23_8 rfl ?_
  refine zs_get (pc := 9) t23_9 (by decide) (zk1 (hs.k fk_zMc_107)) (hs.p rfl fv_zMc_107_1) ?_
  refine zs_iconst (pc := 12) t23_12 (v := 0) (by decide) ?_
  refine zs_aload_n (pc := 13) t23_13 rfl ?_
  refine zs_get (pc := 14) t23_14 (by decide) (zk1 (hs.k fk_zMc_7)) (hs.p rfl fv_zMc_7_1) ?_
  refine zs_iconst (pc := 17) t23_17 (v := 0) (by decide) ?_
  refine zs_aload_n (pc := 18) t23_18 rfl ?_
  refine zs_get (pc := 19) t23_19 (by decide) (zk1 (hs.k fk_zMc_7)) (zfvi rfl zIs) ?_
  have w3 := li0
  have w4 := li0
  refine zs_copy (pc := 22) t23_22 (hs.k fk_zMc_108) (hs.k fk_zMc_8) (by decide) (by decide) (by decide) ⟨by omega, by omega, by omega⟩ (by omega) (by omega) ⟨Nat.le_of_ble_eq_true rfl, by decide⟩ ?_
  obtain ⟨w5M, w5e⟩ : ∃ N, N = zsR (zsI M 7 0 (zI M 107 0)) 8 (va_cpy (zI (zsI M 7 0 (zI M 107 0)) 108) (zI (zsI M 7 0 (zI M 107 0)) 8) (0 : Int32).toNatClampNeg (0 : Int32).toNatClampNeg (zI M 107 0).toNatClampNeg) := ⟨_, rfl⟩
  have w5s : zSk zMc w5M := by rw [w5e]; exact hs
  have w5I : zIv cLo cHi w5M := by rw [w5e]; exact zIv.row w2 (fun _ => zcpyB (fun j => ib108 w2 j) (fun j => ib8 w2 j))
  have w5F : zFr [(8, 8, none)] (zsI M 7 0 (zI M 107 0)) w5M := by rw [w5e]; exact zFr.row zFr.refl (fun _ => rfl)
  rw [← w5e]
  refine zs_aload_n (pc := 25) t23_25 rfl ?_
  refine zs_get (pc := 26) t23_26 (by decide) (zk1 (w5s.k fk_zMc_107)) (w5s.p rfl fv_zMc_107_2) ?_
  refine zs_iconst (pc := 29) t23_29 (v := 0) (by decide) ?_
  refine zs_aload_n (pc := 30) t23_30 rfl ?_
  refine zs_get (pc := 31) t23_31 (by decide) (zk1 (w5s.k fk_zMc_7)) (w5s.p rfl fv_zMc_7_2) ?_
  refine zs_iconst (pc := 34) t23_34 (v := 0) (by decide) ?_
  refine zs_aload_n (pc := 35) t23_35 rfl ?_
  refine zs_get (pc := 36) t23_36 (by decide) (zk1 (w5s.k fk_zMc_7)) (zfvi rfl ((w5F 7 0 rfl).trans zIs)) ?_
  have w6 := li0
  have w7 := li0
  refine zs_copy (pc := 39) t23_39 (w5s.k fk_zMc_109) (w5s.k fk_zMc_9) (by decide) (by decide) (by decide) ⟨by omega, by omega, by omega⟩ (by omega) (by omega) ⟨Nat.le_of_ble_eq_true rfl, by decide⟩ ?_
  obtain ⟨w8M, w8e⟩ : ∃ N, N = zsR w5M 9 (va_cpy (zI w5M 109) (zI w5M 9) (0 : Int32).toNatClampNeg (0 : Int32).toNatClampNeg (zI M 107 0).toNatClampNeg) := ⟨_, rfl⟩
  have w8s : zSk zMc w8M := by rw [w8e]; exact w5s
  have w8I : zIv cLo cHi w8M := by rw [w8e]; exact zIv.row w5I (fun _ => zcpyB (fun j => ib109 w5I j) (fun j => ib9 w5I j))
  have w8F : zFr [(9, 9, none)] w5M w8M := by rw [w8e]; exact zFr.row zFr.refl (fun _ => rfl)
  rw [← w8e]
  refine zs_aload_n (pc := 42) t23_42 rfl ?_
  refine zs_aload_n (pc := 43) t23_43 rfl ?_
  have w9 := ib107_3 hI
  refine zs_get (pc := 44) t23_44 (by decide) (zk1 (w8s.k fk_zMc_107)) (zfvi rfl ((w8F 107 3 rfl).trans ((w5F 107 3 rfl).trans ((zIo (by decide)).trans rfl)))) ?_
  have w10 : zIv cLo cHi (zsI w8M 7 3 (zI M 107 3)) := zIv.put w8I (show 0 ≤ (zI M 107 3).toInt ∧ (zI M 107 3).toInt ≤ 60 from ⟨by omega, by omega⟩)
  refine zs_putI (pc := 47) t23_47 (zk1 (w8s.k fk_zMc_7)) rfl ?_
  refine zs_aload_n (pc := 50) t23_50 rfl ?_
  refine zs_get (pc := 51) t23_51 (by decide) (zk1 (w8s.k fk_zMc_107)) (w8s.p rfl fv_zMc_107_4) ?_
  refine zs_iconst (pc := 54) t23_54 (v := 0) (by decide) ?_
  refine zs_aload_n (pc := 55) t23_55 rfl ?_
  refine zs_get (pc := 56) t23_56 (by decide) (zk1 (w8s.k fk_zMc_7)) (w8s.p rfl fv_zMc_7_4) ?_
  refine zs_iconst (pc := 59) t23_59 (v := 0) (by decide) ?_
  refine zs_aload_n (pc := 60) t23_60 rfl ?_
  refine zs_get (pc := 61) t23_61 (by decide) (zk1 (w8s.k fk_zMc_7)) (zfvi rfl zIs) ?_
  have w11 := li0
  have w12 := li0
  refine zs_copy (pc := 64) t23_64 (w8s.k fk_zMc_110) (w8s.k fk_zMc_10) (by decide) (by decide) (by decide) ⟨by omega, by omega, by omega⟩ (by omega) (by omega) ⟨Nat.le_of_ble_eq_true rfl, by decide⟩ ?_
  obtain ⟨w13M, w13e⟩ : ∃ N, N = zsR (zsI w8M 7 3 (zI M 107 3)) 10 (va_cpy (zI (zsI w8M 7 3 (zI M 107 3)) 110) (zI (zsI w8M 7 3 (zI M 107 3)) 10) (0 : Int32).toNatClampNeg (0 : Int32).toNatClampNeg (zI M 107 3).toNatClampNeg) := ⟨_, rfl⟩
  have w13s : zSk zMc w13M := by rw [w13e]; exact w8s
  have w13I : zIv cLo cHi w13M := by rw [w13e]; exact zIv.row w10 (fun _ => zcpyB (fun j => ib110 w10 j) (fun j => ib10 w10 j))
  have w13F : zFr [(10, 10, none)] (zsI w8M 7 3 (zI M 107 3)) w13M := by rw [w13e]; exact zFr.row zFr.refl (fun _ => rfl)
  rw [← w13e]
  refine zs_aload_n (pc := 67) t23_67 rfl ?_
  refine zs_get (pc := 68) t23_68 (by decide) (zk1 (w13s.k fk_zMc_107)) (w13s.p rfl fv_zMc_107_5) ?_
  refine zs_iconst (pc := 71) t23_71 (v := 0) (by decide) ?_
  refine zs_aload_n (pc := 72) t23_72 rfl ?_
  refine zs_get (pc := 73) t23_73 (by decide) (zk1 (w13s.k fk_zMc_7)) (w13s.p rfl fv_zMc_7_5) ?_
  refine zs_iconst (pc := 76) t23_76 (v := 0) (by decide) ?_
  refine zs_aload_n (pc := 77) t23_77 rfl ?_
  refine zs_get (pc := 78) t23_78 (by decide) (zk1 (w13s.k fk_zMc_7)) (zfvi rfl ((w13F 7 3 rfl).trans zIs)) ?_
  have w14 := li0
  have w15 := li0
  refine zs_copy (pc := 81) t23_81 (w13s.k fk_zMc_111) (w13s.k fk_zMc_11) (by decide) (by decide) (by decide) ⟨by omega, by omega, by omega⟩ (by omega) (by omega) ⟨Nat.le_of_ble_eq_true rfl, by decide⟩ ?_
  obtain ⟨w16M, w16e⟩ : ∃ N, N = zsR w13M 11 (va_cpy (zI w13M 111) (zI w13M 11) (0 : Int32).toNatClampNeg (0 : Int32).toNatClampNeg (zI M 107 3).toNatClampNeg) := ⟨_, rfl⟩
  have w16s : zSk zMc w16M := by rw [w16e]; exact w13s
  have w16I : zIv cLo cHi w16M := by rw [w16e]; exact zIv.row w13I (fun _ => zcpyB (fun j => ib111 w13I j) (fun j => ib11 w13I j))
  have w16F : zFr [(11, 11, none)] w13M w16M := by rw [w16e]; exact zFr.row zFr.refl (fun _ => rfl)
  rw [← w16e]
  refine zs_aload_n (pc := 84) t23_84 rfl ?_
  refine zs_get (pc := 85) t23_85 (by decide) (zk1 (w16s.k fk_zMc_107)) (w16s.p rfl fv_zMc_107_6) ?_
  refine zs_iconst (pc := 88) t23_88 (v := 0) (by decide) ?_
  refine zs_aload_n (pc := 89) t23_89 rfl ?_
  refine zs_get (pc := 90) t23_90 (by decide) (zk1 (w16s.k fk_zMc_7)) (w16s.p rfl fv_zMc_7_6) ?_
  refine zs_iconst (pc := 93) t23_93 (v := 0) (by decide) ?_
  refine zs_aload_n (pc := 94) t23_94 rfl ?_
  refine zs_get (pc := 95) t23_95 (by decide) (zk1 (w16s.k fk_zMc_7)) (zfvi rfl ((w16F 7 3 rfl).trans ((w13F 7 3 rfl).trans zIs))) ?_
  have w17 := li0
  have w18 := li0
  refine zs_copy (pc := 98) t23_98 (w16s.k fk_zMc_112) (w16s.k fk_zMc_12) (by decide) (by decide) (by decide) ⟨by omega, by omega, by omega⟩ (by omega) (by omega) ⟨Nat.le_of_ble_eq_true rfl, by decide⟩ ?_
  obtain ⟨w19M, w19e⟩ : ∃ N, N = zsR w16M 12 (va_cpy (zI w16M 112) (zI w16M 12) (0 : Int32).toNatClampNeg (0 : Int32).toNatClampNeg (zI M 107 3).toNatClampNeg) := ⟨_, rfl⟩
  have w19s : zSk zMc w19M := by rw [w19e]; exact w16s
  have w19I : zIv cLo cHi w19M := by rw [w19e]; exact zIv.row w16I (fun _ => zcpyB (fun j => ib112 w16I j) (fun j => ib12 w16I j))
  have w19F : zFr [(12, 12, none)] w16M w19M := by rw [w19e]; exact zFr.row zFr.refl (fun _ => rfl)
  rw [← w19e]
  refine zs_aload_n (pc := 101) t23_101 rfl ?_
  refine zs_get (pc := 102) t23_102 (by decide) (zk1 (w19s.k fk_zMc_107)) (w19s.p rfl fv_zMc_107_7) ?_
  refine zs_iconst (pc := 105) t23_105 (v := 0) (by decide) ?_
  refine zs_aload_n (pc := 106) t23_106 rfl ?_
  refine zs_get (pc := 107) t23_107 (by decide) (zk1 (w19s.k fk_zMc_7)) (w19s.p rfl fv_zMc_7_7) ?_
  refine zs_iconst (pc := 110) t23_110 (v := 0) (by decide) ?_
  refine zs_aload_n (pc := 111) t23_111 rfl ?_
  refine zs_get (pc := 112) t23_112 (by decide) (zk1 (w19s.k fk_zMc_7)) (zfvi rfl ((w19F 7 3 rfl).trans ((w16F 7 3 rfl).trans ((w13F 7 3 rfl).trans zIs)))) ?_
  have w20 := li0
  have w21 := li0
  refine zs_copy (pc := 115) t23_115 (w19s.k fk_zMc_113) (w19s.k fk_zMc_13) (by decide) (by decide) (by decide) ⟨by omega, by omega, by omega⟩ (by omega) (by omega) ⟨Nat.le_of_ble_eq_true rfl, by decide⟩ ?_
  obtain ⟨w22M, w22e⟩ : ∃ N, N = zsR w19M 13 (va_cpy (zI w19M 113) (zI w19M 13) (0 : Int32).toNatClampNeg (0 : Int32).toNatClampNeg (zI M 107 3).toNatClampNeg) := ⟨_, rfl⟩
  have w22s : zSk zMc w22M := by rw [w22e]; exact w19s
  have w22I : zIv cLo cHi w22M := by rw [w22e]; exact zIv.row w19I (fun _ => zcpyB (fun j => ib113 w19I j) (fun j => ib13 w19I j))
  have w22F : zFr [(13, 13, none)] w19M w22M := by rw [w22e]; exact zFr.row zFr.refl (fun _ => rfl)
  rw [← w22e]
  refine zs_aload_n (pc := 118) t23_118 rfl ?_
  refine zs_aload_n (pc := 119) t23_119 rfl ?_
  have w23 := ib107_8 hI
  refine zs_get (pc := 120) t23_120 (by decide) (zk1 (w22s.k fk_zMc_107)) (zfvi rfl ((w22F 107 8 rfl).trans ((w19F 107 8 rfl).trans ((w16F 107 8 rfl).trans ((w13F 107 8 rfl).trans ((zIo (by decide)).trans ((w8F 107 8 rfl).trans ((w5F 107 8 rfl).trans ((zIo (by decide)).trans rfl))))))))) ?_
  have w24 : zIv cLo cHi (zsI w22M 7 8 (zI M 107 8)) := zIv.put w22I (show 0 ≤ (zI M 107 8).toInt ∧ (zI M 107 8).toInt ≤ 12 from ⟨by omega, by omega⟩)
  refine zs_putI (pc := 123) t23_123 (zk1 (w22s.k fk_zMc_7)) rfl ?_
  refine zs_aload_n (pc := 126) t23_126 rfl ?_
  refine zs_get (pc := 127) t23_127 (by decide) (zk1 (w22s.k fk_zMc_107)) (w22s.p rfl fv_zMc_107_9) ?_
  refine zs_iconst (pc := 130) t23_130 (v := 0) (by decide) ?_
  refine zs_aload_n (pc := 131) t23_131 rfl ?_
  refine zs_get (pc := 132) t23_132 (by decide) (zk1 (w22s.k fk_zMc_7)) (w22s.p rfl fv_zMc_7_9) ?_
  refine zs_iconst (pc := 135) t23_135 (v := 0) (by decide) ?_
  refine zs_aload_n (pc := 136) t23_136 rfl ?_
  refine zs_get (pc := 137) t23_137 (by decide) (zk1 (w22s.k fk_zMc_7)) (zfvi rfl zIs) ?_
  have w25 := li0
  have w26 := li0
  refine zs_copy (pc := 140) t23_140 (w22s.k fk_zMc_114) (w22s.k fk_zMc_14) (by decide) (by decide) (by decide) ⟨by omega, by omega, by omega⟩ (by omega) (by omega) ⟨Nat.le_of_ble_eq_true rfl, by decide⟩ ?_
  obtain ⟨w27M, w27e⟩ : ∃ N, N = zsR (zsI w22M 7 8 (zI M 107 8)) 14 (va_cpy (zI (zsI w22M 7 8 (zI M 107 8)) 114) (zI (zsI w22M 7 8 (zI M 107 8)) 14) (0 : Int32).toNatClampNeg (0 : Int32).toNatClampNeg (zI M 107 8).toNatClampNeg) := ⟨_, rfl⟩
  have w27s : zSk zMc w27M := by rw [w27e]; exact w22s
  have w27I : zIv cLo cHi w27M := by rw [w27e]; exact zIv.row w24 (fun _ => zcpyB (fun j => ib114 w24 j) (fun j => ib14 w24 j))
  have w27F : zFr [(14, 14, none)] (zsI w22M 7 8 (zI M 107 8)) w27M := by rw [w27e]; exact zFr.row zFr.refl (fun _ => rfl)
  rw [← w27e]
  refine zs_aload_n (pc := 143) t23_143 rfl ?_
  refine zs_get (pc := 144) t23_144 (by decide) (zk1 (w27s.k fk_zMc_107)) (w27s.p rfl fv_zMc_107_10) ?_
  refine zs_iconst (pc := 147) t23_147 (v := 0) (by decide) ?_
  refine zs_aload_n (pc := 148) t23_148 rfl ?_
  refine zs_get (pc := 149) t23_149 (by decide) (zk1 (w27s.k fk_zMc_7)) (w27s.p rfl fv_zMc_7_10) ?_
  refine zs_iconst (pc := 152) t23_152 (v := 0) (by decide) ?_
  refine zs_aload_n (pc := 153) t23_153 rfl ?_
  refine zs_get (pc := 154) t23_154 (by decide) (zk1 (w27s.k fk_zMc_7)) (zfvi rfl ((w27F 7 8 rfl).trans zIs)) ?_
  have w28 := li0
  have w29 := li0
  refine zs_copy (pc := 157) t23_157 (w27s.k fk_zMc_115) (w27s.k fk_zMc_15) (by decide) (by decide) (by decide) ⟨by omega, by omega, by omega⟩ (by omega) (by omega) ⟨Nat.le_of_ble_eq_true rfl, by decide⟩ ?_
  obtain ⟨w30M, w30e⟩ : ∃ N, N = zsR w27M 15 (va_cpy (zI w27M 115) (zI w27M 15) (0 : Int32).toNatClampNeg (0 : Int32).toNatClampNeg (zI M 107 8).toNatClampNeg) := ⟨_, rfl⟩
  have w30s : zSk zMc w30M := by rw [w30e]; exact w27s
  have w30I : zIv cLo cHi w30M := by rw [w30e]; exact zIv.row w27I (fun _ => zcpyB (fun j => ib115 w27I j) (fun j => ib15 w27I j))
  have w30F : zFr [(15, 15, none)] w27M w30M := by rw [w30e]; exact zFr.row zFr.refl (fun _ => rfl)
  rw [← w30e]
  refine zs_aload_n (pc := 160) t23_160 rfl ?_
  refine zs_get (pc := 161) t23_161 (by decide) (zk1 (w30s.k fk_zMc_107)) (w30s.p rfl fv_zMc_107_11) ?_
  refine zs_iconst (pc := 164) t23_164 (v := 0) (by decide) ?_
  refine zs_aload_n (pc := 165) t23_165 rfl ?_
  refine zs_get (pc := 166) t23_166 (by decide) (zk1 (w30s.k fk_zMc_7)) (w30s.p rfl fv_zMc_7_11) ?_
  refine zs_iconst (pc := 169) t23_169 (v := 0) (by decide) ?_
  refine zs_aload_n (pc := 170) t23_170 rfl ?_
  refine zs_get (pc := 171) t23_171 (by decide) (zk1 (w30s.k fk_zMc_7)) (zfvi rfl ((w30F 7 8 rfl).trans ((w27F 7 8 rfl).trans zIs))) ?_
  have w31 := li0
  have w32 := li0
  refine zs_copy (pc := 174) t23_174 (w30s.k fk_zMc_116) (w30s.k fk_zMc_16) (by decide) (by decide) (by decide) ⟨by omega, by omega, by omega⟩ (by omega) (by omega) ⟨Nat.le_of_ble_eq_true rfl, by decide⟩ ?_
  obtain ⟨w33M, w33e⟩ : ∃ N, N = zsR w30M 16 (va_cpy (zI w30M 116) (zI w30M 16) (0 : Int32).toNatClampNeg (0 : Int32).toNatClampNeg (zI M 107 8).toNatClampNeg) := ⟨_, rfl⟩
  have w33s : zSk zMc w33M := by rw [w33e]; exact w30s
  have w33I : zIv cLo cHi w33M := by rw [w33e]; exact zIv.row w30I (fun _ => zcpyB (fun j => ib116 w30I j) (fun j => ib16 w30I j))
  have w33F : zFr [(16, 16, none)] w30M w33M := by rw [w33e]; exact zFr.row zFr.refl (fun _ => rfl)
  rw [← w33e]
  refine zs_aload_n (pc := 177) t23_177 rfl ?_
  refine zs_get (pc := 178) t23_178 (by decide) (zk1 (w33s.k fk_zMc_107)) (w33s.p rfl fv_zMc_107_12) ?_
  refine zs_iconst (pc := 181) t23_181 (v := 0) (by decide) ?_
  refine zs_aload_n (pc := 182) t23_182 rfl ?_
  refine zs_get (pc := 183) t23_183 (by decide) (zk1 (w33s.k fk_zMc_7)) (w33s.p rfl fv_zMc_7_12) ?_
  refine zs_iconst (pc := 186) t23_186 (v := 0) (by decide) ?_
  refine zs_bipush (pc := 187) t23_187 (v := 9) (by decide) ?_
  have w34 := li9
  have w35 := li0
  have w36 := li0
  refine zs_copy (pc := 189) t23_189 (w33s.k fk_zMc_117) (w33s.k fk_zMc_17) (by decide) (by decide) (by decide) ⟨by omega, by omega, by omega⟩ (by omega) (by omega) ⟨Nat.le_of_ble_eq_true rfl, by decide⟩ ?_
  obtain ⟨w37M, w37e⟩ : ∃ N, N = zsR w33M 17 (va_cpy (zI w33M 117) (zI w33M 17) (0 : Int32).toNatClampNeg (0 : Int32).toNatClampNeg (9 : Int32).toNatClampNeg) := ⟨_, rfl⟩
  have w37s : zSk zMc w37M := by rw [w37e]; exact w33s
  have w37I : zIv cLo cHi w37M := by rw [w37e]; exact zIv.row w33I (fun _ => zcpyB (fun j => ib117 w33I j) (fun j => ib17 w33I j))
  have w37F : zFr [(17, 17, none)] w33M w37M := by rw [w37e]; exact zFr.row zFr.refl (fun _ => rfl)
  rw [← w37e]
  refine zs_aload_n (pc := 192) t23_192 rfl ?_
  refine zs_aload_n (pc := 193) t23_193 rfl ?_
  refine zs_get (pc := 194) t23_194 (by decide) (zk1 (w37s.k fk_zMc_107)) (w37s.p rfl fv_zMc_107_14) ?_
  refine zs_aload_n (pc := 197) t23_197 rfl ?_
  have w38 := ib107_13 hI
  refine zs_get (pc := 198) t23_198 (by decide) (zk1 (w37s.k fk_zMc_107)) (zfvi rfl ((w37F 107 13 rfl).trans ((w33F 107 13 rfl).trans ((w30F 107 13 rfl).trans ((w27F 107 13 rfl).trans ((zIo (by decide)).trans ((w22F 107 13 rfl).trans ((w19F 107 13 rfl).trans ((w16F 107 13 rfl).trans ((w13F 107 13 rfl).trans ((zIo (by decide)).trans ((w8F 107 13 rfl).trans ((w5F 107 13 rfl).trans ((zIo (by decide)).trans rfl)))))))))))))) ?_
  refine zs_invV (pc := 201) (k := 7) (as' := [.ref 118, .int (zI M 107 13)]) (st := []) t23_201 mf24 rfl rfl (Or.inl ⟨by decide, (zk1 (w37s.k fk_zMc_7))⟩) ⟨by decide, by decide, Nat.le_of_ble_eq_true rfl, Nat.le_of_ble_eq_true rfl⟩ (zs_in (by decide) mf24 (Nat.le_of_ble_eq_true rfl) ?_) (fun _ _ q => q)
  show zGo X l 1 0 0 24 0 [(0, .ref 7), (1, .ref 118), (2, .int (zI M 107 13))] [] w37M _
  refine zs_aload_n (pc := 0) t24_0 rfl ?_
  refine zs_iconst (pc := 1) t24_1 (v := 0) (by decide) ?_
  refine zs_iload_n (pc := 2) t24_2 rfl ?_
  refine zs_sipush (pc := 3) t24_3 (v := 500) (by decide) ?_
  refine zs_invS (pc := 6) (as := [.int (zI M 107 13), .int (500 : Int32)]) (st := [.int (0 : Int32), .ref 7]) t24_6 (by decide) mf20 rfl rfl ⟨by decide, by decide, Nat.le_of_ble_eq_true rfl, Nat.le_of_ble_eq_true rfl⟩ (zs_in (by decide) mf20 (Nat.le_of_ble_eq_true rfl) ?_) (fun _ _ q => q)
  show zGo X l 0 0 0 20 0 [(0, .int (zI M 107 13)), (1, .int (500 : Int32))] [] w37M _
  refine zs_iload_n (pc := 0) t20_0 rfl ?_
  refine zs_iload_n (pc := 1) t20_1 rfl ?_
  refine zs_icmp_gtF (pc := 2) t20_2 rfl li500 (by omega) ?_
  refine zs_iload_n (pc := 5) t20_5 rfl ?_
  refine zs_goto (pc := 6) t20_6 ?_
  refine zs_iret (pc := 10) t20_10 mr20 rfl ?_
  show zGo X l 1 0 0 24 9 [(0, .ref 7), (1, .ref 118), (2, .int (zI M 107 13))] [.int (zI M 107 13), .int (0 : Int32), .ref 7] w37M _
  refine zs_invS (pc := 9) (as := [.int (0 : Int32), .int (zI M 107 13)]) (st := [.ref 7]) t24_9 (by decide) mf21 rfl rfl ⟨by decide, by decide, Nat.le_of_ble_eq_true rfl, Nat.le_of_ble_eq_true rfl⟩ (zs_in (by decide) mf21 (Nat.le_of_ble_eq_true rfl) ?_) (fun _ _ q => q)
  show zGo X l 0 0 0 21 0 [(0, .int (0 : Int32)), (1, .int (zI M 107 13))] [] w37M _
  refine zs_iload_n (pc := 0) t21_0 rfl ?_
  refine zs_iload_n (pc := 1) t21_1 rfl ?_
  by_cases w39 : 0 < (zI M 107 13).toInt
  · refine zs_icmp_ltT (pc := 2) t21_2 li0 rfl (by omega) ?_
    refine zs_iload_n (pc := 9) t21_9 rfl ?_
    refine zs_iret (pc := 10) t21_10 mr21 rfl ?_
    show zGo X l 1 0 0 24 12 [(0, .ref 7), (1, .ref 118), (2, .int (zI M 107 13))] [.int (zI M 107 13), .ref 7] w37M _
    have w40 : zIv cLo cHi (zsI w37M 7 13 (zI M 107 13)) := zIv.put w37I (show 0 ≤ (zI M 107 13).toInt ∧ (zI M 107 13).toInt ≤ 500 from ⟨by omega, by omega⟩)
    refine zs_putI (pc := 12) t24_12 (zk1 (w37s.k fk_zMc_7)) rfl ?_
    refine zs_aload_n (pc := 15) t24_15 rfl ?_
    refine zs_iconst (pc := 16) t24_16 (v := 0) (by decide) ?_
    refine zs_aload_n (pc := 17) t24_17 rfl ?_
    refine zs_get (pc := 18) t24_18 (by decide) (zk1 (w37s.k fk_zMc_7)) (w37s.p rfl fv_zMc_7_14) ?_
    refine zs_iconst (pc := 21) t24_21 (v := 0) (by decide) ?_
    refine zs_aload_n (pc := 22) t24_22 rfl ?_
    refine zs_get (pc := 23) t24_23 (by decide) (zk1 (w37s.k fk_zMc_7)) (zfvi rfl zIs) ?_
    have w41 := li0
    have w42 := li0
    refine zs_copy (pc := 26) t24_26 (w37s.k fk_zMc_118) (w37s.k fk_zMc_18) (by decide) (by decide) (by decide) ⟨by omega, by omega, by omega⟩ (by omega) (by omega) ⟨Nat.le_of_ble_eq_true rfl, by decide⟩ ?_
    obtain ⟨w43M, w43e⟩ : ∃ N, N = zsR (zsI w37M 7 13 (zI M 107 13)) 18 (va_cpy (zI (zsI w37M 7 13 (zI M 107 13)) 118) (zI (zsI w37M 7 13 (zI M 107 13)) 18) (0 : Int32).toNatClampNeg (0 : Int32).toNatClampNeg (zI M 107 13).toNatClampNeg) := ⟨_, rfl⟩
    have w43s : zSk zMc w43M := by rw [w43e]; exact w37s
    have w43I : zIv cLo cHi w43M := by rw [w43e]; exact zIv.row w40 (fun _ => zcpyB (fun j => ib118 w40 j) (fun j => ib18 w40 j))
    have w43F : zFr [(18, 18, none)] (zsI w37M 7 13 (zI M 107 13)) w43M := by rw [w43e]; exact zFr.row zFr.refl (fun _ => rfl)
    rw [← w43e]
    refine zs_vret (pc := 29) t24_29 mr24 ?_
    show zGo X l 2 0 0 23 204 [(0, .ref 7), (1, .ref 107)] [] w43M _
    exact zs_vret (pc := 204) t23_204 mr23 (hQ _ w43s w43I ((((((((((((((((zFr.refl).put rfl).trans (w5F.mono rfl)).trans (w8F.mono rfl)).put rfl).trans (w13F.mono rfl)).trans (w16F.mono rfl)).trans (w19F.mono rfl)).trans (w22F.mono rfl)).put rfl).trans (w27F.mono rfl)).trans (w30F.mono rfl)).trans (w33F.mono rfl)).trans (w37F.mono rfl)).put rfl).trans (w43F.mono rfl)))
  · refine zs_icmp_ltF (pc := 2) t21_2 li0 rfl (by omega) ?_
    refine zs_iload_n (pc := 5) t21_5 rfl ?_
    refine zs_goto (pc := 6) t21_6 ?_
    refine zs_iret (pc := 10) t21_10 mr21 (by decide) ?_
    show zGo X l 1 0 0 24 12 [(0, .ref 7), (1, .ref 118), (2, .int (zI M 107 13))] [.int (0 : Int32), .ref 7] w37M _
    have w44 : zIv cLo cHi (zsI w37M 7 13 (0 : Int32)) := zIv.put w37I (show 0 ≤ (0 : Int32).toInt ∧ (0 : Int32).toInt ≤ 500 from ⟨by decide, by decide⟩)
    refine zs_putI (pc := 12) t24_12 (zk1 (w37s.k fk_zMc_7)) rfl ?_
    refine zs_aload_n (pc := 15) t24_15 rfl ?_
    refine zs_iconst (pc := 16) t24_16 (v := 0) (by decide) ?_
    refine zs_aload_n (pc := 17) t24_17 rfl ?_
    refine zs_get (pc := 18) t24_18 (by decide) (zk1 (w37s.k fk_zMc_7)) (w37s.p rfl fv_zMc_7_14) ?_
    refine zs_iconst (pc := 21) t24_21 (v := 0) (by decide) ?_
    refine zs_aload_n (pc := 22) t24_22 rfl ?_
    refine zs_get (pc := 23) t24_23 (by decide) (zk1 (w37s.k fk_zMc_7)) (zfvi rfl zIs) ?_
    have w45 := li0
    have w46 := li0
    have w47 := li0
    refine zs_copy (pc := 26) t24_26 (w37s.k fk_zMc_118) (w37s.k fk_zMc_18) (by decide) (by decide) (by decide) ⟨by omega, by omega, by omega⟩ (by omega) (by omega) ⟨Nat.le_of_ble_eq_true rfl, by decide⟩ ?_
    obtain ⟨w48M, w48e⟩ : ∃ N, N = zsR (zsI w37M 7 13 (0 : Int32)) 18 (va_cpy (zI (zsI w37M 7 13 (0 : Int32)) 118) (zI (zsI w37M 7 13 (0 : Int32)) 18) (0 : Int32).toNatClampNeg (0 : Int32).toNatClampNeg (0 : Int32).toNatClampNeg) := ⟨_, rfl⟩
    have w48s : zSk zMc w48M := by rw [w48e]; exact w37s
    have w48I : zIv cLo cHi w48M := by rw [w48e]; exact zIv.row w44 (fun _ => zcpyB (fun j => ib118 w44 j) (fun j => ib18 w44 j))
    have w48F : zFr [(18, 18, none)] (zsI w37M 7 13 (0 : Int32)) w48M := by rw [w48e]; exact zFr.row zFr.refl (fun _ => rfl)
    rw [← w48e]
    refine zs_vret (pc := 29) t24_29 mr24 ?_
    show zGo X l 2 0 0 23 204 [(0, .ref 7), (1, .ref 107)] [] w48M _
    exact zs_vret (pc := 204) t23_204 mr23 (hQ _ w48s w48I ((((((((((((((((zFr.refl).put rfl).trans (w5F.mono rfl)).trans (w8F.mono rfl)).put rfl).trans (w13F.mono rfl)).trans (w16F.mono rfl)).trans (w19F.mono rfl)).trans (w22F.mono rfl)).put rfl).trans (w27F.mono rfl)).trans (w30F.mono rfl)).trans (w33F.mono rfl)).trans (w37F.mono rfl)).put rfl).trans (w48F.mono rfl)))
theorem C23_7_119 {X : zX} {l : Launch} {M : zM} {Q : Option Value → zM → Prop} (hs : zSk zMc M) (hI : zIv cLo cHi M) (hQ : ∀ M', zSk zMc M' → zIv cLo cHi M' → zFr [(7, 18, none)] M M' → Q none M') : zCall X l 2 0 0 23 [.ref 7, .ref 119] M Q := by
  refine zs_in (by decide) mf23 (Nat.le_of_ble_eq_true rfl) ?_
  show zGo X l 2 0 0 23 0 [(0, .ref 7), (1, .ref 119)] [] M _
  refine zs_aload_n (pc := 0) t23_0 rfl ?_
  refine zs_aload_n (pc := 1) t23_1 rfl ?_
  have w1 := ib119_0 hI
  refine zs_get (pc := 2) t23_2 (by decide) (zk1 (hs.k fk_zMc_119)) (zfvi rfl rfl) ?_
  have w2 : zIv cLo cHi (zsI M 7 0 (zI M 119 0)) := zIv.put hI (show 0 ≤ (zI M 119 0).toInt ∧ (zI M 119 0).toInt ≤ 8 from ⟨by omega, by omega⟩)
  refine zs_putI (pc := 5) t23_5 (zk1 (hs.k fk_zMc_7)) rfl ?_
  refine zs_aload_n (pc := 8) t23_8 rfl ?_
  refine zs_get (pc := 9) t23_9 (by decide) (zk1 (hs.k fk_zMc_119)) (hs.p rfl fv_zMc_119_1) ?_
  refine zs_iconst (pc := 12) t23_12 (v := 0) (by decide) ?_
  refine zs_aload_n (pc := 13) t23_13 rfl ?_
  refine zs_get (pc := 14) t23_14 (by decide) (zk1 (hs.k fk_zMc_7)) (hs.p rfl fv_zMc_7_1) ?_
  refine zs_iconst (pc := 17) t23_17 (v := 0) (by decide) ?_
  refine zs_aload_n (pc := 18) t23_18 rfl ?_
  refine zs_get (pc := 19) t23_19 (by decide) (zk1 (hs.k fk_zMc_7)) (zfvi rfl zIs) ?_
  have w3 := li0
  have w4 := li0
  refine zs_copy (pc := 22) t23_22 (hs.k fk_zMc_120) (hs.k fk_zMc_8) (by decide) (by decide) (by decide) ⟨by omega, by omega, by omega⟩ (by omega) (by omega) ⟨Nat.le_of_ble_eq_true rfl, by decide⟩ ?_
  obtain ⟨w5M, w5e⟩ : ∃ N, N = zsR (zsI M 7 0 (zI M 119 0)) 8 (va_cpy (zI (zsI M 7 0 (zI M 119 0)) 120) (zI (zsI M 7 0 (zI M 119 0)) 8) (0 : Int32).toNatClampNeg (0 : Int32).toNatClampNeg (zI M 119 0).toNatClampNeg) := ⟨_, rfl⟩
  have w5s : zSk zMc w5M := by rw [w5e]; exact hs
  have w5I : zIv cLo cHi w5M := by rw [w5e]; exact zIv.row w2 (fun _ => zcpyB (fun j => ib120 w2 j) (fun j => ib8 w2 j))
  have w5F : zFr [(8, 8, none)] (zsI M 7 0 (zI M 119 0)) w5M := by rw [w5e]; exact zFr.row zFr.refl (fun _ => rfl)
  rw [← w5e]
  refine zs_aload_n (pc := 25) t23_25 rfl ?_
  refine zs_get (pc := 26) t23_26 (by decide) (zk1 (w5s.k fk_zMc_119)) (w5s.p rfl fv_zMc_119_2) ?_
  refine zs_iconst (pc := 29) t23_29 (v := 0) (by decide) ?_
  refine zs_aload_n (pc := 30) t23_30 rfl ?_
  refine zs_get (pc := 31) t23_31 (by decide) (zk1 (w5s.k fk_zMc_7)) (w5s.p rfl fv_zMc_7_2) ?_
  refine zs_iconst (pc := 34) t23_34 (v := 0) (by decide) ?_
  refine zs_aload_n (pc := 35) t23_35 rfl ?_
  refine zs_get (pc := 36) t23_36 (by decide) (zk1 (w5s.k fk_zMc_7)) (zfvi rfl ((w5F 7 0 rfl).trans zIs)) ?_
  have w6 := li0
  have w7 := li0
  refine zs_copy (pc := 39) t23_39 (w5s.k fk_zMc_121) (w5s.k fk_zMc_9) (by decide) (by decide) (by decide) ⟨by omega, by omega, by omega⟩ (by omega) (by omega) ⟨Nat.le_of_ble_eq_true rfl, by decide⟩ ?_
  obtain ⟨w8M, w8e⟩ : ∃ N, N = zsR w5M 9 (va_cpy (zI w5M 121) (zI w5M 9) (0 : Int32).toNatClampNeg (0 : Int32).toNatClampNeg (zI M 119 0).toNatClampNeg) := ⟨_, rfl⟩
  have w8s : zSk zMc w8M := by rw [w8e]; exact w5s
  have w8I : zIv cLo cHi w8M := by rw [w8e]; exact zIv.row w5I (fun _ => zcpyB (fun j => ib121 w5I j) (fun j => ib9 w5I j))
  have w8F : zFr [(9, 9, none)] w5M w8M := by rw [w8e]; exact zFr.row zFr.refl (fun _ => rfl)
  rw [← w8e]
  refine zs_aload_n (pc := 42) t23_42 rfl ?_
  refine zs_aload_n (pc := 43) t23_43 rfl ?_
  have w9 := ib119_3 hI
  refine zs_get (pc := 44) t23_44 (by decide) (zk1 (w8s.k fk_zMc_119)) (zfvi rfl ((w8F 119 3 rfl).trans ((w5F 119 3 rfl).trans ((zIo (by decide)).trans rfl)))) ?_
  have w10 : zIv cLo cHi (zsI w8M 7 3 (zI M 119 3)) := zIv.put w8I (show 0 ≤ (zI M 119 3).toInt ∧ (zI M 119 3).toInt ≤ 60 from ⟨by omega, by omega⟩)
  refine zs_putI (pc := 47) t23_47 (zk1 (w8s.k fk_zMc_7)) rfl ?_
  refine zs_aload_n (pc := 50) t23_50 rfl ?_
  refine zs_get (pc := 51) t23_51 (by decide) (zk1 (w8s.k fk_zMc_119)) (w8s.p rfl fv_zMc_119_4) ?_
  refine zs_iconst (pc := 54) t23_54 (v := 0) (by decide) ?_
  refine zs_aload_n (pc := 55) t23_55 rfl ?_
  refine zs_get (pc := 56) t23_56 (by decide) (zk1 (w8s.k fk_zMc_7)) (w8s.p rfl fv_zMc_7_4) ?_
  refine zs_iconst (pc := 59) t23_59 (v := 0) (by decide) ?_
  refine zs_aload_n (pc := 60) t23_60 rfl ?_
  refine zs_get (pc := 61) t23_61 (by decide) (zk1 (w8s.k fk_zMc_7)) (zfvi rfl zIs) ?_
  have w11 := li0
  have w12 := li0
  refine zs_copy (pc := 64) t23_64 (w8s.k fk_zMc_122) (w8s.k fk_zMc_10) (by decide) (by decide) (by decide) ⟨by omega, by omega, by omega⟩ (by omega) (by omega) ⟨Nat.le_of_ble_eq_true rfl, by decide⟩ ?_
  obtain ⟨w13M, w13e⟩ : ∃ N, N = zsR (zsI w8M 7 3 (zI M 119 3)) 10 (va_cpy (zI (zsI w8M 7 3 (zI M 119 3)) 122) (zI (zsI w8M 7 3 (zI M 119 3)) 10) (0 : Int32).toNatClampNeg (0 : Int32).toNatClampNeg (zI M 119 3).toNatClampNeg) := ⟨_, rfl⟩
  have w13s : zSk zMc w13M := by rw [w13e]; exact w8s
  have w13I : zIv cLo cHi w13M := by rw [w13e]; exact zIv.row w10 (fun _ => zcpyB (fun j => ib122 w10 j) (fun j => ib10 w10 j))
  have w13F : zFr [(10, 10, none)] (zsI w8M 7 3 (zI M 119 3)) w13M := by rw [w13e]; exact zFr.row zFr.refl (fun _ => rfl)
  rw [← w13e]
  refine zs_aload_n (pc := 67) t23_67 rfl ?_
  refine zs_get (pc := 68) t23_68 (by decide) (zk1 (w13s.k fk_zMc_119)) (w13s.p rfl fv_zMc_119_5) ?_
  refine zs_iconst (pc := 71) t23_71 (v := 0) (by decide) ?_
  refine zs_aload_n (pc := 72) t23_72 rfl ?_
  refine zs_get (pc := 73) t23_73 (by decide) (zk1 (w13s.k fk_zMc_7)) (w13s.p rfl fv_zMc_7_5) ?_
  refine zs_iconst (pc := 76) t23_76 (v := 0) (by decide) ?_
  refine zs_aload_n (pc := 77) t23_77 rfl ?_
  refine zs_get (pc := 78) t23_78 (by decide) (zk1 (w13s.k fk_zMc_7)) (zfvi rfl ((w13F 7 3 rfl).trans zIs)) ?_
  have w14 := li0
  have w15 := li0
  refine zs_copy (pc := 81) t23_81 (w13s.k fk_zMc_123) (w13s.k fk_zMc_11) (by decide) (by decide) (by decide) ⟨by omega, by omega, by omega⟩ (by omega) (by omega) ⟨Nat.le_of_ble_eq_true rfl, by decide⟩ ?_
  obtain ⟨w16M, w16e⟩ : ∃ N, N = zsR w13M 11 (va_cpy (zI w13M 123) (zI w13M 11) (0 : Int32).toNatClampNeg (0 : Int32).toNatClampNeg (zI M 119 3).toNatClampNeg) := ⟨_, rfl⟩
  have w16s : zSk zMc w16M := by rw [w16e]; exact w13s
  have w16I : zIv cLo cHi w16M := by rw [w16e]; exact zIv.row w13I (fun _ => zcpyB (fun j => ib123 w13I j) (fun j => ib11 w13I j))
  have w16F : zFr [(11, 11, none)] w13M w16M := by rw [w16e]; exact zFr.row zFr.refl (fun _ => rfl)
  rw [← w16e]
  refine zs_aload_n (pc := 84) t23_84 rfl ?_
  refine zs_get (pc := 85) t23_85 (by decide) (zk1 (w16s.k fk_zMc_119)) (w16s.p rfl fv_zMc_119_6) ?_
  refine zs_iconst (pc := 88) t23_88 (v := 0) (by decide) ?_
  refine zs_aload_n (pc := 89) t23_89 rfl ?_
  refine zs_get (pc := 90) t23_90 (by decide) (zk1 (w16s.k fk_zMc_7)) (w16s.p rfl fv_zMc_7_6) ?_
  refine zs_iconst (pc := 93) t23_93 (v := 0) (by decide) ?_
  refine zs_aload_n (pc := 94) t23_94 rfl ?_
  refine zs_get (pc := 95) t23_95 (by decide) (zk1 (w16s.k fk_zMc_7)) (zfvi rfl ((w16F 7 3 rfl).trans ((w13F 7 3 rfl).trans zIs))) ?_
  have w17 := li0
  have w18 := li0
  refine zs_copy (pc := 98) t23_98 (w16s.k fk_zMc_124) (w16s.k fk_zMc_12) (by decide) (by decide) (by decide) ⟨by omega, by omega, by omega⟩ (by omega) (by omega) ⟨Nat.le_of_ble_eq_true rfl, by decide⟩ ?_
  obtain ⟨w19M, w19e⟩ : ∃ N, N = zsR w16M 12 (va_cpy (zI w16M 124) (zI w16M 12) (0 : Int32).toNatClampNeg (0 : Int32).toNatClampNeg (zI M 119 3).toNatClampNeg) := ⟨_, rfl⟩
  have w19s : zSk zMc w19M := by rw [w19e]; exact w16s
  have w19I : zIv cLo cHi w19M := by rw [w19e]; exact zIv.row w16I (fun _ => zcpyB (fun j => ib124 w16I j) (fun j => ib12 w16I j))
  have w19F : zFr [(12, 12, none)] w16M w19M := by rw [w19e]; exact zFr.row zFr.refl (fun _ => rfl)
  rw [← w19e]
  refine zs_aload_n (pc := 101) t23_101 rfl ?_
  refine zs_get (pc := 102) t23_102 (by decide) (zk1 (w19s.k fk_zMc_119)) (w19s.p rfl fv_zMc_119_7) ?_
  refine zs_iconst (pc := 105) t23_105 (v := 0) (by decide) ?_
  refine zs_aload_n (pc := 106) t23_106 rfl ?_
  refine zs_get (pc := 107) t23_107 (by decide) (zk1 (w19s.k fk_zMc_7)) (w19s.p rfl fv_zMc_7_7) ?_
  refine zs_iconst (pc := 110) t23_110 (v := 0) (by decide) ?_
  refine zs_aload_n (pc := 111) t23_111 rfl ?_
  refine zs_get (pc := 112) t23_112 (by decide) (zk1 (w19s.k fk_zMc_7)) (zfvi rfl ((w19F 7 3 rfl).trans ((w16F 7 3 rfl).trans ((w13F 7 3 rfl).trans zIs)))) ?_
  have w20 := li0
  have w21 := li0
  refine zs_copy (pc := 115) t23_115 (w19s.k fk_zMc_125) (w19s.k fk_zMc_13) (by decide) (by decide) (by decide) ⟨by omega, by omega, by omega⟩ (by omega) (by omega) ⟨Nat.le_of_ble_eq_true rfl, by decide⟩ ?_
  obtain ⟨w22M, w22e⟩ : ∃ N, N = zsR w19M 13 (va_cpy (zI w19M 125) (zI w19M 13) (0 : Int32).toNatClampNeg (0 : Int32).toNatClampNeg (zI M 119 3).toNatClampNeg) := ⟨_, rfl⟩
  have w22s : zSk zMc w22M := by rw [w22e]; exact w19s
  have w22I : zIv cLo cHi w22M := by rw [w22e]; exact zIv.row w19I (fun _ => zcpyB (fun j => ib125 w19I j) (fun j => ib13 w19I j))
  have w22F : zFr [(13, 13, none)] w19M w22M := by rw [w22e]; exact zFr.row zFr.refl (fun _ => rfl)
  rw [← w22e]
  refine zs_aload_n (pc := 118) t23_118 rfl ?_
  refine zs_aload_n (pc := 119) t23_119 rfl ?_
  have w23 := ib119_8 hI
  refine zs_get (pc := 120) t23_120 (by decide) (zk1 (w22s.k fk_zMc_119)) (zfvi rfl ((w22F 119 8 rfl).trans ((w19F 119 8 rfl).trans ((w16F 119 8 rfl).trans ((w13F 119 8 rfl).trans ((zIo (by decide)).trans ((w8F 119 8 rfl).trans ((w5F 119 8 rfl).trans ((zIo (by decide)).trans rfl))))))))) ?_
  have w24 : zIv cLo cHi (zsI w22M 7 8 (zI M 119 8)) := zIv.put w22I (show 0 ≤ (zI M 119 8).toInt ∧ (zI M 119 8).toInt ≤ 12 from ⟨by omega, by omega⟩)
  refine zs_putI (pc := 123) t23_123 (zk1 (w22s.k fk_zMc_7)) rfl ?_
  refine zs_aload_n (pc := 126) t23_126 rfl ?_
  refine zs_get (pc := 127) t23_127 (by decide) (zk1 (w22s.k fk_zMc_119)) (w22s.p rfl fv_zMc_119_9) ?_
  refine zs_iconst (pc := 130) t23_130 (v := 0) (by decide) ?_
  refine zs_aload_n (pc := 131) t23_131 rfl ?_
  refine zs_get (pc := 132) t23_132 (by decide) (zk1 (w22s.k fk_zMc_7)) (w22s.p rfl fv_zMc_7_9) ?_
  refine zs_iconst (pc := 135) t23_135 (v := 0) (by decide) ?_
  refine zs_aload_n (pc := 136) t23_136 rfl ?_
  refine zs_get (pc := 137) t23_137 (by decide) (zk1 (w22s.k fk_zMc_7)) (zfvi rfl zIs) ?_
  have w25 := li0
  have w26 := li0
  refine zs_copy (pc := 140) t23_140 (w22s.k fk_zMc_126) (w22s.k fk_zMc_14) (by decide) (by decide) (by decide) ⟨by omega, by omega, by omega⟩ (by omega) (by omega) ⟨Nat.le_of_ble_eq_true rfl, by decide⟩ ?_
  obtain ⟨w27M, w27e⟩ : ∃ N, N = zsR (zsI w22M 7 8 (zI M 119 8)) 14 (va_cpy (zI (zsI w22M 7 8 (zI M 119 8)) 126) (zI (zsI w22M 7 8 (zI M 119 8)) 14) (0 : Int32).toNatClampNeg (0 : Int32).toNatClampNeg (zI M 119 8).toNatClampNeg) := ⟨_, rfl⟩
  have w27s : zSk zMc w27M := by rw [w27e]; exact w22s
  have w27I : zIv cLo cHi w27M := by rw [w27e]; exact zIv.row w24 (fun _ => zcpyB (fun j => ib126 w24 j) (fun j => ib14 w24 j))
  have w27F : zFr [(14, 14, none)] (zsI w22M 7 8 (zI M 119 8)) w27M := by rw [w27e]; exact zFr.row zFr.refl (fun _ => rfl)
  rw [← w27e]
  refine zs_aload_n (pc := 143) t23_143 rfl ?_
  refine zs_get (pc := 144) t23_144 (by decide) (zk1 (w27s.k fk_zMc_119)) (w27s.p rfl fv_zMc_119_10) ?_
  refine zs_iconst (pc := 147) t23_147 (v := 0) (by decide) ?_
  refine zs_aload_n (pc := 148) t23_148 rfl ?_
  refine zs_get (pc := 149) t23_149 (by decide) (zk1 (w27s.k fk_zMc_7)) (w27s.p rfl fv_zMc_7_10) ?_
  refine zs_iconst (pc := 152) t23_152 (v := 0) (by decide) ?_
  refine zs_aload_n (pc := 153) t23_153 rfl ?_
  refine zs_get (pc := 154) t23_154 (by decide) (zk1 (w27s.k fk_zMc_7)) (zfvi rfl ((w27F 7 8 rfl).trans zIs)) ?_
  have w28 := li0
  have w29 := li0
  refine zs_copy (pc := 157) t23_157 (w27s.k fk_zMc_127) (w27s.k fk_zMc_15) (by decide) (by decide) (by decide) ⟨by omega, by omega, by omega⟩ (by omega) (by omega) ⟨Nat.le_of_ble_eq_true rfl, by decide⟩ ?_
  obtain ⟨w30M, w30e⟩ : ∃ N, N = zsR w27M 15 (va_cpy (zI w27M 127) (zI w27M 15) (0 : Int32).toNatClampNeg (0 : Int32).toNatClampNeg (zI M 119 8).toNatClampNeg) := ⟨_, rfl⟩
  have w30s : zSk zMc w30M := by rw [w30e]; exact w27s
  have w30I : zIv cLo cHi w30M := by rw [w30e]; exact zIv.row w27I (fun _ => zcpyB (fun j => ib127 w27I j) (fun j => ib15 w27I j))
  have w30F : zFr [(15, 15, none)] w27M w30M := by rw [w30e]; exact zFr.row zFr.refl (fun _ => rfl)
  rw [← w30e]
  refine zs_aload_n (pc := 160) t23_160 rfl ?_
  refine zs_get (pc := 161) t23_161 (by decide) (zk1 (w30s.k fk_zMc_119)) (w30s.p rfl fv_zMc_119_11) ?_
  refine zs_iconst (pc := 164) t23_164 (v := 0) (by decide) ?_
  refine zs_aload_n (pc := 165) t23_165 rfl ?_
  refine zs_get (pc := 166) t23_166 (by decide) (zk1 (w30s.k fk_zMc_7)) (w30s.p rfl fv_zMc_7_11) ?_
  refine zs_iconst (pc := 169) t23_169 (v := 0) (by decide) ?_
  refine zs_aload_n (pc := 170) t23_170 rfl ?_
  refine zs_get (pc := 171) t23_171 (by decide) (zk1 (w30s.k fk_zMc_7)) (zfvi rfl ((w30F 7 8 rfl).trans ((w27F 7 8 rfl).trans zIs))) ?_
  have w31 := li0
  have w32 := li0
  refine zs_copy (pc := 174) t23_174 (w30s.k fk_zMc_128) (w30s.k fk_zMc_16) (by decide) (by decide) (by decide) ⟨by omega, by omega, by omega⟩ (by omega) (by omega) ⟨Nat.le_of_ble_eq_true rfl, by decide⟩ ?_
  obtain ⟨w33M, w33e⟩ : ∃ N, N = zsR w30M 16 (va_cpy (zI w30M 128) (zI w30M 16) (0 : Int32).toNatClampNeg (0 : Int32).toNatClampNeg (zI M 119 8).toNatClampNeg) := ⟨_, rfl⟩
  have w33s : zSk zMc w33M := by rw [w33e]; exact w30s
  have w33I : zIv cLo cHi w33M := by rw [w33e]; exact zIv.row w30I (fun _ => zcpyB (fun j => ib128 w30I j) (fun j => ib16 w30I j))
  have w33F : zFr [(16, 16, none)] w30M w33M := by rw [w33e]; exact zFr.row zFr.refl (fun _ => rfl)
  rw [← w33e]
  refine zs_aload_n (pc := 177) t23_177 rfl ?_
  refine zs_get (pc := 178) t23_178 (by decide) (zk1 (w33s.k fk_zMc_119)) (w33s.p rfl fv_zMc_119_12) ?_
  refine zs_iconst (pc := 181) t23_181 (v := 0) (by decide) ?_
  refine zs_aload_n (pc := 182) t23_182 rfl ?_
  refine zs_get (pc := 183) t23_183 (by decide) (zk1 (w33s.k fk_zMc_7)) (w33s.p rfl fv_zMc_7_12) ?_
  refine zs_iconst (pc := 186) t23_186 (v := 0) (by decide) ?_
  refine zs_bipush (pc := 187) t23_187 (v := 9) (by decide) ?_
  have w34 := li9
  have w35 := li0
  have w36 := li0
  refine zs_copy (pc := 189) t23_189 (w33s.k fk_zMc_129) (w33s.k fk_zMc_17) (by decide) (by decide) (by decide) ⟨by omega, by omega, by omega⟩ (by omega) (by omega) ⟨Nat.le_of_ble_eq_true rfl, by decide⟩ ?_
  obtain ⟨w37M, w37e⟩ : ∃ N, N = zsR w33M 17 (va_cpy (zI w33M 129) (zI w33M 17) (0 : Int32).toNatClampNeg (0 : Int32).toNatClampNeg (9 : Int32).toNatClampNeg) := ⟨_, rfl⟩
  have w37s : zSk zMc w37M := by rw [w37e]; exact w33s
  have w37I : zIv cLo cHi w37M := by rw [w37e]; exact zIv.row w33I (fun _ => zcpyB (fun j => ib129 w33I j) (fun j => ib17 w33I j))
  have w37F : zFr [(17, 17, none)] w33M w37M := by rw [w37e]; exact zFr.row zFr.refl (fun _ => rfl)
  rw [← w37e]
  refine zs_aload_n (pc := 192) t23_192 rfl ?_
  refine zs_aload_n (pc := 193) t23_193 rfl ?_
  refine zs_get (pc := 194) t23_194 (by decide) (zk1 (w37s.k fk_zMc_119)) (w37s.p rfl fv_zMc_119_14) ?_
  refine zs_aload_n (pc := 197) t23_197 rfl ?_
  have w38 := ib119_13 hI
  refine zs_get (pc := 198) t23_198 (by decide) (zk1 (w37s.k fk_zMc_119)) (zfvi rfl ((w37F 119 13 rfl).trans ((w33F 119 13 rfl).trans ((w30F 119 13 rfl).trans ((w27F 119 13 rfl).trans ((zIo (by decide)).trans ((w22F 119 13 rfl).trans ((w19F 119 13 rfl).trans ((w16F 119 13 rfl).trans ((w13F 119 13 rfl).trans ((zIo (by decide)).trans ((w8F 119 13 rfl).trans ((w5F 119 13 rfl).trans ((zIo (by decide)).trans rfl)))))))))))))) ?_
  refine zs_invV (pc := 201) (k := 7) (as' := [.ref 130, .int (zI M 119 13)]) (st := []) t23_201 mf24 rfl rfl (Or.inl ⟨by decide, (zk1 (w37s.k fk_zMc_7))⟩) ⟨by decide, by decide, Nat.le_of_ble_eq_true rfl, Nat.le_of_ble_eq_true rfl⟩ (zs_in (by decide) mf24 (Nat.le_of_ble_eq_true rfl) ?_) (fun _ _ q => q)
  show zGo X l 1 0 0 24 0 [(0, .ref 7), (1, .ref 130), (2, .int (zI M 119 13))] [] w37M _
  refine zs_aload_n (pc := 0) t24_0 rfl ?_
  refine zs_iconst (pc := 1) t24_1 (v := 0) (by decide) ?_
  refine zs_iload_n (pc := 2) t24_2 rfl ?_
  refine zs_sipush (pc := 3) t24_3 (v := 500) (by decide) ?_
  refine zs_invS (pc := 6) (as := [.int (zI M 119 13), .int (500 : Int32)]) (st := [.int (0 : Int32), .ref 7]) t24_6 (by decide) mf20 rfl rfl ⟨by decide, by decide, Nat.le_of_ble_eq_true rfl, Nat.le_of_ble_eq_true rfl⟩ (zs_in (by decide) mf20 (Nat.le_of_ble_eq_true rfl) ?_) (fun _ _ q => q)
  show zGo X l 0 0 0 20 0 [(0, .int (zI M 119 13)), (1, .int (500 : Int32))] [] w37M _
  refine zs_iload_n (pc := 0) t20_0 rfl ?_
  refine zs_iload_n (pc := 1) t20_1 rfl ?_
  refine zs_icmp_gtF (pc := 2) t20_2 rfl li500 (by omega) ?_
  refine zs_iload_n (pc := 5) t20_5 rfl ?_
  refine zs_goto (pc := 6) t20_6 ?_
  refine zs_iret (pc := 10) t20_10 mr20 rfl ?_
  show zGo X l 1 0 0 24 9 [(0, .ref 7), (1, .ref 130), (2, .int (zI M 119 13))] [.int (zI M 119 13), .int (0 : Int32), .ref 7] w37M _
  refine zs_invS (pc := 9) (as := [.int (0 : Int32), .int (zI M 119 13)]) (st := [.ref 7]) t24_9 (by decide) mf21 rfl rfl ⟨by decide, by decide, Nat.le_of_ble_eq_true rfl, Nat.le_of_ble_eq_true rfl⟩ (zs_in (by decide) mf21 (Nat.le_of_ble_eq_true rfl) ?_) (fun _ _ q => q)
  show zGo X l 0 0 0 21 0 [(0, .int (0 : Int32)), (1, .int (zI M 119 13))] [] w37M _
  refine zs_iload_n (pc := 0) t21_0 rfl ?_
  refine zs_iload_n (pc := 1) t21_1 rfl ?_
  by_cases w39 : 0 < (zI M 119 13).toInt
  · refine zs_icmp_ltT (pc := 2) t21_2 li0 rfl (by omega) ?_
    refine zs_iload_n (pc := 9) t21_9 rfl ?_
    refine zs_iret (pc := 10) t21_10 mr21 rfl ?_
    show zGo X l 1 0 0 24 12 [(0, .ref 7), (1, .ref 130), (2, .int (zI M 119 13))] [.int (zI M 119 13), .ref 7] w37M _
    have w40 : zIv cLo cHi (zsI w37M 7 13 (zI M 119 13)) := zIv.put w37I (show 0 ≤ (zI M 119 13).toInt ∧ (zI M 119 13).toInt ≤ 500 from ⟨by omega, by omega⟩)
    refine zs_putI (pc := 12) t24_12 (zk1 (w37s.k fk_zMc_7)) rfl ?_
    refine zs_aload_n (pc := 15) t24_15 rfl ?_
    refine zs_iconst (pc := 16) t24_16 (v := 0) (by decide) ?_
    refine zs_aload_n (pc := 17) t24_17 rfl ?_
    refine zs_get (pc := 18) t24_18 (by decide) (zk1 (w37s.k fk_zMc_7)) (w37s.p rfl fv_zMc_7_14) ?_
    refine zs_iconst (pc := 21) t24_21 (v := 0) (by decide) ?_
    refine zs_aload_n (pc := 22) t24_22 rfl ?_
    refine zs_get (pc := 23) t24_23 (by decide) (zk1 (w37s.k fk_zMc_7)) (zfvi rfl zIs) ?_
    have w41 := li0
    have w42 := li0
    refine zs_copy (pc := 26) t24_26 (w37s.k fk_zMc_130) (w37s.k fk_zMc_18) (by decide) (by decide) (by decide) ⟨by omega, by omega, by omega⟩ (by omega) (by omega) ⟨Nat.le_of_ble_eq_true rfl, by decide⟩ ?_
    obtain ⟨w43M, w43e⟩ : ∃ N, N = zsR (zsI w37M 7 13 (zI M 119 13)) 18 (va_cpy (zI (zsI w37M 7 13 (zI M 119 13)) 130) (zI (zsI w37M 7 13 (zI M 119 13)) 18) (0 : Int32).toNatClampNeg (0 : Int32).toNatClampNeg (zI M 119 13).toNatClampNeg) := ⟨_, rfl⟩
    have w43s : zSk zMc w43M := by rw [w43e]; exact w37s
    have w43I : zIv cLo cHi w43M := by rw [w43e]; exact zIv.row w40 (fun _ => zcpyB (fun j => ib130 w40 j) (fun j => ib18 w40 j))
    have w43F : zFr [(18, 18, none)] (zsI w37M 7 13 (zI M 119 13)) w43M := by rw [w43e]; exact zFr.row zFr.refl (fun _ => rfl)
    rw [← w43e]
    refine zs_vret (pc := 29) t24_29 mr24 ?_
    show zGo X l 2 0 0 23 204 [(0, .ref 7), (1, .ref 119)] [] w43M _
    exact zs_vret (pc := 204) t23_204 mr23 (hQ _ w43s w43I ((((((((((((((((zFr.refl).put rfl).trans (w5F.mono rfl)).trans (w8F.mono rfl)).put rfl).trans (w13F.mono rfl)).trans (w16F.mono rfl)).trans (w19F.mono rfl)).trans (w22F.mono rfl)).put rfl).trans (w27F.mono rfl)).trans (w30F.mono rfl)).trans (w33F.mono rfl)).trans (w37F.mono rfl)).put rfl).trans (w43F.mono rfl)))
  · refine zs_icmp_ltF (pc := 2) t21_2 li0 rfl (by omega) ?_
    refine zs_iload_n (pc := 5) t21_5 rfl ?_
    refine zs_goto (pc := 6) t21_6 ?_
    refine zs_iret (pc := 10) t21_10 mr21 (by decide) ?_
    show zGo X l 1 0 0 24 12 [(0, .ref 7), (1, .ref 130), (2, .int (zI M 119 13))] [.int (0 : Int32), .ref 7] w37M _
    have w44 : zIv cLo cHi (zsI w37M 7 13 (0 : Int32)) := zIv.put w37I (show 0 ≤ (0 : Int32).toInt ∧ (0 : Int32).toInt ≤ 500 from ⟨by decide, by decide⟩)
    refine zs_putI (pc := 12) t24_12 (zk1 (w37s.k fk_zMc_7)) rfl ?_
    refine zs_aload_n (pc := 15) t24_15 rfl ?_
    refine zs_iconst (pc := 16) t24_16 (v := 0) (by decide) ?_
    refine zs_aload_n (pc := 17) t24_17 rfl ?_
    refine zs_get (pc := 18) t24_18 (by decide) (zk1 (w37s.k fk_zMc_7)) (w37s.p rfl fv_zMc_7_14) ?_
    refine zs_iconst (pc := 21) t24_21 (v := 0) (by decide) ?_
    refine zs_aload_n (pc := 22) t24_22 rfl ?_
    refine zs_get (pc := 23) t24_23 (by decide) (zk1 (w37s.k fk_zMc_7)) (zfvi rfl zIs) ?_
    have w45 := li0
    have w46 := li0
    have w47 := li0
    refine zs_copy (pc := 26) t24_26 (w37s.k fk_zMc_130) (w37s.k fk_zMc_18) (by decide) (by decide) (by decide) ⟨by omega, by omega, by omega⟩ (by omega) (by omega) ⟨Nat.le_of_ble_eq_true rfl, by decide⟩ ?_
    obtain ⟨w48M, w48e⟩ : ∃ N, N = zsR (zsI w37M 7 13 (0 : Int32)) 18 (va_cpy (zI (zsI w37M 7 13 (0 : Int32)) 130) (zI (zsI w37M 7 13 (0 : Int32)) 18) (0 : Int32).toNatClampNeg (0 : Int32).toNatClampNeg (0 : Int32).toNatClampNeg) := ⟨_, rfl⟩
    have w48s : zSk zMc w48M := by rw [w48e]; exact w37s
    have w48I : zIv cLo cHi w48M := by rw [w48e]; exact zIv.row w44 (fun _ => zcpyB (fun j => ib130 w44 j) (fun j => ib18 w44 j))
    have w48F : zFr [(18, 18, none)] (zsI w37M 7 13 (0 : Int32)) w48M := by rw [w48e]; exact zFr.row zFr.refl (fun _ => rfl)
    rw [← w48e]
    refine zs_vret (pc := 29) t24_29 mr24 ?_
    show zGo X l 2 0 0 23 204 [(0, .ref 7), (1, .ref 119)] [] w48M _
    exact zs_vret (pc := 204) t23_204 mr23 (hQ _ w48s w48I ((((((((((((((((zFr.refl).put rfl).trans (w5F.mono rfl)).trans (w8F.mono rfl)).put rfl).trans (w13F.mono rfl)).trans (w16F.mono rfl)).trans (w19F.mono rfl)).trans (w22F.mono rfl)).put rfl).trans (w27F.mono rfl)).trans (w30F.mono rfl)).trans (w33F.mono rfl)).trans (w37F.mono rfl)).put rfl).trans (w48F.mono rfl)))
theorem C23_7_131 {X : zX} {l : Launch} {M : zM} {Q : Option Value → zM → Prop} (hs : zSk zMc M) (hI : zIv cLo cHi M) (hQ : ∀ M', zSk zMc M' → zIv cLo cHi M' → zFr [(7, 18, none)] M M' → Q none M') : zCall X l 2 0 0 23 [.ref 7, .ref 131] M Q := by
  refine zs_in (by decide) mf23 (Nat.le_of_ble_eq_true rfl) ?_
  show zGo X l 2 0 0 23 0 [(0, .ref 7), (1, .ref 131)] [] M _
  refine zs_aload_n (pc := 0) t23_0 rfl ?_
  refine zs_aload_n (pc := 1) t23_1 rfl ?_
  have w1 := ib131_0 hI
  refine zs_get (pc := 2) t23_2 (by decide) (zk1 (hs.k fk_zMc_131)) (zfvi rfl rfl) ?_
  have w2 : zIv cLo cHi (zsI M 7 0 (zI M 131 0)) := zIv.put hI (show 0 ≤ (zI M 131 0).toInt ∧ (zI M 131 0).toInt ≤ 8 from ⟨by omega, by omega⟩)
  refine zs_putI (pc := 5) t23_5 (zk1 (hs.k fk_zMc_7)) rfl ?_
  refine zs_aload_n (pc := 8) t23_8 rfl ?_
  refine zs_get (pc := 9) t23_9 (by decide) (zk1 (hs.k fk_zMc_131)) (hs.p rfl fv_zMc_131_1) ?_
  refine zs_iconst (pc := 12) t23_12 (v := 0) (by decide) ?_
  refine zs_aload_n (pc := 13) t23_13 rfl ?_
  refine zs_get (pc := 14) t23_14 (by decide) (zk1 (hs.k fk_zMc_7)) (hs.p rfl fv_zMc_7_1) ?_
  refine zs_iconst (pc := 17) t23_17 (v := 0) (by decide) ?_
  refine zs_aload_n (pc := 18) t23_18 rfl ?_
  refine zs_get (pc := 19) t23_19 (by decide) (zk1 (hs.k fk_zMc_7)) (zfvi rfl zIs) ?_
  have w3 := li0
  have w4 := li0
  refine zs_copy (pc := 22) t23_22 (hs.k fk_zMc_132) (hs.k fk_zMc_8) (by decide) (by decide) (by decide) ⟨by omega, by omega, by omega⟩ (by omega) (by omega) ⟨Nat.le_of_ble_eq_true rfl, by decide⟩ ?_
  obtain ⟨w5M, w5e⟩ : ∃ N, N = zsR (zsI M 7 0 (zI M 131 0)) 8 (va_cpy (zI (zsI M 7 0 (zI M 131 0)) 132) (zI (zsI M 7 0 (zI M 131 0)) 8) (0 : Int32).toNatClampNeg (0 : Int32).toNatClampNeg (zI M 131 0).toNatClampNeg) := ⟨_, rfl⟩
  have w5s : zSk zMc w5M := by rw [w5e]; exact hs
  have w5I : zIv cLo cHi w5M := by rw [w5e]; exact zIv.row w2 (fun _ => zcpyB (fun j => ib132 w2 j) (fun j => ib8 w2 j))
  have w5F : zFr [(8, 8, none)] (zsI M 7 0 (zI M 131 0)) w5M := by rw [w5e]; exact zFr.row zFr.refl (fun _ => rfl)
  rw [← w5e]
  refine zs_aload_n (pc := 25) t23_25 rfl ?_
  refine zs_get (pc := 26) t23_26 (by decide) (zk1 (w5s.k fk_zMc_131)) (w5s.p rfl fv_zMc_131_2) ?_
  refine zs_iconst (pc := 29) t23_29 (v := 0) (by decide) ?_
  refine zs_aload_n (pc := 30) t23_30 rfl ?_
  refine zs_get (pc := 31) t23_31 (by decide) (zk1 (w5s.k fk_zMc_7)) (w5s.p rfl fv_zMc_7_2) ?_
  refine zs_iconst (pc := 34) t23_34 (v := 0) (by decide) ?_
  refine zs_aload_n (pc := 35) t23_35 rfl ?_
  refine zs_get (pc := 36) t23_36 (by decide) (zk1 (w5s.k fk_zMc_7)) (zfvi rfl ((w5F 7 0 rfl).trans zIs)) ?_
  have w6 := li0
  have w7 := li0
  refine zs_copy (pc := 39) t23_39 (w5s.k fk_zMc_133) (w5s.k fk_zMc_9) (by decide) (by decide) (by decide) ⟨by omega, by omega, by omega⟩ (by omega) (by omega) ⟨Nat.le_of_ble_eq_true rfl, by decide⟩ ?_
  obtain ⟨w8M, w8e⟩ : ∃ N, N = zsR w5M 9 (va_cpy (zI w5M 133) (zI w5M 9) (0 : Int32).toNatClampNeg (0 : Int32).toNatClampNeg (zI M 131 0).toNatClampNeg) := ⟨_, rfl⟩
  have w8s : zSk zMc w8M := by rw [w8e]; exact w5s
  have w8I : zIv cLo cHi w8M := by rw [w8e]; exact zIv.row w5I (fun _ => zcpyB (fun j => ib133 w5I j) (fun j => ib9 w5I j))
  have w8F : zFr [(9, 9, none)] w5M w8M := by rw [w8e]; exact zFr.row zFr.refl (fun _ => rfl)
  rw [← w8e]
  refine zs_aload_n (pc := 42) t23_42 rfl ?_
  refine zs_aload_n (pc := 43) t23_43 rfl ?_
  have w9 := ib131_3 hI
  refine zs_get (pc := 44) t23_44 (by decide) (zk1 (w8s.k fk_zMc_131)) (zfvi rfl ((w8F 131 3 rfl).trans ((w5F 131 3 rfl).trans ((zIo (by decide)).trans rfl)))) ?_
  have w10 : zIv cLo cHi (zsI w8M 7 3 (zI M 131 3)) := zIv.put w8I (show 0 ≤ (zI M 131 3).toInt ∧ (zI M 131 3).toInt ≤ 60 from ⟨by omega, by omega⟩)
  refine zs_putI (pc := 47) t23_47 (zk1 (w8s.k fk_zMc_7)) rfl ?_
  refine zs_aload_n (pc := 50) t23_50 rfl ?_
  refine zs_get (pc := 51) t23_51 (by decide) (zk1 (w8s.k fk_zMc_131)) (w8s.p rfl fv_zMc_131_4) ?_
  refine zs_iconst (pc := 54) t23_54 (v := 0) (by decide) ?_
  refine zs_aload_n (pc := 55) t23_55 rfl ?_
  refine zs_get (pc := 56) t23_56 (by decide) (zk1 (w8s.k fk_zMc_7)) (w8s.p rfl fv_zMc_7_4) ?_
  refine zs_iconst (pc := 59) t23_59 (v := 0) (by decide) ?_
  refine zs_aload_n (pc := 60) t23_60 rfl ?_
  refine zs_get (pc := 61) t23_61 (by decide) (zk1 (w8s.k fk_zMc_7)) (zfvi rfl zIs) ?_
  have w11 := li0
  have w12 := li0
  refine zs_copy (pc := 64) t23_64 (w8s.k fk_zMc_134) (w8s.k fk_zMc_10) (by decide) (by decide) (by decide) ⟨by omega, by omega, by omega⟩ (by omega) (by omega) ⟨Nat.le_of_ble_eq_true rfl, by decide⟩ ?_
  obtain ⟨w13M, w13e⟩ : ∃ N, N = zsR (zsI w8M 7 3 (zI M 131 3)) 10 (va_cpy (zI (zsI w8M 7 3 (zI M 131 3)) 134) (zI (zsI w8M 7 3 (zI M 131 3)) 10) (0 : Int32).toNatClampNeg (0 : Int32).toNatClampNeg (zI M 131 3).toNatClampNeg) := ⟨_, rfl⟩
  have w13s : zSk zMc w13M := by rw [w13e]; exact w8s
  have w13I : zIv cLo cHi w13M := by rw [w13e]; exact zIv.row w10 (fun _ => zcpyB (fun j => ib134 w10 j) (fun j => ib10 w10 j))
  have w13F : zFr [(10, 10, none)] (zsI w8M 7 3 (zI M 131 3)) w13M := by rw [w13e]; exact zFr.row zFr.refl (fun _ => rfl)
  rw [← w13e]
  refine zs_aload_n (pc := 67) t23_67 rfl ?_
  refine zs_get (pc := 68) t23_68 (by decide) (zk1 (w13s.k fk_zMc_131)) (w13s.p rfl fv_zMc_131_5) ?_
  refine zs_iconst (pc := 71) t23_71 (v := 0) (by decide) ?_
  refine zs_aload_n (pc := 72) t23_72 rfl ?_
  refine zs_get (pc := 73) t23_73 (by decide) (zk1 (w13s.k fk_zMc_7)) (w13s.p rfl fv_zMc_7_5) ?_
  refine zs_iconst (pc := 76) t23_76 (v := 0) (by decide) ?_
  refine zs_aload_n (pc := 77) t23_77 rfl ?_
  refine zs_get (pc := 78) t23_78 (by decide) (zk1 (w13s.k fk_zMc_7)) (zfvi rfl ((w13F 7 3 rfl).trans zIs)) ?_
  have w14 := li0
  have w15 := li0
  refine zs_copy (pc := 81) t23_81 (w13s.k fk_zMc_135) (w13s.k fk_zMc_11) (by decide) (by decide) (by decide) ⟨by omega, by omega, by omega⟩ (by omega) (by omega) ⟨Nat.le_of_ble_eq_true rfl, by decide⟩ ?_
  obtain ⟨w16M, w16e⟩ : ∃ N, N = zsR w13M 11 (va_cpy (zI w13M 135) (zI w13M 11) (0 : Int32).toNatClampNeg (0 : Int32).toNatClampNeg (zI M 131 3).toNatClampNeg) := ⟨_, rfl⟩
  have w16s : zSk zMc w16M := by rw [w16e]; exact w13s
  have w16I : zIv cLo cHi w16M := by rw [w16e]; exact zIv.row w13I (fun _ => zcpyB (fun j => ib135 w13I j) (fun j => ib11 w13I j))
  have w16F : zFr [(11, 11, none)] w13M w16M := by rw [w16e]; exact zFr.row zFr.refl (fun _ => rfl)
  rw [← w16e]
  refine zs_aload_n (pc := 84) t23_84 rfl ?_
  refine zs_get (pc := 85) t23_85 (by decide) (zk1 (w16s.k fk_zMc_131)) (w16s.p rfl fv_zMc_131_6) ?_
  refine zs_iconst (pc := 88) t23_88 (v := 0) (by decide) ?_
  refine zs_aload_n (pc := 89) t23_89 rfl ?_
  refine zs_get (pc := 90) t23_90 (by decide) (zk1 (w16s.k fk_zMc_7)) (w16s.p rfl fv_zMc_7_6) ?_
  refine zs_iconst (pc := 93) t23_93 (v := 0) (by decide) ?_
  refine zs_aload_n (pc := 94) t23_94 rfl ?_
  refine zs_get (pc := 95) t23_95 (by decide) (zk1 (w16s.k fk_zMc_7)) (zfvi rfl ((w16F 7 3 rfl).trans ((w13F 7 3 rfl).trans zIs))) ?_
  have w17 := li0
  have w18 := li0
  refine zs_copy (pc := 98) t23_98 (w16s.k fk_zMc_136) (w16s.k fk_zMc_12) (by decide) (by decide) (by decide) ⟨by omega, by omega, by omega⟩ (by omega) (by omega) ⟨Nat.le_of_ble_eq_true rfl, by decide⟩ ?_
  obtain ⟨w19M, w19e⟩ : ∃ N, N = zsR w16M 12 (va_cpy (zI w16M 136) (zI w16M 12) (0 : Int32).toNatClampNeg (0 : Int32).toNatClampNeg (zI M 131 3).toNatClampNeg) := ⟨_, rfl⟩
  have w19s : zSk zMc w19M := by rw [w19e]; exact w16s
  have w19I : zIv cLo cHi w19M := by rw [w19e]; exact zIv.row w16I (fun _ => zcpyB (fun j => ib136 w16I j) (fun j => ib12 w16I j))
  have w19F : zFr [(12, 12, none)] w16M w19M := by rw [w19e]; exact zFr.row zFr.refl (fun _ => rfl)
  rw [← w19e]
  refine zs_aload_n (pc := 101) t23_101 rfl ?_
  refine zs_get (pc := 102) t23_102 (by decide) (zk1 (w19s.k fk_zMc_131)) (w19s.p rfl fv_zMc_131_7) ?_
  refine zs_iconst (pc := 105) t23_105 (v := 0) (by decide) ?_
  refine zs_aload_n (pc := 106) t23_106 rfl ?_
  refine zs_get (pc := 107) t23_107 (by decide) (zk1 (w19s.k fk_zMc_7)) (w19s.p rfl fv_zMc_7_7) ?_
  refine zs_iconst (pc := 110) t23_110 (v := 0) (by decide) ?_
  refine zs_aload_n (pc := 111) t23_111 rfl ?_
  refine zs_get (pc := 112) t23_112 (by decide) (zk1 (w19s.k fk_zMc_7)) (zfvi rfl ((w19F 7 3 rfl).trans ((w16F 7 3 rfl).trans ((w13F 7 3 rfl).trans zIs)))) ?_
  have w20 := li0
  have w21 := li0
  refine zs_copy (pc := 115) t23_115 (w19s.k fk_zMc_137) (w19s.k fk_zMc_13) (by decide) (by decide) (by decide) ⟨by omega, by omega, by omega⟩ (by omega) (by omega) ⟨Nat.le_of_ble_eq_true rfl, by decide⟩ ?_
  obtain ⟨w22M, w22e⟩ : ∃ N, N = zsR w19M 13 (va_cpy (zI w19M 137) (zI w19M 13) (0 : Int32).toNatClampNeg (0 : Int32).toNatClampNeg (zI M 131 3).toNatClampNeg) := ⟨_, rfl⟩
  have w22s : zSk zMc w22M := by rw [w22e]; exact w19s
  have w22I : zIv cLo cHi w22M := by rw [w22e]; exact zIv.row w19I (fun _ => zcpyB (fun j => ib137 w19I j) (fun j => ib13 w19I j))
  have w22F : zFr [(13, 13, none)] w19M w22M := by rw [w22e]; exact zFr.row zFr.refl (fun _ => rfl)
  rw [← w22e]
  refine zs_aload_n (pc := 118) t23_118 rfl ?_
  refine zs_aload_n (pc := 119) t23_119 rfl ?_
  have w23 := ib131_8 hI
  refine zs_get (pc := 120) t23_120 (by decide) (zk1 (w22s.k fk_zMc_131)) (zfvi rfl ((w22F 131 8 rfl).trans ((w19F 131 8 rfl).trans ((w16F 131 8 rfl).trans ((w13F 131 8 rfl).trans ((zIo (by decide)).trans ((w8F 131 8 rfl).trans ((w5F 131 8 rfl).trans ((zIo (by decide)).trans rfl))))))))) ?_
  have w24 : zIv cLo cHi (zsI w22M 7 8 (zI M 131 8)) := zIv.put w22I (show 0 ≤ (zI M 131 8).toInt ∧ (zI M 131 8).toInt ≤ 12 from ⟨by omega, by omega⟩)
  refine zs_putI (pc := 123) t23_123 (zk1 (w22s.k fk_zMc_7)) rfl ?_
  refine zs_aload_n (pc := 126) t23_126 rfl ?_
  refine zs_get (pc := 127) t23_127 (by decide) (zk1 (w22s.k fk_zMc_131)) (w22s.p rfl fv_zMc_131_9) ?_
  refine zs_iconst (pc := 130) t23_130 (v := 0) (by decide) ?_
  refine zs_aload_n (pc := 131) t23_131 rfl ?_
  refine zs_get (pc := 132) t23_132 (by decide) (zk1 (w22s.k fk_zMc_7)) (w22s.p rfl fv_zMc_7_9) ?_
  refine zs_iconst (pc := 135) t23_135 (v := 0) (by decide) ?_
  refine zs_aload_n (pc := 136) t23_136 rfl ?_
  refine zs_get (pc := 137) t23_137 (by decide) (zk1 (w22s.k fk_zMc_7)) (zfvi rfl zIs) ?_
  have w25 := li0
  have w26 := li0
  refine zs_copy (pc := 140) t23_140 (w22s.k fk_zMc_138) (w22s.k fk_zMc_14) (by decide) (by decide) (by decide) ⟨by omega, by omega, by omega⟩ (by omega) (by omega) ⟨Nat.le_of_ble_eq_true rfl, by decide⟩ ?_
  obtain ⟨w27M, w27e⟩ : ∃ N, N = zsR (zsI w22M 7 8 (zI M 131 8)) 14 (va_cpy (zI (zsI w22M 7 8 (zI M 131 8)) 138) (zI (zsI w22M 7 8 (zI M 131 8)) 14) (0 : Int32).toNatClampNeg (0 : Int32).toNatClampNeg (zI M 131 8).toNatClampNeg) := ⟨_, rfl⟩
  have w27s : zSk zMc w27M := by rw [w27e]; exact w22s
  have w27I : zIv cLo cHi w27M := by rw [w27e]; exact zIv.row w24 (fun _ => zcpyB (fun j => ib138 w24 j) (fun j => ib14 w24 j))
  have w27F : zFr [(14, 14, none)] (zsI w22M 7 8 (zI M 131 8)) w27M := by rw [w27e]; exact zFr.row zFr.refl (fun _ => rfl)
  rw [← w27e]
  refine zs_aload_n (pc := 143) t23_143 rfl ?_
  refine zs_get (pc := 144) t23_144 (by decide) (zk1 (w27s.k fk_zMc_131)) (w27s.p rfl fv_zMc_131_10) ?_
  refine zs_iconst (pc := 147) t23_147 (v := 0) (by decide) ?_
  refine zs_aload_n (pc := 148) t23_148 rfl ?_
  refine zs_get (pc := 149) t23_149 (by decide) (zk1 (w27s.k fk_zMc_7)) (w27s.p rfl fv_zMc_7_10) ?_
  refine zs_iconst (pc := 152) t23_152 (v := 0) (by decide) ?_
  refine zs_aload_n (pc := 153) t23_153 rfl ?_
  refine zs_get (pc := 154) t23_154 (by decide) (zk1 (w27s.k fk_zMc_7)) (zfvi rfl ((w27F 7 8 rfl).trans zIs)) ?_
  have w28 := li0
  have w29 := li0
  refine zs_copy (pc := 157) t23_157 (w27s.k fk_zMc_139) (w27s.k fk_zMc_15) (by decide) (by decide) (by decide) ⟨by omega, by omega, by omega⟩ (by omega) (by omega) ⟨Nat.le_of_ble_eq_true rfl, by decide⟩ ?_
  obtain ⟨w30M, w30e⟩ : ∃ N, N = zsR w27M 15 (va_cpy (zI w27M 139) (zI w27M 15) (0 : Int32).toNatClampNeg (0 : Int32).toNatClampNeg (zI M 131 8).toNatClampNeg) := ⟨_, rfl⟩
  have w30s : zSk zMc w30M := by rw [w30e]; exact w27s
  have w30I : zIv cLo cHi w30M := by rw [w30e]; exact zIv.row w27I (fun _ => zcpyB (fun j => ib139 w27I j) (fun j => ib15 w27I j))
  have w30F : zFr [(15, 15, none)] w27M w30M := by rw [w30e]; exact zFr.row zFr.refl (fun _ => rfl)
  rw [← w30e]
  refine zs_aload_n (pc := 160) t23_160 rfl ?_
  refine zs_get (pc := 161) t23_161 (by decide) (zk1 (w30s.k fk_zMc_131)) (w30s.p rfl fv_zMc_131_11) ?_
  refine zs_iconst (pc := 164) t23_164 (v := 0) (by decide) ?_
  refine zs_aload_n (pc := 165) t23_165 rfl ?_
  refine zs_get (pc := 166) t23_166 (by decide) (zk1 (w30s.k fk_zMc_7)) (w30s.p rfl fv_zMc_7_11) ?_
  refine zs_iconst (pc := 169) t23_169 (v := 0) (by decide) ?_
  refine zs_aload_n (pc := 170) t23_170 rfl ?_
  refine zs_get (pc := 171) t23_171 (by decide) (zk1 (w30s.k fk_zMc_7)) (zfvi rfl ((w30F 7 8 rfl).trans ((w27F 7 8 rfl).trans zIs))) ?_
  have w31 := li0
  have w32 := li0
  refine zs_copy (pc := 174) t23_174 (w30s.k fk_zMc_140) (w30s.k fk_zMc_16) (by decide) (by decide) (by decide) ⟨by omega, by omega, by omega⟩ (by omega) (by omega) ⟨Nat.le_of_ble_eq_true rfl, by decide⟩ ?_
  obtain ⟨w33M, w33e⟩ : ∃ N, N = zsR w30M 16 (va_cpy (zI w30M 140) (zI w30M 16) (0 : Int32).toNatClampNeg (0 : Int32).toNatClampNeg (zI M 131 8).toNatClampNeg) := ⟨_, rfl⟩
  have w33s : zSk zMc w33M := by rw [w33e]; exact w30s
  have w33I : zIv cLo cHi w33M := by rw [w33e]; exact zIv.row w30I (fun _ => zcpyB (fun j => ib140 w30I j) (fun j => ib16 w30I j))
  have w33F : zFr [(16, 16, none)] w30M w33M := by rw [w33e]; exact zFr.row zFr.refl (fun _ => rfl)
  rw [← w33e]
  refine zs_aload_n (pc := 177) t23_177 rfl ?_
  refine zs_get (pc := 178) t23_178 (by decide) (zk1 (w33s.k fk_zMc_131)) (w33s.p rfl fv_zMc_131_12) ?_
  refine zs_iconst (pc := 181) t23_181 (v := 0) (by decide) ?_
  refine zs_aload_n (pc := 182) t23_182 rfl ?_
  refine zs_get (pc := 183) t23_183 (by decide) (zk1 (w33s.k fk_zMc_7)) (w33s.p rfl fv_zMc_7_12) ?_
  refine zs_iconst (pc := 186) t23_186 (v := 0) (by decide) ?_
  refine zs_bipush (pc := 187) t23_187 (v := 9) (by decide) ?_
  have w34 := li9
  have w35 := li0
  have w36 := li0
  refine zs_copy (pc := 189) t23_189 (w33s.k fk_zMc_141) (w33s.k fk_zMc_17) (by decide) (by decide) (by decide) ⟨by omega, by omega, by omega⟩ (by omega) (by omega) ⟨Nat.le_of_ble_eq_true rfl, by decide⟩ ?_
  obtain ⟨w37M, w37e⟩ : ∃ N, N = zsR w33M 17 (va_cpy (zI w33M 141) (zI w33M 17) (0 : Int32).toNatClampNeg (0 : Int32).toNatClampNeg (9 : Int32).toNatClampNeg) := ⟨_, rfl⟩
  have w37s : zSk zMc w37M := by rw [w37e]; exact w33s
  have w37I : zIv cLo cHi w37M := by rw [w37e]; exact zIv.row w33I (fun _ => zcpyB (fun j => ib141 w33I j) (fun j => ib17 w33I j))
  have w37F : zFr [(17, 17, none)] w33M w37M := by rw [w37e]; exact zFr.row zFr.refl (fun _ => rfl)
  rw [← w37e]
  refine zs_aload_n (pc := 192) t23_192 rfl ?_
  refine zs_aload_n (pc := 193) t23_193 rfl ?_
  refine zs_get (pc := 194) t23_194 (by decide) (zk1 (w37s.k fk_zMc_131)) (w37s.p rfl fv_zMc_131_14) ?_
  refine zs_aload_n (pc := 197) t23_197 rfl ?_
  have w38 := ib131_13 hI
  refine zs_get (pc := 198) t23_198 (by decide) (zk1 (w37s.k fk_zMc_131)) (zfvi rfl ((w37F 131 13 rfl).trans ((w33F 131 13 rfl).trans ((w30F 131 13 rfl).trans ((w27F 131 13 rfl).trans ((zIo (by decide)).trans ((w22F 131 13 rfl).trans ((w19F 131 13 rfl).trans ((w16F 131 13 rfl).trans ((w13F 131 13 rfl).trans ((zIo (by decide)).trans ((w8F 131 13 rfl).trans ((w5F 131 13 rfl).trans ((zIo (by decide)).trans rfl)))))))))))))) ?_
  refine zs_invV (pc := 201) (k := 7) (as' := [.ref 142, .int (zI M 131 13)]) (st := []) t23_201 mf24 rfl rfl (Or.inl ⟨by decide, (zk1 (w37s.k fk_zMc_7))⟩) ⟨by decide, by decide, Nat.le_of_ble_eq_true rfl, Nat.le_of_ble_eq_true rfl⟩ (zs_in (by decide) mf24 (Nat.le_of_ble_eq_true rfl) ?_) (fun _ _ q => q)
  show zGo X l 1 0 0 24 0 [(0, .ref 7), (1, .ref 142), (2, .int (zI M 131 13))] [] w37M _
  refine zs_aload_n (pc := 0) t24_0 rfl ?_
  refine zs_iconst (pc := 1) t24_1 (v := 0) (by decide) ?_
  refine zs_iload_n (pc := 2) t24_2 rfl ?_
  refine zs_sipush (pc := 3) t24_3 (v := 500) (by decide) ?_
  refine zs_invS (pc := 6) (as := [.int (zI M 131 13), .int (500 : Int32)]) (st := [.int (0 : Int32), .ref 7]) t24_6 (by decide) mf20 rfl rfl ⟨by decide, by decide, Nat.le_of_ble_eq_true rfl, Nat.le_of_ble_eq_true rfl⟩ (zs_in (by decide) mf20 (Nat.le_of_ble_eq_true rfl) ?_) (fun _ _ q => q)
  show zGo X l 0 0 0 20 0 [(0, .int (zI M 131 13)), (1, .int (500 : Int32))] [] w37M _
  refine zs_iload_n (pc := 0) t20_0 rfl ?_
  refine zs_iload_n (pc := 1) t20_1 rfl ?_
  refine zs_icmp_gtF (pc := 2) t20_2 rfl li500 (by omega) ?_
  refine zs_iload_n (pc := 5) t20_5 rfl ?_
  refine zs_goto (pc := 6) t20_6 ?_
  refine zs_iret (pc := 10) t20_10 mr20 rfl ?_
  show zGo X l 1 0 0 24 9 [(0, .ref 7), (1, .ref 142), (2, .int (zI M 131 13))] [.int (zI M 131 13), .int (0 : Int32), .ref 7] w37M _
  refine zs_invS (pc := 9) (as := [.int (0 : Int32), .int (zI M 131 13)]) (st := [.ref 7]) t24_9 (by decide) mf21 rfl rfl ⟨by decide, by decide, Nat.le_of_ble_eq_true rfl, Nat.le_of_ble_eq_true rfl⟩ (zs_in (by decide) mf21 (Nat.le_of_ble_eq_true rfl) ?_) (fun _ _ q => q)
  show zGo X l 0 0 0 21 0 [(0, .int (0 : Int32)), (1, .int (zI M 131 13))] [] w37M _
  refine zs_iload_n (pc := 0) t21_0 rfl ?_
  refine zs_iload_n (pc := 1) t21_1 rfl ?_
  by_cases w39 : 0 < (zI M 131 13).toInt
  · refine zs_icmp_ltT (pc := 2) t21_2 li0 rfl (by omega) ?_
    refine zs_iload_n (pc := 9) t21_9 rfl ?_
    refine zs_iret (pc := 10) t21_10 mr21 rfl ?_
    show zGo X l 1 0 0 24 12 [(0, .ref 7), (1, .ref 142), (2, .int (zI M 131 13))] [.int (zI M 131 13), .ref 7] w37M _
    have w40 : zIv cLo cHi (zsI w37M 7 13 (zI M 131 13)) := zIv.put w37I (show 0 ≤ (zI M 131 13).toInt ∧ (zI M 131 13).toInt ≤ 500 from ⟨by omega, by omega⟩)
    refine zs_putI (pc := 12) t24_12 (zk1 (w37s.k fk_zMc_7)) rfl ?_
    refine zs_aload_n (pc := 15) t24_15 rfl ?_
    refine zs_iconst (pc := 16) t24_16 (v := 0) (by decide) ?_
    refine zs_aload_n (pc := 17) t24_17 rfl ?_
    refine zs_get (pc := 18) t24_18 (by decide) (zk1 (w37s.k fk_zMc_7)) (w37s.p rfl fv_zMc_7_14) ?_
    refine zs_iconst (pc := 21) t24_21 (v := 0) (by decide) ?_
    refine zs_aload_n (pc := 22) t24_22 rfl ?_
    refine zs_get (pc := 23) t24_23 (by decide) (zk1 (w37s.k fk_zMc_7)) (zfvi rfl zIs) ?_
    have w41 := li0
    have w42 := li0
    refine zs_copy (pc := 26) t24_26 (w37s.k fk_zMc_142) (w37s.k fk_zMc_18) (by decide) (by decide) (by decide) ⟨by omega, by omega, by omega⟩ (by omega) (by omega) ⟨Nat.le_of_ble_eq_true rfl, by decide⟩ ?_
    obtain ⟨w43M, w43e⟩ : ∃ N, N = zsR (zsI w37M 7 13 (zI M 131 13)) 18 (va_cpy (zI (zsI w37M 7 13 (zI M 131 13)) 142) (zI (zsI w37M 7 13 (zI M 131 13)) 18) (0 : Int32).toNatClampNeg (0 : Int32).toNatClampNeg (zI M 131 13).toNatClampNeg) := ⟨_, rfl⟩
    have w43s : zSk zMc w43M := by rw [w43e]; exact w37s
    have w43I : zIv cLo cHi w43M := by rw [w43e]; exact zIv.row w40 (fun _ => zcpyB (fun j => ib142 w40 j) (fun j => ib18 w40 j))
    have w43F : zFr [(18, 18, none)] (zsI w37M 7 13 (zI M 131 13)) w43M := by rw [w43e]; exact zFr.row zFr.refl (fun _ => rfl)
    rw [← w43e]
    refine zs_vret (pc := 29) t24_29 mr24 ?_
    show zGo X l 2 0 0 23 204 [(0, .ref 7), (1, .ref 131)] [] w43M _
    exact zs_vret (pc := 204) t23_204 mr23 (hQ _ w43s w43I ((((((((((((((((zFr.refl).put rfl).trans (w5F.mono rfl)).trans (w8F.mono rfl)).put rfl).trans (w13F.mono rfl)).trans (w16F.mono rfl)).trans (w19F.mono rfl)).trans (w22F.mono rfl)).put rfl).trans (w27F.mono rfl)).trans (w30F.mono rfl)).trans (w33F.mono rfl)).trans (w37F.mono rfl)).put rfl).trans (w43F.mono rfl)))
  · refine zs_icmp_ltF (pc := 2) t21_2 li0 rfl (by omega) ?_
    refine zs_iload_n (pc := 5) t21_5 rfl ?_
    refine zs_goto (pc := 6) t21_6 ?_
    refine zs_iret (pc := 10) t21_10 mr21 (by decide) ?_
    show zGo X l 1 0 0 24 12 [(0, .ref 7), (1, .ref 142), (2, .int (zI M 131 13))] [.int (0 : Int32), .ref 7] w37M _
    have w44 : zIv cLo cHi (zsI w37M 7 13 (0 : Int32)) := zIv.put w37I (show 0 ≤ (0 : Int32).toInt ∧ (0 : Int32).toInt ≤ 500 from ⟨by decide, by decide⟩)
    refine zs_putI (pc := 12) t24_12 (zk1 (w37s.k fk_zMc_7)) rfl ?_
    refine zs_aload_n (pc := 15) t24_15 rfl ?_
    refine zs_iconst (pc := 16) t24_16 (v := 0) (by decide) ?_
    refine zs_aload_n (pc := 17) t24_17 rfl ?_
    refine zs_get (pc := 18) t24_18 (by decide) (zk1 (w37s.k fk_zMc_7)) (w37s.p rfl fv_zMc_7_14) ?_
    refine zs_iconst (pc := 21) t24_21 (v := 0) (by decide) ?_
    refine zs_aload_n (pc := 22) t24_22 rfl ?_
    refine zs_get (pc := 23) t24_23 (by decide) (zk1 (w37s.k fk_zMc_7)) (zfvi rfl zIs) ?_
    have w45 := li0
    have w46 := li0
    have w47 := li0
    refine zs_copy (pc := 26) t24_26 (w37s.k fk_zMc_142) (w37s.k fk_zMc_18) (by decide) (by decide) (by decide) ⟨by omega, by omega, by omega⟩ (by omega) (by omega) ⟨Nat.le_of_ble_eq_true rfl, by decide⟩ ?_
    obtain ⟨w48M, w48e⟩ : ∃ N, N = zsR (zsI w37M 7 13 (0 : Int32)) 18 (va_cpy (zI (zsI w37M 7 13 (0 : Int32)) 142) (zI (zsI w37M 7 13 (0 : Int32)) 18) (0 : Int32).toNatClampNeg (0 : Int32).toNatClampNeg (0 : Int32).toNatClampNeg) := ⟨_, rfl⟩
    have w48s : zSk zMc w48M := by rw [w48e]; exact w37s
    have w48I : zIv cLo cHi w48M := by rw [w48e]; exact zIv.row w44 (fun _ => zcpyB (fun j => ib142 w44 j) (fun j => ib18 w44 j))
    have w48F : zFr [(18, 18, none)] (zsI w37M 7 13 (0 : Int32)) w48M := by rw [w48e]; exact zFr.row zFr.refl (fun _ => rfl)
    rw [← w48e]
    refine zs_vret (pc := 29) t24_29 mr24 ?_
    show zGo X l 2 0 0 23 204 [(0, .ref 7), (1, .ref 131)] [] w48M _
    exact zs_vret (pc := 204) t23_204 mr23 (hQ _ w48s w48I ((((((((((((((((zFr.refl).put rfl).trans (w5F.mono rfl)).trans (w8F.mono rfl)).put rfl).trans (w13F.mono rfl)).trans (w16F.mono rfl)).trans (w19F.mono rfl)).trans (w22F.mono rfl)).put rfl).trans (w27F.mono rfl)).trans (w30F.mono rfl)).trans (w33F.mono rfl)).trans (w37F.mono rfl)).put rfl).trans (w48F.mono rfl)))
theorem C23_7_143 {X : zX} {l : Launch} {M : zM} {Q : Option Value → zM → Prop} (hs : zSk zMc M) (hI : zIv cLo cHi M) (hQ : ∀ M', zSk zMc M' → zIv cLo cHi M' → zFr [(7, 18, none)] M M' → Q none M') : zCall X l 2 0 0 23 [.ref 7, .ref 143] M Q := by
  refine zs_in (by decide) mf23 (Nat.le_of_ble_eq_true rfl) ?_
  show zGo X l 2 0 0 23 0 [(0, .ref 7), (1, .ref 143)] [] M _
  refine zs_aload_n (pc := 0) t23_0 rfl ?_
  refine zs_aload_n (pc := 1) t23_1 rfl ?_
  have w1 := ib143_0 hI
  refine zs_get (pc := 2) t23_2 (by decide) (zk1 (hs.k fk_zMc_143)) (zfvi rfl rfl) ?_
  have w2 : zIv cLo cHi (zsI M 7 0 (zI M 143 0)) := zIv.put hI (show 0 ≤ (zI M 143 0).toInt ∧ (zI M 143 0).toInt ≤ 8 from ⟨by omega, by omega⟩)
  refine zs_putI (pc := 5) t23_5 (zk1 (hs.k fk_zMc_7)) rfl ?_
  refine zs_aload_n (pc := 8) t23_8 rfl ?_
  refine zs_get (pc := 9) t23_9 (by decide) (zk1 (hs.k fk_zMc_143)) (hs.p rfl fv_zMc_143_1) ?_
  refine zs_iconst (pc := 12) t23_12 (v := 0) (by decide) ?_
  refine zs_aload_n (pc := 13) t23_13 rfl ?_
  refine zs_get (pc := 14) t23_14 (by decide) (zk1 (hs.k fk_zMc_7)) (hs.p rfl fv_zMc_7_1) ?_
  refine zs_iconst (pc := 17) t23_17 (v := 0) (by decide) ?_
  refine zs_aload_n (pc := 18) t23_18 rfl ?_
  refine zs_get (pc := 19) t23_19 (by decide) (zk1 (hs.k fk_zMc_7)) (zfvi rfl zIs) ?_
  have w3 := li0
  have w4 := li0
  refine zs_copy (pc := 22) t23_22 (hs.k fk_zMc_144) (hs.k fk_zMc_8) (by decide) (by decide) (by decide) ⟨by omega, by omega, by omega⟩ (by omega) (by omega) ⟨Nat.le_of_ble_eq_true rfl, by decide⟩ ?_
  obtain ⟨w5M, w5e⟩ : ∃ N, N = zsR (zsI M 7 0 (zI M 143 0)) 8 (va_cpy (zI (zsI M 7 0 (zI M 143 0)) 144) (zI (zsI M 7 0 (zI M 143 0)) 8) (0 : Int32).toNatClampNeg (0 : Int32).toNatClampNeg (zI M 143 0).toNatClampNeg) := ⟨_, rfl⟩
  have w5s : zSk zMc w5M := by rw [w5e]; exact hs
  have w5I : zIv cLo cHi w5M := by rw [w5e]; exact zIv.row w2 (fun _ => zcpyB (fun j => ib144 w2 j) (fun j => ib8 w2 j))
  have w5F : zFr [(8, 8, none)] (zsI M 7 0 (zI M 143 0)) w5M := by rw [w5e]; exact zFr.row zFr.refl (fun _ => rfl)
  rw [← w5e]
  refine zs_aload_n (pc := 25) t23_25 rfl ?_
  refine zs_get (pc := 26) t23_26 (by decide) (zk1 (w5s.k fk_zMc_143)) (w5s.p rfl fv_zMc_143_2) ?_
  refine zs_iconst (pc := 29) t23_29 (v := 0) (by decide) ?_
  refine zs_aload_n (pc := 30) t23_30 rfl ?_
  refine zs_get (pc := 31) t23_31 (by decide) (zk1 (w5s.k fk_zMc_7)) (w5s.p rfl fv_zMc_7_2) ?_
  refine zs_iconst (pc := 34) t23_34 (v := 0) (by decide) ?_
  refine zs_aload_n (pc := 35) t23_35 rfl ?_
  refine zs_get (pc := 36) t23_36 (by decide) (zk1 (w5s.k fk_zMc_7)) (zfvi rfl ((w5F 7 0 rfl).trans zIs)) ?_
  have w6 := li0
  have w7 := li0
  refine zs_copy (pc := 39) t23_39 (w5s.k fk_zMc_145) (w5s.k fk_zMc_9) (by decide) (by decide) (by decide) ⟨by omega, by omega, by omega⟩ (by omega) (by omega) ⟨Nat.le_of_ble_eq_true rfl, by decide⟩ ?_
  obtain ⟨w8M, w8e⟩ : ∃ N, N = zsR w5M 9 (va_cpy (zI w5M 145) (zI w5M 9) (0 : Int32).toNatClampNeg (0 : Int32).toNatClampNeg (zI M 143 0).toNatClampNeg) := ⟨_, rfl⟩
  have w8s : zSk zMc w8M := by rw [w8e]; exact w5s
  have w8I : zIv cLo cHi w8M := by rw [w8e]; exact zIv.row w5I (fun _ => zcpyB (fun j => ib145 w5I j) (fun j => ib9 w5I j))
  have w8F : zFr [(9, 9, none)] w5M w8M := by rw [w8e]; exact zFr.row zFr.refl (fun _ => rfl)
  rw [← w8e]
  refine zs_aload_n (pc := 42) t23_42 rfl ?_
  refine zs_aload_n (pc := 43) t23_43 rfl ?_
  have w9 := ib143_3 hI
  refine zs_get (pc := 44) t23_44 (by decide) (zk1 (w8s.k fk_zMc_143)) (zfvi rfl ((w8F 143 3 rfl).trans ((w5F 143 3 rfl).trans ((zIo (by decide)).trans rfl)))) ?_
  have w10 : zIv cLo cHi (zsI w8M 7 3 (zI M 143 3)) := zIv.put w8I (show 0 ≤ (zI M 143 3).toInt ∧ (zI M 143 3).toInt ≤ 60 from ⟨by omega, by omega⟩)
  refine zs_putI (pc := 47) t23_47 (zk1 (w8s.k fk_zMc_7)) rfl ?_
  refine zs_aload_n (pc := 50) t23_50 rfl ?_
  refine zs_get (pc := 51) t23_51 (by decide) (zk1 (w8s.k fk_zMc_143)) (w8s.p rfl fv_zMc_143_4) ?_
  refine zs_iconst (pc := 54) t23_54 (v := 0) (by decide) ?_
  refine zs_aload_n (pc := 55) t23_55 rfl ?_
  refine zs_get (pc := 56) t23_56 (by decide) (zk1 (w8s.k fk_zMc_7)) (w8s.p rfl fv_zMc_7_4) ?_
  refine zs_iconst (pc := 59) t23_59 (v := 0) (by decide) ?_
  refine zs_aload_n (pc := 60) t23_60 rfl ?_
  refine zs_get (pc := 61) t23_61 (by decide) (zk1 (w8s.k fk_zMc_7)) (zfvi rfl zIs) ?_
  have w11 := li0
  have w12 := li0
  refine zs_copy (pc := 64) t23_64 (w8s.k fk_zMc_146) (w8s.k fk_zMc_10) (by decide) (by decide) (by decide) ⟨by omega, by omega, by omega⟩ (by omega) (by omega) ⟨Nat.le_of_ble_eq_true rfl, by decide⟩ ?_
  obtain ⟨w13M, w13e⟩ : ∃ N, N = zsR (zsI w8M 7 3 (zI M 143 3)) 10 (va_cpy (zI (zsI w8M 7 3 (zI M 143 3)) 146) (zI (zsI w8M 7 3 (zI M 143 3)) 10) (0 : Int32).toNatClampNeg (0 : Int32).toNatClampNeg (zI M 143 3).toNatClampNeg) := ⟨_, rfl⟩
  have w13s : zSk zMc w13M := by rw [w13e]; exact w8s
  have w13I : zIv cLo cHi w13M := by rw [w13e]; exact zIv.row w10 (fun _ => zcpyB (fun j => ib146 w10 j) (fun j => ib10 w10 j))
  have w13F : zFr [(10, 10, none)] (zsI w8M 7 3 (zI M 143 3)) w13M := by rw [w13e]; exact zFr.row zFr.refl (fun _ => rfl)
  rw [← w13e]
  refine zs_aload_n (pc := 67) t23_67 rfl ?_
  refine zs_get (pc := 68) t23_68 (by decide) (zk1 (w13s.k fk_zMc_143)) (w13s.p rfl fv_zMc_143_5) ?_
  refine zs_iconst (pc := 71) t23_71 (v := 0) (by decide) ?_
  refine zs_aload_n (pc := 72) t23_72 rfl ?_
  refine zs_get (pc := 73) t23_73 (by decide) (zk1 (w13s.k fk_zMc_7)) (w13s.p rfl fv_zMc_7_5) ?_
  refine zs_iconst (pc := 76) t23_76 (v := 0) (by decide) ?_
  refine zs_aload_n (pc := 77) t23_77 rfl ?_
  refine zs_get (pc := 78) t23_78 (by decide) (zk1 (w13s.k fk_zMc_7)) (zfvi rfl ((w13F 7 3 rfl).trans zIs)) ?_
  have w14 := li0
  have w15 := li0
  refine zs_copy (pc := 81) t23_81 (w13s.k fk_zMc_147) (w13s.k fk_zMc_11) (by decide) (by decide) (by decide) ⟨by omega, by omega, by omega⟩ (by omega) (by omega) ⟨Nat.le_of_ble_eq_true rfl, by decide⟩ ?_
  obtain ⟨w16M, w16e⟩ : ∃ N, N = zsR w13M 11 (va_cpy (zI w13M 147) (zI w13M 11) (0 : Int32).toNatClampNeg (0 : Int32).toNatClampNeg (zI M 143 3).toNatClampNeg) := ⟨_, rfl⟩
  have w16s : zSk zMc w16M := by rw [w16e]; exact w13s
  have w16I : zIv cLo cHi w16M := by rw [w16e]; exact zIv.row w13I (fun _ => zcpyB (fun j => ib147 w13I j) (fun j => ib11 w13I j))
  have w16F : zFr [(11, 11, none)] w13M w16M := by rw [w16e]; exact zFr.row zFr.refl (fun _ => rfl)
  rw [← w16e]
  refine zs_aload_n (pc := 84) t23_84 rfl ?_
  refine zs_get (pc := 85) t23_85 (by decide) (zk1 (w16s.k fk_zMc_143)) (w16s.p rfl fv_zMc_143_6) ?_
  refine zs_iconst (pc := 88) t23_88 (v := 0) (by decide) ?_
  refine zs_aload_n (pc := 89) t23_89 rfl ?_
  refine zs_get (pc := 90) t23_90 (by decide) (zk1 (w16s.k fk_zMc_7)) (w16s.p rfl fv_zMc_7_6) ?_
  refine zs_iconst (pc := 93) t23_93 (v := 0) (by decide) ?_
  refine zs_aload_n (pc := 94) t23_94 rfl ?_
  refine zs_get (pc := 95) t23_95 (by decide) (zk1 (w16s.k fk_zMc_7)) (zfvi rfl ((w16F 7 3 rfl).trans ((w13F 7 3 rfl).trans zIs))) ?_
  have w17 := li0
  have w18 := li0
  refine zs_copy (pc := 98) t23_98 (w16s.k fk_zMc_148) (w16s.k fk_zMc_12) (by decide) (by decide) (by decide) ⟨by omega, by omega, by omega⟩ (by omega) (by omega) ⟨Nat.le_of_ble_eq_true rfl, by decide⟩ ?_
  obtain ⟨w19M, w19e⟩ : ∃ N, N = zsR w16M 12 (va_cpy (zI w16M 148) (zI w16M 12) (0 : Int32).toNatClampNeg (0 : Int32).toNatClampNeg (zI M 143 3).toNatClampNeg) := ⟨_, rfl⟩
  have w19s : zSk zMc w19M := by rw [w19e]; exact w16s
  have w19I : zIv cLo cHi w19M := by rw [w19e]; exact zIv.row w16I (fun _ => zcpyB (fun j => ib148 w16I j) (fun j => ib12 w16I j))
  have w19F : zFr [(12, 12, none)] w16M w19M := by rw [w19e]; exact zFr.row zFr.refl (fun _ => rfl)
  rw [← w19e]
  refine zs_aload_n (pc := 101) t23_101 rfl ?_
  refine zs_get (pc := 102) t23_102 (by decide) (zk1 (w19s.k fk_zMc_143)) (w19s.p rfl fv_zMc_143_7) ?_
  refine zs_iconst (pc := 105) t23_105 (v := 0) (by decide) ?_
  refine zs_aload_n (pc := 106) t23_106 rfl ?_
  refine zs_get (pc := 107) t23_107 (by decide) (zk1 (w19s.k fk_zMc_7)) (w19s.p rfl fv_zMc_7_7) ?_
  refine zs_iconst (pc := 110) t23_110 (v := 0) (by decide) ?_
  refine zs_aload_n (pc := 111) t23_111 rfl ?_
  refine zs_get (pc := 112) t23_112 (by decide) (zk1 (w19s.k fk_zMc_7)) (zfvi rfl ((w19F 7 3 rfl).trans ((w16F 7 3 rfl).trans ((w13F 7 3 rfl).trans zIs)))) ?_
  have w20 := li0
  have w21 := li0
  refine zs_copy (pc := 115) t23_115 (w19s.k fk_zMc_149) (w19s.k fk_zMc_13) (by decide) (by decide) (by decide) ⟨by omega, by omega, by omega⟩ (by omega) (by omega) ⟨Nat.le_of_ble_eq_true rfl, by decide⟩ ?_
  obtain ⟨w22M, w22e⟩ : ∃ N, N = zsR w19M 13 (va_cpy (zI w19M 149) (zI w19M 13) (0 : Int32).toNatClampNeg (0 : Int32).toNatClampNeg (zI M 143 3).toNatClampNeg) := ⟨_, rfl⟩
  have w22s : zSk zMc w22M := by rw [w22e]; exact w19s
  have w22I : zIv cLo cHi w22M := by rw [w22e]; exact zIv.row w19I (fun _ => zcpyB (fun j => ib149 w19I j) (fun j => ib13 w19I j))
  have w22F : zFr [(13, 13, none)] w19M w22M := by rw [w22e]; exact zFr.row zFr.refl (fun _ => rfl)
  rw [← w22e]
  refine zs_aload_n (pc := 118) t23_118 rfl ?_
  refine zs_aload_n (pc := 119) t23_119 rfl ?_
  have w23 := ib143_8 hI
  refine zs_get (pc := 120) t23_120 (by decide) (zk1 (w22s.k fk_zMc_143)) (zfvi rfl ((w22F 143 8 rfl).trans ((w19F 143 8 rfl).trans ((w16F 143 8 rfl).trans ((w13F 143 8 rfl).trans ((zIo (by decide)).trans ((w8F 143 8 rfl).trans ((w5F 143 8 rfl).trans ((zIo (by decide)).trans rfl))))))))) ?_
  have w24 : zIv cLo cHi (zsI w22M 7 8 (zI M 143 8)) := zIv.put w22I (show 0 ≤ (zI M 143 8).toInt ∧ (zI M 143 8).toInt ≤ 12 from ⟨by omega, by omega⟩)
  refine zs_putI (pc := 123) t23_123 (zk1 (w22s.k fk_zMc_7)) rfl ?_
  refine zs_aload_n (pc := 126) t23_126 rfl ?_
  refine zs_get (pc := 127) t23_127 (by decide) (zk1 (w22s.k fk_zMc_143)) (w22s.p rfl fv_zMc_143_9) ?_
  refine zs_iconst (pc := 130) t23_130 (v := 0) (by decide) ?_
  refine zs_aload_n (pc := 131) t23_131 rfl ?_
  refine zs_get (pc := 132) t23_132 (by decide) (zk1 (w22s.k fk_zMc_7)) (w22s.p rfl fv_zMc_7_9) ?_
  refine zs_iconst (pc := 135) t23_135 (v := 0) (by decide) ?_
  refine zs_aload_n (pc := 136) t23_136 rfl ?_
  refine zs_get (pc := 137) t23_137 (by decide) (zk1 (w22s.k fk_zMc_7)) (zfvi rfl zIs) ?_
  have w25 := li0
  have w26 := li0
  refine zs_copy (pc := 140) t23_140 (w22s.k fk_zMc_150) (w22s.k fk_zMc_14) (by decide) (by decide) (by decide) ⟨by omega, by omega, by omega⟩ (by omega) (by omega) ⟨Nat.le_of_ble_eq_true rfl, by decide⟩ ?_
  obtain ⟨w27M, w27e⟩ : ∃ N, N = zsR (zsI w22M 7 8 (zI M 143 8)) 14 (va_cpy (zI (zsI w22M 7 8 (zI M 143 8)) 150) (zI (zsI w22M 7 8 (zI M 143 8)) 14) (0 : Int32).toNatClampNeg (0 : Int32).toNatClampNeg (zI M 143 8).toNatClampNeg) := ⟨_, rfl⟩
  have w27s : zSk zMc w27M := by rw [w27e]; exact w22s
  have w27I : zIv cLo cHi w27M := by rw [w27e]; exact zIv.row w24 (fun _ => zcpyB (fun j => ib150 w24 j) (fun j => ib14 w24 j))
  have w27F : zFr [(14, 14, none)] (zsI w22M 7 8 (zI M 143 8)) w27M := by rw [w27e]; exact zFr.row zFr.refl (fun _ => rfl)
  rw [← w27e]
  refine zs_aload_n (pc := 143) t23_143 rfl ?_
  refine zs_get (pc := 144) t23_144 (by decide) (zk1 (w27s.k fk_zMc_143)) (w27s.p rfl fv_zMc_143_10) ?_
  refine zs_iconst (pc := 147) t23_147 (v := 0) (by decide) ?_
  refine zs_aload_n (pc := 148) t23_148 rfl ?_
  refine zs_get (pc := 149) t23_149 (by decide) (zk1 (w27s.k fk_zMc_7)) (w27s.p rfl fv_zMc_7_10) ?_
  refine zs_iconst (pc := 152) t23_152 (v := 0) (by decide) ?_
  refine zs_aload_n (pc := 153) t23_153 rfl ?_
  refine zs_get (pc := 154) t23_154 (by decide) (zk1 (w27s.k fk_zMc_7)) (zfvi rfl ((w27F 7 8 rfl).trans zIs)) ?_
  have w28 := li0
  have w29 := li0
  refine zs_copy (pc := 157) t23_157 (w27s.k fk_zMc_151) (w27s.k fk_zMc_15) (by decide) (by decide) (by decide) ⟨by omega, by omega, by omega⟩ (by omega) (by omega) ⟨Nat.le_of_ble_eq_true rfl, by decide⟩ ?_
  obtain ⟨w30M, w30e⟩ : ∃ N, N = zsR w27M 15 (va_cpy (zI w27M 151) (zI w27M 15) (0 : Int32).toNatClampNeg (0 : Int32).toNatClampNeg (zI M 143 8).toNatClampNeg) := ⟨_, rfl⟩
  have w30s : zSk zMc w30M := by rw [w30e]; exact w27s
  have w30I : zIv cLo cHi w30M := by rw [w30e]; exact zIv.row w27I (fun _ => zcpyB (fun j => ib151 w27I j) (fun j => ib15 w27I j))
  have w30F : zFr [(15, 15, none)] w27M w30M := by rw [w30e]; exact zFr.row zFr.refl (fun _ => rfl)
  rw [← w30e]
  refine zs_aload_n (pc := 160) t23_160 rfl ?_
  refine zs_get (pc := 161) t23_161 (by decide) (zk1 (w30s.k fk_zMc_143)) (w30s.p rfl fv_zMc_143_11) ?_
  refine zs_iconst (pc := 164) t23_164 (v := 0) (by decide) ?_
  refine zs_aload_n (pc := 165) t23_165 rfl ?_
  refine zs_get (pc := 166) t23_166 (by decide) (zk1 (w30s.k fk_zMc_7)) (w30s.p rfl fv_zMc_7_11) ?_
  refine zs_iconst (pc := 169) t23_169 (v := 0) (by decide) ?_
  refine zs_aload_n (pc := 170) t23_170 rfl ?_
  refine zs_get (pc := 171) t23_171 (by decide) (zk1 (w30s.k fk_zMc_7)) (zfvi rfl ((w30F 7 8 rfl).trans ((w27F 7 8 rfl).trans zIs))) ?_
  have w31 := li0
  have w32 := li0
  refine zs_copy (pc := 174) t23_174 (w30s.k fk_zMc_152) (w30s.k fk_zMc_16) (by decide) (by decide) (by decide) ⟨by omega, by omega, by omega⟩ (by omega) (by omega) ⟨Nat.le_of_ble_eq_true rfl, by decide⟩ ?_
  obtain ⟨w33M, w33e⟩ : ∃ N, N = zsR w30M 16 (va_cpy (zI w30M 152) (zI w30M 16) (0 : Int32).toNatClampNeg (0 : Int32).toNatClampNeg (zI M 143 8).toNatClampNeg) := ⟨_, rfl⟩
  have w33s : zSk zMc w33M := by rw [w33e]; exact w30s
  have w33I : zIv cLo cHi w33M := by rw [w33e]; exact zIv.row w30I (fun _ => zcpyB (fun j => ib152 w30I j) (fun j => ib16 w30I j))
  have w33F : zFr [(16, 16, none)] w30M w33M := by rw [w33e]; exact zFr.row zFr.refl (fun _ => rfl)
  rw [← w33e]
  refine zs_aload_n (pc := 177) t23_177 rfl ?_
  refine zs_get (pc := 178) t23_178 (by decide) (zk1 (w33s.k fk_zMc_143)) (w33s.p rfl fv_zMc_143_12) ?_
  refine zs_iconst (pc := 181) t23_181 (v := 0) (by decide) ?_
  refine zs_aload_n (pc := 182) t23_182 rfl ?_
  refine zs_get (pc := 183) t23_183 (by decide) (zk1 (w33s.k fk_zMc_7)) (w33s.p rfl fv_zMc_7_12) ?_
  refine zs_iconst (pc := 186) t23_186 (v := 0) (by decide) ?_
  refine zs_bipush (pc := 187) t23_187 (v := 9) (by decide) ?_
  have w34 := li9
  have w35 := li0
  have w36 := li0
  refine zs_copy (pc := 189) t23_189 (w33s.k fk_zMc_153) (w33s.k fk_zMc_17) (by decide) (by decide) (by decide) ⟨by omega, by omega, by omega⟩ (by omega) (by omega) ⟨Nat.le_of_ble_eq_true rfl, by decide⟩ ?_
  obtain ⟨w37M, w37e⟩ : ∃ N, N = zsR w33M 17 (va_cpy (zI w33M 153) (zI w33M 17) (0 : Int32).toNatClampNeg (0 : Int32).toNatClampNeg (9 : Int32).toNatClampNeg) := ⟨_, rfl⟩
  have w37s : zSk zMc w37M := by rw [w37e]; exact w33s
  have w37I : zIv cLo cHi w37M := by rw [w37e]; exact zIv.row w33I (fun _ => zcpyB (fun j => ib153 w33I j) (fun j => ib17 w33I j))
  have w37F : zFr [(17, 17, none)] w33M w37M := by rw [w37e]; exact zFr.row zFr.refl (fun _ => rfl)
  rw [← w37e]
  refine zs_aload_n (pc := 192) t23_192 rfl ?_
  refine zs_aload_n (pc := 193) t23_193 rfl ?_
  refine zs_get (pc := 194) t23_194 (by decide) (zk1 (w37s.k fk_zMc_143)) (w37s.p rfl fv_zMc_143_14) ?_
  refine zs_aload_n (pc := 197) t23_197 rfl ?_
  have w38 := ib143_13 hI
  refine zs_get (pc := 198) t23_198 (by decide) (zk1 (w37s.k fk_zMc_143)) (zfvi rfl ((w37F 143 13 rfl).trans ((w33F 143 13 rfl).trans ((w30F 143 13 rfl).trans ((w27F 143 13 rfl).trans ((zIo (by decide)).trans ((w22F 143 13 rfl).trans ((w19F 143 13 rfl).trans ((w16F 143 13 rfl).trans ((w13F 143 13 rfl).trans ((zIo (by decide)).trans ((w8F 143 13 rfl).trans ((w5F 143 13 rfl).trans ((zIo (by decide)).trans rfl)))))))))))))) ?_
  refine zs_invV (pc := 201) (k := 7) (as' := [.ref 154, .int (zI M 143 13)]) (st := []) t23_201 mf24 rfl rfl (Or.inl ⟨by decide, (zk1 (w37s.k fk_zMc_7))⟩) ⟨by decide, by decide, Nat.le_of_ble_eq_true rfl, Nat.le_of_ble_eq_true rfl⟩ (zs_in (by decide) mf24 (Nat.le_of_ble_eq_true rfl) ?_) (fun _ _ q => q)
  show zGo X l 1 0 0 24 0 [(0, .ref 7), (1, .ref 154), (2, .int (zI M 143 13))] [] w37M _
  refine zs_aload_n (pc := 0) t24_0 rfl ?_
  refine zs_iconst (pc := 1) t24_1 (v := 0) (by decide) ?_
  refine zs_iload_n (pc := 2) t24_2 rfl ?_
  refine zs_sipush (pc := 3) t24_3 (v := 500) (by decide) ?_
  refine zs_invS (pc := 6) (as := [.int (zI M 143 13), .int (500 : Int32)]) (st := [.int (0 : Int32), .ref 7]) t24_6 (by decide) mf20 rfl rfl ⟨by decide, by decide, Nat.le_of_ble_eq_true rfl, Nat.le_of_ble_eq_true rfl⟩ (zs_in (by decide) mf20 (Nat.le_of_ble_eq_true rfl) ?_) (fun _ _ q => q)
  show zGo X l 0 0 0 20 0 [(0, .int (zI M 143 13)), (1, .int (500 : Int32))] [] w37M _
  refine zs_iload_n (pc := 0) t20_0 rfl ?_
  refine zs_iload_n (pc := 1) t20_1 rfl ?_
  refine zs_icmp_gtF (pc := 2) t20_2 rfl li500 (by omega) ?_
  refine zs_iload_n (pc := 5) t20_5 rfl ?_
  refine zs_goto (pc := 6) t20_6 ?_
  refine zs_iret (pc := 10) t20_10 mr20 rfl ?_
  show zGo X l 1 0 0 24 9 [(0, .ref 7), (1, .ref 154), (2, .int (zI M 143 13))] [.int (zI M 143 13), .int (0 : Int32), .ref 7] w37M _
  refine zs_invS (pc := 9) (as := [.int (0 : Int32), .int (zI M 143 13)]) (st := [.ref 7]) t24_9 (by decide) mf21 rfl rfl ⟨by decide, by decide, Nat.le_of_ble_eq_true rfl, Nat.le_of_ble_eq_true rfl⟩ (zs_in (by decide) mf21 (Nat.le_of_ble_eq_true rfl) ?_) (fun _ _ q => q)
  show zGo X l 0 0 0 21 0 [(0, .int (0 : Int32)), (1, .int (zI M 143 13))] [] w37M _
  refine zs_iload_n (pc := 0) t21_0 rfl ?_
  refine zs_iload_n (pc := 1) t21_1 rfl ?_
  by_cases w39 : 0 < (zI M 143 13).toInt
  · refine zs_icmp_ltT (pc := 2) t21_2 li0 rfl (by omega) ?_
    refine zs_iload_n (pc := 9) t21_9 rfl ?_
    refine zs_iret (pc := 10) t21_10 mr21 rfl ?_
    show zGo X l 1 0 0 24 12 [(0, .ref 7), (1, .ref 154), (2, .int (zI M 143 13))] [.int (zI M 143 13), .ref 7] w37M _
    have w40 : zIv cLo cHi (zsI w37M 7 13 (zI M 143 13)) := zIv.put w37I (show 0 ≤ (zI M 143 13).toInt ∧ (zI M 143 13).toInt ≤ 500 from ⟨by omega, by omega⟩)
    refine zs_putI (pc := 12) t24_12 (zk1 (w37s.k fk_zMc_7)) rfl ?_
    refine zs_aload_n (pc := 15) t24_15 rfl ?_
    refine zs_iconst (pc := 16) t24_16 (v := 0) (by decide) ?_
    refine zs_aload_n (pc := 17) t24_17 rfl ?_
    refine zs_get (pc := 18) t24_18 (by decide) (zk1 (w37s.k fk_zMc_7)) (w37s.p rfl fv_zMc_7_14) ?_
    refine zs_iconst (pc := 21) t24_21 (v := 0) (by decide) ?_
    refine zs_aload_n (pc := 22) t24_22 rfl ?_
    refine zs_get (pc := 23) t24_23 (by decide) (zk1 (w37s.k fk_zMc_7)) (zfvi rfl zIs) ?_
    have w41 := li0
    have w42 := li0
    refine zs_copy (pc := 26) t24_26 (w37s.k fk_zMc_154) (w37s.k fk_zMc_18) (by decide) (by decide) (by decide) ⟨by omega, by omega, by omega⟩ (by omega) (by omega) ⟨Nat.le_of_ble_eq_true rfl, by decide⟩ ?_
    obtain ⟨w43M, w43e⟩ : ∃ N, N = zsR (zsI w37M 7 13 (zI M 143 13)) 18 (va_cpy (zI (zsI w37M 7 13 (zI M 143 13)) 154) (zI (zsI w37M 7 13 (zI M 143 13)) 18) (0 : Int32).toNatClampNeg (0 : Int32).toNatClampNeg (zI M 143 13).toNatClampNeg) := ⟨_, rfl⟩
    have w43s : zSk zMc w43M := by rw [w43e]; exact w37s
    have w43I : zIv cLo cHi w43M := by rw [w43e]; exact zIv.row w40 (fun _ => zcpyB (fun j => ib154 w40 j) (fun j => ib18 w40 j))
    have w43F : zFr [(18, 18, none)] (zsI w37M 7 13 (zI M 143 13)) w43M := by rw [w43e]; exact zFr.row zFr.refl (fun _ => rfl)
    rw [← w43e]
    refine zs_vret (pc := 29) t24_29 mr24 ?_
    show zGo X l 2 0 0 23 204 [(0, .ref 7), (1, .ref 143)] [] w43M _
    exact zs_vret (pc := 204) t23_204 mr23 (hQ _ w43s w43I ((((((((((((((((zFr.refl).put rfl).trans (w5F.mono rfl)).trans (w8F.mono rfl)).put rfl).trans (w13F.mono rfl)).trans (w16F.mono rfl)).trans (w19F.mono rfl)).trans (w22F.mono rfl)).put rfl).trans (w27F.mono rfl)).trans (w30F.mono rfl)).trans (w33F.mono rfl)).trans (w37F.mono rfl)).put rfl).trans (w43F.mono rfl)))
  · refine zs_icmp_ltF (pc := 2) t21_2 li0 rfl (by omega) ?_
    refine zs_iload_n (pc := 5) t21_5 rfl ?_
    refine zs_goto (pc := 6) t21_6 ?_
    refine zs_iret (pc := 10) t21_10 mr21 (by decide) ?_
    show zGo X l 1 0 0 24 12 [(0, .ref 7), (1, .ref 154), (2, .int (zI M 143 13))] [.int (0 : Int32), .ref 7] w37M _
    have w44 : zIv cLo cHi (zsI w37M 7 13 (0 : Int32)) := zIv.put w37I (show 0 ≤ (0 : Int32).toInt ∧ (0 : Int32).toInt ≤ 500 from ⟨by decide, by decide⟩)
    refine zs_putI (pc := 12) t24_12 (zk1 (w37s.k fk_zMc_7)) rfl ?_
    refine zs_aload_n (pc := 15) t24_15 rfl ?_
    refine zs_iconst (pc := 16) t24_16 (v := 0) (by decide) ?_
    refine zs_aload_n (pc := 17) t24_17 rfl ?_
    refine zs_get (pc := 18) t24_18 (by decide) (zk1 (w37s.k fk_zMc_7)) (w37s.p rfl fv_zMc_7_14) ?_
    refine zs_iconst (pc := 21) t24_21 (v := 0) (by decide) ?_
    refine zs_aload_n (pc := 22) t24_22 rfl ?_
    refine zs_get (pc := 23) t24_23 (by decide) (zk1 (w37s.k fk_zMc_7)) (zfvi rfl zIs) ?_
    have w45 := li0
    have w46 := li0
    have w47 := li0
    refine zs_copy (pc := 26) t24_26 (w37s.k fk_zMc_154) (w37s.k fk_zMc_18) (by decide) (by decide) (by decide) ⟨by omega, by omega, by omega⟩ (by omega) (by omega) ⟨Nat.le_of_ble_eq_true rfl, by decide⟩ ?_
    obtain ⟨w48M, w48e⟩ : ∃ N, N = zsR (zsI w37M 7 13 (0 : Int32)) 18 (va_cpy (zI (zsI w37M 7 13 (0 : Int32)) 154) (zI (zsI w37M 7 13 (0 : Int32)) 18) (0 : Int32).toNatClampNeg (0 : Int32).toNatClampNeg (0 : Int32).toNatClampNeg) := ⟨_, rfl⟩
    have w48s : zSk zMc w48M := by rw [w48e]; exact w37s
    have w48I : zIv cLo cHi w48M := by rw [w48e]; exact zIv.row w44 (fun _ => zcpyB (fun j => ib154 w44 j) (fun j => ib18 w44 j))
    have w48F : zFr [(18, 18, none)] (zsI w37M 7 13 (0 : Int32)) w48M := by rw [w48e]; exact zFr.row zFr.refl (fun _ => rfl)
    rw [← w48e]
    refine zs_vret (pc := 29) t24_29 mr24 ?_
    show zGo X l 2 0 0 23 204 [(0, .ref 7), (1, .ref 143)] [] w48M _
    exact zs_vret (pc := 204) t23_204 mr23 (hQ _ w48s w48I ((((((((((((((((zFr.refl).put rfl).trans (w5F.mono rfl)).trans (w8F.mono rfl)).put rfl).trans (w13F.mono rfl)).trans (w16F.mono rfl)).trans (w19F.mono rfl)).trans (w22F.mono rfl)).put rfl).trans (w27F.mono rfl)).trans (w30F.mono rfl)).trans (w33F.mono rfl)).trans (w37F.mono rfl)).put rfl).trans (w48F.mono rfl)))
theorem C53_7 {X : zX} {l : Launch} {M : zM} {Q : Option Value → zM → Prop} {a b : Int32} (hs : zSk zMc M) (hI : zIv cLo cHi M) (hQ : ∀ v : Int32, (-2147483648) ≤ v.toInt → v.toInt ≤ 2147483647 → Q (some (.int v)) M) : zCall X l 1 0 0 53 [.ref 7, .int a, .int b] M Q := by
  have ga := zrg a
  have gb := zrg b
  refine zs_in (by decide) mf53 (Nat.le_of_ble_eq_true rfl) ?_
  show zGo X l 1 0 0 53 0 [(0, .ref 7), (1, .int a), (2, .int b)] [] M _
  refine zs_aload_n (pc := 0) t53_0 rfl ?_
  refine zs_iload_n (pc := 1) t53_1 rfl ?_
  refine zs_invV (pc := 2) (k := 7) (as' := [.int a]) (st := []) t53_2 mf41 rfl rfl (Or.inl ⟨by decide, (zk1 (hs.k fk_zMc_7))⟩) ⟨by decide, by decide, Nat.le_of_ble_eq_true rfl, Nat.le_of_ble_eq_true rfl⟩ (zs_in (by decide) mf41 (Nat.le_of_ble_eq_true rfl) ?_) (fun _ _ q => q)
  show zGo X l 0 0 0 41 0 [(0, .ref 7), (1, .int a)] [] M _
  refine zs_iload_n (pc := 0) t41_0 rfl ?_
  by_cases w1 : a.toInt < 0
  · refine zs_if_ltT (pc := 1) t41_1 rfl (by omega) ?_
    refine zs_iconst (pc := 16) t41_16 (v := 0) (by decide) ?_
    refine zs_iret (pc := 17) t41_17 mr41 (by decide) ?_
    show zGo X l 1 0 0 53 5 [(0, .ref 7), (1, .int a), (2, .int b)] [.int (0 : Int32)] M _
    refine zs_if_eqT (pc := 5) t53_5 li0 (by decide) ?_
    refine zs_iconst (pc := 24) t53_24 (v := 0) (by decide) ?_
    exact zs_iret (pc := 25) t53_25 mr53 (by decide) (hQ _ (zrg _).1 (zrg _).2)
  · refine zs_if_ltF (pc := 1) t41_1 rfl (by omega) ?_
    refine zs_iload_n (pc := 4) t41_4 rfl ?_
    refine zs_aload_n (pc := 5) t41_5 rfl ?_
    have w2 := ib7_0 hI
    refine zs_get (pc := 6) t41_6 (by decide) (zk1 (hs.k fk_zMc_7)) (zfvi rfl rfl) ?_
    by_cases w3 : (zI M 7 0).toInt ≤ a.toInt
    · refine zs_icmp_geT (pc := 9) t41_9 rfl rfl (by omega) ?_
      refine zs_iconst (pc := 16) t41_16 (v := 0) (by decide) ?_
      refine zs_iret (pc := 17) t41_17 mr41 (by decide) ?_
      show zGo X l 1 0 0 53 5 [(0, .ref 7), (1, .int a), (2, .int b)] [.int (0 : Int32)] M _
      refine zs_if_eqT (pc := 5) t53_5 li0 (by decide) ?_
      refine zs_iconst (pc := 24) t53_24 (v := 0) (by decide) ?_
      exact zs_iret (pc := 25) t53_25 mr53 (by decide) (hQ _ (zrg _).1 (zrg _).2)
    · refine zs_icmp_geF (pc := 9) t41_9 rfl rfl (by omega) ?_
      refine zs_iconst (pc := 12) t41_12 (v := 1) (by decide) ?_
      refine zs_goto (pc := 13) t41_13 ?_
      refine zs_iret (pc := 17) t41_17 mr41 (by decide) ?_
      show zGo X l 1 0 0 53 5 [(0, .ref 7), (1, .int a), (2, .int b)] [.int (1 : Int32)] M _
      refine zs_if_eqF (pc := 5) t53_5 li1 (by decide) ?_
      refine zs_iload_n (pc := 8) t53_8 rfl ?_
      refine zs_aload_n (pc := 9) t53_9 rfl ?_
      refine zs_get (pc := 10) t53_10 (by decide) (zk1 (hs.k fk_zMc_7)) (hs.p rfl fv_zMc_7_1) ?_
      refine zs_iload_n (pc := 13) t53_13 rfl ?_
      obtain ⟨w4n, w4⟩ : ∃ n : Nat, a.toInt = (n : Int) := ⟨a.toInt.toNat, by omega⟩
      have w5 := ib8 hI w4n
      refine zs_iald (pc := 14) t53_14 (j := w4n) (by decide) (zk1 (hs.k fk_zMc_8)) w4 (zk2 (hs.k fk_zMc_8) (by omega)) rfl ?_
      obtain ⟨w6v, w6⟩ : ∃ v, b * (zI M 8 w4n) = v := ⟨_, rfl⟩
      have w6g := zrg w6v
      refine zs_imul (pc := 15) t53_15 (c := w6v) w6 ?_
      refine zs_bipush (pc := 16) t53_16 (v := 100) (by decide) ?_
      refine zs_invS (pc := 18) (as := [.int w6v, .int (100 : Int32)]) (st := []) t53_18 (by decide) mf54 rfl rfl ⟨by decide, by decide, Nat.le_of_ble_eq_true rfl, Nat.le_of_ble_eq_true rfl⟩ (zs_in (by decide) mf54 (Nat.le_of_ble_eq_true rfl) ?_) (fun _ _ q => q)
      show zGo X l 0 0 0 54 0 [(0, .int w6v), (1, .int (100 : Int32))] [] M _
      refine zs_iload_n (pc := 0) t54_0 rfl ?_
      refine zs_iload_n (pc := 1) t54_1 rfl ?_
      obtain ⟨w7v, w7⟩ : ∃ v, w6v / (100 : Int32) = v := ⟨_, rfl⟩
      have w7g := zrg w7v
      refine zs_idiv (pc := 2) t54_2 (by decide) (c := w7v) w7 ?_
      refine zs_istore_n (pc := 3) t54_3 (ls' := [(2, .int w7v), (0, .int w6v), (1, .int (100 : Int32))]) (zml mf54 (by decide)) rfl ?_
      refine zs_iload_n (pc := 4) t54_4 rfl ?_
      refine zs_iload_n (pc := 5) t54_5 rfl ?_
      obtain ⟨w8v, w8⟩ : ∃ v, w6v ^^^ (100 : Int32) = v := ⟨_, rfl⟩
      have w8g := zrg w8v
      refine zs_ixor (pc := 6) t54_6 (c := w8v) w8 ?_
      by_cases w9 : 0 ≤ w8v.toInt
      · refine zs_if_geT (pc := 7) t54_7 rfl (by omega) ?_
        refine zs_iload_n (pc := 21) t54_21 rfl ?_
        refine zs_iret (pc := 22) t54_22 mr54 rfl ?_
        show zGo X l 1 0 0 53 21 [(0, .ref 7), (1, .int a), (2, .int b)] [.int w7v] M _
        refine zs_goto (pc := 21) t53_21 ?_
        exact zs_iret (pc := 25) t53_25 mr53 rfl (hQ _ (zrg _).1 (zrg _).2)
      · refine zs_if_geF (pc := 7) t54_7 rfl (by omega) ?_
        refine zs_iload_n (pc := 10) t54_10 rfl ?_
        refine zs_iload_n (pc := 11) t54_11 rfl ?_
        obtain ⟨w10v, w10⟩ : ∃ v, w7v * (100 : Int32) = v := ⟨_, rfl⟩
        have w10g := zrg w10v
        refine zs_imul (pc := 12) t54_12 (c := w10v) w10 ?_
        refine zs_iload_n (pc := 13) t54_13 rfl ?_
        by_cases w11 : w10v.toInt = w6v.toInt
        · refine zs_icmp_eqT (pc := 14) t54_14 rfl rfl (by omega) ?_
          refine zs_iload_n (pc := 21) t54_21 rfl ?_
          refine zs_iret (pc := 22) t54_22 mr54 rfl ?_
          show zGo X l 1 0 0 53 21 [(0, .ref 7), (1, .int a), (2, .int b)] [.int w7v] M _
          refine zs_goto (pc := 21) t53_21 ?_
          exact zs_iret (pc := 25) t53_25 mr53 rfl (hQ _ (zrg _).1 (zrg _).2)
        · refine zs_icmp_eqF (pc := 14) t54_14 rfl rfl (by omega) ?_
          refine zs_iload_n (pc := 17) t54_17 rfl ?_
          refine zs_iconst (pc := 18) t54_18 (v := 1) (by decide) ?_
          obtain ⟨w12v, w12⟩ : ∃ v, v = w7v - (1 : Int32) := ⟨_, rfl⟩
          have w12g := zrg w12v
          refine zs_isub (pc := 19) t54_19 (c := w12v) w12.symm ?_
          refine zs_iret (pc := 20) t54_20 mr54 rfl ?_
          show zGo X l 1 0 0 53 21 [(0, .ref 7), (1, .int a), (2, .int b)] [.int w12v] M _
          refine zs_goto (pc := 21) t53_21 ?_
          exact zs_iret (pc := 25) t53_25 mr53 rfl (hQ _ (zrg _).1 (zrg _).2)
theorem C55_7 {X : zX} {l : Launch} {M : zM} {Q : Option Value → zM → Prop} {a b : Int32} (hs : zSk zMc M) (hI : zIv cLo cHi M) (hQ : ∀ v : Int32, (-2147483648) ≤ v.toInt → v.toInt ≤ 2147483647 → Q (some (.int v)) M) : zCall X l 1 0 0 55 [.ref 7, .int a, .int b] M Q := by
  have ga := zrg a
  have gb := zrg b
  refine zs_in (by decide) mf55 (Nat.le_of_ble_eq_true rfl) ?_
  show zGo X l 1 0 0 55 0 [(0, .ref 7), (1, .int a), (2, .int b)] [] M _
  refine zs_aload_n (pc := 0) t55_0 rfl ?_
  refine zs_iload_n (pc := 1) t55_1 rfl ?_
  refine zs_invV (pc := 2) (k := 7) (as' := [.int a]) (st := []) t55_2 mf41 rfl rfl (Or.inl ⟨by decide, (zk1 (hs.k fk_zMc_7))⟩) ⟨by decide, by decide, Nat.le_of_ble_eq_true rfl, Nat.le_of_ble_eq_true rfl⟩ (zs_in (by decide) mf41 (Nat.le_of_ble_eq_true rfl) ?_) (fun _ _ q => q)
  show zGo X l 0 0 0 41 0 [(0, .ref 7), (1, .int a)] [] M _
  refine zs_iload_n (pc := 0) t41_0 rfl ?_
  by_cases w1 : a.toInt < 0
  · refine zs_if_ltT (pc := 1) t41_1 rfl (by omega) ?_
    refine zs_iconst (pc := 16) t41_16 (v := 0) (by decide) ?_
    refine zs_iret (pc := 17) t41_17 mr41 (by decide) ?_
    show zGo X l 1 0 0 55 5 [(0, .ref 7), (1, .int a), (2, .int b)] [.int (0 : Int32)] M _
    refine zs_if_eqT (pc := 5) t55_5 li0 (by decide) ?_
    refine zs_iconst (pc := 32) t55_32 (v := 0) (by decide) ?_
    exact zs_iret (pc := 33) t55_33 mr55 (by decide) (hQ _ (zrg _).1 (zrg _).2)
  · refine zs_if_ltF (pc := 1) t41_1 rfl (by omega) ?_
    refine zs_iload_n (pc := 4) t41_4 rfl ?_
    refine zs_aload_n (pc := 5) t41_5 rfl ?_
    have w2 := ib7_0 hI
    refine zs_get (pc := 6) t41_6 (by decide) (zk1 (hs.k fk_zMc_7)) (zfvi rfl rfl) ?_
    by_cases w3 : (zI M 7 0).toInt ≤ a.toInt
    · refine zs_icmp_geT (pc := 9) t41_9 rfl rfl (by omega) ?_
      refine zs_iconst (pc := 16) t41_16 (v := 0) (by decide) ?_
      refine zs_iret (pc := 17) t41_17 mr41 (by decide) ?_
      show zGo X l 1 0 0 55 5 [(0, .ref 7), (1, .int a), (2, .int b)] [.int (0 : Int32)] M _
      refine zs_if_eqT (pc := 5) t55_5 li0 (by decide) ?_
      refine zs_iconst (pc := 32) t55_32 (v := 0) (by decide) ?_
      exact zs_iret (pc := 33) t55_33 mr55 (by decide) (hQ _ (zrg _).1 (zrg _).2)
    · refine zs_icmp_geF (pc := 9) t41_9 rfl rfl (by omega) ?_
      refine zs_iconst (pc := 12) t41_12 (v := 1) (by decide) ?_
      refine zs_goto (pc := 13) t41_13 ?_
      refine zs_iret (pc := 17) t41_17 mr41 (by decide) ?_
      show zGo X l 1 0 0 55 5 [(0, .ref 7), (1, .int a), (2, .int b)] [.int (1 : Int32)] M _
      refine zs_if_eqF (pc := 5) t55_5 li1 (by decide) ?_
      refine zs_iload_n (pc := 8) t55_8 rfl ?_
      refine zs_aload_n (pc := 9) t55_9 rfl ?_
      refine zs_get (pc := 10) t55_10 (by decide) (zk1 (hs.k fk_zMc_7)) (hs.p rfl fv_zMc_7_1) ?_
      refine zs_iload_n (pc := 13) t55_13 rfl ?_
      obtain ⟨w4n, w4⟩ : ∃ n : Nat, a.toInt = (n : Int) := ⟨a.toInt.toNat, by omega⟩
      have w5 := ib8 hI w4n
      refine zs_iald (pc := 14) t55_14 (j := w4n) (by decide) (zk1 (hs.k fk_zMc_8)) w4 (zk2 (hs.k fk_zMc_8) (by omega)) rfl ?_
      obtain ⟨w6v, w6⟩ : ∃ v, b * (zI M 8 w4n) = v := ⟨_, rfl⟩
      have w6g := zrg w6v
      refine zs_imul (pc := 15) t55_15 (c := w6v) w6 ?_
      refine zs_aload_n (pc := 16) t55_16 rfl ?_
      refine zs_get (pc := 17) t55_17 (by decide) (zk1 (hs.k fk_zMc_7)) (hs.p rfl fv_zMc_7_1) ?_
      refine zs_iload_n (pc := 20) t55_20 rfl ?_
      refine zs_iald (pc := 21) t55_21 (j := w4n) (by decide) (zk1 (hs.k fk_zMc_8)) w4 (zk2 (hs.k fk_zMc_8) (by omega)) rfl ?_
      obtain ⟨w7v, w7⟩ : ∃ v, w6v * (zI M 8 w4n) = v := ⟨_, rfl⟩
      have w7g := zrg w7v
      refine zs_imul (pc := 22) t55_22 (c := w7v) w7 ?_
      refine zs_sipush (pc := 23) t55_23 (v := 10000) (by decide) ?_
      refine zs_invS (pc := 26) (as := [.int w7v, .int (10000 : Int32)]) (st := []) t55_26 (by decide) mf54 rfl rfl ⟨by decide, by decide, Nat.le_of_ble_eq_true rfl, Nat.le_of_ble_eq_true rfl⟩ (zs_in (by decide) mf54 (Nat.le_of_ble_eq_true rfl) ?_) (fun _ _ q => q)
      show zGo X l 0 0 0 54 0 [(0, .int w7v), (1, .int (10000 : Int32))] [] M _
      refine zs_iload_n (pc := 0) t54_0 rfl ?_
      refine zs_iload_n (pc := 1) t54_1 rfl ?_
      obtain ⟨w8v, w8⟩ : ∃ v, w7v / (10000 : Int32) = v := ⟨_, rfl⟩
      have w8g := zrg w8v
      refine zs_idiv (pc := 2) t54_2 (by decide) (c := w8v) w8 ?_
      refine zs_istore_n (pc := 3) t54_3 (ls' := [(2, .int w8v), (0, .int w7v), (1, .int (10000 : Int32))]) (zml mf54 (by decide)) rfl ?_
      refine zs_iload_n (pc := 4) t54_4 rfl ?_
      refine zs_iload_n (pc := 5) t54_5 rfl ?_
      obtain ⟨w9v, w9⟩ : ∃ v, w7v ^^^ (10000 : Int32) = v := ⟨_, rfl⟩
      have w9g := zrg w9v
      refine zs_ixor (pc := 6) t54_6 (c := w9v) w9 ?_
      by_cases w10 : 0 ≤ w9v.toInt
      · refine zs_if_geT (pc := 7) t54_7 rfl (by omega) ?_
        refine zs_iload_n (pc := 21) t54_21 rfl ?_
        refine zs_iret (pc := 22) t54_22 mr54 rfl ?_
        show zGo X l 1 0 0 55 29 [(0, .ref 7), (1, .int a), (2, .int b)] [.int w8v] M _
        refine zs_goto (pc := 29) t55_29 ?_
        exact zs_iret (pc := 33) t55_33 mr55 rfl (hQ _ (zrg _).1 (zrg _).2)
      · refine zs_if_geF (pc := 7) t54_7 rfl (by omega) ?_
        refine zs_iload_n (pc := 10) t54_10 rfl ?_
        refine zs_iload_n (pc := 11) t54_11 rfl ?_
        obtain ⟨w11v, w11⟩ : ∃ v, w8v * (10000 : Int32) = v := ⟨_, rfl⟩
        have w11g := zrg w11v
        refine zs_imul (pc := 12) t54_12 (c := w11v) w11 ?_
        refine zs_iload_n (pc := 13) t54_13 rfl ?_
        by_cases w12 : w11v.toInt = w7v.toInt
        · refine zs_icmp_eqT (pc := 14) t54_14 rfl rfl (by omega) ?_
          refine zs_iload_n (pc := 21) t54_21 rfl ?_
          refine zs_iret (pc := 22) t54_22 mr54 rfl ?_
          show zGo X l 1 0 0 55 29 [(0, .ref 7), (1, .int a), (2, .int b)] [.int w8v] M _
          refine zs_goto (pc := 29) t55_29 ?_
          exact zs_iret (pc := 33) t55_33 mr55 rfl (hQ _ (zrg _).1 (zrg _).2)
        · refine zs_icmp_eqF (pc := 14) t54_14 rfl rfl (by omega) ?_
          refine zs_iload_n (pc := 17) t54_17 rfl ?_
          refine zs_iconst (pc := 18) t54_18 (v := 1) (by decide) ?_
          obtain ⟨w13v, w13⟩ : ∃ v, v = w8v - (1 : Int32) := ⟨_, rfl⟩
          have w13g := zrg w13v
          refine zs_isub (pc := 19) t54_19 (c := w13v) w13.symm ?_
          refine zs_iret (pc := 20) t54_20 mr54 rfl ?_
          show zGo X l 1 0 0 55 29 [(0, .ref 7), (1, .int a), (2, .int b)] [.int w13v] M _
          refine zs_goto (pc := 29) t55_29 ?_
          exact zs_iret (pc := 33) t55_33 mr55 rfl (hQ _ (zrg _).1 (zrg _).2)
theorem C53_19 {X : zX} {l : Launch} {M : zM} {Q : Option Value → zM → Prop} {a b : Int32} (hs : zSk zMc M) (hI : zIv cLo cHi M) (hQ : ∀ v : Int32, (-2147483648) ≤ v.toInt → v.toInt ≤ 2147483647 → Q (some (.int v)) M) : zCall X l 1 0 0 53 [.ref 19, .int a, .int b] M Q := by
  have ga := zrg a
  have gb := zrg b
  refine zs_in (by decide) mf53 (Nat.le_of_ble_eq_true rfl) ?_
  show zGo X l 1 0 0 53 0 [(0, .ref 19), (1, .int a), (2, .int b)] [] M _
  refine zs_aload_n (pc := 0) t53_0 rfl ?_
  refine zs_iload_n (pc := 1) t53_1 rfl ?_
  refine zs_invV (pc := 2) (k := 19) (as' := [.int a]) (st := []) t53_2 mf41 rfl rfl (Or.inl ⟨by decide, (zk1 (hs.k fk_zMc_19))⟩) ⟨by decide, by decide, Nat.le_of_ble_eq_true rfl, Nat.le_of_ble_eq_true rfl⟩ (zs_in (by decide) mf41 (Nat.le_of_ble_eq_true rfl) ?_) (fun _ _ q => q)
  show zGo X l 0 0 0 41 0 [(0, .ref 19), (1, .int a)] [] M _
  refine zs_iload_n (pc := 0) t41_0 rfl ?_
  by_cases w1 : a.toInt < 0
  · refine zs_if_ltT (pc := 1) t41_1 rfl (by omega) ?_
    refine zs_iconst (pc := 16) t41_16 (v := 0) (by decide) ?_
    refine zs_iret (pc := 17) t41_17 mr41 (by decide) ?_
    show zGo X l 1 0 0 53 5 [(0, .ref 19), (1, .int a), (2, .int b)] [.int (0 : Int32)] M _
    refine zs_if_eqT (pc := 5) t53_5 li0 (by decide) ?_
    refine zs_iconst (pc := 24) t53_24 (v := 0) (by decide) ?_
    exact zs_iret (pc := 25) t53_25 mr53 (by decide) (hQ _ (zrg _).1 (zrg _).2)
  · refine zs_if_ltF (pc := 1) t41_1 rfl (by omega) ?_
    refine zs_iload_n (pc := 4) t41_4 rfl ?_
    refine zs_aload_n (pc := 5) t41_5 rfl ?_
    have w2 := ib19_0 hI
    refine zs_get (pc := 6) t41_6 (by decide) (zk1 (hs.k fk_zMc_19)) (zfvi rfl rfl) ?_
    by_cases w3 : (zI M 19 0).toInt ≤ a.toInt
    · refine zs_icmp_geT (pc := 9) t41_9 rfl rfl (by omega) ?_
      refine zs_iconst (pc := 16) t41_16 (v := 0) (by decide) ?_
      refine zs_iret (pc := 17) t41_17 mr41 (by decide) ?_
      show zGo X l 1 0 0 53 5 [(0, .ref 19), (1, .int a), (2, .int b)] [.int (0 : Int32)] M _
      refine zs_if_eqT (pc := 5) t53_5 li0 (by decide) ?_
      refine zs_iconst (pc := 24) t53_24 (v := 0) (by decide) ?_
      exact zs_iret (pc := 25) t53_25 mr53 (by decide) (hQ _ (zrg _).1 (zrg _).2)
    · refine zs_icmp_geF (pc := 9) t41_9 rfl rfl (by omega) ?_
      refine zs_iconst (pc := 12) t41_12 (v := 1) (by decide) ?_
      refine zs_goto (pc := 13) t41_13 ?_
      refine zs_iret (pc := 17) t41_17 mr41 (by decide) ?_
      show zGo X l 1 0 0 53 5 [(0, .ref 19), (1, .int a), (2, .int b)] [.int (1 : Int32)] M _
      refine zs_if_eqF (pc := 5) t53_5 li1 (by decide) ?_
      refine zs_iload_n (pc := 8) t53_8 rfl ?_
      refine zs_aload_n (pc := 9) t53_9 rfl ?_
      refine zs_get (pc := 10) t53_10 (by decide) (zk1 (hs.k fk_zMc_19)) (hs.p rfl fv_zMc_19_1) ?_
      refine zs_iload_n (pc := 13) t53_13 rfl ?_
      obtain ⟨w4n, w4⟩ : ∃ n : Nat, a.toInt = (n : Int) := ⟨a.toInt.toNat, by omega⟩
      have w5 := ib20 hI w4n
      refine zs_iald (pc := 14) t53_14 (j := w4n) (by decide) (zk1 (hs.k fk_zMc_20)) w4 (zk2 (hs.k fk_zMc_20) (by omega)) rfl ?_
      obtain ⟨w6v, w6⟩ : ∃ v, b * (zI M 20 w4n) = v := ⟨_, rfl⟩
      have w6g := zrg w6v
      refine zs_imul (pc := 15) t53_15 (c := w6v) w6 ?_
      refine zs_bipush (pc := 16) t53_16 (v := 100) (by decide) ?_
      refine zs_invS (pc := 18) (as := [.int w6v, .int (100 : Int32)]) (st := []) t53_18 (by decide) mf54 rfl rfl ⟨by decide, by decide, Nat.le_of_ble_eq_true rfl, Nat.le_of_ble_eq_true rfl⟩ (zs_in (by decide) mf54 (Nat.le_of_ble_eq_true rfl) ?_) (fun _ _ q => q)
      show zGo X l 0 0 0 54 0 [(0, .int w6v), (1, .int (100 : Int32))] [] M _
      refine zs_iload_n (pc := 0) t54_0 rfl ?_
      refine zs_iload_n (pc := 1) t54_1 rfl ?_
      obtain ⟨w7v, w7⟩ : ∃ v, w6v / (100 : Int32) = v := ⟨_, rfl⟩
      have w7g := zrg w7v
      refine zs_idiv (pc := 2) t54_2 (by decide) (c := w7v) w7 ?_
      refine zs_istore_n (pc := 3) t54_3 (ls' := [(2, .int w7v), (0, .int w6v), (1, .int (100 : Int32))]) (zml mf54 (by decide)) rfl ?_
      refine zs_iload_n (pc := 4) t54_4 rfl ?_
      refine zs_iload_n (pc := 5) t54_5 rfl ?_
      obtain ⟨w8v, w8⟩ : ∃ v, w6v ^^^ (100 : Int32) = v := ⟨_, rfl⟩
      have w8g := zrg w8v
      refine zs_ixor (pc := 6) t54_6 (c := w8v) w8 ?_
      by_cases w9 : 0 ≤ w8v.toInt
      · refine zs_if_geT (pc := 7) t54_7 rfl (by omega) ?_
        refine zs_iload_n (pc := 21) t54_21 rfl ?_
        refine zs_iret (pc := 22) t54_22 mr54 rfl ?_
        show zGo X l 1 0 0 53 21 [(0, .ref 19), (1, .int a), (2, .int b)] [.int w7v] M _
        refine zs_goto (pc := 21) t53_21 ?_
        exact zs_iret (pc := 25) t53_25 mr53 rfl (hQ _ (zrg _).1 (zrg _).2)
      · refine zs_if_geF (pc := 7) t54_7 rfl (by omega) ?_
        refine zs_iload_n (pc := 10) t54_10 rfl ?_
        refine zs_iload_n (pc := 11) t54_11 rfl ?_
        obtain ⟨w10v, w10⟩ : ∃ v, w7v * (100 : Int32) = v := ⟨_, rfl⟩
        have w10g := zrg w10v
        refine zs_imul (pc := 12) t54_12 (c := w10v) w10 ?_
        refine zs_iload_n (pc := 13) t54_13 rfl ?_
        by_cases w11 : w10v.toInt = w6v.toInt
        · refine zs_icmp_eqT (pc := 14) t54_14 rfl rfl (by omega) ?_
          refine zs_iload_n (pc := 21) t54_21 rfl ?_
          refine zs_iret (pc := 22) t54_22 mr54 rfl ?_
          show zGo X l 1 0 0 53 21 [(0, .ref 19), (1, .int a), (2, .int b)] [.int w7v] M _
          refine zs_goto (pc := 21) t53_21 ?_
          exact zs_iret (pc := 25) t53_25 mr53 rfl (hQ _ (zrg _).1 (zrg _).2)
        · refine zs_icmp_eqF (pc := 14) t54_14 rfl rfl (by omega) ?_
          refine zs_iload_n (pc := 17) t54_17 rfl ?_
          refine zs_iconst (pc := 18) t54_18 (v := 1) (by decide) ?_
          obtain ⟨w12v, w12⟩ : ∃ v, v = w7v - (1 : Int32) := ⟨_, rfl⟩
          have w12g := zrg w12v
          refine zs_isub (pc := 19) t54_19 (c := w12v) w12.symm ?_
          refine zs_iret (pc := 20) t54_20 mr54 rfl ?_
          show zGo X l 1 0 0 53 21 [(0, .ref 19), (1, .int a), (2, .int b)] [.int w12v] M _
          refine zs_goto (pc := 21) t53_21 ?_
          exact zs_iret (pc := 25) t53_25 mr53 rfl (hQ _ (zrg _).1 (zrg _).2)
theorem C55_19 {X : zX} {l : Launch} {M : zM} {Q : Option Value → zM → Prop} {a b : Int32} (hs : zSk zMc M) (hI : zIv cLo cHi M) (hQ : ∀ v : Int32, (-2147483648) ≤ v.toInt → v.toInt ≤ 2147483647 → Q (some (.int v)) M) : zCall X l 1 0 0 55 [.ref 19, .int a, .int b] M Q := by
  have ga := zrg a
  have gb := zrg b
  refine zs_in (by decide) mf55 (Nat.le_of_ble_eq_true rfl) ?_
  show zGo X l 1 0 0 55 0 [(0, .ref 19), (1, .int a), (2, .int b)] [] M _
  refine zs_aload_n (pc := 0) t55_0 rfl ?_
  refine zs_iload_n (pc := 1) t55_1 rfl ?_
  refine zs_invV (pc := 2) (k := 19) (as' := [.int a]) (st := []) t55_2 mf41 rfl rfl (Or.inl ⟨by decide, (zk1 (hs.k fk_zMc_19))⟩) ⟨by decide, by decide, Nat.le_of_ble_eq_true rfl, Nat.le_of_ble_eq_true rfl⟩ (zs_in (by decide) mf41 (Nat.le_of_ble_eq_true rfl) ?_) (fun _ _ q => q)
  show zGo X l 0 0 0 41 0 [(0, .ref 19), (1, .int a)] [] M _
  refine zs_iload_n (pc := 0) t41_0 rfl ?_
  by_cases w1 : a.toInt < 0
  · refine zs_if_ltT (pc := 1) t41_1 rfl (by omega) ?_
    refine zs_iconst (pc := 16) t41_16 (v := 0) (by decide) ?_
    refine zs_iret (pc := 17) t41_17 mr41 (by decide) ?_
    show zGo X l 1 0 0 55 5 [(0, .ref 19), (1, .int a), (2, .int b)] [.int (0 : Int32)] M _
    refine zs_if_eqT (pc := 5) t55_5 li0 (by decide) ?_
    refine zs_iconst (pc := 32) t55_32 (v := 0) (by decide) ?_
    exact zs_iret (pc := 33) t55_33 mr55 (by decide) (hQ _ (zrg _).1 (zrg _).2)
  · refine zs_if_ltF (pc := 1) t41_1 rfl (by omega) ?_
    refine zs_iload_n (pc := 4) t41_4 rfl ?_
    refine zs_aload_n (pc := 5) t41_5 rfl ?_
    have w2 := ib19_0 hI
    refine zs_get (pc := 6) t41_6 (by decide) (zk1 (hs.k fk_zMc_19)) (zfvi rfl rfl) ?_
    by_cases w3 : (zI M 19 0).toInt ≤ a.toInt
    · refine zs_icmp_geT (pc := 9) t41_9 rfl rfl (by omega) ?_
      refine zs_iconst (pc := 16) t41_16 (v := 0) (by decide) ?_
      refine zs_iret (pc := 17) t41_17 mr41 (by decide) ?_
      show zGo X l 1 0 0 55 5 [(0, .ref 19), (1, .int a), (2, .int b)] [.int (0 : Int32)] M _
      refine zs_if_eqT (pc := 5) t55_5 li0 (by decide) ?_
      refine zs_iconst (pc := 32) t55_32 (v := 0) (by decide) ?_
      exact zs_iret (pc := 33) t55_33 mr55 (by decide) (hQ _ (zrg _).1 (zrg _).2)
    · refine zs_icmp_geF (pc := 9) t41_9 rfl rfl (by omega) ?_
      refine zs_iconst (pc := 12) t41_12 (v := 1) (by decide) ?_
      refine zs_goto (pc := 13) t41_13 ?_
      refine zs_iret (pc := 17) t41_17 mr41 (by decide) ?_
      show zGo X l 1 0 0 55 5 [(0, .ref 19), (1, .int a), (2, .int b)] [.int (1 : Int32)] M _
      refine zs_if_eqF (pc := 5) t55_5 li1 (by decide) ?_
      refine zs_iload_n (pc := 8) t55_8 rfl ?_
      refine zs_aload_n (pc := 9) t55_9 rfl ?_
      refine zs_get (pc := 10) t55_10 (by decide) (zk1 (hs.k fk_zMc_19)) (hs.p rfl fv_zMc_19_1) ?_
      refine zs_iload_n (pc := 13) t55_13 rfl ?_
      obtain ⟨w4n, w4⟩ : ∃ n : Nat, a.toInt = (n : Int) := ⟨a.toInt.toNat, by omega⟩
      have w5 := ib20 hI w4n
      refine zs_iald (pc := 14) t55_14 (j := w4n) (by decide) (zk1 (hs.k fk_zMc_20)) w4 (zk2 (hs.k fk_zMc_20) (by omega)) rfl ?_
      obtain ⟨w6v, w6⟩ : ∃ v, b * (zI M 20 w4n) = v := ⟨_, rfl⟩
      have w6g := zrg w6v
      refine zs_imul (pc := 15) t55_15 (c := w6v) w6 ?_
      refine zs_aload_n (pc := 16) t55_16 rfl ?_
      refine zs_get (pc := 17) t55_17 (by decide) (zk1 (hs.k fk_zMc_19)) (hs.p rfl fv_zMc_19_1) ?_
      refine zs_iload_n (pc := 20) t55_20 rfl ?_
      refine zs_iald (pc := 21) t55_21 (j := w4n) (by decide) (zk1 (hs.k fk_zMc_20)) w4 (zk2 (hs.k fk_zMc_20) (by omega)) rfl ?_
      obtain ⟨w7v, w7⟩ : ∃ v, w6v * (zI M 20 w4n) = v := ⟨_, rfl⟩
      have w7g := zrg w7v
      refine zs_imul (pc := 22) t55_22 (c := w7v) w7 ?_
      refine zs_sipush (pc := 23) t55_23 (v := 10000) (by decide) ?_
      refine zs_invS (pc := 26) (as := [.int w7v, .int (10000 : Int32)]) (st := []) t55_26 (by decide) mf54 rfl rfl ⟨by decide, by decide, Nat.le_of_ble_eq_true rfl, Nat.le_of_ble_eq_true rfl⟩ (zs_in (by decide) mf54 (Nat.le_of_ble_eq_true rfl) ?_) (fun _ _ q => q)
      show zGo X l 0 0 0 54 0 [(0, .int w7v), (1, .int (10000 : Int32))] [] M _
      refine zs_iload_n (pc := 0) t54_0 rfl ?_
      refine zs_iload_n (pc := 1) t54_1 rfl ?_
      obtain ⟨w8v, w8⟩ : ∃ v, w7v / (10000 : Int32) = v := ⟨_, rfl⟩
      have w8g := zrg w8v
      refine zs_idiv (pc := 2) t54_2 (by decide) (c := w8v) w8 ?_
      refine zs_istore_n (pc := 3) t54_3 (ls' := [(2, .int w8v), (0, .int w7v), (1, .int (10000 : Int32))]) (zml mf54 (by decide)) rfl ?_
      refine zs_iload_n (pc := 4) t54_4 rfl ?_
      refine zs_iload_n (pc := 5) t54_5 rfl ?_
      obtain ⟨w9v, w9⟩ : ∃ v, w7v ^^^ (10000 : Int32) = v := ⟨_, rfl⟩
      have w9g := zrg w9v
      refine zs_ixor (pc := 6) t54_6 (c := w9v) w9 ?_
      by_cases w10 : 0 ≤ w9v.toInt
      · refine zs_if_geT (pc := 7) t54_7 rfl (by omega) ?_
        refine zs_iload_n (pc := 21) t54_21 rfl ?_
        refine zs_iret (pc := 22) t54_22 mr54 rfl ?_
        show zGo X l 1 0 0 55 29 [(0, .ref 19), (1, .int a), (2, .int b)] [.int w8v] M _
        refine zs_goto (pc := 29) t55_29 ?_
        exact zs_iret (pc := 33) t55_33 mr55 rfl (hQ _ (zrg _).1 (zrg _).2)
      · refine zs_if_geF (pc := 7) t54_7 rfl (by omega) ?_
        refine zs_iload_n (pc := 10) t54_10 rfl ?_
        refine zs_iload_n (pc := 11) t54_11 rfl ?_
        obtain ⟨w11v, w11⟩ : ∃ v, w8v * (10000 : Int32) = v := ⟨_, rfl⟩
        have w11g := zrg w11v
        refine zs_imul (pc := 12) t54_12 (c := w11v) w11 ?_
        refine zs_iload_n (pc := 13) t54_13 rfl ?_
        by_cases w12 : w11v.toInt = w7v.toInt
        · refine zs_icmp_eqT (pc := 14) t54_14 rfl rfl (by omega) ?_
          refine zs_iload_n (pc := 21) t54_21 rfl ?_
          refine zs_iret (pc := 22) t54_22 mr54 rfl ?_
          show zGo X l 1 0 0 55 29 [(0, .ref 19), (1, .int a), (2, .int b)] [.int w8v] M _
          refine zs_goto (pc := 29) t55_29 ?_
          exact zs_iret (pc := 33) t55_33 mr55 rfl (hQ _ (zrg _).1 (zrg _).2)
        · refine zs_icmp_eqF (pc := 14) t54_14 rfl rfl (by omega) ?_
          refine zs_iload_n (pc := 17) t54_17 rfl ?_
          refine zs_iconst (pc := 18) t54_18 (v := 1) (by decide) ?_
          obtain ⟨w13v, w13⟩ : ∃ v, v = w8v - (1 : Int32) := ⟨_, rfl⟩
          have w13g := zrg w13v
          refine zs_isub (pc := 19) t54_19 (c := w13v) w13.symm ?_
          refine zs_iret (pc := 20) t54_20 mr54 rfl ?_
          show zGo X l 1 0 0 55 29 [(0, .ref 19), (1, .int a), (2, .int b)] [.int w13v] M _
          refine zs_goto (pc := 29) t55_29 ?_
          exact zs_iret (pc := 33) t55_33 mr55 rfl (hQ _ (zrg _).1 (zrg _).2)
theorem C49_19 {X : zX} {l : Launch} {M : zM} {Q : Option Value → zM → Prop} {a : Int32} (hs : zSk zMc M) (hI : zIv cLo cHi M) (hQ : ∀ (M' : zM) (v : Int32), zSk zMc M' → zIv cLo cHi M' → zFr [(19, 30, none)] M M' → 0 ≤ v.toInt → v.toInt ≤ 1 → Q (some (.int v)) M') : zCall X l 0 0 0 49 [.ref 19, .int a] M Q := by
  have ga := zrg a
  refine zs_in (by decide) mf49 (Nat.le_of_ble_eq_true rfl) ?_
  show zGo X l 0 0 0 49 0 [(0, .ref 19), (1, .int a)] [] M _
  refine zs_aload_n (pc := 0) t49_0 rfl ?_
  have w1 := ib19_0 hI
  refine zs_get (pc := 1) t49_1 (by decide) (zk1 (hs.k fk_zMc_19)) (zfvi rfl rfl) ?_
  refine zs_bipush (pc := 4) t49_4 (v := 8) (by decide) ?_
  by_cases w2 : (zI M 19 0).toInt < 8
  · refine zs_icmp_ltT (pc := 6) t49_6 rfl li8 (by omega) ?_
    refine zs_aload_n (pc := 11) t49_11 rfl ?_
    refine zs_get (pc := 12) t49_12 (by decide) (zk1 (hs.k fk_zMc_19)) (hs.p rfl fv_zMc_19_1) ?_
    refine zs_aload_n (pc := 15) t49_15 rfl ?_
    refine zs_get (pc := 16) t49_16 (by decide) (zk1 (hs.k fk_zMc_19)) (zfvi rfl rfl) ?_
    refine zs_iload_n (pc := 19) t49_19 rfl ?_
    obtain ⟨w3n, w3⟩ : ∃ n : Nat, (zI M 19 0).toInt = (n : Int) := ⟨(zI M 19 0).toInt.toNat, by omega⟩
    have w4 : zIv cLo cHi (zsI M 20 w3n a) := zIv.put hI (show (-2147483648) ≤ a.toInt ∧ a.toInt ≤ 2147483647 from (zrg a))
    refine zs_iast (pc := 20) t49_20 (j := w3n) (by decide) (zk1 (hs.k fk_zMc_20)) w3 (zk2 (hs.k fk_zMc_20) (by omega)) ?_
    refine zs_aload_n (pc := 21) t49_21 rfl ?_
    refine zs_get (pc := 22) t49_22 (by decide) (zk1 (hs.k fk_zMc_19)) (hs.p rfl fv_zMc_19_2) ?_
    refine zs_aload_n (pc := 25) t49_25 rfl ?_
    refine zs_get (pc := 26) t49_26 (by decide) (zk1 (hs.k fk_zMc_19)) (zfvi rfl ((zIo (by decide)).trans rfl)) ?_
    refine zs_iconst (pc := 29) t49_29 (v := 1) (by decide) ?_
    have w5e : vp_nar .boolean (1 : Int32) = (1 : Int32) := by decide
    have w6 : zIv cLo cHi (zsI (zsI M 20 w3n a) 21 w3n (1 : Int32)) := zIv.put w4 (show 0 ≤ (1 : Int32).toInt ∧ (1 : Int32).toInt ≤ 1 from ⟨by decide, by decide⟩)
    refine zs_bastZ (pc := 30) t49_30 (j := w3n) (by decide) (zk1 (hs.k fk_zMc_21)) w3 (zk2 (hs.k fk_zMc_21) (by omega)) w5e ?_
    refine zs_aload_n (pc := 31) t49_31 rfl ?_
    refine zs_dup (pc := 32) t49_32 rfl ?_
    refine zs_get (pc := 33) t49_33 (by decide) (zk1 (hs.k fk_zMc_19)) (zfvi rfl ((zIo (by decide)).trans ((zIo (by decide)).trans rfl))) ?_
    refine zs_iconst (pc := 36) t49_36 (v := 1) (by decide) ?_
    obtain ⟨w7v, w7e, w7⟩ := ziadd (a := (zI M 19 0)) (b := (1 : Int32)) rfl li1 (by omega) (by omega)
    refine zs_iadd (pc := 37) t49_37 (c := w7v) w7e ?_
    have w8 : zIv cLo cHi (zsI (zsI (zsI M 20 w3n a) 21 w3n (1 : Int32)) 19 0 w7v) := zIv.put w6 (show 0 ≤ w7v.toInt ∧ w7v.toInt ≤ 8 from ⟨by omega, by omega⟩)
    refine zs_putI (pc := 38) t49_38 (zk1 (hs.k fk_zMc_19)) rfl ?_
    refine zs_iconst (pc := 41) t49_41 (v := 1) (by decide) ?_
    exact zs_iret (pc := 42) t49_42 mr49 (by decide) (hQ _ _ hs w8 ((((zFr.refl).put rfl).put rfl).put rfl) (by decide) (by decide))
  · refine zs_icmp_ltF (pc := 6) t49_6 rfl li8 (by omega) ?_
    refine zs_iconst (pc := 9) t49_9 (v := 0) (by decide) ?_
    exact zs_iret (pc := 10) t49_10 mr49 (by decide) (hQ _ _ hs hI (zFr.refl) (by decide) (by decide))
theorem C50_19 {X : zX} {l : Launch} {M : zM} {Q : Option Value → zM → Prop} {a b c d : Int32} (hs : zSk zMc M) (hI : zIv cLo cHi M) (hQ : ∀ (M' : zM) (v : Int32), zSk zMc M' → zIv cLo cHi M' → zFr [(19, 30, none)] M M' → (-2147483648) ≤ v.toInt → v.toInt ≤ 2147483647 → Q (some (.int v)) M') : zCall X l 2 0 0 50 [.ref 19, .int a, .int b, .int c, .int d] M Q := by
  have ga := zrg a
  have gb := zrg b
  have gc := zrg c
  have gd := zrg d
  refine zs_in (by decide) mf50 (Nat.le_of_ble_eq_true rfl) ?_
  show zGo X l 2 0 0 50 0 [(0, .ref 19), (1, .int a), (2, .int b), (3, .int c), (4, .int d)] [] M _
  refine zs_aload_n (pc := 0) t50_0 rfl ?_
  refine zs_iload_n (pc := 1) t50_1 rfl ?_
  refine zs_iload_n (pc := 2) t50_2 rfl ?_
  refine zs_iload_n (pc := 3) t50_3 rfl ?_
  refine zs_invV (pc := 4) (k := 19) (as' := [.int a, .int b, .int c]) (st := []) t50_4 mf51 rfl rfl (Or.inl ⟨by decide, (zk1 (hs.k fk_zMc_19))⟩) ⟨by decide, by decide, Nat.le_of_ble_eq_true rfl, Nat.le_of_ble_eq_true rfl⟩ (zs_in (by decide) mf51 (Nat.le_of_ble_eq_true rfl) ?_) (fun _ _ q => q)
  show zGo X l 1 0 0 51 0 [(0, .ref 19), (1, .int a), (2, .int b), (3, .int c)] [] M _
  refine zs_aload_n (pc := 0) t51_0 rfl ?_
  refine zs_iload_n (pc := 1) t51_1 rfl ?_
  refine zs_invV (pc := 2) (k := 19) (as' := [.int a]) (st := []) t51_2 mf41 rfl rfl (Or.inl ⟨by decide, (zk1 (hs.k fk_zMc_19))⟩) ⟨by decide, by decide, Nat.le_of_ble_eq_true rfl, Nat.le_of_ble_eq_true rfl⟩ (zs_in (by decide) mf41 (Nat.le_of_ble_eq_true rfl) ?_) (fun _ _ q => q)
  show zGo X l 0 0 0 41 0 [(0, .ref 19), (1, .int a)] [] M _
  refine zs_iload_n (pc := 0) t41_0 rfl ?_
  by_cases w1 : a.toInt < 0
  · refine zs_if_ltT (pc := 1) t41_1 rfl (by omega) ?_
    refine zs_iconst (pc := 16) t41_16 (v := 0) (by decide) ?_
    refine zs_iret (pc := 17) t41_17 mr41 (by decide) ?_
    show zGo X l 1 0 0 51 5 [(0, .ref 19), (1, .int a), (2, .int b), (3, .int c)] [.int (0 : Int32)] M _
    refine zs_if_eqT (pc := 5) t51_5 li0 (by decide) ?_
    refine zs_iconst (pc := 39) t51_39 (v := 0) (by decide) ?_
    refine zs_iret (pc := 40) t51_40 mr51 (by decide) ?_
    show zGo X l 2 0 0 50 7 [(0, .ref 19), (1, .int a), (2, .int b), (3, .int c), (4, .int d)] [.int (0 : Int32)] M _
    refine zs_if_neF (pc := 7) t50_7 li0 (by decide) ?_
    refine zs_iconst (pc := 10) t50_10 (v := -1) (by decide) ?_
    exact zs_iret (pc := 11) t50_11 mr50 (by decide) (hQ _ _ hs hI (zFr.refl) (zrg _).1 (zrg _).2)
  · refine zs_if_ltF (pc := 1) t41_1 rfl (by omega) ?_
    refine zs_iload_n (pc := 4) t41_4 rfl ?_
    refine zs_aload_n (pc := 5) t41_5 rfl ?_
    have w2 := ib19_0 hI
    refine zs_get (pc := 6) t41_6 (by decide) (zk1 (hs.k fk_zMc_19)) (zfvi rfl rfl) ?_
    by_cases w3 : (zI M 19 0).toInt ≤ a.toInt
    · refine zs_icmp_geT (pc := 9) t41_9 rfl rfl (by omega) ?_
      refine zs_iconst (pc := 16) t41_16 (v := 0) (by decide) ?_
      refine zs_iret (pc := 17) t41_17 mr41 (by decide) ?_
      show zGo X l 1 0 0 51 5 [(0, .ref 19), (1, .int a), (2, .int b), (3, .int c)] [.int (0 : Int32)] M _
      refine zs_if_eqT (pc := 5) t51_5 li0 (by decide) ?_
      refine zs_iconst (pc := 39) t51_39 (v := 0) (by decide) ?_
      refine zs_iret (pc := 40) t51_40 mr51 (by decide) ?_
      show zGo X l 2 0 0 50 7 [(0, .ref 19), (1, .int a), (2, .int b), (3, .int c), (4, .int d)] [.int (0 : Int32)] M _
      refine zs_if_neF (pc := 7) t50_7 li0 (by decide) ?_
      refine zs_iconst (pc := 10) t50_10 (v := -1) (by decide) ?_
      exact zs_iret (pc := 11) t50_11 mr50 (by decide) (hQ _ _ hs hI (zFr.refl) (zrg _).1 (zrg _).2)
    · refine zs_icmp_geF (pc := 9) t41_9 rfl rfl (by omega) ?_
      refine zs_iconst (pc := 12) t41_12 (v := 1) (by decide) ?_
      refine zs_goto (pc := 13) t41_13 ?_
      refine zs_iret (pc := 17) t41_17 mr41 (by decide) ?_
      show zGo X l 1 0 0 51 5 [(0, .ref 19), (1, .int a), (2, .int b), (3, .int c)] [.int (1 : Int32)] M _
      refine zs_if_eqF (pc := 5) t51_5 li1 (by decide) ?_
      refine zs_iload_n (pc := 8) t51_8 rfl ?_
      refine zs_invS (pc := 9) (as := [.int b]) (st := []) t51_9 (by decide) mf42 rfl rfl ⟨by decide, by decide, Nat.le_of_ble_eq_true rfl, Nat.le_of_ble_eq_true rfl⟩ (zs_in (by decide) mf42 (Nat.le_of_ble_eq_true rfl) ?_) (fun _ _ q => q)
      show zGo X l 0 0 0 42 0 [(0, .int b)] [] M _
      refine zs_iload_n (pc := 0) t42_0 rfl ?_
      refine zs_sipush (pc := 1) t42_1 (v := -9999) (by decide) ?_
      by_cases w4 : b.toInt < (-9999)
      · refine zs_icmp_ltT (pc := 4) t42_4 rfl lin9999 (by omega) ?_
        refine zs_iconst (pc := 18) t42_18 (v := 0) (by decide) ?_
        refine zs_iret (pc := 19) t42_19 mr42 (by decide) ?_
        show zGo X l 1 0 0 51 12 [(0, .ref 19), (1, .int a), (2, .int b), (3, .int c)] [.int (0 : Int32)] M _
        refine zs_if_eqT (pc := 12) t51_12 li0 (by decide) ?_
        refine zs_iconst (pc := 39) t51_39 (v := 0) (by decide) ?_
        refine zs_iret (pc := 40) t51_40 mr51 (by decide) ?_
        show zGo X l 2 0 0 50 7 [(0, .ref 19), (1, .int a), (2, .int b), (3, .int c), (4, .int d)] [.int (0 : Int32)] M _
        refine zs_if_neF (pc := 7) t50_7 li0 (by decide) ?_
        refine zs_iconst (pc := 10) t50_10 (v := -1) (by decide) ?_
        exact zs_iret (pc := 11) t50_11 mr50 (by decide) (hQ _ _ hs hI (zFr.refl) (zrg _).1 (zrg _).2)
      · refine zs_icmp_ltF (pc := 4) t42_4 rfl lin9999 (by omega) ?_
        refine zs_iload_n (pc := 7) t42_7 rfl ?_
        refine zs_sipush (pc := 8) t42_8 (v := 9999) (by decide) ?_
        by_cases w5 : 9999 < b.toInt
        · refine zs_icmp_gtT (pc := 11) t42_11 rfl li9999 (by omega) ?_
          refine zs_iconst (pc := 18) t42_18 (v := 0) (by decide) ?_
          refine zs_iret (pc := 19) t42_19 mr42 (by decide) ?_
          show zGo X l 1 0 0 51 12 [(0, .ref 19), (1, .int a), (2, .int b), (3, .int c)] [.int (0 : Int32)] M _
          refine zs_if_eqT (pc := 12) t51_12 li0 (by decide) ?_
          refine zs_iconst (pc := 39) t51_39 (v := 0) (by decide) ?_
          refine zs_iret (pc := 40) t51_40 mr51 (by decide) ?_
          show zGo X l 2 0 0 50 7 [(0, .ref 19), (1, .int a), (2, .int b), (3, .int c), (4, .int d)] [.int (0 : Int32)] M _
          refine zs_if_neF (pc := 7) t50_7 li0 (by decide) ?_
          refine zs_iconst (pc := 10) t50_10 (v := -1) (by decide) ?_
          exact zs_iret (pc := 11) t50_11 mr50 (by decide) (hQ _ _ hs hI (zFr.refl) (zrg _).1 (zrg _).2)
        · refine zs_icmp_gtF (pc := 11) t42_11 rfl li9999 (by omega) ?_
          refine zs_iconst (pc := 14) t42_14 (v := 1) (by decide) ?_
          refine zs_goto (pc := 15) t42_15 ?_
          refine zs_iret (pc := 19) t42_19 mr42 (by decide) ?_
          show zGo X l 1 0 0 51 12 [(0, .ref 19), (1, .int a), (2, .int b), (3, .int c)] [.int (1 : Int32)] M _
          refine zs_if_eqF (pc := 12) t51_12 li1 (by decide) ?_
          refine zs_iload_n (pc := 15) t51_15 rfl ?_
          refine zs_iconst (pc := 16) t51_16 (v := 0) (by decide) ?_
          refine zs_sipush (pc := 17) t51_17 (v := 999) (by decide) ?_
          refine zs_invS (pc := 20) (as := [.int c, .int (0 : Int32), .int (999 : Int32)]) (st := []) t51_20 (by decide) mf39 rfl rfl ⟨by decide, by decide, Nat.le_of_ble_eq_true rfl, Nat.le_of_ble_eq_true rfl⟩ (zs_in (by decide) mf39 (Nat.le_of_ble_eq_true rfl) ?_) (fun _ _ q => q)
          show zGo X l 0 0 0 39 0 [(0, .int c), (1, .int (0 : Int32)), (2, .int (999 : Int32))] [] M _
          refine zs_iload_n (pc := 0) t39_0 rfl ?_
          refine zs_iload_n (pc := 1) t39_1 rfl ?_
          by_cases w6 : c.toInt < 0
          · refine zs_icmp_ltT (pc := 2) t39_2 rfl li0 (by omega) ?_
            refine zs_iconst (pc := 14) t39_14 (v := 0) (by decide) ?_
            refine zs_iret (pc := 15) t39_15 mr39 (by decide) ?_
            show zGo X l 1 0 0 51 23 [(0, .ref 19), (1, .int a), (2, .int b), (3, .int c)] [.int (0 : Int32)] M _
            refine zs_if_eqT (pc := 23) t51_23 li0 (by decide) ?_
            refine zs_iconst (pc := 39) t51_39 (v := 0) (by decide) ?_
            refine zs_iret (pc := 40) t51_40 mr51 (by decide) ?_
            show zGo X l 2 0 0 50 7 [(0, .ref 19), (1, .int a), (2, .int b), (3, .int c), (4, .int d)] [.int (0 : Int32)] M _
            refine zs_if_neF (pc := 7) t50_7 li0 (by decide) ?_
            refine zs_iconst (pc := 10) t50_10 (v := -1) (by decide) ?_
            exact zs_iret (pc := 11) t50_11 mr50 (by decide) (hQ _ _ hs hI (zFr.refl) (zrg _).1 (zrg _).2)
          · refine zs_icmp_ltF (pc := 2) t39_2 rfl li0 (by omega) ?_
            refine zs_iload_n (pc := 5) t39_5 rfl ?_
            refine zs_iload_n (pc := 6) t39_6 rfl ?_
            by_cases w7 : 999 < c.toInt
            · refine zs_icmp_gtT (pc := 7) t39_7 rfl li999 (by omega) ?_
              refine zs_iconst (pc := 14) t39_14 (v := 0) (by decide) ?_
              refine zs_iret (pc := 15) t39_15 mr39 (by decide) ?_
              show zGo X l 1 0 0 51 23 [(0, .ref 19), (1, .int a), (2, .int b), (3, .int c)] [.int (0 : Int32)] M _
              refine zs_if_eqT (pc := 23) t51_23 li0 (by decide) ?_
              refine zs_iconst (pc := 39) t51_39 (v := 0) (by decide) ?_
              refine zs_iret (pc := 40) t51_40 mr51 (by decide) ?_
              show zGo X l 2 0 0 50 7 [(0, .ref 19), (1, .int a), (2, .int b), (3, .int c), (4, .int d)] [.int (0 : Int32)] M _
              refine zs_if_neF (pc := 7) t50_7 li0 (by decide) ?_
              refine zs_iconst (pc := 10) t50_10 (v := -1) (by decide) ?_
              exact zs_iret (pc := 11) t50_11 mr50 (by decide) (hQ _ _ hs hI (zFr.refl) (zrg _).1 (zrg _).2)
            · refine zs_icmp_gtF (pc := 7) t39_7 rfl li999 (by omega) ?_
              refine zs_iconst (pc := 10) t39_10 (v := 1) (by decide) ?_
              refine zs_goto (pc := 11) t39_11 ?_
              refine zs_iret (pc := 15) t39_15 mr39 (by decide) ?_
              show zGo X l 1 0 0 51 23 [(0, .ref 19), (1, .int a), (2, .int b), (3, .int c)] [.int (1 : Int32)] M _
              refine zs_if_eqF (pc := 23) t51_23 li1 (by decide) ?_
              refine zs_aload_n (pc := 26) t51_26 rfl ?_
              have w8 := ib19_3 hI
              refine zs_get (pc := 27) t51_27 (by decide) (zk1 (hs.k fk_zMc_19)) (zfvi rfl rfl) ?_
              refine zs_bipush (pc := 30) t51_30 (v := 60) (by decide) ?_
              by_cases w9 : 60 ≤ (zI M 19 3).toInt
              · refine zs_icmp_geT (pc := 32) t51_32 rfl li60 (by omega) ?_
                refine zs_iconst (pc := 39) t51_39 (v := 0) (by decide) ?_
                refine zs_iret (pc := 40) t51_40 mr51 (by decide) ?_
                show zGo X l 2 0 0 50 7 [(0, .ref 19), (1, .int a), (2, .int b), (3, .int c), (4, .int d)] [.int (0 : Int32)] M _
                refine zs_if_neF (pc := 7) t50_7 li0 (by decide) ?_
                refine zs_iconst (pc := 10) t50_10 (v := -1) (by decide) ?_
                exact zs_iret (pc := 11) t50_11 mr50 (by decide) (hQ _ _ hs hI (zFr.refl) (zrg _).1 (zrg _).2)
              · refine zs_icmp_geF (pc := 32) t51_32 rfl li60 (by omega) ?_
                refine zs_iconst (pc := 35) t51_35 (v := 1) (by decide) ?_
                refine zs_goto (pc := 36) t51_36 ?_
                refine zs_iret (pc := 40) t51_40 mr51 (by decide) ?_
                show zGo X l 2 0 0 50 7 [(0, .ref 19), (1, .int a), (2, .int b), (3, .int c), (4, .int d)] [.int (1 : Int32)] M _
                refine zs_if_neT (pc := 7) t50_7 li1 (by decide) ?_
                refine zs_aload_n (pc := 12) t50_12 rfl ?_
                refine zs_get (pc := 13) t50_13 (by decide) (zk1 (hs.k fk_zMc_19)) (hs.p rfl fv_zMc_19_4) ?_
                refine zs_aload_n (pc := 16) t50_16 rfl ?_
                refine zs_get (pc := 17) t50_17 (by decide) (zk1 (hs.k fk_zMc_19)) (zfvi rfl rfl) ?_
                refine zs_iload_n (pc := 20) t50_20 rfl ?_
                obtain ⟨w10n, w10⟩ : ∃ n : Nat, (zI M 19 3).toInt = (n : Int) := ⟨(zI M 19 3).toInt.toNat, by omega⟩
                have w11 : zIv cLo cHi (zsI M 22 w10n a) := zIv.put hI (show 0 ≤ a.toInt ∧ a.toInt ≤ 7 from ⟨by omega, by omega⟩)
                refine zs_iast (pc := 21) t50_21 (j := w10n) (by decide) (zk1 (hs.k fk_zMc_22)) w10 (zk2 (hs.k fk_zMc_22) (by omega)) ?_
                refine zs_aload_n (pc := 22) t50_22 rfl ?_
                refine zs_get (pc := 23) t50_23 (by decide) (zk1 (hs.k fk_zMc_19)) (hs.p rfl fv_zMc_19_5) ?_
                refine zs_aload_n (pc := 26) t50_26 rfl ?_
                refine zs_get (pc := 27) t50_27 (by decide) (zk1 (hs.k fk_zMc_19)) (zfvi rfl ((zIo (by decide)).trans rfl)) ?_
                refine zs_iload_n (pc := 30) t50_30 rfl ?_
                have w12 : zIv cLo cHi (zsI (zsI M 22 w10n a) 23 w10n b) := zIv.put w11 (show (-2147483648) ≤ b.toInt ∧ b.toInt ≤ 2147483647 from (zrg b))
                refine zs_iast (pc := 31) t50_31 (j := w10n) (by decide) (zk1 (hs.k fk_zMc_23)) w10 (zk2 (hs.k fk_zMc_23) (by omega)) ?_
                refine zs_aload_n (pc := 32) t50_32 rfl ?_
                refine zs_get (pc := 33) t50_33 (by decide) (zk1 (hs.k fk_zMc_19)) (hs.p rfl fv_zMc_19_6) ?_
                refine zs_aload_n (pc := 36) t50_36 rfl ?_
                refine zs_get (pc := 37) t50_37 (by decide) (zk1 (hs.k fk_zMc_19)) (zfvi rfl ((zIo (by decide)).trans ((zIo (by decide)).trans rfl))) ?_
                refine zs_iload_n (pc := 40) t50_40 rfl ?_
                have w13 : zIv cLo cHi (zsI (zsI (zsI M 22 w10n a) 23 w10n b) 24 w10n c) := zIv.put w12 (show (-2147483648) ≤ c.toInt ∧ c.toInt ≤ 2147483647 from (zrg c))
                refine zs_iast (pc := 41) t50_41 (j := w10n) (by decide) (zk1 (hs.k fk_zMc_24)) w10 (zk2 (hs.k fk_zMc_24) (by omega)) ?_
                refine zs_aload_n (pc := 42) t50_42 rfl ?_
                refine zs_get (pc := 43) t50_43 (by decide) (zk1 (hs.k fk_zMc_19)) (hs.p rfl fv_zMc_19_7) ?_
                refine zs_aload_n (pc := 46) t50_46 rfl ?_
                refine zs_get (pc := 47) t50_47 (by decide) (zk1 (hs.k fk_zMc_19)) (zfvi rfl ((zIo (by decide)).trans ((zIo (by decide)).trans ((zIo (by decide)).trans rfl)))) ?_
                refine zs_iload (pc := 50) t50_50 rfl ?_
                have w14 : zIv cLo cHi (zsI (zsI (zsI (zsI M 22 w10n a) 23 w10n b) 24 w10n c) 25 w10n d) := zIv.put w13 (show (-2147483648) ≤ d.toInt ∧ d.toInt ≤ 2147483647 from (zrg d))
                refine zs_iast (pc := 52) t50_52 (j := w10n) (by decide) (zk1 (hs.k fk_zMc_25)) w10 (zk2 (hs.k fk_zMc_25) (by omega)) ?_
                refine zs_aload_n (pc := 53) t50_53 rfl ?_
                refine zs_dup (pc := 54) t50_54 rfl ?_
                refine zs_get (pc := 55) t50_55 (by decide) (zk1 (hs.k fk_zMc_19)) (zfvi rfl ((zIo (by decide)).trans ((zIo (by decide)).trans ((zIo (by decide)).trans ((zIo (by decide)).trans rfl))))) ?_
                refine zs_iconst (pc := 58) t50_58 (v := 1) (by decide) ?_
                obtain ⟨w15v, w15e, w15⟩ := ziadd (a := (zI M 19 3)) (b := (1 : Int32)) rfl li1 (by omega) (by omega)
                refine zs_iadd (pc := 59) t50_59 (c := w15v) w15e ?_
                have w16 : zIv cLo cHi (zsI (zsI (zsI (zsI (zsI M 22 w10n a) 23 w10n b) 24 w10n c) 25 w10n d) 19 3 w15v) := zIv.put w14 (show 0 ≤ w15v.toInt ∧ w15v.toInt ≤ 60 from ⟨by omega, by omega⟩)
                refine zs_putI (pc := 60) t50_60 (zk1 (hs.k fk_zMc_19)) rfl ?_
                refine zs_aload_n (pc := 63) t50_63 rfl ?_
                refine zs_get (pc := 64) t50_64 (by decide) (zk1 (hs.k fk_zMc_19)) (zfvi rfl zIs) ?_
                refine zs_iconst (pc := 67) t50_67 (v := 1) (by decide) ?_
                obtain ⟨w17v, w17e, w17⟩ := zisub (a := w15v) (b := (1 : Int32)) w15 li1 (by omega) (by omega)
                refine zs_isub (pc := 68) t50_68 (c := w17v) w17e ?_
                exact zs_iret (pc := 69) t50_69 mr50 rfl (hQ _ _ hs w16 ((((((zFr.refl).put rfl).put rfl).put rfl).put rfl).put rfl) (zrg _).1 (zrg _).2)
