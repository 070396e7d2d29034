def zPr (X : zX) (l : Launch) (hc yc hm ym : Nat) (as : List Value) (v : Value) : Prop := zCall X l hc 0 0 yc (.ref 6 :: as) zMe (fun r M => r = some v ∧ zK M 336 = (12, 0) ∧ zCall X l hm 0 0 ym (.ref 336 :: as) M (fun r' _ => r' = some v))
theorem zkm : zK zMe 336 = (12, 0) := by decide +kernel
theorem zkc : zK zMe 6 = (11, 0) := by decide +kernel
theorem zPr.mk {X : zX} {l : Launch} {hc yc hm ym : Nat} {as : List Value} {v : Value} (h : zCall X l hc 0 0 yc (.ref 6 :: as) zMc (fun r _ => r = some v)) (h' : zCall X l hm 0 0 ym (.ref 336 :: as) zMm (fun r _ => r = some v)) : zPr X l hc yc hm ym as v :=
  (zpair h h').monoE (fun _ _ hE q => ⟨q.1, (hE.2.1 336 (show 336 < 364 by decide)).trans zkm, q.2⟩)
theorem pr0 {X : zX} {l : Launch} (a b c d e : Int32) : ∃ v : Int32, zPr X l 1 14 1 231 [.int a, .int b, .int c, .int d, .int e] (.int v) := by
  have ga := zrg a
  have gb := zrg b
  have gc := zrg c
  have gd := zrg d
  have ge := zrg e
  exact ⟨_, zPr.mk (c0_0) (m0_0)⟩
theorem pr1 {X : zX} {l : Launch} (a : Int32) : ∃ v : Int32, zPr X l 2 18 1 233 [.int a] (.int v) := by
  have ga := zrg a
  by_cases q0 : a.toInt ≤ (-1)
  · exact ⟨_, zPr.mk (c1_0 (by omega) (by omega)) (m1_0 (by omega) (by omega))⟩
  by_cases q1 : a.toInt = 0
  · obtain rfl : a = (0 : Int32) := (zeq rfl li0).mpr (by omega)
    exact ⟨_, zPr.mk (c1_1) (m1_1)⟩
  exact ⟨_, zPr.mk (c1_2 (by omega) (by omega)) (m1_2 (by omega) (by omega))⟩
theorem pr2 {X : zX} {l : Launch} : ∃ v : Int32, zPr X l 7 22 6 235 [] (.int v) := by
  exact ⟨_, zPr.mk (c2_0) (m2_0)⟩
theorem pr3 {X : zX} {l : Launch} : ∃ v : Int32, zPr X l 99 62 7 254 [] (.int v) := by
  exact ⟨_, zPr.mk (c3_0) (m3_0)⟩
theorem pr4 {X : zX} {l : Launch} : ∃ v : Int32, zPr X l 6 82 5 342 [] (.int v) := by
  exact ⟨_, zPr.mk (c4_0) (m4_0)⟩
theorem pr5 {X : zX} {l : Launch} : ∃ v : Int32, zPr X l 0 97 0 234 [] (.int v) := by
  exact ⟨_, zPr.mk (c5_0) (m5_0)⟩
theorem pr6 {X : zX} {l : Launch} : ∃ v : Int32, zPr X l 0 98 0 345 [] (.int v) := by
  exact ⟨_, zPr.mk (c6_0) (m6_0)⟩
theorem pr7 {X : zX} {l : Launch} (a : Int32) : ∃ v : Int32, zPr X l 3 99 3 304 [.int a] (.int v) := by
  have ga := zrg a
  by_cases q0 : a.toInt ≤ (-1)
  · exact ⟨_, zPr.mk (c7_0 (by omega) (by omega)) (m7_0 (by omega) (by omega))⟩
  by_cases q1 : a.toInt = 0
  · obtain rfl : a = (0 : Int32) := (zeq rfl li0).mpr (by omega)
    exact ⟨_, zPr.mk (c7_1) (m7_1)⟩
  by_cases q2 : a.toInt = 1
  · obtain rfl : a = (1 : Int32) := (zeq rfl li1).mpr (by omega)
    exact ⟨_, zPr.mk (c7_2) (m7_2)⟩
  by_cases q3 : a.toInt = 2
  · obtain rfl : a = (2 : Int32) := (zeq rfl li2).mpr (by omega)
    exact ⟨_, zPr.mk (c7_3) (m7_3)⟩
  by_cases q4 : a.toInt = 3
  · obtain rfl : a = (3 : Int32) := (zeq rfl li3).mpr (by omega)
    exact ⟨_, zPr.mk (c7_4) (m7_4)⟩
  by_cases q5 : a.toInt = 4
  · obtain rfl : a = (4 : Int32) := (zeq rfl li4).mpr (by omega)
    exact ⟨_, zPr.mk (c7_5) (m7_5)⟩
  by_cases q6 : a.toInt = 5
  · obtain rfl : a = (5 : Int32) := (zeq rfl li5).mpr (by omega)
    exact ⟨_, zPr.mk (c7_6) (m7_6)⟩
  by_cases q7 : a.toInt = 6
  · obtain rfl : a = (6 : Int32) := (zeq rfl li6).mpr (by omega)
    exact ⟨_, zPr.mk (c7_7) (m7_7)⟩
  by_cases q8 : a.toInt = 7
  · obtain rfl : a = (7 : Int32) := (zeq rfl li7).mpr (by omega)
    exact ⟨_, zPr.mk (c7_8) (m7_8)⟩
  by_cases q9 : a.toInt = 8
  · obtain rfl : a = (8 : Int32) := (zeq rfl li8).mpr (by omega)
    exact ⟨_, zPr.mk (c7_9) (m7_9)⟩
  by_cases q10 : a.toInt = 9
  · obtain rfl : a = (9 : Int32) := (zeq rfl li9).mpr (by omega)
    exact ⟨_, zPr.mk (c7_10) (m7_10)⟩
  by_cases q11 : a.toInt = 10
  · obtain rfl : a = (10 : Int32) := (zeq rfl li10).mpr (by omega)
    exact ⟨_, zPr.mk (c7_11) (m7_11)⟩
  by_cases q12 : a.toInt = 11
  · obtain rfl : a = (11 : Int32) := (zeq rfl li11).mpr (by omega)
    exact ⟨_, zPr.mk (c7_12) (m7_12)⟩
  by_cases q13 : a.toInt = 12
  · obtain rfl : a = (12 : Int32) := (zeq rfl li12).mpr (by omega)
    exact ⟨_, zPr.mk (c7_13) (m7_13)⟩
  by_cases q14 : a.toInt = 13
  · obtain rfl : a = (13 : Int32) := (zeq rfl li13).mpr (by omega)
    exact ⟨_, zPr.mk (c7_14) (m7_14)⟩
  by_cases q15 : a.toInt = 14
  · obtain rfl : a = (14 : Int32) := (zeq rfl li14).mpr (by omega)
    exact ⟨_, zPr.mk (c7_15) (m7_15)⟩
  by_cases q16 : a.toInt = 15
  · obtain rfl : a = (15 : Int32) := (zeq rfl li15).mpr (by omega)
    exact ⟨_, zPr.mk (c7_16) (m7_16)⟩
  exact ⟨_, zPr.mk (c7_17 (by omega) (by omega)) (m7_17 (by omega) (by omega))⟩
theorem pr8 {X : zX} {l : Launch} (a b : Int32) : ∃ v : Int32, zPr X l 3 102 3 305 [.int a, .int b] (.int v) := by
  have ga := zrg a
  have gb := zrg b
  exact ⟨_, zPr.mk (c8_0) (m8_0)⟩
theorem pr9 {X : zX} {l : Launch} (a b : Int32) : ∃ v : Int32, zPr X l 6 104 7 307 [.int a, .int b] (.int v) := by
  have ga := zrg a
  have gb := zrg b
  exact ⟨_, zPr.mk (c9_0) (m9_0)⟩
theorem pr10 {X : zX} {l : Launch} (a b : Int32) : ∃ v : Int32, zPr X l 6 143 7 309 [.int a, .int b] (.int v) := by
  have ga := zrg a
  have gb := zrg b
  exact ⟨_, zPr.mk (c10_0) (m10_0)⟩
theorem pr11 {X : zX} {l : Launch} (a b c : Int32) : ∃ v : Int32, zPr X l 2 147 3 314 [.int a, .int b, .int c] (.int v) := by
  have ga := zrg a
  have gb := zrg b
  have gc := zrg c
  exact ⟨_, zPr.mk (c11_0) (m11_0)⟩
theorem pr12 {X : zX} {l : Launch} (a b c : Int32) : ∃ v : Int32, zPr X l 3 148 3 315 [.int a, .int b, .int c] (.int v) := by
  have ga := zrg a
  have gb := zrg b
  have gc := zrg c
  by_cases q0 : a.toInt ≤ (-2)
  · exact ⟨_, zPr.mk (c12_0 (by omega) (by omega)) (m12_0 (by omega) (by omega))⟩
  by_cases q1 : 2 ≤ a.toInt
  · exact ⟨_, zPr.mk (c12_1 (by omega) (by omega)) (m12_1 (by omega) (by omega))⟩
  by_cases q2 : b.toInt ≤ (-11)
  · exact ⟨_, zPr.mk (c12_2 (by omega) (by omega) (by omega) (by omega)) (m12_2 (by omega) (by omega) (by omega) (by omega))⟩
  by_cases q3 : 11 ≤ b.toInt
  · exact ⟨_, zPr.mk (c12_3 (by omega) (by omega) (by omega) (by omega)) (m12_3 (by omega) (by omega) (by omega) (by omega))⟩
  exact ⟨_, zPr.mk (c12_4 (by omega) (by omega) (by omega) (by omega)) (m12_4 (by omega) (by omega) (by omega) (by omega))⟩
theorem pr13 {X : zX} {l : Launch} (a : Int32) : ∃ v : Int32, zPr X l 7 150 8 316 [.int a] (.int v) := by
  have ga := zrg a
  by_cases q0 : a.toInt ≤ (-1)
  · exact ⟨_, zPr.mk (c13_0 (by omega) (by omega)) (m13_0 (by omega) (by omega))⟩
  by_cases q1 : a.toInt = 0
  · obtain rfl : a = (0 : Int32) := (zeq rfl li0).mpr (by omega)
    exact ⟨_, zPr.mk (c13_1) (m13_1)⟩
  by_cases q2 : a.toInt = 1
  · obtain rfl : a = (1 : Int32) := (zeq rfl li1).mpr (by omega)
    exact ⟨_, zPr.mk (c13_2) (m13_2)⟩
  by_cases q3 : a.toInt = 2
  · obtain rfl : a = (2 : Int32) := (zeq rfl li2).mpr (by omega)
    exact ⟨_, zPr.mk (c13_3) (m13_3)⟩
  by_cases q4 : a.toInt = 3
  · obtain rfl : a = (3 : Int32) := (zeq rfl li3).mpr (by omega)
    exact ⟨_, zPr.mk (c13_4) (m13_4)⟩
  by_cases q5 : a.toInt = 4
  · obtain rfl : a = (4 : Int32) := (zeq rfl li4).mpr (by omega)
    exact ⟨_, zPr.mk (c13_5) (m13_5)⟩
  by_cases q6 : a.toInt = 5
  · obtain rfl : a = (5 : Int32) := (zeq rfl li5).mpr (by omega)
    exact ⟨_, zPr.mk (c13_6) (m13_6)⟩
  exact ⟨_, zPr.mk (c13_7 (by omega) (by omega)) (m13_7 (by omega) (by omega))⟩
theorem pr14 {X : zX} {l : Launch} (a b : Int32) : ∃ v : Int32, zPr X l 6 169 7 317 [.int a, .int b] (.int v) := by
  have ga := zrg a
  have gb := zrg b
  exact ⟨_, zPr.mk (c14_0) (m14_0)⟩
theorem pr15 {X : zX} {l : Launch} (a b : Int32) : ∃ v : Int32, zPr X l 6 172 7 321 [.int a, .int b] (.int v) := by
  have ga := zrg a
  have gb := zrg b
  exact ⟨_, zPr.mk (c15_0) (m15_0)⟩
theorem pr16 {X : zX} {l : Launch} (a b : Int32) : ∃ v : Int64, zPr X l 6 173 7 296 [.int a, .int b] (.long v) := by
  have ga := zrg a
  have gb := zrg b
  exact ⟨_, zPr.mk (c16_0) (m16_0)⟩
theorem pr17 {X : zX} {l : Launch} (a b : Int32) : ∃ v : Int32, zPr X l 6 177 7 301 [.int a, .int b] (.int v) := by
  have ga := zrg a
  have gb := zrg b
  exact ⟨_, zPr.mk (c17_0) (m17_0)⟩
theorem pr18 {X : zX} {l : Launch} : ∃ v : Int32, zPr X l 99 180 8 266 [] (.int v) := by
  exact ⟨_, zPr.mk (c18_0) (m18_0)⟩
theorem pr19 {X : zX} {l : Launch} (a : Int32) : ∃ v : Int32, zPr X l 6 151 8 295 [.int a] (.int v) := by
  have ga := zrg a
  by_cases q0 : a.toInt ≤ 102
  · exact ⟨_, zPr.mk (c19_0 (by omega) (by omega)) (m19_0 (by omega) (by omega))⟩
  by_cases q1 : a.toInt = 103
  · obtain rfl : a = (103 : Int32) := (zeq rfl li103).mpr (by omega)
    exact ⟨_, zPr.mk (c19_1) (m19_1)⟩
  by_cases q2 : a.toInt = 104
  · obtain rfl : a = (104 : Int32) := (zeq rfl li104).mpr (by omega)
    exact ⟨_, zPr.mk (c19_2) (m19_2)⟩
  by_cases q3 : a.toInt = 105
  · obtain rfl : a = (105 : Int32) := (zeq rfl li105).mpr (by omega)
    exact ⟨_, zPr.mk (c19_3) (m19_3)⟩
  by_cases q4 : a.toInt = 106
  · obtain rfl : a = (106 : Int32) := (zeq rfl li106).mpr (by omega)
    exact ⟨_, zPr.mk (c19_4) (m19_4)⟩
  by_cases q5 : a.toInt = 107
  · obtain rfl : a = (107 : Int32) := (zeq rfl li107).mpr (by omega)
    exact ⟨_, zPr.mk (c19_5) (m19_5)⟩
  by_cases q6 : a.toInt = 108
  · obtain rfl : a = (108 : Int32) := (zeq rfl li108).mpr (by omega)
    exact ⟨_, zPr.mk (c19_6) (m19_6)⟩
  by_cases q7 : a.toInt = 109
  · obtain rfl : a = (109 : Int32) := (zeq rfl li109).mpr (by omega)
    exact ⟨_, zPr.mk (c19_7) (m19_7)⟩
  by_cases q8 : a.toInt = 110
  · obtain rfl : a = (110 : Int32) := (zeq rfl li110).mpr (by omega)
    exact ⟨_, zPr.mk (c19_8) (m19_8)⟩
  by_cases q9 : a.toInt = 111
  · obtain rfl : a = (111 : Int32) := (zeq rfl li111).mpr (by omega)
    exact ⟨_, zPr.mk (c19_9) (m19_9)⟩
  by_cases q10 : a.toInt = 112
  · obtain rfl : a = (112 : Int32) := (zeq rfl li112).mpr (by omega)
    exact ⟨_, zPr.mk (c19_10) (m19_10)⟩
  by_cases q11 : a.toInt = 113
  · obtain rfl : a = (113 : Int32) := (zeq rfl li113).mpr (by omega)
    exact ⟨_, zPr.mk (c19_11) (m19_11)⟩
  by_cases q12 : a.toInt = 114
  · obtain rfl : a = (114 : Int32) := (zeq rfl li114).mpr (by omega)
    exact ⟨_, zPr.mk (c19_12) (m19_12)⟩
  by_cases q13 : a.toInt = 115
  · obtain rfl : a = (115 : Int32) := (zeq rfl li115).mpr (by omega)
    exact ⟨_, zPr.mk (c19_13) (m19_13)⟩
  by_cases q14 : a.toInt = 116
  · obtain rfl : a = (116 : Int32) := (zeq rfl li116).mpr (by omega)
    exact ⟨_, zPr.mk (c19_14) (m19_14)⟩
  by_cases q15 : a.toInt = 117
  · obtain rfl : a = (117 : Int32) := (zeq rfl li117).mpr (by omega)
    exact ⟨_, zPr.mk (c19_15) (m19_15)⟩
  by_cases q16 : a.toInt = 118
  · obtain rfl : a = (118 : Int32) := (zeq rfl li118).mpr (by omega)
    exact ⟨_, zPr.mk (c19_16) (m19_16)⟩
  exact ⟨_, zPr.mk (c19_17 (by omega) (by omega)) (m19_17 (by omega) (by omega))⟩
theorem pr20 {X : zX} {l : Launch} : ∃ v : Int32, zPr X l 6 187 7 322 [] (.int v) := by
  exact ⟨_, zPr.mk (c20_0) (m20_0)⟩
theorem pr21 {X : zX} {l : Launch} (a b c d e : Int32) : ∃ v : Int32, zPr X l 7 188 9 323 [.int a, .int b, .int c, .int d, .int e] (.int v) := by
  have ga := zrg a
  have gb := zrg b
  have gc := zrg c
  have gd := zrg d
  have ge := zrg e
  by_cases q0 : a.toInt ≤ 0
  · exact ⟨_, zPr.mk (c21_0 (by omega) (by omega)) (m21_0 (by omega) (by omega))⟩
  by_cases q1 : 201 ≤ a.toInt
  · exact ⟨_, zPr.mk (c21_1 (by omega) (by omega)) (m21_1 (by omega) (by omega))⟩
  by_cases q2 : b.toInt ≤ 0
  · exact ⟨_, zPr.mk (c21_2 (by omega) (by omega) (by omega) (by omega)) (m21_2 (by omega) (by omega) (by omega) (by omega))⟩
  by_cases q3 : 1000 ≤ b.toInt
  · exact ⟨_, zPr.mk (c21_3 (by omega) (by omega) (by omega) (by omega)) (m21_3 (by omega) (by omega) (by omega) (by omega))⟩
  by_cases q4 : c.toInt ≤ 0
  · exact ⟨_, zPr.mk (c21_4 (by omega) (by omega) (by omega) (by omega) (by omega) (by omega)) (m21_4 (by omega) (by omega) (by omega) (by omega) (by omega) (by omega))⟩
  by_cases q5 : 9 ≤ c.toInt
  · exact ⟨_, zPr.mk (c21_5 (by omega) (by omega) (by omega) (by omega) (by omega) (by omega)) (m21_5 (by omega) (by omega) (by omega) (by omega) (by omega) (by omega))⟩
  by_cases q6 : d.toInt ≤ (-1)
  · exact ⟨_, zPr.mk (c21_6 (by omega) (by omega) (by omega) (by omega) (by omega) (by omega) (by omega) (by omega)) (m21_6 (by omega) (by omega) (by omega) (by omega) (by omega) (by omega) (by omega) (by omega))⟩
  by_cases q7 : 51 ≤ d.toInt
  · exact ⟨_, zPr.mk (c21_7 (by omega) (by omega) (by omega) (by omega) (by omega) (by omega) (by omega) (by omega)) (m21_7 (by omega) (by omega) (by omega) (by omega) (by omega) (by omega) (by omega) (by omega))⟩
  by_cases q8 : e.toInt ≤ (-1)
  · exact ⟨_, zPr.mk (c21_8 (by omega) (by omega) (by omega) (by omega) (by omega) (by omega) (by omega) (by omega) (by omega) (by omega)) (m21_8 (by omega) (by omega) (by omega) (by omega) (by omega) (by omega) (by omega) (by omega) (by omega) (by omega))⟩
  by_cases q9 : 4 ≤ e.toInt
  · exact ⟨_, zPr.mk (c21_9 (by omega) (by omega) (by omega) (by omega) (by omega) (by omega) (by omega) (by omega) (by omega) (by omega)) (m21_9 (by omega) (by omega) (by omega) (by omega) (by omega) (by omega) (by omega) (by omega) (by omega) (by omega))⟩
  by_cases q10 : e.toInt = 0
  · obtain rfl : e = (0 : Int32) := (zeq rfl li0).mpr (by omega)
    exact ⟨_, zPr.mk (c21_10 (by omega) (by omega) (by omega) (by omega) (by omega) (by omega) (by omega) (by omega)) (m21_10 (by omega) (by omega) (by omega) (by omega) (by omega) (by omega) (by omega) (by omega))⟩
  by_cases q11 : e.toInt = 1
  · obtain rfl : e = (1 : Int32) := (zeq rfl li1).mpr (by omega)
    exact ⟨_, zPr.mk (c21_11 (by omega) (by omega) (by omega) (by omega) (by omega) (by omega) (by omega) (by omega)) (m21_11 (by omega) (by omega) (by omega) (by omega) (by omega) (by omega) (by omega) (by omega))⟩
  by_cases q12 : e.toInt = 2
  · obtain rfl : e = (2 : Int32) := (zeq rfl li2).mpr (by omega)
    exact ⟨_, zPr.mk (c21_12 (by omega) (by omega) (by omega) (by omega) (by omega) (by omega) (by omega) (by omega)) (m21_12 (by omega) (by omega) (by omega) (by omega) (by omega) (by omega) (by omega) (by omega))⟩
  obtain rfl : e = (3 : Int32) := (zeq rfl li3).mpr (by omega)
  exact ⟨_, zPr.mk (c21_13 (by omega) (by omega) (by omega) (by omega) (by omega) (by omega) (by omega) (by omega)) (m21_13 (by omega) (by omega) (by omega) (by omega) (by omega) (by omega) (by omega) (by omega))⟩
theorem pr22 {X : zX} {l : Launch} (a b c : Int32) : ∃ v : Int32, zPr X l 7 193 9 326 [.int a, .int b, .int c] (.int v) := by
  have ga := zrg a
  have gb := zrg b
  have gc := zrg c
  by_cases q0 : a.toInt ≤ 0
  · exact ⟨_, zPr.mk (c22_0 (by omega) (by omega)) (m22_0 (by omega) (by omega))⟩
  by_cases q1 : 201 ≤ a.toInt
  · exact ⟨_, zPr.mk (c22_1 (by omega) (by omega)) (m22_1 (by omega) (by omega))⟩
  by_cases q2 : b.toInt ≤ 0
  · exact ⟨_, zPr.mk (c22_2 (by omega) (by omega) (by omega) (by omega)) (m22_2 (by omega) (by omega) (by omega) (by omega))⟩
  by_cases q3 : 1000 ≤ b.toInt
  · exact ⟨_, zPr.mk (c22_3 (by omega) (by omega) (by omega) (by omega)) (m22_3 (by omega) (by omega) (by omega) (by omega))⟩
  by_cases q4 : c.toInt ≤ (-1)
  · exact ⟨_, zPr.mk (c22_4 (by omega) (by omega) (by omega) (by omega) (by omega) (by omega)) (m22_4 (by omega) (by omega) (by omega) (by omega) (by omega) (by omega))⟩
  by_cases q5 : 51 ≤ c.toInt
  · exact ⟨_, zPr.mk (c22_5 (by omega) (by omega) (by omega) (by omega) (by omega) (by omega)) (m22_5 (by omega) (by omega) (by omega) (by omega) (by omega) (by omega))⟩
  exact ⟨_, zPr.mk (c22_6 (by omega) (by omega) (by omega) (by omega) (by omega) (by omega)) (m22_6 (by omega) (by omega) (by omega) (by omega) (by omega) (by omega))⟩
theorem pr23 {X : zX} {l : Launch} (a : Int32) : ∃ v : Int32, zPr X l 6 194 7 327 [.int a] (.int v) := by
  have ga := zrg a
  exact ⟨_, zPr.mk (c23_0) (m23_0)⟩
theorem pr24 {X : zX} {l : Launch} (a : Int32) : ∃ v : Int32, zPr X l 6 196 6 328 [.int a] (.int v) := by
  have ga := zrg a
  by_cases q0 : a.toInt ≤ (-1)
  · exact ⟨_, zPr.mk (c24_0 (by omega) (by omega)) (m24_0 (by omega) (by omega))⟩
  by_cases q1 : a.toInt = 0
  · obtain rfl : a = (0 : Int32) := (zeq rfl li0).mpr (by omega)
    exact ⟨_, zPr.mk (c24_1) (m24_1)⟩
  by_cases q2 : a.toInt = 1
  · obtain rfl : a = (1 : Int32) := (zeq rfl li1).mpr (by omega)
    exact ⟨_, zPr.mk (c24_2) (m24_2)⟩
  by_cases q3 : a.toInt = 2
  · obtain rfl : a = (2 : Int32) := (zeq rfl li2).mpr (by omega)
    exact ⟨_, zPr.mk (c24_3) (m24_3)⟩
  exact ⟨_, zPr.mk (c24_4 (by omega) (by omega)) (m24_4 (by omega) (by omega))⟩
theorem pr25 {X : zX} {l : Launch} (a b c : Int32) : ∃ v : Int32, zPr X l 4 89 2 331 [.int a, .int b, .int c] (.int v) := by
  have ga := zrg a
  have gb := zrg b
  have gc := zrg c
  exact ⟨_, zPr.mk (c25_0) (m25_0)⟩
theorem pr26 {X : zX} {l : Launch} (a : Int32) : ∃ v : Int32, zPr X l 4 90 3 332 [.int a] (.int v) := by
  have ga := zrg a
  exact ⟨_, zPr.mk (c26_0) (m26_0)⟩
theorem pr27 {X : zX} {l : Launch} (a : Int32) : ∃ v : Int32, zPr X l 4 94 2 333 [.int a] (.int v) := by
  have ga := zrg a
  exact ⟨_, zPr.mk (c27_0) (m27_0)⟩
theorem pr28 {X : zX} {l : Launch} (a : Int32) : ∃ v : Int32, zPr X l 4 95 2 334 [.int a] (.int v) := by
  have ga := zrg a
  by_cases q0 : a.toInt ≤ 1
  · exact ⟨_, zPr.mk (c28_0 (by omega) (by omega)) (m28_0 (by omega) (by omega))⟩
  by_cases q1 : 2 ≤ a.toInt ∧ a.toInt ≤ 8
  · exact ⟨_, zPr.mk (c28_1 (by omega) (by omega)) (m28_1 (by omega) (by omega))⟩
  exact ⟨_, zPr.mk (c28_2 (by omega) (by omega)) (m28_2 (by omega) (by omega))⟩
theorem pr29 {X : zX} {l : Launch} (a b c : Int32) : ∃ v : Int64, zPr X l 6 200 7 300 [.int a, .int b, .int c] (.long v) := by
  have ga := zrg a
  have gb := zrg b
  have gc := zrg c
  exact ⟨_, zPr.mk (c29_0) (m29_0)⟩
theorem pr30 {X : zX} {l : Launch} (a b : Int32) : ∃ v : Int32, zPr X l 6 201 7 336 [.int a, .int b] (.int v) := by
  have ga := zrg a
  have gb := zrg b
  exact ⟨_, zPr.mk (c30_0) (m30_0)⟩
theorem pr31 {X : zX} {l : Launch} (a : Int32) : ∃ v : Int32, zPr X l 6 203 7 338 [.int a] (.int v) := by
  have ga := zrg a
  exact ⟨_, zPr.mk (c31_0) (m31_0)⟩
theorem pr32 {X : zX} {l : Launch} (a b : Int32) : ∃ v : Int32, zPr X l 6 204 7 339 [.int a, .int b] (.int v) := by
  have ga := zrg a
  have gb := zrg b
  exact ⟨_, zPr.mk (c32_0) (m32_0)⟩
theorem pr33 {X : zX} {l : Launch} (a b : Int32) : ∃ v : Int32, zPr X l 6 205 7 340 [.int a, .int b] (.int v) := by
  have ga := zrg a
  have gb := zrg b
  exact ⟨_, zPr.mk (c33_0) (m33_0)⟩
theorem pr34 {X : zX} {l : Launch} (a b : Int32) : ∃ v : Int32, zPr X l 4 206 2 335 [.int a, .int b] (.int v) := by
  have ga := zrg a
  have gb := zrg b
  exact ⟨_, zPr.mk (c34_0) (m34_0)⟩
theorem pr35 {X : zX} {l : Launch} (a b : Int32) : ∃ v : Int32, zPr X l 6 207 7 302 [.int a, .int b] (.int v) := by
  have ga := zrg a
  have gb := zrg b
  by_cases q0 : a.toInt ≤ (-1)
  · exact ⟨_, zPr.mk (c35_0 (by omega) (by omega)) (m35_0 (by omega) (by omega))⟩
  by_cases q1 : 20 ≤ a.toInt
  · exact ⟨_, zPr.mk (c35_1 (by omega) (by omega)) (m35_1 (by omega) (by omega))⟩
  by_cases q2 : b.toInt ≤ (-1)
  · exact ⟨_, zPr.mk (c35_2 (by omega) (by omega) (by omega) (by omega)) (m35_2 (by omega) (by omega) (by omega) (by omega))⟩
  by_cases q3 : 4 ≤ b.toInt
  · exact ⟨_, zPr.mk (c35_3 (by omega) (by omega) (by omega) (by omega)) (m35_3 (by omega) (by omega) (by omega) (by omega))⟩
  exact ⟨_, zPr.mk (c35_4 (by omega) (by omega) (by omega) (by omega)) (m35_4 (by omega) (by omega) (by omega) (by omega))⟩
theorem pr36 {X : zX} {l : Launch} (a b : Int32) : ∃ v : Int32, zPr X l 2 210 1 341 [.int a, .int b] (.int v) := by
  have ga := zrg a
  have gb := zrg b
  by_cases q0 : a.toInt ≤ 0
  · exact ⟨_, zPr.mk (c36_0 (by omega) (by omega)) (m36_0 (by omega) (by omega))⟩
  by_cases q1 : 1001 ≤ a.toInt
  · exact ⟨_, zPr.mk (c36_1 (by omega) (by omega)) (m36_1 (by omega) (by omega))⟩
  by_cases q2 : b.toInt ≤ (-1)
  · exact ⟨_, zPr.mk (c36_2 (by omega) (by omega) (by omega) (by omega)) (m36_2 (by omega) (by omega) (by omega) (by omega))⟩
  by_cases q3 : 2 ≤ b.toInt
  · exact ⟨_, zPr.mk (c36_3 (by omega) (by omega) (by omega) (by omega)) (m36_3 (by omega) (by omega) (by omega) (by omega))⟩
  exact ⟨_, zPr.mk (c36_4 (by omega) (by omega) (by omega) (by omega)) (m36_4 (by omega) (by omega) (by omega) (by omega))⟩
theorem pr37 {X : zX} {l : Launch} : ∃ v : Int32, zPr X l 4 212 1 225 [] (.int v) := by
  exact ⟨_, zPr.mk (c37_0) (m37_0)⟩
theorem pr38 {X : zX} {l : Launch} (a : Int32) : ∃ v : Int32, zPr X l 4 214 1 227 [.int a] (.int v) := by
  have ga := zrg a
  by_cases q0 : a.toInt ≤ (-1)
  · exact ⟨_, zPr.mk (c38_0 (by omega) (by omega)) (m38_0 (by omega) (by omega))⟩
  by_cases q1 : a.toInt = 0
  · obtain rfl : a = (0 : Int32) := (zeq rfl li0).mpr (by omega)
    exact ⟨_, zPr.mk (c38_1) (m38_1)⟩
  by_cases q2 : a.toInt = 1
  · obtain rfl : a = (1 : Int32) := (zeq rfl li1).mpr (by omega)
    exact ⟨_, zPr.mk (c38_2) (m38_2)⟩
  exact ⟨_, zPr.mk (c38_3 (by omega) (by omega)) (m38_3 (by omega) (by omega))⟩
theorem pr39 {X : zX} {l : Launch} (a : Int32) : ∃ v : Int32, zPr X l 4 216 2 229 [.int a] (.int v) := by
  have ga := zrg a
  by_cases q0 : a.toInt ≤ (-1)
  · exact ⟨_, zPr.mk (c39_0 (by omega) (by omega)) (m39_0 (by omega) (by omega))⟩
  by_cases q1 : a.toInt = 0
  · obtain rfl : a = (0 : Int32) := (zeq rfl li0).mpr (by omega)
    exact ⟨_, zPr.mk (c39_1) (m39_1)⟩
  by_cases q2 : a.toInt = 1
  · obtain rfl : a = (1 : Int32) := (zeq rfl li1).mpr (by omega)
    exact ⟨_, zPr.mk (c39_2) (m39_2)⟩
  exact ⟨_, zPr.mk (c39_3 (by omega) (by omega)) (m39_3 (by omega) (by omega))⟩
theorem pr40 {X : zX} {l : Launch} : ∃ v : Int32, zPr X l 3 219 2 346 [] (.int v) := by
  exact ⟨_, zPr.mk (c40_0) (m40_0)⟩
theorem pr41 {X : zX} {l : Launch} (a : Int32) : ∃ v : Int32, zPr X l 0 223 1 349 [.int a] (.int v) := by
  have ga := zrg a
  exact ⟨_, zPr.mk (c41_0) (m41_0)⟩
