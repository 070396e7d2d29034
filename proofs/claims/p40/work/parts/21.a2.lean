theorem fk_zMc_61 : zK zMc 61 = (22, 8) := by decide +kernel
theorem fk_zMc_62 : zK zMc 62 = (20, 60) := by decide +kernel
theorem fk_zMc_63 : zK zMc 63 = (20, 60) := by decide +kernel
theorem fk_zMc_64 : zK zMc 64 = (20, 60) := by decide +kernel
theorem fk_zMc_65 : zK zMc 65 = (20, 60) := by decide +kernel
theorem fk_zMc_66 : zK zMc 66 = (20, 12) := by decide +kernel
theorem fk_zMc_67 : zK zMc 67 = (20, 12) := by decide +kernel
theorem fk_zMc_68 : zK zMc 68 = (20, 12) := by decide +kernel
theorem fk_zMc_69 : zK zMc 69 = (20, 9) := by decide +kernel
theorem fk_zMc_7 : zK zMc 7 = (6, 0) := by decide +kernel
theorem fk_zMc_70 : zK zMc 70 = (21, 500) := by decide +kernel
theorem fk_zMc_71 : zK zMc 71 = (6, 0) := by decide +kernel
theorem fk_zMc_72 : zK zMc 72 = (20, 8) := by decide +kernel
theorem fk_zMc_73 : zK zMc 73 = (22, 8) := by decide +kernel
theorem fk_zMc_74 : zK zMc 74 = (20, 60) := by decide +kernel
theorem fk_zMc_75 : zK zMc 75 = (20, 60) := by decide +kernel
theorem fk_zMc_76 : zK zMc 76 = (20, 60) := by decide +kernel
theorem fk_zMc_77 : zK zMc 77 = (20, 60) := by decide +kernel
theorem fk_zMc_78 : zK zMc 78 = (20, 12) := by decide +kernel
theorem fk_zMc_79 : zK zMc 79 = (20, 12) := by decide +kernel
theorem fk_zMc_8 : zK zMc 8 = (20, 8) := by decide +kernel
theorem fk_zMc_80 : zK zMc 80 = (20, 12) := by decide +kernel
theorem fk_zMc_81 : zK zMc 81 = (20, 9) := by decide +kernel
theorem fk_zMc_82 : zK zMc 82 = (21, 500) := by decide +kernel
theorem fk_zMc_83 : zK zMc 83 = (6, 0) := by decide +kernel
theorem fk_zMc_84 : zK zMc 84 = (20, 8) := by decide +kernel
theorem fk_zMc_85 : zK zMc 85 = (22, 8) := by decide +kernel
theorem fk_zMc_86 : zK zMc 86 = (20, 60) := by decide +kernel
theorem fk_zMc_87 : zK zMc 87 = (20, 60) := by decide +kernel
theorem fk_zMc_88 : zK zMc 88 = (20, 60) := by decide +kernel
theorem fk_zMc_89 : zK zMc 89 = (20, 60) := by decide +kernel
theorem fk_zMc_9 : zK zMc 9 = (22, 8) := by decide +kernel
theorem fk_zMc_90 : zK zMc 90 = (20, 12) := by decide +kernel
theorem fk_zMc_91 : zK zMc 91 = (20, 12) := by decide +kernel
theorem fk_zMc_92 : zK zMc 92 = (20, 12) := by decide +kernel
theorem fk_zMc_93 : zK zMc 93 = (20, 9) := by decide +kernel
theorem fk_zMc_94 : zK zMc 94 = (21, 500) := by decide +kernel
theorem fk_zMc_95 : zK zMc 95 = (6, 0) := by decide +kernel
theorem fk_zMc_96 : zK zMc 96 = (20, 8) := by decide +kernel
theorem fk_zMc_97 : zK zMc 97 = (22, 8) := by decide +kernel
theorem fk_zMc_98 : zK zMc 98 = (20, 60) := by decide +kernel
theorem fk_zMc_99 : zK zMc 99 = (20, 60) := by decide +kernel
theorem fv_zMc_107_1 : zfv zMc 107 (cY 6 1) 1 = .ref 108 := by decide +kernel
theorem fv_zMc_107_10 : zfv zMc 107 (cY 6 10) 10 = .ref 115 := by decide +kernel
theorem fv_zMc_107_11 : zfv zMc 107 (cY 6 11) 11 = .ref 116 := by decide +kernel
theorem fv_zMc_107_12 : zfv zMc 107 (cY 6 12) 12 = .ref 117 := by decide +kernel
theorem fv_zMc_107_14 : zfv zMc 107 (cY 6 14) 14 = .ref 118 := by decide +kernel
theorem fv_zMc_107_2 : zfv zMc 107 (cY 6 2) 2 = .ref 109 := by decide +kernel
theorem fv_zMc_107_4 : zfv zMc 107 (cY 6 4) 4 = .ref 110 := by decide +kernel
theorem fv_zMc_107_5 : zfv zMc 107 (cY 6 5) 5 = .ref 111 := by decide +kernel
theorem fv_zMc_107_6 : zfv zMc 107 (cY 6 6) 6 = .ref 112 := by decide +kernel
theorem fv_zMc_107_7 : zfv zMc 107 (cY 6 7) 7 = .ref 113 := by decide +kernel
theorem fv_zMc_107_9 : zfv zMc 107 (cY 6 9) 9 = .ref 114 := by decide +kernel
theorem fv_zMc_119_1 : zfv zMc 119 (cY 6 1) 1 = .ref 120 := by decide +kernel
theorem fv_zMc_119_10 : zfv zMc 119 (cY 6 10) 10 = .ref 127 := by decide +kernel
theorem fv_zMc_119_11 : zfv zMc 119 (cY 6 11) 11 = .ref 128 := by decide +kernel
theorem fv_zMc_119_12 : zfv zMc 119 (cY 6 12) 12 = .ref 129 := by decide +kernel
theorem fv_zMc_119_14 : zfv zMc 119 (cY 6 14) 14 = .ref 130 := by decide +kernel
theorem fv_zMc_119_2 : zfv zMc 119 (cY 6 2) 2 = .ref 121 := by decide +kernel
theorem fv_zMc_119_4 : zfv zMc 119 (cY 6 4) 4 = .ref 122 := by decide +kernel
theorem fv_zMc_119_5 : zfv zMc 119 (cY 6 5) 5 = .ref 123 := by decide +kernel
theorem fv_zMc_119_6 : zfv zMc 119 (cY 6 6) 6 = .ref 124 := by decide +kernel
theorem fv_zMc_119_7 : zfv zMc 119 (cY 6 7) 7 = .ref 125 := by decide +kernel
theorem fv_zMc_119_9 : zfv zMc 119 (cY 6 9) 9 = .ref 126 := by decide +kernel
theorem fv_zMc_131_1 : zfv zMc 131 (cY 6 1) 1 = .ref 132 := by decide +kernel
theorem fv_zMc_131_10 : zfv zMc 131 (cY 6 10) 10 = .ref 139 := by decide +kernel
theorem fv_zMc_131_11 : zfv zMc 131 (cY 6 11) 11 = .ref 140 := by decide +kernel
theorem fv_zMc_131_12 : zfv zMc 131 (cY 6 12) 12 = .ref 141 := by decide +kernel
theorem fv_zMc_131_14 : zfv zMc 131 (cY 6 14) 14 = .ref 142 := by decide +kernel
theorem fv_zMc_131_2 : zfv zMc 131 (cY 6 2) 2 = .ref 133 := by decide +kernel
theorem fv_zMc_131_4 : zfv zMc 131 (cY 6 4) 4 = .ref 134 := by decide +kernel
theorem fv_zMc_131_5 : zfv zMc 131 (cY 6 5) 5 = .ref 135 := by decide +kernel
theorem fv_zMc_131_6 : zfv zMc 131 (cY 6 6) 6 = .ref 136 := by decide +kernel
theorem fv_zMc_131_7 : zfv zMc 131 (cY 6 7) 7 = .ref 137 := by decide +kernel
theorem fv_zMc_131_9 : zfv zMc 131 (cY 6 9) 9 = .ref 138 := by decide +kernel
theorem fv_zMc_143_1 : zfv zMc 143 (cY 6 1) 1 = .ref 144 := by decide +kernel
theorem fv_zMc_143_10 : zfv zMc 143 (cY 6 10) 10 = .ref 151 := by decide +kernel
theorem fv_zMc_143_11 : zfv zMc 143 (cY 6 11) 11 = .ref 152 := by decide +kernel
theorem fv_zMc_143_12 : zfv zMc 143 (cY 6 12) 12 = .ref 153 := by decide +kernel
theorem fv_zMc_143_14 : zfv zMc 143 (cY 6 14) 14 = .ref 154 := by decide +kernel
theorem fv_zMc_143_2 : zfv zMc 143 (cY 6 2) 2 = .ref 145 := by decide +kernel
theorem fv_zMc_143_4 : zfv zMc 143 (cY 6 4) 4 = .ref 146 := by decide +kernel
theorem fv_zMc_143_5 : zfv zMc 143 (cY 6 5) 5 = .ref 147 := by decide +kernel
theorem fv_zMc_143_6 : zfv zMc 143 (cY 6 6) 6 = .ref 148 := by decide +kernel
theorem fv_zMc_143_7 : zfv zMc 143 (cY 6 7) 7 = .ref 149 := by decide +kernel
theorem fv_zMc_143_9 : zfv zMc 143 (cY 6 9) 9 = .ref 150 := by decide +kernel
theorem fv_zMc_155_0 : zfv zMc 155 (cY 7 0) 0 = .ref 156 := by decide +kernel
theorem fv_zMc_157_0 : zfv zMc 157 (cY 3 0) 0 = .ref 158 := by decide +kernel
theorem fv_zMc_157_1 : zfv zMc 157 (cY 3 1) 1 = .ref 159 := by decide +kernel
theorem fv_zMc_157_2 : zfv zMc 157 (cY 3 2) 2 = .ref 160 := by decide +kernel
theorem fv_zMc_19_1 : zfv zMc 19 (cY 6 1) 1 = .ref 20 := by decide +kernel
theorem fv_zMc_19_10 : zfv zMc 19 (cY 6 10) 10 = .ref 27 := by decide +kernel
theorem fv_zMc_19_11 : zfv zMc 19 (cY 6 11) 11 = .ref 28 := by decide +kernel
theorem fv_zMc_19_12 : zfv zMc 19 (cY 6 12) 12 = .ref 29 := by decide +kernel
theorem fv_zMc_19_14 : zfv zMc 19 (cY 6 14) 14 = .ref 30 := by decide +kernel
theorem fv_zMc_19_2 : zfv zMc 19 (cY 6 2) 2 = .ref 21 := by decide +kernel
theorem fv_zMc_19_4 : zfv zMc 19 (cY 6 4) 4 = .ref 22 := by decide +kernel
theorem fv_zMc_19_5 : zfv zMc 19 (cY 6 5) 5 = .ref 23 := by decide +kernel
theorem fv_zMc_19_6 : zfv zMc 19 (cY 6 6) 6 = .ref 24 := by decide +kernel
theorem fv_zMc_19_7 : zfv zMc 19 (cY 6 7) 7 = .ref 25 := by decide +kernel
theorem fv_zMc_19_9 : zfv zMc 19 (cY 6 9) 9 = .ref 26 := by decide +kernel
theorem fv_zMc_35_1 : zfv zMc 35 (cY 6 1) 1 = .ref 36 := by decide +kernel
theorem fv_zMc_35_10 : zfv zMc 35 (cY 6 10) 10 = .ref 43 := by decide +kernel
theorem fv_zMc_35_11 : zfv zMc 35 (cY 6 11) 11 = .ref 44 := by decide +kernel
theorem fv_zMc_35_12 : zfv zMc 35 (cY 6 12) 12 = .ref 45 := by decide +kernel
theorem fv_zMc_35_14 : zfv zMc 35 (cY 6 14) 14 = .ref 46 := by decide +kernel
theorem fv_zMc_35_2 : zfv zMc 35 (cY 6 2) 2 = .ref 37 := by decide +kernel
theorem fv_zMc_35_4 : zfv zMc 35 (cY 6 4) 4 = .ref 38 := by decide +kernel
theorem fv_zMc_35_5 : zfv zMc 35 (cY 6 5) 5 = .ref 39 := by decide +kernel
theorem fv_zMc_35_6 : zfv zMc 35 (cY 6 6) 6 = .ref 40 := by decide +kernel
theorem fv_zMc_35_7 : zfv zMc 35 (cY 6 7) 7 = .ref 41 := by decide +kernel
theorem fv_zMc_35_9 : zfv zMc 35 (cY 6 9) 9 = .ref 42 := by decide +kernel
theorem fv_zMc_47_1 : zfv zMc 47 (cY 6 1) 1 = .ref 48 := by decide +kernel
theorem fv_zMc_47_10 : zfv zMc 47 (cY 6 10) 10 = .ref 55 := by decide +kernel
theorem fv_zMc_47_11 : zfv zMc 47 (cY 6 11) 11 = .ref 56 := by decide +kernel
theorem fv_zMc_47_12 : zfv zMc 47 (cY 6 12) 12 = .ref 57 := by decide +kernel
theorem fv_zMc_47_14 : zfv zMc 47 (cY 6 14) 14 = .ref 58 := by decide +kernel
theorem fv_zMc_47_2 : zfv zMc 47 (cY 6 2) 2 = .ref 49 := by decide +kernel
theorem fv_zMc_47_4 : zfv zMc 47 (cY 6 4) 4 = .ref 50 := by decide +kernel
theorem fv_zMc_47_5 : zfv zMc 47 (cY 6 5) 5 = .ref 51 := by decide +kernel
theorem fv_zMc_47_6 : zfv zMc 47 (cY 6 6) 6 = .ref 52 := by decide +kernel
theorem fv_zMc_47_7 : zfv zMc 47 (cY 6 7) 7 = .ref 53 := by decide +kernel
theorem fv_zMc_47_9 : zfv zMc 47 (cY 6 9) 9 = .ref 54 := by decide +kernel
theorem fv_zMc_59_1 : zfv zMc 59 (cY 6 1) 1 = .ref 60 := by decide +kernel
theorem fv_zMc_59_10 : zfv zMc 59 (cY 6 10) 10 = .ref 67 := by decide +kernel
theorem fv_zMc_59_11 : zfv zMc 59 (cY 6 11) 11 = .ref 68 := by decide +kernel
theorem fv_zMc_59_12 : zfv zMc 59 (cY 6 12) 12 = .ref 69 := by decide +kernel
theorem fv_zMc_59_14 : zfv zMc 59 (cY 6 14) 14 = .ref 70 := by decide +kernel
theorem fv_zMc_59_2 : zfv zMc 59 (cY 6 2) 2 = .ref 61 := by decide +kernel
theorem fv_zMc_59_4 : zfv zMc 59 (cY 6 4) 4 = .ref 62 := by decide +kernel
theorem fv_zMc_59_5 : zfv zMc 59 (cY 6 5) 5 = .ref 63 := by decide +kernel
theorem fv_zMc_59_6 : zfv zMc 59 (cY 6 6) 6 = .ref 64 := by decide +kernel
theorem fv_zMc_59_7 : zfv zMc 59 (cY 6 7) 7 = .ref 65 := by decide +kernel
theorem fv_zMc_59_9 : zfv zMc 59 (cY 6 9) 9 = .ref 66 := by decide +kernel
theorem fv_zMc_71_1 : zfv zMc 71 (cY 6 1) 1 = .ref 72 := by decide +kernel
theorem fv_zMc_71_10 : zfv zMc 71 (cY 6 10) 10 = .ref 79 := by decide +kernel
theorem fv_zMc_71_11 : zfv zMc 71 (cY 6 11) 11 = .ref 80 := by decide +kernel
theorem fv_zMc_71_12 : zfv zMc 71 (cY 6 12) 12 = .ref 81 := by decide +kernel
theorem fv_zMc_71_14 : zfv zMc 71 (cY 6 14) 14 = .ref 82 := by decide +kernel
theorem fv_zMc_71_2 : zfv zMc 71 (cY 6 2) 2 = .ref 73 := by decide +kernel
theorem fv_zMc_71_4 : zfv zMc 71 (cY 6 4) 4 = .ref 74 := by decide +kernel
theorem fv_zMc_71_5 : zfv zMc 71 (cY 6 5) 5 = .ref 75 := by decide +kernel
theorem fv_zMc_71_6 : zfv zMc 71 (cY 6 6) 6 = .ref 76 := by decide +kernel
theorem fv_zMc_71_7 : zfv zMc 71 (cY 6 7) 7 = .ref 77 := by decide +kernel
theorem fv_zMc_71_9 : zfv zMc 71 (cY 6 9) 9 = .ref 78 := by decide +kernel
theorem fv_zMc_7_1 : zfv zMc 7 (cY 6 1) 1 = .ref 8 := by decide +kernel
theorem fv_zMc_7_10 : zfv zMc 7 (cY 6 10) 10 = .ref 15 := by decide +kernel
theorem fv_zMc_7_11 : zfv zMc 7 (cY 6 11) 11 = .ref 16 := by decide +kernel
theorem fv_zMc_7_12 : zfv zMc 7 (cY 6 12) 12 = .ref 17 := by decide +kernel
theorem fv_zMc_7_14 : zfv zMc 7 (cY 6 14) 14 = .ref 18 := by decide +kernel
theorem fv_zMc_7_2 : zfv zMc 7 (cY 6 2) 2 = .ref 9 := by decide +kernel
theorem fv_zMc_7_4 : zfv zMc 7 (cY 6 4) 4 = .ref 10 := by decide +kernel
theorem fv_zMc_7_5 : zfv zMc 7 (cY 6 5) 5 = .ref 11 := by decide +kernel
theorem fv_zMc_7_6 : zfv zMc 7 (cY 6 6) 6 = .ref 12 := by decide +kernel
theorem fv_zMc_7_7 : zfv zMc 7 (cY 6 7) 7 = .ref 13 := by decide +kernel
theorem fv_zMc_7_9 : zfv zMc 7 (cY 6 9) 9 = .ref 14 := by decide +kernel
theorem fv_zMc_83_1 : zfv zMc 83 (cY 6 1) 1 = .ref 84 := by decide +kernel
theorem fv_zMc_83_10 : zfv zMc 83 (cY 6 10) 10 = .ref 91 := by decide +kernel
theorem fv_zMc_83_11 : zfv zMc 83 (cY 6 11) 11 = .ref 92 := by decide +kernel
theorem fv_zMc_83_12 : zfv zMc 83 (cY 6 12) 12 = .ref 93 := by decide +kernel
theorem fv_zMc_83_14 : zfv zMc 83 (cY 6 14) 14 = .ref 94 := by decide +kernel
theorem fv_zMc_83_2 : zfv zMc 83 (cY 6 2) 2 = .ref 85 := by decide +kernel
theorem fv_zMc_83_4 : zfv zMc 83 (cY 6 4) 4 = .ref 86 := by decide +kernel
theorem fv_zMc_83_5 : zfv zMc 83 (cY 6 5) 5 = .ref 87 := by decide +kernel
theorem fv_zMc_83_6 : zfv zMc 83 (cY 6 6) 6 = .ref 88 := by decide +kernel
theorem fv_zMc_83_7 : zfv zMc 83 (cY 6 7) 7 = .ref 89 := by decide +kernel
theorem fv_zMc_83_9 : zfv zMc 83 (cY 6 9) 9 = .ref 90 := by decide +kernel
theorem fv_zMc_95_1 : zfv zMc 95 (cY 6 1) 1 = .ref 96 := by decide +kernel
theorem fv_zMc_95_10 : zfv zMc 95 (cY 6 10) 10 = .ref 103 := by decide +kernel
theorem fv_zMc_95_11 : zfv zMc 95 (cY 6 11) 11 = .ref 104 := by decide +kernel
theorem fv_zMc_95_12 : zfv zMc 95 (cY 6 12) 12 = .ref 105 := by decide +kernel
theorem fv_zMc_95_14 : zfv zMc 95 (cY 6 14) 14 = .ref 106 := by decide +kernel
theorem fv_zMc_95_2 : zfv zMc 95 (cY 6 2) 2 = .ref 97 := by decide +kernel
theorem fv_zMc_95_4 : zfv zMc 95 (cY 6 4) 4 = .ref 98 := by decide +kernel
theorem fv_zMc_95_5 : zfv zMc 95 (cY 6 5) 5 = .ref 99 := by decide +kernel
theorem fv_zMc_95_6 : zfv zMc 95 (cY 6 6) 6 = .ref 100 := by decide +kernel
theorem fv_zMc_95_7 : zfv zMc 95 (cY 6 7) 7 = .ref 101 := by decide +kernel
theorem fv_zMc_95_9 : zfv zMc 95 (cY 6 9) 9 = .ref 102 := by decide +kernel
theorem ib10 {M : zM} (h : zIv cLo cHi M) (j : Nat) : 0 ≤ (zI M 10 j).toInt ∧ (zI M 10 j).toInt ≤ 7 := h 10 j
theorem ib100 {M : zM} (h : zIv cLo cHi M) (j : Nat) : (-2147483648) ≤ (zI M 100 j).toInt ∧ (zI M 100 j).toInt ≤ 2147483647 := h 100 j
theorem ib101 {M : zM} (h : zIv cLo cHi M) (j : Nat) : (-2147483648) ≤ (zI M 101 j).toInt ∧ (zI M 101 j).toInt ≤ 2147483647 := h 101 j
theorem ib102 {M : zM} (h : zIv cLo cHi M) (j : Nat) : (-2147483648) ≤ (zI M 102 j).toInt ∧ (zI M 102 j).toInt ≤ 2147483647 := h 102 j
theorem ib103 {M : zM} (h : zIv cLo cHi M) (j : Nat) : (-2147483648) ≤ (zI M 103 j).toInt ∧ (zI M 103 j).toInt ≤ 2147483647 := h 103 j
theorem ib104 {M : zM} (h : zIv cLo cHi M) (j : Nat) : (-2147483648) ≤ (zI M 104 j).toInt ∧ (zI M 104 j).toInt ≤ 2147483647 := h 104 j
theorem ib105 {M : zM} (h : zIv cLo cHi M) (j : Nat) : (-2147483648) ≤ (zI M 105 j).toInt ∧ (zI M 105 j).toInt ≤ 2147483647 := h 105 j
theorem ib106 {M : zM} (h : zIv cLo cHi M) (j : Nat) : (-128) ≤ (zI M 106 j).toInt ∧ (zI M 106 j).toInt ≤ 127 := h 106 j
theorem ib107_0 {M : zM} (h : zIv cLo cHi M) : 0 ≤ (zI M 107 0).toInt ∧ (zI M 107 0).toInt ≤ 8 := h 107 0
theorem ib107_13 {M : zM} (h : zIv cLo cHi M) : 0 ≤ (zI M 107 13).toInt ∧ (zI M 107 13).toInt ≤ 500 := h 107 13
theorem ib107_3 {M : zM} (h : zIv cLo cHi M) : 0 ≤ (zI M 107 3).toInt ∧ (zI M 107 3).toInt ≤ 60 := h 107 3
theorem ib107_8 {M : zM} (h : zIv cLo cHi M) : 0 ≤ (zI M 107 8).toInt ∧ (zI M 107 8).toInt ≤ 12 := h 107 8
theorem ib108 {M : zM} (h : zIv cLo cHi M) (j : Nat) : (-2147483648) ≤ (zI M 108 j).toInt ∧ (zI M 108 j).toInt ≤ 2147483647 := h 108 j
theorem ib109 {M : zM} (h : zIv cLo cHi M) (j : Nat) : 0 ≤ (zI M 109 j).toInt ∧ (zI M 109 j).toInt ≤ 1 := h 109 j
theorem ib11 {M : zM} (h : zIv cLo cHi M) (j : Nat) : (-2147483648) ≤ (zI M 11 j).toInt ∧ (zI M 11 j).toInt ≤ 2147483647 := h 11 j
theorem ib110 {M : zM} (h : zIv cLo cHi M) (j : Nat) : 0 ≤ (zI M 110 j).toInt ∧ (zI M 110 j).toInt ≤ 7 := h 110 j
theorem ib111 {M : zM} (h : zIv cLo cHi M) (j : Nat) : (-2147483648) ≤ (zI M 111 j).toInt ∧ (zI M 111 j).toInt ≤ 2147483647 := h 111 j
theorem ib112 {M : zM} (h : zIv cLo cHi M) (j : Nat) : (-2147483648) ≤ (zI M 112 j).toInt ∧ (zI M 112 j).toInt ≤ 2147483647 := h 112 j
theorem ib113 {M : zM} (h : zIv cLo cHi M) (j : Nat) : (-2147483648) ≤ (zI M 113 j).toInt ∧ (zI M 113 j).toInt ≤ 2147483647 := h 113 j
theorem ib114 {M : zM} (h : zIv cLo cHi M) (j : Nat) : (-2147483648) ≤ (zI M 114 j).toInt ∧ (zI M 114 j).toInt ≤ 2147483647 := h 114 j
theorem ib115 {M : zM} (h : zIv cLo cHi M) (j : Nat) : (-2147483648) ≤ (zI M 115 j).toInt ∧ (zI M 115 j).toInt ≤ 2147483647 := h 115 j
theorem ib116 {M : zM} (h : zIv cLo cHi M) (j : Nat) : (-2147483648) ≤ (zI M 116 j).toInt ∧ (zI M 116 j).toInt ≤ 2147483647 := h 116 j
theorem ib117 {M : zM} (h : zIv cLo cHi M) (j : Nat) : (-2147483648) ≤ (zI M 117 j).toInt ∧ (zI M 117 j).toInt ≤ 2147483647 := h 117 j
theorem ib118 {M : zM} (h : zIv cLo cHi M) (j : Nat) : (-128) ≤ (zI M 118 j).toInt ∧ (zI M 118 j).toInt ≤ 127 := h 118 j
theorem ib119_0 {M : zM} (h : zIv cLo cHi M) : 0 ≤ (zI M 119 0).toInt ∧ (zI M 119 0).toInt ≤ 8 := h 119 0
theorem ib119_13 {M : zM} (h : zIv cLo cHi M) : 0 ≤ (zI M 119 13).toInt ∧ (zI M 119 13).toInt ≤ 500 := h 119 13
theorem ib119_3 {M : zM} (h : zIv cLo cHi M) : 0 ≤ (zI M 119 3).toInt ∧ (zI M 119 3).toInt ≤ 60 := h 119 3
theorem ib119_8 {M : zM} (h : zIv cLo cHi M) : 0 ≤ (zI M 119 8).toInt ∧ (zI M 119 8).toInt ≤ 12 := h 119 8
theorem ib12 {M : zM} (h : zIv cLo cHi M) (j : Nat) : (-2147483648) ≤ (zI M 12 j).toInt ∧ (zI M 12 j).toInt ≤ 2147483647 := h 12 j
theorem ib120 {M : zM} (h : zIv cLo cHi M) (j : Nat) : (-2147483648) ≤ (zI M 120 j).toInt ∧ (zI M 120 j).toInt ≤ 2147483647 := h 120 j
theorem ib121 {M : zM} (h : zIv cLo cHi M) (j : Nat) : 0 ≤ (zI M 121 j).toInt ∧ (zI M 121 j).toInt ≤ 1 := h 121 j
theorem ib122 {M : zM} (h : zIv cLo cHi M) (j : Nat) : 0 ≤ (zI M 122 j).toInt ∧ (zI M 122 j).toInt ≤ 7 := h 122 j
theorem ib123 {M : zM} (h : zIv cLo cHi M) (j : Nat) : (-2147483648) ≤ (zI M 123 j).toInt ∧ (zI M 123 j).toInt ≤ 2147483647 := h 123 j
theorem ib124 {M : zM} (h : zIv cLo cHi M) (j : Nat) : (-2147483648) ≤ (zI M 124 j).toInt ∧ (zI M 124 j).toInt ≤ 2147483647 := h 124 j
theorem ib125 {M : zM} (h : zIv cLo cHi M) (j : Nat) : (-2147483648) ≤ (zI M 125 j).toInt ∧ (zI M 125 j).toInt ≤ 2147483647 := h 125 j
theorem ib126 {M : zM} (h : zIv cLo cHi M) (j : Nat) : (-2147483648) ≤ (zI M 126 j).toInt ∧ (zI M 126 j).toInt ≤ 2147483647 := h 126 j
theorem ib127 {M : zM} (h : zIv cLo cHi M) (j : Nat) : (-2147483648) ≤ (zI M 127 j).toInt ∧ (zI M 127 j).toInt ≤ 2147483647 := h 127 j
theorem ib128 {M : zM} (h : zIv cLo cHi M) (j : Nat) : (-2147483648) ≤ (zI M 128 j).toInt ∧ (zI M 128 j).toInt ≤ 2147483647 := h 128 j
theorem ib129 {M : zM} (h : zIv cLo cHi M) (j : Nat) : (-2147483648) ≤ (zI M 129 j).toInt ∧ (zI M 129 j).toInt ≤ 2147483647 := h 129 j
theorem ib13 {M : zM} (h : zIv cLo cHi M) (j : Nat) : (-2147483648) ≤ (zI M 13 j).toInt ∧ (zI M 13 j).toInt ≤ 2147483647 := h 13 j
theorem ib130 {M : zM} (h : zIv cLo cHi M) (j : Nat) : (-128) ≤ (zI M 130 j).toInt ∧ (zI M 130 j).toInt ≤ 127 := h 130 j
theorem ib131_0 {M : zM} (h : zIv cLo cHi M) : 0 ≤ (zI M 131 0).toInt ∧ (zI M 131 0).toInt ≤ 8 := h 131 0
theorem ib131_13 {M : zM} (h : zIv cLo cHi M) : 0 ≤ (zI M 131 13).toInt ∧ (zI M 131 13).toInt ≤ 500 := h 131 13
theorem ib131_3 {M : zM} (h : zIv cLo cHi M) : 0 ≤ (zI M 131 3).toInt ∧ (zI M 131 3).toInt ≤ 60 := h 131 3
theorem ib131_8 {M : zM} (h : zIv cLo cHi M) : 0 ≤ (zI M 131 8).toInt ∧ (zI M 131 8).toInt ≤ 12 := h 131 8
theorem ib132 {M : zM} (h : zIv cLo cHi M) (j : Nat) : (-2147483648) ≤ (zI M 132 j).toInt ∧ (zI M 132 j).toInt ≤ 2147483647 := h 132 j
theorem ib133 {M : zM} (h : zIv cLo cHi M) (j : Nat) : 0 ≤ (zI M 133 j).toInt ∧ (zI M 133 j).toInt ≤ 1 := h 133 j
theorem ib134 {M : zM} (h : zIv cLo cHi M) (j : Nat) : 0 ≤ (zI M 134 j).toInt ∧ (zI M 134 j).toInt ≤ 7 := h 134 j
theorem ib135 {M : zM} (h : zIv cLo cHi M) (j : Nat) : (-2147483648) ≤ (zI M 135 j).toInt ∧ (zI M 135 j).toInt ≤ 2147483647 := h 135 j
theorem ib136 {M : zM} (h : zIv cLo cHi M) (j : Nat) : (-2147483648) ≤ (zI M 136 j).toInt ∧ (zI M 136 j).toInt ≤ 2147483647 := h 136 j
theorem ib137 {M : zM} (h : zIv cLo cHi M) (j : Nat) : (-2147483648) ≤ (zI M 137 j).toInt ∧ (zI M 137 j).toInt ≤ 2147483647 := h 137 j
theorem ib138 {M : zM} (h : zIv cLo cHi M) (j : Nat) : (-2147483648) ≤ (zI M 138 j).toInt ∧ (zI M 138 j).toInt ≤ 2147483647 := h 138 j
theorem ib139 {M : zM} (h : zIv cLo cHi M) (j : Nat) : (-2147483648) ≤ (zI M 139 j).toInt ∧ (zI M 139 j).toInt ≤ 2147483647 := h 139 j
theorem ib14 {M : zM} (h : zIv cLo cHi M) (j : Nat) : (-2147483648) ≤ (zI M 14 j).toInt ∧ (zI M 14 j).toInt ≤ 2147483647 := h 14 j
theorem ib140 {M : zM} (h : zIv cLo cHi M) (j : Nat) : (-2147483648) ≤ (zI M 140 j).toInt ∧ (zI M 140 j).toInt ≤ 2147483647 := h 140 j
theorem ib141 {M : zM} (h : zIv cLo cHi M) (j : Nat) : (-2147483648) ≤ (zI M 141 j).toInt ∧ (zI M 141 j).toInt ≤ 2147483647 := h 141 j
theorem ib142 {M : zM} (h : zIv cLo cHi M) (j : Nat) : (-128) ≤ (zI M 142 j).toInt ∧ (zI M 142 j).toInt ≤ 127 := h 142 j
theorem ib143_0 {M : zM} (h : zIv cLo cHi M) : 0 ≤ (zI M 143 0).toInt ∧ (zI M 143 0).toInt ≤ 8 := h 143 0
theorem ib143_13 {M : zM} (h : zIv cLo cHi M) : 0 ≤ (zI M 143 13).toInt ∧ (zI M 143 13).toInt ≤ 500 := h 143 13
theorem ib143_3 {M : zM} (h : zIv cLo cHi M) : 0 ≤ (zI M 143 3).toInt ∧ (zI M 143 3).toInt ≤ 60 := h 143 3
theorem ib143_8 {M : zM} (h : zIv cLo cHi M) : 0 ≤ (zI M 143 8).toInt ∧ (zI M 143 8).toInt ≤ 12 := h 143 8
theorem ib144 {M : zM} (h : zIv cLo cHi M) (j : Nat) : (-2147483648) ≤ (zI M 144 j).toInt ∧ (zI M 144 j).toInt ≤ 2147483647 := h 144 j
theorem ib145 {M : zM} (h : zIv cLo cHi M) (j : Nat) : 0 ≤ (zI M 145 j).toInt ∧ (zI M 145 j).toInt ≤ 1 := h 145 j
theorem ib146 {M : zM} (h : zIv cLo cHi M) (j : Nat) : 0 ≤ (zI M 146 j).toInt ∧ (zI M 146 j).toInt ≤ 7 := h 146 j
theorem ib147 {M : zM} (h : zIv cLo cHi M) (j : Nat) : (-2147483648) ≤ (zI M 147 j).toInt ∧ (zI M 147 j).toInt ≤ 2147483647 := h 147 j
theorem ib148 {M : zM} (h : zIv cLo cHi M) (j : Nat) : (-2147483648) ≤ (zI M 148 j).toInt ∧ (zI M 148 j).toInt ≤ 2147483647 := h 148 j
theorem ib149 {M : zM} (h : zIv cLo cHi M) (j : Nat) : (-2147483648) ≤ (zI M 149 j).toInt ∧ (zI M 149 j).toInt ≤ 2147483647 := h 149 j
theorem ib15 {M : zM} (h : zIv cLo cHi M) (j : Nat) : (-2147483648) ≤ (zI M 15 j).toInt ∧ (zI M 15 j).toInt ≤ 2147483647 := h 15 j
theorem ib150 {M : zM} (h : zIv cLo cHi M) (j : Nat) : (-2147483648) ≤ (zI M 150 j).toInt ∧ (zI M 150 j).toInt ≤ 2147483647 := h 150 j
theorem ib151 {M : zM} (h : zIv cLo cHi M) (j : Nat) : (-2147483648) ≤ (zI M 151 j).toInt ∧ (zI M 151 j).toInt ≤ 2147483647 := h 151 j
theorem ib152 {M : zM} (h : zIv cLo cHi M) (j : Nat) : (-2147483648) ≤ (zI M 152 j).toInt ∧ (zI M 152 j).toInt ≤ 2147483647 := h 152 j
theorem ib153 {M : zM} (h : zIv cLo cHi M) (j : Nat) : (-2147483648) ≤ (zI M 153 j).toInt ∧ (zI M 153 j).toInt ≤ 2147483647 := h 153 j
theorem ib154 {M : zM} (h : zIv cLo cHi M) (j : Nat) : (-128) ≤ (zI M 154 j).toInt ∧ (zI M 154 j).toInt ≤ 127 := h 154 j
theorem ib155_1 {M : zM} (h : zIv cLo cHi M) : 0 ≤ (zI M 155 1).toInt ∧ (zI M 155 1).toInt ≤ 500 := h 155 1
theorem ib155_2 {M : zM} (h : zIv cLo cHi M) : (-2147483648) ≤ (zI M 155 2).toInt ∧ (zI M 155 2).toInt ≤ 2147483647 := h 155 2
theorem ib155_4 {M : zM} (h : zIv cLo cHi M) : (-2147483648) ≤ (zI M 155 4).toInt ∧ (zI M 155 4).toInt ≤ 2147483647 := h 155 4
theorem ib155_5 {M : zM} (h : zIv cLo cHi M) : (-2147483648) ≤ (zI M 155 5).toInt ∧ (zI M 155 5).toInt ≤ 2147483647 := h 155 5
theorem ib156 {M : zM} (h : zIv cLo cHi M) (j : Nat) : (-128) ≤ (zI M 156 j).toInt ∧ (zI M 156 j).toInt ≤ 127 := h 156 j
theorem ib158 {M : zM} (h : zIv cLo cHi M) (j : Nat) : (-2147483648) ≤ (zI M 158 j).toInt ∧ (zI M 158 j).toInt ≤ 2147483647 := h 158 j
theorem ib16 {M : zM} (h : zIv cLo cHi M) (j : Nat) : (-2147483648) ≤ (zI M 16 j).toInt ∧ (zI M 16 j).toInt ≤ 2147483647 := h 16 j
theorem ib17 {M : zM} (h : zIv cLo cHi M) (j : Nat) : (-2147483648) ≤ (zI M 17 j).toInt ∧ (zI M 17 j).toInt ≤ 2147483647 := h 17 j
theorem ib18 {M : zM} (h : zIv cLo cHi M) (j : Nat) : (-128) ≤ (zI M 18 j).toInt ∧ (zI M 18 j).toInt ≤ 127 := h 18 j
theorem ib19_0 {M : zM} (h : zIv cLo cHi M) : 0 ≤ (zI M 19 0).toInt ∧ (zI M 19 0).toInt ≤ 8 := h 19 0
theorem ib19_13 {M : zM} (h : zIv cLo cHi M) : 0 ≤ (zI M 19 13).toInt ∧ (zI M 19 13).toInt ≤ 500 := h 19 13
theorem ib19_3 {M : zM} (h : zIv cLo cHi M) : 0 ≤ (zI M 19 3).toInt ∧ (zI M 19 3).toInt ≤ 60 := h 19 3
theorem ib19_8 {M : zM} (h : zIv cLo cHi M) : 0 ≤ (zI M 19 8).toInt ∧ (zI M 19 8).toInt ≤ 12 := h 19 8
theorem ib2 {M : zM} (h : zIv cLo cHi M) (j : Nat) : (-2147483648) ≤ (zI M 2 j).toInt ∧ (zI M 2 j).toInt ≤ 2147483647 := h 2 j
theorem ib20 {M : zM} (h : zIv cLo cHi M) (j : Nat) : (-2147483648) ≤ (zI M 20 j).toInt ∧ (zI M 20 j).toInt ≤ 2147483647 := h 20 j
theorem ib21 {M : zM} (h : zIv cLo cHi M) (j : Nat) : 0 ≤ (zI M 21 j).toInt ∧ (zI M 21 j).toInt ≤ 1 := h 21 j
theorem ib22 {M : zM} (h : zIv cLo cHi M) (j : Nat) : 0 ≤ (zI M 22 j).toInt ∧ (zI M 22 j).toInt ≤ 7 := h 22 j
theorem ib23 {M : zM} (h : zIv cLo cHi M) (j : Nat) : (-2147483648) ≤ (zI M 23 j).toInt ∧ (zI M 23 j).toInt ≤ 2147483647 := h 23 j
theorem ib24 {M : zM} (h : zIv cLo cHi M) (j : Nat) : (-2147483648) ≤ (zI M 24 j).toInt ∧ (zI M 24 j).toInt ≤ 2147483647 := h 24 j
theorem ib25 {M : zM} (h : zIv cLo cHi M) (j : Nat) : (-2147483648) ≤ (zI M 25 j).toInt ∧ (zI M 25 j).toInt ≤ 2147483647 := h 25 j
theorem ib26 {M : zM} (h : zIv cLo cHi M) (j : Nat) : (-2147483648) ≤ (zI M 26 j).toInt ∧ (zI M 26 j).toInt ≤ 2147483647 := h 26 j
theorem ib27 {M : zM} (h : zIv cLo cHi M) (j : Nat) : (-2147483648) ≤ (zI M 27 j).toInt ∧ (zI M 27 j).toInt ≤ 2147483647 := h 27 j
theorem ib28 {M : zM} (h : zIv cLo cHi M) (j : Nat) : (-2147483648) ≤ (zI M 28 j).toInt ∧ (zI M 28 j).toInt ≤ 2147483647 := h 28 j
theorem ib29 {M : zM} (h : zIv cLo cHi M) (j : Nat) : (-2147483648) ≤ (zI M 29 j).toInt ∧ (zI M 29 j).toInt ≤ 2147483647 := h 29 j
theorem ib3 {M : zM} (h : zIv cLo cHi M) (j : Nat) : (-2147483648) ≤ (zI M 3 j).toInt ∧ (zI M 3 j).toInt ≤ 2147483647 := h 3 j
theorem ib30 {M : zM} (h : zIv cLo cHi M) (j : Nat) : (-128) ≤ (zI M 30 j).toInt ∧ (zI M 30 j).toInt ≤ 127 := h 30 j
theorem ib35_0 {M : zM} (h : zIv cLo cHi M) : 0 ≤ (zI M 35 0).toInt ∧ (zI M 35 0).toInt ≤ 8 := h 35 0
theorem ib35_13 {M : zM} (h : zIv cLo cHi M) : 0 ≤ (zI M 35 13).toInt ∧ (zI M 35 13).toInt ≤ 500 := h 35 13
theorem ib35_3 {M : zM} (h : zIv cLo cHi M) : 0 ≤ (zI M 35 3).toInt ∧ (zI M 35 3).toInt ≤ 60 := h 35 3
theorem ib35_8 {M : zM} (h : zIv cLo cHi M) : 0 ≤ (zI M 35 8).toInt ∧ (zI M 35 8).toInt ≤ 12 := h 35 8
theorem ib36 {M : zM} (h : zIv cLo cHi M) (j : Nat) : (-2147483648) ≤ (zI M 36 j).toInt ∧ (zI M 36 j).toInt ≤ 2147483647 := h 36 j
theorem ib37 {M : zM} (h : zIv cLo cHi M) (j : Nat) : 0 ≤ (zI M 37 j).toInt ∧ (zI M 37 j).toInt ≤ 1 := h 37 j
theorem ib38 {M : zM} (h : zIv cLo cHi M) (j : Nat) : 0 ≤ (zI M 38 j).toInt ∧ (zI M 38 j).toInt ≤ 7 := h 38 j
theorem ib39 {M : zM} (h : zIv cLo cHi M) (j : Nat) : (-2147483648) ≤ (zI M 39 j).toInt ∧ (zI M 39 j).toInt ≤ 2147483647 := h 39 j
theorem ib40 {M : zM} (h : zIv cLo cHi M) (j : Nat) : (-2147483648) ≤ (zI M 40 j).toInt ∧ (zI M 40 j).toInt ≤ 2147483647 := h 40 j
theorem ib41 {M : zM} (h : zIv cLo cHi M) (j : Nat) : (-2147483648) ≤ (zI M 41 j).toInt ∧ (zI M 41 j).toInt ≤ 2147483647 := h 41 j
theorem ib42 {M : zM} (h : zIv cLo cHi M) (j : Nat) : (-2147483648) ≤ (zI M 42 j).toInt ∧ (zI M 42 j).toInt ≤ 2147483647 := h 42 j
theorem ib43 {M : zM} (h : zIv cLo cHi M) (j : Nat) : (-2147483648) ≤ (zI M 43 j).toInt ∧ (zI M 43 j).toInt ≤ 2147483647 := h 43 j
theorem ib44 {M : zM} (h : zIv cLo cHi M) (j : Nat) : (-2147483648) ≤ (zI M 44 j).toInt ∧ (zI M 44 j).toInt ≤ 2147483647 := h 44 j
theorem ib45 {M : zM} (h : zIv cLo cHi M) (j : Nat) : (-2147483648) ≤ (zI M 45 j).toInt ∧ (zI M 45 j).toInt ≤ 2147483647 := h 45 j
theorem ib46 {M : zM} (h : zIv cLo cHi M) (j : Nat) : (-128) ≤ (zI M 46 j).toInt ∧ (zI M 46 j).toInt ≤ 127 := h 46 j
theorem ib47_0 {M : zM} (h : zIv cLo cHi M) : 0 ≤ (zI M 47 0).toInt ∧ (zI M 47 0).toInt ≤ 8 := h 47 0
theorem ib47_13 {M : zM} (h : zIv cLo cHi M) : 0 ≤ (zI M 47 13).toInt ∧ (zI M 47 13).toInt ≤ 500 := h 47 13
theorem ib47_3 {M : zM} (h : zIv cLo cHi M) : 0 ≤ (zI M 47 3).toInt ∧ (zI M 47 3).toInt ≤ 60 := h 47 3
theorem ib47_8 {M : zM} (h : zIv cLo cHi M) : 0 ≤ (zI M 47 8).toInt ∧ (zI M 47 8).toInt ≤ 12 := h 47 8
theorem ib48 {M : zM} (h : zIv cLo cHi M) (j : Nat) : (-2147483648) ≤ (zI M 48 j).toInt ∧ (zI M 48 j).toInt ≤ 2147483647 := h 48 j
theorem ib49 {M : zM} (h : zIv cLo cHi M) (j : Nat) : 0 ≤ (zI M 49 j).toInt ∧ (zI M 49 j).toInt ≤ 1 := h 49 j
theorem ib50 {M : zM} (h : zIv cLo cHi M) (j : Nat) : 0 ≤ (zI M 50 j).toInt ∧ (zI M 50 j).toInt ≤ 7 := h 50 j
theorem ib51 {M : zM} (h : zIv cLo cHi M) (j : Nat) : (-2147483648) ≤ (zI M 51 j).toInt ∧ (zI M 51 j).toInt ≤ 2147483647 := h 51 j
theorem ib52 {M : zM} (h : zIv cLo cHi M) (j : Nat) : (-2147483648) ≤ (zI M 52 j).toInt ∧ (zI M 52 j).toInt ≤ 2147483647 := h 52 j
theorem ib53 {M : zM} (h : zIv cLo cHi M) (j : Nat) : (-2147483648) ≤ (zI M 53 j).toInt ∧ (zI M 53 j).toInt ≤ 2147483647 := h 53 j
theorem ib54 {M : zM} (h : zIv cLo cHi M) (j : Nat) : (-2147483648) ≤ (zI M 54 j).toInt ∧ (zI M 54 j).toInt ≤ 2147483647 := h 54 j
theorem ib55 {M : zM} (h : zIv cLo cHi M) (j : Nat) : (-2147483648) ≤ (zI M 55 j).toInt ∧ (zI M 55 j).toInt ≤ 2147483647 := h 55 j
theorem ib56 {M : zM} (h : zIv cLo cHi M) (j : Nat) : (-2147483648) ≤ (zI M 56 j).toInt ∧ (zI M 56 j).toInt ≤ 2147483647 := h 56 j
theorem ib57 {M : zM} (h : zIv cLo cHi M) (j : Nat) : (-2147483648) ≤ (zI M 57 j).toInt ∧ (zI M 57 j).toInt ≤ 2147483647 := h 57 j
theorem ib58 {M : zM} (h : zIv cLo cHi M) (j : Nat) : (-128) ≤ (zI M 58 j).toInt ∧ (zI M 58 j).toInt ≤ 127 := h 58 j
theorem ib59_0 {M : zM} (h : zIv cLo cHi M) : 0 ≤ (zI M 59 0).toInt ∧ (zI M 59 0).toInt ≤ 8 := h 59 0
theorem ib59_13 {M : zM} (h : zIv cLo cHi M) : 0 ≤ (zI M 59 13).toInt ∧ (zI M 59 13).toInt ≤ 500 := h 59 13
theorem ib59_3 {M : zM} (h : zIv cLo cHi M) : 0 ≤ (zI M 59 3).toInt ∧ (zI M 59 3).toInt ≤ 60 := h 59 3
theorem ib59_8 {M : zM} (h : zIv cLo cHi M) : 0 ≤ (zI M 59 8).toInt ∧ (zI M 59 8).toInt ≤ 12 := h 59 8
theorem ib60 {M : zM} (h : zIv cLo cHi M) (j : Nat) : (-2147483648) ≤ (zI M 60 j).toInt ∧ (zI M 60 j).toInt ≤ 2147483647 := h 60 j
theorem ib61 {M : zM} (h : zIv cLo cHi M) (j : Nat) : 0 ≤ (zI M 61 j).toInt ∧ (zI M 61 j).toInt ≤ 1 := h 61 j
theorem ib62 {M : zM} (h : zIv cLo cHi M) (j : Nat) : 0 ≤ (zI M 62 j).toInt ∧ (zI M 62 j).toInt ≤ 7 := h 62 j
theorem ib63 {M : zM} (h : zIv cLo cHi M) (j : Nat) : (-2147483648) ≤ (zI M 63 j).toInt ∧ (zI M 63 j).toInt ≤ 2147483647 := h 63 j
theorem ib64 {M : zM} (h : zIv cLo cHi M) (j : Nat) : (-2147483648) ≤ (zI M 64 j).toInt ∧ (zI M 64 j).toInt ≤ 2147483647 := h 64 j
theorem ib65 {M : zM} (h : zIv cLo cHi M) (j : Nat) : (-2147483648) ≤ (zI M 65 j).toInt ∧ (zI M 65 j).toInt ≤ 2147483647 := h 65 j
theorem ib66 {M : zM} (h : zIv cLo cHi M) (j : Nat) : (-2147483648) ≤ (zI M 66 j).toInt ∧ (zI M 66 j).toInt ≤ 2147483647 := h 66 j
theorem ib67 {M : zM} (h : zIv cLo cHi M) (j : Nat) : (-2147483648) ≤ (zI M 67 j).toInt ∧ (zI M 67 j).toInt ≤ 2147483647 := h 67 j
theorem ib68 {M : zM} (h : zIv cLo cHi M) (j : Nat) : (-2147483648) ≤ (zI M 68 j).toInt ∧ (zI M 68 j).toInt ≤ 2147483647 := h 68 j
theorem ib69 {M : zM} (h : zIv cLo cHi M) (j : Nat) : (-2147483648) ≤ (zI M 69 j).toInt ∧ (zI M 69 j).toInt ≤ 2147483647 := h 69 j
theorem ib70 {M : zM} (h : zIv cLo cHi M) (j : Nat) : (-128) ≤ (zI M 70 j).toInt ∧ (zI M 70 j).toInt ≤ 127 := h 70 j
theorem ib71_0 {M : zM} (h : zIv cLo cHi M) : 0 ≤ (zI M 71 0).toInt ∧ (zI M 71 0).toInt ≤ 8 := h 71 0
theorem ib71_13 {M : zM} (h : zIv cLo cHi M) : 0 ≤ (zI M 71 13).toInt ∧ (zI M 71 13).toInt ≤ 500 := h 71 13
theorem ib71_3 {M : zM} (h : zIv cLo cHi M) : 0 ≤ (zI M 71 3).toInt ∧ (zI M 71 3).toInt ≤ 60 := h 71 3
theorem ib71_8 {M : zM} (h : zIv cLo cHi M) : 0 ≤ (zI M 71 8).toInt ∧ (zI M 71 8).toInt ≤ 12 := h 71 8
theorem ib72 {M : zM} (h : zIv cLo cHi M) (j : Nat) : (-2147483648) ≤ (zI M 72 j).toInt ∧ (zI M 72 j).toInt ≤ 2147483647 := h 72 j
theorem ib73 {M : zM} (h : zIv cLo cHi M) (j : Nat) : 0 ≤ (zI M 73 j).toInt ∧ (zI M 73 j).toInt ≤ 1 := h 73 j
theorem ib74 {M : zM} (h : zIv cLo cHi M) (j : Nat) : 0 ≤ (zI M 74 j).toInt ∧ (zI M 74 j).toInt ≤ 7 := h 74 j
theorem ib75 {M : zM} (h : zIv cLo cHi M) (j : Nat) : (-2147483648) ≤ (zI M 75 j).toInt ∧ (zI M 75 j).toInt ≤ 2147483647 := h 75 j
theorem ib76 {M : zM} (h : zIv cLo cHi M) (j : Nat) : (-2147483648) ≤ (zI M 76 j).toInt ∧ (zI M 76 j).toInt ≤ 2147483647 := h 76 j
theorem ib77 {M : zM} (h : zIv cLo cHi M) (j : Nat) : (-2147483648) ≤ (zI M 77 j).toInt ∧ (zI M 77 j).toInt ≤ 2147483647 := h 77 j
theorem ib78 {M : zM} (h : zIv cLo cHi M) (j : Nat) : (-2147483648) ≤ (zI M 78 j).toInt ∧ (zI M 78 j).toInt ≤ 2147483647 := h 78 j
theorem ib79 {M : zM} (h : zIv cLo cHi M) (j : Nat) : (-2147483648) ≤ (zI M 79 j).toInt ∧ (zI M 79 j).toInt ≤ 2147483647 := h 79 j
theorem ib7_0 {M : zM} (h : zIv cLo cHi M) : 0 ≤ (zI M 7 0).toInt ∧ (zI M 7 0).toInt ≤ 8 := h 7 0
theorem ib7_13 {M : zM} (h : zIv cLo cHi M) : 0 ≤ (zI M 7 13).toInt ∧ (zI M 7 13).toInt ≤ 500 := h 7 13
theorem ib7_3 {M : zM} (h : zIv cLo cHi M) : 0 ≤ (zI M 7 3).toInt ∧ (zI M 7 3).toInt ≤ 60 := h 7 3
theorem ib7_8 {M : zM} (h : zIv cLo cHi M) : 0 ≤ (zI M 7 8).toInt ∧ (zI M 7 8).toInt ≤ 12 := h 7 8
theorem ib8 {M : zM} (h : zIv cLo cHi M) (j : Nat) : (-2147483648) ≤ (zI M 8 j).toInt ∧ (zI M 8 j).toInt ≤ 2147483647 := h 8 j
theorem ib80 {M : zM} (h : zIv cLo cHi M) (j : Nat) : (-2147483648) ≤ (zI M 80 j).toInt ∧ (zI M 80 j).toInt ≤ 2147483647 := h 80 j
theorem ib81 {M : zM} (h : zIv cLo cHi M) (j : Nat) : (-2147483648) ≤ (zI M 81 j).toInt ∧ (zI M 81 j).toInt ≤ 2147483647 := h 81 j
theorem ib82 {M : zM} (h : zIv cLo cHi M) (j : Nat) : (-128) ≤ (zI M 82 j).toInt ∧ (zI M 82 j).toInt ≤ 127 := h 82 j
theorem ib83_0 {M : zM} (h : zIv cLo cHi M) : 0 ≤ (zI M 83 0).toInt ∧ (zI M 83 0).toInt ≤ 8 := h 83 0
theorem ib83_13 {M : zM} (h : zIv cLo cHi M) : 0 ≤ (zI M 83 13).toInt ∧ (zI M 83 13).toInt ≤ 500 := h 83 13
theorem ib83_3 {M : zM} (h : zIv cLo cHi M) : 0 ≤ (zI M 83 3).toInt ∧ (zI M 83 3).toInt ≤ 60 := h 83 3
theorem ib83_8 {M : zM} (h : zIv cLo cHi M) : 0 ≤ (zI M 83 8).toInt ∧ (zI M 83 8).toInt ≤ 12 := h 83 8
theorem ib84 {M : zM} (h : zIv cLo cHi M) (j : Nat) : (-2147483648) ≤ (zI M 84 j).toInt ∧ (zI M 84 j).toInt ≤ 2147483647 := h 84 j
theorem ib85 {M : zM} (h : zIv cLo cHi M) (j : Nat) : 0 ≤ (zI M 85 j).toInt ∧ (zI M 85 j).toInt ≤ 1 := h 85 j
theorem ib86 {M : zM} (h : zIv cLo cHi M) (j : Nat) : 0 ≤ (zI M 86 j).toInt ∧ (zI M 86 j).toInt ≤ 7 := h 86 j
theorem ib87 {M : zM} (h : zIv cLo cHi M) (j : Nat) : (-2147483648) ≤ (zI M 87 j).toInt ∧ (zI M 87 j).toInt ≤ 2147483647 := h 87 j
theorem ib88 {M : zM} (h : zIv cLo cHi M) (j : Nat) : (-2147483648) ≤ (zI M 88 j).toInt ∧ (zI M 88 j).toInt ≤ 2147483647 := h 88 j
theorem ib89 {M : zM} (h : zIv cLo cHi M) (j : Nat) : (-2147483648) ≤ (zI M 89 j).toInt ∧ (zI M 89 j).toInt ≤ 2147483647 := h 89 j
theorem ib9 {M : zM} (h : zIv cLo cHi M) (j : Nat) : 0 ≤ (zI M 9 j).toInt ∧ (zI M 9 j).toInt ≤ 1 := h 9 j
theorem ib90 {M : zM} (h : zIv cLo cHi M) (j : Nat) : (-2147483648) ≤ (zI M 90 j).toInt ∧ (zI M 90 j).toInt ≤ 2147483647 := h 90 j
theorem ib91 {M : zM} (h : zIv cLo cHi M) (j : Nat) : (-2147483648) ≤ (zI M 91 j).toInt ∧ (zI M 91 j).toInt ≤ 2147483647 := h 91 j
theorem ib92 {M : zM} (h : zIv cLo cHi M) (j : Nat) : (-2147483648) ≤ (zI M 92 j).toInt ∧ (zI M 92 j).toInt ≤ 2147483647 := h 92 j
theorem ib93 {M : zM} (h : zIv cLo cHi M) (j : Nat) : (-2147483648) ≤ (zI M 93 j).toInt ∧ (zI M 93 j).toInt ≤ 2147483647 := h 93 j
theorem ib94 {M : zM} (h : zIv cLo cHi M) (j : Nat) : (-128) ≤ (zI M 94 j).toInt ∧ (zI M 94 j).toInt ≤ 127 := h 94 j
theorem ib95_0 {M : zM} (h : zIv cLo cHi M) : 0 ≤ (zI M 95 0).toInt ∧ (zI M 95 0).toInt ≤ 8 := h 95 0
theorem ib95_13 {M : zM} (h : zIv cLo cHi M) : 0 ≤ (zI M 95 13).toInt ∧ (zI M 95 13).toInt ≤ 500 := h 95 13
theorem ib95_3 {M : zM} (h : zIv cLo cHi M) : 0 ≤ (zI M 95 3).toInt ∧ (zI M 95 3).toInt ≤ 60 := h 95 3
theorem ib95_8 {M : zM} (h : zIv cLo cHi M) : 0 ≤ (zI M 95 8).toInt ∧ (zI M 95 8).toInt ≤ 12 := h 95 8
theorem ib96 {M : zM} (h : zIv cLo cHi M) (j : Nat) : (-2147483648) ≤ (zI M 96 j).toInt ∧ (zI M 96 j).toInt ≤ 2147483647 := h 96 j
theorem ib97 {M : zM} (h : zIv cLo cHi M) (j : Nat) : 0 ≤ (zI M 97 j).toInt ∧ (zI M 97 j).toInt ≤ 1 := h 97 j
theorem ib98 {M : zM} (h : zIv cLo cHi M) (j : Nat) : 0 ≤ (zI M 98 j).toInt ∧ (zI M 98 j).toInt ≤ 7 := h 98 j
theorem ib99 {M : zM} (h : zIv cLo cHi M) (j : Nat) : (-2147483648) ≤ (zI M 99 j).toInt ∧ (zI M 99 j).toInt ≤ 2147483647 := h 99 j
