theorem ib129 {M : zM} (h : zIv cLo cHi M) (j : Nat) : (-300000) ≤ (zI M 129 j).toInt ∧ (zI M 129 j).toInt ≤ 300000 := h 129 j
theorem ib13 {M : zM} (h : zIv cLo cHi M) (j : Nat) : (-2147483648) ≤ (zI M 13 j).toInt ∧ (zI M 13 j).toInt ≤ 2147483647 := h 13 j
theorem ib130 {M : zM} (h : zIv cLo cHi M) (j : Nat) : (-128) ≤ (zI M 130 j).toInt ∧ (zI M 130 j).toInt ≤ 127 := h 130 j
theorem ib131_0 {M : zM} (h : zIv cLo cHi M) : 0 ≤ (zI M 131 0).toInt ∧ (zI M 131 0).toInt ≤ 8 := h 131 0
theorem ib131_13 {M : zM} (h : zIv cLo cHi M) : 0 ≤ (zI M 131 13).toInt ∧ (zI M 131 13).toInt ≤ 500 := h 131 13
theorem ib131_3 {M : zM} (h : zIv cLo cHi M) : 0 ≤ (zI M 131 3).toInt ∧ (zI M 131 3).toInt ≤ 60 := h 131 3
theorem ib131_8 {M : zM} (h : zIv cLo cHi M) : 0 ≤ (zI M 131 8).toInt ∧ (zI M 131 8).toInt ≤ 12 := h 131 8
theorem ib133 {M : zM} (h : zIv cLo cHi M) (j : Nat) : 0 ≤ (zI M 133 j).toInt ∧ (zI M 133 j).toInt ≤ 1 := h 133 j
theorem ib134 {M : zM} (h : zIv cLo cHi M) (j : Nat) : 0 ≤ (zI M 134 j).toInt ∧ (zI M 134 j).toInt ≤ 7 := h 134 j
theorem ib141 {M : zM} (h : zIv cLo cHi M) (j : Nat) : (-300000) ≤ (zI M 141 j).toInt ∧ (zI M 141 j).toInt ≤ 300000 := h 141 j
theorem ib142 {M : zM} (h : zIv cLo cHi M) (j : Nat) : (-128) ≤ (zI M 142 j).toInt ∧ (zI M 142 j).toInt ≤ 127 := h 142 j
theorem ib143_0 {M : zM} (h : zIv cLo cHi M) : 0 ≤ (zI M 143 0).toInt ∧ (zI M 143 0).toInt ≤ 8 := h 143 0
theorem ib143_13 {M : zM} (h : zIv cLo cHi M) : 0 ≤ (zI M 143 13).toInt ∧ (zI M 143 13).toInt ≤ 500 := h 143 13
theorem ib143_3 {M : zM} (h : zIv cLo cHi M) : 0 ≤ (zI M 143 3).toInt ∧ (zI M 143 3).toInt ≤ 60 := h 143 3
theorem ib143_8 {M : zM} (h : zIv cLo cHi M) : 0 ≤ (zI M 143 8).toInt ∧ (zI M 143 8).toInt ≤ 12 := h 143 8
theorem ib145 {M : zM} (h : zIv cLo cHi M) (j : Nat) : 0 ≤ (zI M 145 j).toInt ∧ (zI M 145 j).toInt ≤ 1 := h 145 j
theorem ib146 {M : zM} (h : zIv cLo cHi M) (j : Nat) : 0 ≤ (zI M 146 j).toInt ∧ (zI M 146 j).toInt ≤ 7 := h 146 j
theorem ib153 {M : zM} (h : zIv cLo cHi M) (j : Nat) : (-300000) ≤ (zI M 153 j).toInt ∧ (zI M 153 j).toInt ≤ 300000 := h 153 j
theorem ib154 {M : zM} (h : zIv cLo cHi M) (j : Nat) : (-128) ≤ (zI M 154 j).toInt ∧ (zI M 154 j).toInt ≤ 127 := h 154 j
theorem ib155_1 {M : zM} (h : zIv cLo cHi M) : 0 ≤ (zI M 155 1).toInt ∧ (zI M 155 1).toInt ≤ 500 := h 155 1
theorem ib155_4 {M : zM} (h : zIv cLo cHi M) : (-300000) ≤ (zI M 155 4).toInt ∧ (zI M 155 4).toInt ≤ 300000 := h 155 4
theorem ib156 {M : zM} (h : zIv cLo cHi M) (j : Nat) : (-128) ≤ (zI M 156 j).toInt ∧ (zI M 156 j).toInt ≤ 127 := h 156 j
theorem ib164_0 {M : zM} (h : zIv cLo cHi M) : 0 ≤ (zI M 164 0).toInt ∧ (zI M 164 0).toInt ≤ 1 := h 164 0
theorem ib164_4 {M : zM} (h : zIv cLo cHi M) : 0 ≤ (zI M 164 4).toInt ∧ (zI M 164 4).toInt ≤ 20 := h 164 4
theorem ib164_5 {M : zM} (h : zIv cLo cHi M) : 0 ≤ (zI M 164 5).toInt ∧ (zI M 164 5).toInt ≤ 12 := h 164 5
theorem ib164_9 {M : zM} (h : zIv cLo cHi M) : 0 ≤ (zI M 164 9).toInt ∧ (zI M 164 9).toInt ≤ 20 := h 164 9
theorem ib165_2 {M : zM} (h : zIv cLo cHi M) : 0 ≤ (zI M 165 2).toInt ∧ (zI M 165 2).toInt ≤ 20 := h 165 2
theorem ib166_0 {M : zM} (h : zIv cLo cHi M) : 0 ≤ (zI M 166 0).toInt ∧ (zI M 166 0).toInt ≤ 287 := h 166 0
theorem ib166_15 {M : zM} (h : zIv cLo cHi M) : 0 ≤ (zI M 166 15).toInt ∧ (zI M 166 15).toInt ≤ 60 := h 166 15
theorem ib166_5 {M : zM} (h : zIv cLo cHi M) : 1 ≤ (zI M 166 5).toInt ∧ (zI M 166 5).toInt ≤ 2147483647 := h 166 5
theorem ib166_6 {M : zM} (h : zIv cLo cHi M) : 0 ≤ (zI M 166 6).toInt ∧ (zI M 166 6).toInt ≤ 60 := h 166 6
theorem ib167 {M : zM} (h : zIv cLo cHi M) (j : Nat) : (-3) ≤ (zI M 167 j).toInt ∧ (zI M 167 j).toInt ≤ 3 := h 167 j
theorem ib168 {M : zM} (h : zIv cLo cHi M) (j : Nat) : (-20) ≤ (zI M 168 j).toInt ∧ (zI M 168 j).toInt ≤ 20 := h 168 j
theorem ib17 {M : zM} (h : zIv cLo cHi M) (j : Nat) : (-300000) ≤ (zI M 17 j).toInt ∧ (zI M 17 j).toInt ≤ 300000 := h 17 j
theorem ib171 {M : zM} (h : zIv cLo cHi M) (j : Nat) : 0 ≤ (zI M 171 j).toInt ∧ (zI M 171 j).toInt ≤ 59 := h 171 j
theorem ib172 {M : zM} (h : zIv cLo cHi M) (j : Nat) : 0 ≤ (zI M 172 j).toInt ∧ (zI M 172 j).toInt ≤ 7 := h 172 j
theorem ib175 {M : zM} (h : zIv cLo cHi M) (j : Nat) : (-2147483648) ≤ (zI M 175 j).toInt ∧ (zI M 175 j).toInt ≤ 2147483647 := h 175 j
theorem ib177 {M : zM} (h : zIv cLo cHi M) (j : Nat) : (-2147483648) ≤ (zI M 177 j).toInt ∧ (zI M 177 j).toInt ≤ 2147483647 := h 177 j
theorem ib178 {M : zM} (h : zIv cLo cHi M) (j : Nat) : 0 ≤ (zI M 178 j).toInt ∧ (zI M 178 j).toInt ≤ 127 := h 178 j
theorem ib18 {M : zM} (h : zIv cLo cHi M) (j : Nat) : (-128) ≤ (zI M 18 j).toInt ∧ (zI M 18 j).toInt ≤ 127 := h 18 j
theorem ib19_0 {M : zM} (h : zIv cLo cHi M) : 0 ≤ (zI M 19 0).toInt ∧ (zI M 19 0).toInt ≤ 8 := h 19 0
theorem ib19_13 {M : zM} (h : zIv cLo cHi M) : 0 ≤ (zI M 19 13).toInt ∧ (zI M 19 13).toInt ≤ 500 := h 19 13
theorem ib19_3 {M : zM} (h : zIv cLo cHi M) : 0 ≤ (zI M 19 3).toInt ∧ (zI M 19 3).toInt ≤ 60 := h 19 3
theorem ib19_8 {M : zM} (h : zIv cLo cHi M) : 0 ≤ (zI M 19 8).toInt ∧ (zI M 19 8).toInt ≤ 12 := h 19 8
theorem ib21 {M : zM} (h : zIv cLo cHi M) (j : Nat) : 0 ≤ (zI M 21 j).toInt ∧ (zI M 21 j).toInt ≤ 1 := h 21 j
theorem ib22 {M : zM} (h : zIv cLo cHi M) (j : Nat) : 0 ≤ (zI M 22 j).toInt ∧ (zI M 22 j).toInt ≤ 7 := h 22 j
theorem ib241_2 {M : zM} (h : zIv cLo cHi M) : 0 ≤ (zI M 241 2).toInt ∧ (zI M 241 2).toInt ≤ 20 := h 241 2
theorem ib242_0 {M : zM} (h : zIv cLo cHi M) : 0 ≤ (zI M 242 0).toInt ∧ (zI M 242 0).toInt ≤ 287 := h 242 0
theorem ib242_15 {M : zM} (h : zIv cLo cHi M) : 0 ≤ (zI M 242 15).toInt ∧ (zI M 242 15).toInt ≤ 60 := h 242 15
theorem ib242_5 {M : zM} (h : zIv cLo cHi M) : 1 ≤ (zI M 242 5).toInt ∧ (zI M 242 5).toInt ≤ 2147483647 := h 242 5
theorem ib242_6 {M : zM} (h : zIv cLo cHi M) : 0 ≤ (zI M 242 6).toInt ∧ (zI M 242 6).toInt ≤ 60 := h 242 6
theorem ib243 {M : zM} (h : zIv cLo cHi M) (j : Nat) : (-3) ≤ (zI M 243 j).toInt ∧ (zI M 243 j).toInt ≤ 3 := h 243 j
theorem ib244 {M : zM} (h : zIv cLo cHi M) (j : Nat) : (-20) ≤ (zI M 244 j).toInt ∧ (zI M 244 j).toInt ≤ 20 := h 244 j
theorem ib247 {M : zM} (h : zIv cLo cHi M) (j : Nat) : 0 ≤ (zI M 247 j).toInt ∧ (zI M 247 j).toInt ≤ 59 := h 247 j
theorem ib248 {M : zM} (h : zIv cLo cHi M) (j : Nat) : 0 ≤ (zI M 248 j).toInt ∧ (zI M 248 j).toInt ≤ 7 := h 248 j
theorem ib29 {M : zM} (h : zIv cLo cHi M) (j : Nat) : (-300000) ≤ (zI M 29 j).toInt ∧ (zI M 29 j).toInt ≤ 300000 := h 29 j
theorem ib30 {M : zM} (h : zIv cLo cHi M) (j : Nat) : (-128) ≤ (zI M 30 j).toInt ∧ (zI M 30 j).toInt ≤ 127 := h 30 j
theorem ib318 {M : zM} (h : zIv cLo cHi M) (j : Nat) : (-2147483648) ≤ (zI M 318 j).toInt ∧ (zI M 318 j).toInt ≤ 2147483647 := h 318 j
theorem ib319 {M : zM} (h : zIv cLo cHi M) (j : Nat) : (-2147483648) ≤ (zI M 319 j).toInt ∧ (zI M 319 j).toInt ≤ 2147483647 := h 319 j
theorem ib31_1 {M : zM} (h : zIv cLo cHi M) : 0 ≤ (zI M 31 1).toInt ∧ (zI M 31 1).toInt ≤ 7 := h 31 1
theorem ib31_2 {M : zM} (h : zIv cLo cHi M) : 0 ≤ (zI M 31 2).toInt ∧ (zI M 31 2).toInt ≤ 8 := h 31 2
theorem ib321 {M : zM} (h : zIv cLo cHi M) (j : Nat) : (-2147483648) ≤ (zI M 321 j).toInt ∧ (zI M 321 j).toInt ≤ 2147483647 := h 321 j
theorem ib323 {M : zM} (h : zIv cLo cHi M) (j : Nat) : 0 ≤ (zI M 323 j).toInt ∧ (zI M 323 j).toInt ≤ 1 := h 323 j
theorem ib325_0 {M : zM} (h : zIv cLo cHi M) : 0 ≤ (zI M 325 0).toInt ∧ (zI M 325 0).toInt ≤ 1 := h 325 0
theorem ib325_1 {M : zM} (h : zIv cLo cHi M) : (-2147483648) ≤ (zI M 325 1).toInt ∧ (zI M 325 1).toInt ≤ 2147483647 := h 325 1
theorem ib326 {M : zM} (h : zIv cLo cHi M) (j : Nat) : 0 ≤ (zI M 326 j).toInt ∧ (zI M 326 j).toInt ≤ 20 := h 326 j
theorem ib327 {M : zM} (h : zIv cLo cHi M) (j : Nat) : (-2147483648) ≤ (zI M 327 j).toInt ∧ (zI M 327 j).toInt ≤ 2147483647 := h 327 j
theorem ib328 {M : zM} (h : zIv cLo cHi M) (j : Nat) : (-2147483648) ≤ (zI M 328 j).toInt ∧ (zI M 328 j).toInt ≤ 2147483647 := h 328 j
theorem ib329 {M : zM} (h : zIv cLo cHi M) (j : Nat) : (-2147483648) ≤ (zI M 329 j).toInt ∧ (zI M 329 j).toInt ≤ 2147483647 := h 329 j
theorem ib330 {M : zM} (h : zIv cLo cHi M) (j : Nat) : (-2147483648) ≤ (zI M 330 j).toInt ∧ (zI M 330 j).toInt ≤ 2147483647 := h 330 j
theorem ib331 {M : zM} (h : zIv cLo cHi M) (j : Nat) : (-2147483648) ≤ (zI M 331 j).toInt ∧ (zI M 331 j).toInt ≤ 2147483647 := h 331 j
theorem ib332_0 {M : zM} (h : zIv cLo cHi M) : (-2147483648) ≤ (zI M 332 0).toInt ∧ (zI M 332 0).toInt ≤ 2147483647 := h 332 0
theorem ib332_1 {M : zM} (h : zIv cLo cHi M) : (-2147483648) ≤ (zI M 332 1).toInt ∧ (zI M 332 1).toInt ≤ 2147483647 := h 332 1
theorem ib332_2 {M : zM} (h : zIv cLo cHi M) : (-2147483648) ≤ (zI M 332 2).toInt ∧ (zI M 332 2).toInt ≤ 2147483647 := h 332 2
theorem ib332_3 {M : zM} (h : zIv cLo cHi M) : (-2147483648) ≤ (zI M 332 3).toInt ∧ (zI M 332 3).toInt ≤ 2147483647 := h 332 3
theorem ib333 {M : zM} (h : zIv cLo cHi M) (j : Nat) : (-2147483648) ≤ (zI M 333 j).toInt ∧ (zI M 333 j).toInt ≤ 2147483647 := h 333 j
theorem ib334 {M : zM} (h : zIv cLo cHi M) (j : Nat) : (-2147483648) ≤ (zI M 334 j).toInt ∧ (zI M 334 j).toInt ≤ 2147483647 := h 334 j
theorem ib335 {M : zM} (h : zIv cLo cHi M) (j : Nat) : (-128) ≤ (zI M 335 j).toInt ∧ (zI M 335 j).toInt ≤ 127 := h 335 j
theorem ib34 {M : zM} (h : zIv cLo cHi M) (j : Nat) : 0 ≤ (zI M 34 j).toInt ∧ (zI M 34 j).toInt ≤ 1 := h 34 j
theorem ib35_0 {M : zM} (h : zIv cLo cHi M) : 0 ≤ (zI M 35 0).toInt ∧ (zI M 35 0).toInt ≤ 8 := h 35 0
theorem ib35_13 {M : zM} (h : zIv cLo cHi M) : 0 ≤ (zI M 35 13).toInt ∧ (zI M 35 13).toInt ≤ 500 := h 35 13
theorem ib35_3 {M : zM} (h : zIv cLo cHi M) : 0 ≤ (zI M 35 3).toInt ∧ (zI M 35 3).toInt ≤ 60 := h 35 3
theorem ib35_8 {M : zM} (h : zIv cLo cHi M) : 0 ≤ (zI M 35 8).toInt ∧ (zI M 35 8).toInt ≤ 12 := h 35 8
theorem ib37 {M : zM} (h : zIv cLo cHi M) (j : Nat) : 0 ≤ (zI M 37 j).toInt ∧ (zI M 37 j).toInt ≤ 1 := h 37 j
theorem ib38 {M : zM} (h : zIv cLo cHi M) (j : Nat) : 0 ≤ (zI M 38 j).toInt ∧ (zI M 38 j).toInt ≤ 7 := h 38 j
theorem ib45 {M : zM} (h : zIv cLo cHi M) (j : Nat) : (-300000) ≤ (zI M 45 j).toInt ∧ (zI M 45 j).toInt ≤ 300000 := h 45 j
theorem ib46 {M : zM} (h : zIv cLo cHi M) (j : Nat) : (-128) ≤ (zI M 46 j).toInt ∧ (zI M 46 j).toInt ≤ 127 := h 46 j
theorem ib47_0 {M : zM} (h : zIv cLo cHi M) : 0 ≤ (zI M 47 0).toInt ∧ (zI M 47 0).toInt ≤ 8 := h 47 0
theorem ib47_13 {M : zM} (h : zIv cLo cHi M) : 0 ≤ (zI M 47 13).toInt ∧ (zI M 47 13).toInt ≤ 500 := h 47 13
theorem ib47_3 {M : zM} (h : zIv cLo cHi M) : 0 ≤ (zI M 47 3).toInt ∧ (zI M 47 3).toInt ≤ 60 := h 47 3
theorem ib47_8 {M : zM} (h : zIv cLo cHi M) : 0 ≤ (zI M 47 8).toInt ∧ (zI M 47 8).toInt ≤ 12 := h 47 8
theorem ib49 {M : zM} (h : zIv cLo cHi M) (j : Nat) : 0 ≤ (zI M 49 j).toInt ∧ (zI M 49 j).toInt ≤ 1 := h 49 j
theorem ib50 {M : zM} (h : zIv cLo cHi M) (j : Nat) : 0 ≤ (zI M 50 j).toInt ∧ (zI M 50 j).toInt ≤ 7 := h 50 j
theorem ib57 {M : zM} (h : zIv cLo cHi M) (j : Nat) : (-300000) ≤ (zI M 57 j).toInt ∧ (zI M 57 j).toInt ≤ 300000 := h 57 j
theorem ib58 {M : zM} (h : zIv cLo cHi M) (j : Nat) : (-128) ≤ (zI M 58 j).toInt ∧ (zI M 58 j).toInt ≤ 127 := h 58 j
theorem ib59_0 {M : zM} (h : zIv cLo cHi M) : 0 ≤ (zI M 59 0).toInt ∧ (zI M 59 0).toInt ≤ 8 := h 59 0
theorem ib59_13 {M : zM} (h : zIv cLo cHi M) : 0 ≤ (zI M 59 13).toInt ∧ (zI M 59 13).toInt ≤ 500 := h 59 13
theorem ib59_3 {M : zM} (h : zIv cLo cHi M) : 0 ≤ (zI M 59 3).toInt ∧ (zI M 59 3).toInt ≤ 60 := h 59 3
theorem ib59_8 {M : zM} (h : zIv cLo cHi M) : 0 ≤ (zI M 59 8).toInt ∧ (zI M 59 8).toInt ≤ 12 := h 59 8
theorem ib61 {M : zM} (h : zIv cLo cHi M) (j : Nat) : 0 ≤ (zI M 61 j).toInt ∧ (zI M 61 j).toInt ≤ 1 := h 61 j
theorem ib62 {M : zM} (h : zIv cLo cHi M) (j : Nat) : 0 ≤ (zI M 62 j).toInt ∧ (zI M 62 j).toInt ≤ 7 := h 62 j
theorem ib69 {M : zM} (h : zIv cLo cHi M) (j : Nat) : (-300000) ≤ (zI M 69 j).toInt ∧ (zI M 69 j).toInt ≤ 300000 := h 69 j
theorem ib6_10 {M : zM} (h : zIv cLo cHi M) : 0 ≤ (zI M 6 10).toInt ∧ (zI M 6 10).toInt ≤ 128 := h 6 10
theorem ib70 {M : zM} (h : zIv cLo cHi M) (j : Nat) : (-128) ≤ (zI M 70 j).toInt ∧ (zI M 70 j).toInt ≤ 127 := h 70 j
theorem ib71_0 {M : zM} (h : zIv cLo cHi M) : 0 ≤ (zI M 71 0).toInt ∧ (zI M 71 0).toInt ≤ 8 := h 71 0
theorem ib71_13 {M : zM} (h : zIv cLo cHi M) : 0 ≤ (zI M 71 13).toInt ∧ (zI M 71 13).toInt ≤ 500 := h 71 13
theorem ib71_3 {M : zM} (h : zIv cLo cHi M) : 0 ≤ (zI M 71 3).toInt ∧ (zI M 71 3).toInt ≤ 60 := h 71 3
theorem ib71_8 {M : zM} (h : zIv cLo cHi M) : 0 ≤ (zI M 71 8).toInt ∧ (zI M 71 8).toInt ≤ 12 := h 71 8
theorem ib73 {M : zM} (h : zIv cLo cHi M) (j : Nat) : 0 ≤ (zI M 73 j).toInt ∧ (zI M 73 j).toInt ≤ 1 := h 73 j
theorem ib74 {M : zM} (h : zIv cLo cHi M) (j : Nat) : 0 ≤ (zI M 74 j).toInt ∧ (zI M 74 j).toInt ≤ 7 := h 74 j
theorem ib7_0 {M : zM} (h : zIv cLo cHi M) : 0 ≤ (zI M 7 0).toInt ∧ (zI M 7 0).toInt ≤ 8 := h 7 0
theorem ib7_13 {M : zM} (h : zIv cLo cHi M) : 0 ≤ (zI M 7 13).toInt ∧ (zI M 7 13).toInt ≤ 500 := h 7 13
theorem ib7_3 {M : zM} (h : zIv cLo cHi M) : 0 ≤ (zI M 7 3).toInt ∧ (zI M 7 3).toInt ≤ 60 := h 7 3
theorem ib7_8 {M : zM} (h : zIv cLo cHi M) : 0 ≤ (zI M 7 8).toInt ∧ (zI M 7 8).toInt ≤ 12 := h 7 8
theorem ib81 {M : zM} (h : zIv cLo cHi M) (j : Nat) : (-300000) ≤ (zI M 81 j).toInt ∧ (zI M 81 j).toInt ≤ 300000 := h 81 j
theorem ib82 {M : zM} (h : zIv cLo cHi M) (j : Nat) : (-128) ≤ (zI M 82 j).toInt ∧ (zI M 82 j).toInt ≤ 127 := h 82 j
theorem ib83_0 {M : zM} (h : zIv cLo cHi M) : 0 ≤ (zI M 83 0).toInt ∧ (zI M 83 0).toInt ≤ 8 := h 83 0
theorem ib83_13 {M : zM} (h : zIv cLo cHi M) : 0 ≤ (zI M 83 13).toInt ∧ (zI M 83 13).toInt ≤ 500 := h 83 13
theorem ib83_3 {M : zM} (h : zIv cLo cHi M) : 0 ≤ (zI M 83 3).toInt ∧ (zI M 83 3).toInt ≤ 60 := h 83 3
theorem ib83_8 {M : zM} (h : zIv cLo cHi M) : 0 ≤ (zI M 83 8).toInt ∧ (zI M 83 8).toInt ≤ 12 := h 83 8
theorem ib85 {M : zM} (h : zIv cLo cHi M) (j : Nat) : 0 ≤ (zI M 85 j).toInt ∧ (zI M 85 j).toInt ≤ 1 := h 85 j
theorem ib86 {M : zM} (h : zIv cLo cHi M) (j : Nat) : 0 ≤ (zI M 86 j).toInt ∧ (zI M 86 j).toInt ≤ 7 := h 86 j
theorem ib9 {M : zM} (h : zIv cLo cHi M) (j : Nat) : 0 ≤ (zI M 9 j).toInt ∧ (zI M 9 j).toInt ≤ 1 := h 9 j
theorem ib93 {M : zM} (h : zIv cLo cHi M) (j : Nat) : (-300000) ≤ (zI M 93 j).toInt ∧ (zI M 93 j).toInt ≤ 300000 := h 93 j
theorem ib94 {M : zM} (h : zIv cLo cHi M) (j : Nat) : (-128) ≤ (zI M 94 j).toInt ∧ (zI M 94 j).toInt ≤ 127 := h 94 j
theorem ib95_0 {M : zM} (h : zIv cLo cHi M) : 0 ≤ (zI M 95 0).toInt ∧ (zI M 95 0).toInt ≤ 8 := h 95 0
theorem ib95_13 {M : zM} (h : zIv cLo cHi M) : 0 ≤ (zI M 95 13).toInt ∧ (zI M 95 13).toInt ≤ 500 := h 95 13
theorem ib95_3 {M : zM} (h : zIv cLo cHi M) : 0 ≤ (zI M 95 3).toInt ∧ (zI M 95 3).toInt ≤ 60 := h 95 3
theorem ib95_8 {M : zM} (h : zIv cLo cHi M) : 0 ≤ (zI M 95 8).toInt ∧ (zI M 95 8).toInt ≤ 12 := h 95 8
theorem ib97 {M : zM} (h : zIv cLo cHi M) (j : Nat) : 0 ≤ (zI M 97 j).toInt ∧ (zI M 97 j).toInt ≤ 1 := h 97 j
theorem ib98 {M : zM} (h : zIv cLo cHi M) (j : Nat) : 0 ≤ (zI M 98 j).toInt ∧ (zI M 98 j).toInt ≤ 7 := h 98 j
theorem cT181_0_0 : ∀ i : Nat, i < 20 → cLo (181 + 3 * i) 0 = (-3) ∧ cHi (181 + 3 * i) 0 = 3 := by
  intro i hi
  match i, hi with
  | 0, _ => exact ⟨rfl, rfl⟩
  | 1, _ => exact ⟨rfl, rfl⟩
  | 2, _ => exact ⟨rfl, rfl⟩
  | 3, _ => exact ⟨rfl, rfl⟩
  | 4, _ => exact ⟨rfl, rfl⟩
  | 5, _ => exact ⟨rfl, rfl⟩
  | 6, _ => exact ⟨rfl, rfl⟩
  | 7, _ => exact ⟨rfl, rfl⟩
  | 8, _ => exact ⟨rfl, rfl⟩
  | 9, _ => exact ⟨rfl, rfl⟩
  | 10, _ => exact ⟨rfl, rfl⟩
  | 11, _ => exact ⟨rfl, rfl⟩
  | 12, _ => exact ⟨rfl, rfl⟩
  | 13, _ => exact ⟨rfl, rfl⟩
  | 14, _ => exact ⟨rfl, rfl⟩
  | 15, _ => exact ⟨rfl, rfl⟩
  | 16, _ => exact ⟨rfl, rfl⟩
  | 17, _ => exact ⟨rfl, rfl⟩
  | 18, _ => exact ⟨rfl, rfl⟩
  | 19, _ => exact ⟨rfl, rfl⟩
  | n + 20, h => exact absurd h (by omega)
theorem cT181_0_1 : ∀ i : Nat, i < 20 → cLo (181 + 3 * i) 1 = (-20) ∧ cHi (181 + 3 * i) 1 = 20 := by
  intro i hi
  match i, hi with
  | 0, _ => exact ⟨rfl, rfl⟩
  | 1, _ => exact ⟨rfl, rfl⟩
  | 2, _ => exact ⟨rfl, rfl⟩
  | 3, _ => exact ⟨rfl, rfl⟩
  | 4, _ => exact ⟨rfl, rfl⟩
  | 5, _ => exact ⟨rfl, rfl⟩
  | 6, _ => exact ⟨rfl, rfl⟩
  | 7, _ => exact ⟨rfl, rfl⟩
  | 8, _ => exact ⟨rfl, rfl⟩
  | 9, _ => exact ⟨rfl, rfl⟩
  | 10, _ => exact ⟨rfl, rfl⟩
  | 11, _ => exact ⟨rfl, rfl⟩
  | 12, _ => exact ⟨rfl, rfl⟩
  | 13, _ => exact ⟨rfl, rfl⟩
  | 14, _ => exact ⟨rfl, rfl⟩
  | 15, _ => exact ⟨rfl, rfl⟩
  | 16, _ => exact ⟨rfl, rfl⟩
  | 17, _ => exact ⟨rfl, rfl⟩
  | 18, _ => exact ⟨rfl, rfl⟩
  | 19, _ => exact ⟨rfl, rfl⟩
  | n + 20, h => exact absurd h (by omega)
theorem cT181_0_2 : ∀ i : Nat, i < 20 → cLo (181 + 3 * i) 2 = (-2147483648) ∧ cHi (181 + 3 * i) 2 = 2147483647 := by
  intro i hi
  match i, hi with
  | 0, _ => exact ⟨rfl, rfl⟩
  | 1, _ => exact ⟨rfl, rfl⟩
  | 2, _ => exact ⟨rfl, rfl⟩
  | 3, _ => exact ⟨rfl, rfl⟩
  | 4, _ => exact ⟨rfl, rfl⟩
  | 5, _ => exact ⟨rfl, rfl⟩
  | 6, _ => exact ⟨rfl, rfl⟩
  | 7, _ => exact ⟨rfl, rfl⟩
  | 8, _ => exact ⟨rfl, rfl⟩
  | 9, _ => exact ⟨rfl, rfl⟩
  | 10, _ => exact ⟨rfl, rfl⟩
  | 11, _ => exact ⟨rfl, rfl⟩
  | 12, _ => exact ⟨rfl, rfl⟩
  | 13, _ => exact ⟨rfl, rfl⟩
  | 14, _ => exact ⟨rfl, rfl⟩
  | 15, _ => exact ⟨rfl, rfl⟩
  | 16, _ => exact ⟨rfl, rfl⟩
  | 17, _ => exact ⟨rfl, rfl⟩
  | 18, _ => exact ⟨rfl, rfl⟩
  | 19, _ => exact ⟨rfl, rfl⟩
  | n + 20, h => exact absurd h (by omega)
theorem cT181_0_3 : ∀ i : Nat, i < 20 → cLo (181 + 3 * i) 3 = (-2147483648) ∧ cHi (181 + 3 * i) 3 = 2147483647 := by
  intro i hi
  match i, hi with
  | 0, _ => exact ⟨rfl, rfl⟩
  | 1, _ => exact ⟨rfl, rfl⟩
  | 2, _ => exact ⟨rfl, rfl⟩
  | 3, _ => exact ⟨rfl, rfl⟩
  | 4, _ => exact ⟨rfl, rfl⟩
  | 5, _ => exact ⟨rfl, rfl⟩
  | 6, _ => exact ⟨rfl, rfl⟩
  | 7, _ => exact ⟨rfl, rfl⟩
  | 8, _ => exact ⟨rfl, rfl⟩
  | 9, _ => exact ⟨rfl, rfl⟩
  | 10, _ => exact ⟨rfl, rfl⟩
  | 11, _ => exact ⟨rfl, rfl⟩
  | 12, _ => exact ⟨rfl, rfl⟩
  | 13, _ => exact ⟨rfl, rfl⟩
  | 14, _ => exact ⟨rfl, rfl⟩
  | 15, _ => exact ⟨rfl, rfl⟩
  | 16, _ => exact ⟨rfl, rfl⟩
  | 17, _ => exact ⟨rfl, rfl⟩
  | 18, _ => exact ⟨rfl, rfl⟩
  | 19, _ => exact ⟨rfl, rfl⟩
  | n + 20, h => exact absurd h (by omega)
theorem cT181_0_4 : ∀ i : Nat, i < 20 → cLo (181 + 3 * i) 4 = (-2147483648) ∧ cHi (181 + 3 * i) 4 = 2147483647 := by
  intro i hi
  match i, hi with
  | 0, _ => exact ⟨rfl, rfl⟩
  | 1, _ => exact ⟨rfl, rfl⟩
  | 2, _ => exact ⟨rfl, rfl⟩
  | 3, _ => exact ⟨rfl, rfl⟩
  | 4, _ => exact ⟨rfl, rfl⟩
  | 5, _ => exact ⟨rfl, rfl⟩
  | 6, _ => exact ⟨rfl, rfl⟩
  | 7, _ => exact ⟨rfl, rfl⟩
  | 8, _ => exact ⟨rfl, rfl⟩
  | 9, _ => exact ⟨rfl, rfl⟩
  | 10, _ => exact ⟨rfl, rfl⟩
  | 11, _ => exact ⟨rfl, rfl⟩
  | 12, _ => exact ⟨rfl, rfl⟩
  | 13, _ => exact ⟨rfl, rfl⟩
  | 14, _ => exact ⟨rfl, rfl⟩
  | 15, _ => exact ⟨rfl, rfl⟩
  | 16, _ => exact ⟨rfl, rfl⟩
  | 17, _ => exact ⟨rfl, rfl⟩
  | 18, _ => exact ⟨rfl, rfl⟩
  | 19, _ => exact ⟨rfl, rfl⟩
  | n + 20, h => exact absurd h (by omega)
theorem cT181_0_5 : ∀ i : Nat, i < 20 → cLo (181 + 3 * i) 5 = (-2147483648) ∧ cHi (181 + 3 * i) 5 = 2147483647 := by
  intro i hi
  match i, hi with
  | 0, _ => exact ⟨rfl, rfl⟩
  | 1, _ => exact ⟨rfl, rfl⟩
  | 2, _ => exact ⟨rfl, rfl⟩
  | 3, _ => exact ⟨rfl, rfl⟩
  | 4, _ => exact ⟨rfl, rfl⟩
  | 5, _ => exact ⟨rfl, rfl⟩
  | 6, _ => exact ⟨rfl, rfl⟩
  | 7, _ => exact ⟨rfl, rfl⟩
  | 8, _ => exact ⟨rfl, rfl⟩
  | 9, _ => exact ⟨rfl, rfl⟩
  | 10, _ => exact ⟨rfl, rfl⟩
  | 11, _ => exact ⟨rfl, rfl⟩
  | 12, _ => exact ⟨rfl, rfl⟩
  | 13, _ => exact ⟨rfl, rfl⟩
  | 14, _ => exact ⟨rfl, rfl⟩
  | 15, _ => exact ⟨rfl, rfl⟩
  | 16, _ => exact ⟨rfl, rfl⟩
  | 17, _ => exact ⟨rfl, rfl⟩
  | 18, _ => exact ⟨rfl, rfl⟩
  | 19, _ => exact ⟨rfl, rfl⟩
  | n + 20, h => exact absurd h (by omega)
theorem cT181_1 : ∀ i : Nat, i < 20 → ∀ j, cLo (181 + 3 * i + 1) j = (-2) ∧ cHi (181 + 3 * i + 1) j = 59 := by
  intro i hi
  match i, hi with
  | 0, _ => exact fun _ => ⟨rfl, rfl⟩
  | 1, _ => exact fun _ => ⟨rfl, rfl⟩
  | 2, _ => exact fun _ => ⟨rfl, rfl⟩
  | 3, _ => exact fun _ => ⟨rfl, rfl⟩
  | 4, _ => exact fun _ => ⟨rfl, rfl⟩
  | 5, _ => exact fun _ => ⟨rfl, rfl⟩
  | 6, _ => exact fun _ => ⟨rfl, rfl⟩
  | 7, _ => exact fun _ => ⟨rfl, rfl⟩
  | 8, _ => exact fun _ => ⟨rfl, rfl⟩
  | 9, _ => exact fun _ => ⟨rfl, rfl⟩
  | 10, _ => exact fun _ => ⟨rfl, rfl⟩
  | 11, _ => exact fun _ => ⟨rfl, rfl⟩
  | 12, _ => exact fun _ => ⟨rfl, rfl⟩
  | 13, _ => exact fun _ => ⟨rfl, rfl⟩
  | 14, _ => exact fun _ => ⟨rfl, rfl⟩
  | 15, _ => exact fun _ => ⟨rfl, rfl⟩
  | 16, _ => exact fun _ => ⟨rfl, rfl⟩
  | 17, _ => exact fun _ => ⟨rfl, rfl⟩
  | 18, _ => exact fun _ => ⟨rfl, rfl⟩
  | 19, _ => exact fun _ => ⟨rfl, rfl⟩
  | n + 20, h => exact absurd h (by omega)
theorem cT181_2 : ∀ i : Nat, i < 20 → ∀ j, cLo (181 + 3 * i + 2) j = (-2147483648) ∧ cHi (181 + 3 * i + 2) j = 2147483647 := by
  intro i hi
  match i, hi with
  | 0, _ => exact fun _ => ⟨rfl, rfl⟩
  | 1, _ => exact fun _ => ⟨rfl, rfl⟩
  | 2, _ => exact fun _ => ⟨rfl, rfl⟩
  | 3, _ => exact fun _ => ⟨rfl, rfl⟩
  | 4, _ => exact fun _ => ⟨rfl, rfl⟩
  | 5, _ => exact fun _ => ⟨rfl, rfl⟩
  | 6, _ => exact fun _ => ⟨rfl, rfl⟩
  | 7, _ => exact fun _ => ⟨rfl, rfl⟩
  | 8, _ => exact fun _ => ⟨rfl, rfl⟩
  | 9, _ => exact fun _ => ⟨rfl, rfl⟩
  | 10, _ => exact fun _ => ⟨rfl, rfl⟩
  | 11, _ => exact fun _ => ⟨rfl, rfl⟩
  | 12, _ => exact fun _ => ⟨rfl, rfl⟩
  | 13, _ => exact fun _ => ⟨rfl, rfl⟩
  | 14, _ => exact fun _ => ⟨rfl, rfl⟩
  | 15, _ => exact fun _ => ⟨rfl, rfl⟩
  | 16, _ => exact fun _ => ⟨rfl, rfl⟩
  | 17, _ => exact fun _ => ⟨rfl, rfl⟩
  | 18, _ => exact fun _ => ⟨rfl, rfl⟩
  | 19, _ => exact fun _ => ⟨rfl, rfl⟩
  | n + 20, h => exact absurd h (by omega)
theorem cT257_0_0 : ∀ i : Nat, i < 20 → cLo (257 + 3 * i) 0 = (-3) ∧ cHi (257 + 3 * i) 0 = 3 := by
  intro i hi
  match i, hi with
  | 0, _ => exact ⟨rfl, rfl⟩
  | 1, _ => exact ⟨rfl, rfl⟩
  | 2, _ => exact ⟨rfl, rfl⟩
  | 3, _ => exact ⟨rfl, rfl⟩
  | 4, _ => exact ⟨rfl, rfl⟩
  | 5, _ => exact ⟨rfl, rfl⟩
  | 6, _ => exact ⟨rfl, rfl⟩
  | 7, _ => exact ⟨rfl, rfl⟩
  | 8, _ => exact ⟨rfl, rfl⟩
  | 9, _ => exact ⟨rfl, rfl⟩
  | 10, _ => exact ⟨rfl, rfl⟩
  | 11, _ => exact ⟨rfl, rfl⟩
  | 12, _ => exact ⟨rfl, rfl⟩
  | 13, _ => exact ⟨rfl, rfl⟩
  | 14, _ => exact ⟨rfl, rfl⟩
  | 15, _ => exact ⟨rfl, rfl⟩
  | 16, _ => exact ⟨rfl, rfl⟩
  | 17, _ => exact ⟨rfl, rfl⟩
  | 18, _ => exact ⟨rfl, rfl⟩
  | 19, _ => exact ⟨rfl, rfl⟩
  | n + 20, h => exact absurd h (by omega)
theorem cT257_0_1 : ∀ i : Nat, i < 20 → cLo (257 + 3 * i) 1 = (-20) ∧ cHi (257 + 3 * i) 1 = 20 := by
  intro i hi
  match i, hi with
  | 0, _ => exact ⟨rfl, rfl⟩
  | 1, _ => exact ⟨rfl, rfl⟩
  | 2, _ => exact ⟨rfl, rfl⟩
  | 3, _ => exact ⟨rfl, rfl⟩
  | 4, _ => exact ⟨rfl, rfl⟩
  | 5, _ => exact ⟨rfl, rfl⟩
  | 6, _ => exact ⟨rfl, rfl⟩
  | 7, _ => exact ⟨rfl, rfl⟩
  | 8, _ => exact ⟨rfl, rfl⟩
  | 9, _ => exact ⟨rfl, rfl⟩
  | 10, _ => exact ⟨rfl, rfl⟩
  | 11, _ => exact ⟨rfl, rfl⟩
  | 12, _ => exact ⟨rfl, rfl⟩
  | 13, _ => exact ⟨rfl, rfl⟩
  | 14, _ => exact ⟨rfl, rfl⟩
  | 15, _ => exact ⟨rfl, rfl⟩
  | 16, _ => exact ⟨rfl, rfl⟩
  | 17, _ => exact ⟨rfl, rfl⟩
  | 18, _ => exact ⟨rfl, rfl⟩
  | 19, _ => exact ⟨rfl, rfl⟩
  | n + 20, h => exact absurd h (by omega)
theorem cT257_0_2 : ∀ i : Nat, i < 20 → cLo (257 + 3 * i) 2 = (-2147483648) ∧ cHi (257 + 3 * i) 2 = 2147483647 := by
  intro i hi
  match i, hi with
  | 0, _ => exact ⟨rfl, rfl⟩
  | 1, _ => exact ⟨rfl, rfl⟩
  | 2, _ => exact ⟨rfl, rfl⟩
  | 3, _ => exact ⟨rfl, rfl⟩
  | 4, _ => exact ⟨rfl, rfl⟩
  | 5, _ => exact ⟨rfl, rfl⟩
  | 6, _ => exact ⟨rfl, rfl⟩
  | 7, _ => exact ⟨rfl, rfl⟩
  | 8, _ => exact ⟨rfl, rfl⟩
  | 9, _ => exact ⟨rfl, rfl⟩
  | 10, _ => exact ⟨rfl, rfl⟩
  | 11, _ => exact ⟨rfl, rfl⟩
  | 12, _ => exact ⟨rfl, rfl⟩
  | 13, _ => exact ⟨rfl, rfl⟩
  | 14, _ => exact ⟨rfl, rfl⟩
  | 15, _ => exact ⟨rfl, rfl⟩
  | 16, _ => exact ⟨rfl, rfl⟩
  | 17, _ => exact ⟨rfl, rfl⟩
  | 18, _ => exact ⟨rfl, rfl⟩
  | 19, _ => exact ⟨rfl, rfl⟩
  | n + 20, h => exact absurd h (by omega)
theorem cT257_0_3 : ∀ i : Nat, i < 20 → cLo (257 + 3 * i) 3 = (-2147483648) ∧ cHi (257 + 3 * i) 3 = 2147483647 := by
  intro i hi
  match i, hi with
  | 0, _ => exact ⟨rfl, rfl⟩
  | 1, _ => exact ⟨rfl, rfl⟩
  | 2, _ => exact ⟨rfl, rfl⟩
  | 3, _ => exact ⟨rfl, rfl⟩
  | 4, _ => exact ⟨rfl, rfl⟩
  | 5, _ => exact ⟨rfl, rfl⟩
  | 6, _ => exact ⟨rfl, rfl⟩
  | 7, _ => exact ⟨rfl, rfl⟩
  | 8, _ => exact ⟨rfl, rfl⟩
  | 9, _ => exact ⟨rfl, rfl⟩
  | 10, _ => exact ⟨rfl, rfl⟩
  | 11, _ => exact ⟨rfl, rfl⟩
  | 12, _ => exact ⟨rfl, rfl⟩
  | 13, _ => exact ⟨rfl, rfl⟩
  | 14, _ => exact ⟨rfl, rfl⟩
  | 15, _ => exact ⟨rfl, rfl⟩
  | 16, _ => exact ⟨rfl, rfl⟩
  | 17, _ => exact ⟨rfl, rfl⟩
  | 18, _ => exact ⟨rfl, rfl⟩
  | 19, _ => exact ⟨rfl, rfl⟩
  | n + 20, h => exact absurd h (by omega)
theorem cT257_1 : ∀ i : Nat, i < 20 → ∀ j, cLo (257 + 3 * i + 1) j = (-2) ∧ cHi (257 + 3 * i + 1) j = 59 := by
  intro i hi
  match i, hi with
  | 0, _ => exact fun _ => ⟨rfl, rfl⟩
  | 1, _ => exact fun _ => ⟨rfl, rfl⟩
  | 2, _ => exact fun _ => ⟨rfl, rfl⟩
  | 3, _ => exact fun _ => ⟨rfl, rfl⟩
  | 4, _ => exact fun _ => ⟨rfl, rfl⟩
  | 5, _ => exact fun _ => ⟨rfl, rfl⟩
  | 6, _ => exact fun _ => ⟨rfl, rfl⟩
  | 7, _ => exact fun _ => ⟨rfl, rfl⟩
  | 8, _ => exact fun _ => ⟨rfl, rfl⟩
  | 9, _ => exact fun _ => ⟨rfl, rfl⟩
  | 10, _ => exact fun _ => ⟨rfl, rfl⟩
  | 11, _ => exact fun _ => ⟨rfl, rfl⟩
  | 12, _ => exact fun _ => ⟨rfl, rfl⟩
  | 13, _ => exact fun _ => ⟨rfl, rfl⟩
  | 14, _ => exact fun _ => ⟨rfl, rfl⟩
  | 15, _ => exact fun _ => ⟨rfl, rfl⟩
  | 16, _ => exact fun _ => ⟨rfl, rfl⟩
  | 17, _ => exact fun _ => ⟨rfl, rfl⟩
  | 18, _ => exact fun _ => ⟨rfl, rfl⟩
  | 19, _ => exact fun _ => ⟨rfl, rfl⟩
  | n + 20, h => exact absurd h (by omega)
theorem cT257_2 : ∀ i : Nat, i < 20 → ∀ j, cLo (257 + 3 * i + 2) j = (-2147483648) ∧ cHi (257 + 3 * i + 2) j = 2147483647 := by
  intro i hi
  match i, hi with
  | 0, _ => exact fun _ => ⟨rfl, rfl⟩
  | 1, _ => exact fun _ => ⟨rfl, rfl⟩
  | 2, _ => exact fun _ => ⟨rfl, rfl⟩
  | 3, _ => exact fun _ => ⟨rfl, rfl⟩
  | 4, _ => exact fun _ => ⟨rfl, rfl⟩
  | 5, _ => exact fun _ => ⟨rfl, rfl⟩
  | 6, _ => exact fun _ => ⟨rfl, rfl⟩
  | 7, _ => exact fun _ => ⟨rfl, rfl⟩
  | 8, _ => exact fun _ => ⟨rfl, rfl⟩
  | 9, _ => exact fun _ => ⟨rfl, rfl⟩
  | 10, _ => exact fun _ => ⟨rfl, rfl⟩
  | 11, _ => exact fun _ => ⟨rfl, rfl⟩
  | 12, _ => exact fun _ => ⟨rfl, rfl⟩
  | 13, _ => exact fun _ => ⟨rfl, rfl⟩
  | 14, _ => exact fun _ => ⟨rfl, rfl⟩
  | 15, _ => exact fun _ => ⟨rfl, rfl⟩
  | 16, _ => exact fun _ => ⟨rfl, rfl⟩
  | 17, _ => exact fun _ => ⟨rfl, rfl⟩
  | 18, _ => exact fun _ => ⟨rfl, rfl⟩
  | 19, _ => exact fun _ => ⟨rfl, rfl⟩
  | n + 20, h => exact absurd h (by omega)
theorem fT181_0 : ∀ i : Nat, i < 20 → zK zMc (181 + 3 * i) = (8, 0) := by decide +kernel
theorem fT181_1 : ∀ i : Nat, i < 20 → zK zMc (181 + 3 * i + 1) = (20, 8) := by decide +kernel
theorem fT181_2 : ∀ i : Nat, i < 20 → zK zMc (181 + 3 * i + 2) = (20, 8) := by decide +kernel
theorem fT257_0 : ∀ i : Nat, i < 20 → zK zMc (257 + 3 * i) = (8, 0) := by decide +kernel
theorem fT257_1 : ∀ i : Nat, i < 20 → zK zMc (257 + 3 * i + 1) = (20, 8) := by decide +kernel
theorem fT257_2 : ∀ i : Nat, i < 20 → zK zMc (257 + 3 * i + 2) = (20, 8) := by decide +kernel
theorem fpT181 : ∀ i : Nat, i < 20 → va_rf (zP zMc 179 i) = .ref (181 + 3 * i) := by decide +kernel
theorem fpT257 : ∀ i : Nat, i < 20 → va_rf (zP zMc 255 i) = .ref (257 + 3 * i) := by decide +kernel
theorem fvT181_6 : ∀ i : Nat, i < 20 → zfv zMc (181 + 3 * i) (cY 8 6) 6 = .ref (181 + 3 * i + 1) := by decide +kernel
theorem fvT181_7 : ∀ i : Nat, i < 20 → zfv zMc (181 + 3 * i) (cY 8 7) 7 = .ref (181 + 3 * i + 2) := by decide +kernel
theorem fvT257_6 : ∀ i : Nat, i < 20 → zfv zMc (257 + 3 * i) (cY 8 6) 6 = .ref (257 + 3 * i + 1) := by decide +kernel
theorem fvT257_7 : ∀ i : Nat, i < 20 → zfv zMc (257 + 3 * i) (cY 8 7) 7 = .ref (257 + 3 * i + 2) := by decide +kernel
theorem ibT181_0_0 {M : zM} (h : zIv cLo cHi M) {i : Nat} (hi : i < 20) : (-3) ≤ (zI M (181 + 3 * i) 0).toInt ∧ (zI M (181 + 3 * i) 0).toInt ≤ 3 := by
  have h2 := h (181 + 3 * i) 0
  rw [(cT181_0_0 i hi).1, (cT181_0_0 i hi).2] at h2
  exact h2
theorem ibT181_0_1 {M : zM} (h : zIv cLo cHi M) {i : Nat} (hi : i < 20) : (-20) ≤ (zI M (181 + 3 * i) 1).toInt ∧ (zI M (181 + 3 * i) 1).toInt ≤ 20 := by
  have h2 := h (181 + 3 * i) 1
  rw [(cT181_0_1 i hi).1, (cT181_0_1 i hi).2] at h2
  exact h2
theorem ibT181_0_2 {M : zM} (h : zIv cLo cHi M) {i : Nat} (hi : i < 20) : (-2147483648) ≤ (zI M (181 + 3 * i) 2).toInt ∧ (zI M (181 + 3 * i) 2).toInt ≤ 2147483647 := by
  have h2 := h (181 + 3 * i) 2
  rw [(cT181_0_2 i hi).1, (cT181_0_2 i hi).2] at h2
  exact h2
theorem ibT181_0_3 {M : zM} (h : zIv cLo cHi M) {i : Nat} (hi : i < 20) : (-2147483648) ≤ (zI M (181 + 3 * i) 3).toInt ∧ (zI M (181 + 3 * i) 3).toInt ≤ 2147483647 := by
  have h2 := h (181 + 3 * i) 3
  rw [(cT181_0_3 i hi).1, (cT181_0_3 i hi).2] at h2
  exact h2
theorem ibT181_1 {M : zM} (h : zIv cLo cHi M) {i : Nat} (hi : i < 20) (j : Nat) : (-2) ≤ (zI M (181 + 3 * i + 1) j).toInt ∧ (zI M (181 + 3 * i + 1) j).toInt ≤ 59 := by
  have h2 := h (181 + 3 * i + 1) j
  rw [(cT181_1 i hi j).1, (cT181_1 i hi j).2] at h2
  exact h2
theorem ibT257_0_0 {M : zM} (h : zIv cLo cHi M) {i : Nat} (hi : i < 20) : (-3) ≤ (zI M (257 + 3 * i) 0).toInt ∧ (zI M (257 + 3 * i) 0).toInt ≤ 3 := by
  have h2 := h (257 + 3 * i) 0
  rw [(cT257_0_0 i hi).1, (cT257_0_0 i hi).2] at h2
  exact h2
theorem ibT257_0_1 {M : zM} (h : zIv cLo cHi M) {i : Nat} (hi : i < 20) : (-20) ≤ (zI M (257 + 3 * i) 1).toInt ∧ (zI M (257 + 3 * i) 1).toInt ≤ 20 := by
  have h2 := h (257 + 3 * i) 1
  rw [(cT257_0_1 i hi).1, (cT257_0_1 i hi).2] at h2
  exact h2
theorem ibT257_1 {M : zM} (h : zIv cLo cHi M) {i : Nat} (hi : i < 20) (j : Nat) : (-2) ≤ (zI M (257 + 3 * i + 1) j).toInt ∧ (zI M (257 + 3 * i + 1) j).toInt ≤ 59 := by
  have h2 := h (257 + 3 * i + 1) j
  rw [(cT257_1 i hi j).1, (cT257_1 i hi j).2] at h2
  exact h2
