theorem t120_43 : zT 120 43 = some (.goto (-19), 3, 24, 0, 0, 0) := (congrArg (fun t => List.lookup 43 t) gt120).trans rfl
theorem t120_46 : zT 120 46 = some (.return_, 1, 0, 0, 0, 0) := (congrArg (fun t => List.lookup 46 t) gt120).trans rfl
theorem t121_0 : zT 121 0 = some (.aload_n 1, 1, 1, 0, 0, 0) := (congrArg (fun t => List.lookup 0 t) gt121).trans rfl
theorem t121_1 : zT 121 1 = some (.getfield 132, 3, 8, 0, 0, 416) := (congrArg (fun t => List.lookup 1 t) gt121).trans rfl
theorem t121_4 : zT 121 4 = some (.iconst 3, 1, 0, 0, 3, 0) := (congrArg (fun t => List.lookup 4 t) gt121).trans rfl
theorem t121_5 : zT 121 5 = some (.iadd, 1, 0, 0, 0, 0) := (congrArg (fun t => List.lookup 5 t) gt121).trans rfl
theorem t121_6 : zT 121 6 = some (.bipush 8, 2, 0, 0, 8, 0) := (congrArg (fun t => List.lookup 6 t) gt121).trans rfl
theorem t121_8 : zT 121 8 = some (.imul, 1, 0, 0, 0, 0) := (congrArg (fun t => List.lookup 8 t) gt121).trans rfl
theorem t121_9 : zT 121 9 = some (.istore_n 2, 1, 2, 0, 0, 0) := (congrArg (fun t => List.lookup 9 t) gt121).trans rfl
theorem t121_10 : zT 121 10 = some (.aload_n 1, 1, 1, 0, 0, 0) := (congrArg (fun t => List.lookup 10 t) gt121).trans rfl
theorem t121_11 : zT 121 11 = some (.getfield 137, 3, 8, 1, 0, 420) := (congrArg (fun t => List.lookup 11 t) gt121).trans rfl
theorem t121_14 : zT 121 14 = some (.bipush 20, 2, 0, 0, 20, 0) := (congrArg (fun t => List.lookup 14 t) gt121).trans rfl
theorem t121_16 : zT 121 16 = some (.iadd, 1, 0, 0, 0, 0) := (congrArg (fun t => List.lookup 16 t) gt121).trans rfl
theorem t121_17 : zT 121 17 = some (.bipush 8, 2, 0, 0, 8, 0) := (congrArg (fun t => List.lookup 17 t) gt121).trans rfl
theorem t121_19 : zT 121 19 = some (.imul, 1, 0, 0, 0, 0) := (congrArg (fun t => List.lookup 19 t) gt121).trans rfl
theorem t121_20 : zT 121 20 = some (.istore_n 3, 1, 3, 0, 0, 0) := (congrArg (fun t => List.lookup 20 t) gt121).trans rfl
theorem t121_21 : zT 121 21 = some (.aload_n 1, 1, 1, 0, 0, 0) := (congrArg (fun t => List.lookup 21 t) gt121).trans rfl
theorem t121_22 : zT 121 22 = some (.getfield 140, 3, 8, 2, 0, 424) := (congrArg (fun t => List.lookup 22 t) gt121).trans rfl
theorem t121_25 : zT 121 25 = some (.aload_n 0, 1, 0, 0, 0, 0) := (congrArg (fun t => List.lookup 25 t) gt121).trans rfl
theorem t121_26 : zT 121 26 = some (.getfield 28, 3, 5, 5, 0, 354) := (congrArg (fun t => List.lookup 26 t) gt121).trans rfl
theorem t121_29 : zT 121 29 = some (.imul, 1, 0, 0, 0, 0) := (congrArg (fun t => List.lookup 29 t) gt121).trans rfl
theorem t121_30 : zT 121 30 = some (.aload_n 0, 1, 0, 0, 0, 0) := (congrArg (fun t => List.lookup 30 t) gt121).trans rfl
theorem t121_31 : zT 121 31 = some (.getfield 28, 3, 5, 5, 0, 354) := (congrArg (fun t => List.lookup 31 t) gt121).trans rfl
theorem t121_34 : zT 121 34 = some (.iconst 2, 1, 0, 0, 2, 0) := (congrArg (fun t => List.lookup 34 t) gt121).trans rfl
theorem t121_35 : zT 121 35 = some (.idiv, 1, 0, 0, 0, 0) := (congrArg (fun t => List.lookup 35 t) gt121).trans rfl
theorem t121_36 : zT 121 36 = some (.iadd, 1, 0, 0, 0, 0) := (congrArg (fun t => List.lookup 36 t) gt121).trans rfl
theorem t121_37 : zT 121 37 = some (.istore 4, 2, 0, 0, 0, 0) := (congrArg (fun t => List.lookup 37 t) gt121).trans rfl
theorem t121_39 : zT 121 39 = some (.aload_n 1, 1, 1, 0, 0, 0) := (congrArg (fun t => List.lookup 39 t) gt121).trans rfl
theorem t121_40 : zT 121 40 = some (.getfield 143, 3, 8, 7, 0, 439) := (congrArg (fun t => List.lookup 40 t) gt121).trans rfl
theorem t121_43 : zT 121 43 = some (.astore 5, 2, 0, 0, 0, 0) := (congrArg (fun t => List.lookup 43 t) gt121).trans rfl
theorem t121_45 : zT 121 45 = some (.iconst 0, 1, 0, 0, 0, 0) := (congrArg (fun t => List.lookup 45 t) gt121).trans rfl
theorem t121_46 : zT 121 46 = some (.istore 6, 2, 0, 0, 0, 0) := (congrArg (fun t => List.lookup 46 t) gt121).trans rfl
theorem t121_48 : zT 121 48 = some (.iload 6, 2, 0, 0, 0, 0) := (congrArg (fun t => List.lookup 48 t) gt121).trans rfl
theorem t121_50 : zT 121 50 = some (.aload_n 0, 1, 0, 0, 0, 0) := (congrArg (fun t => List.lookup 50 t) gt121).trans rfl
theorem t121_51 : zT 121 51 = some (.getfield 31, 3, 5, 6, 0, 355) := (congrArg (fun t => List.lookup 51 t) gt121).trans rfl
theorem t121_54 : zT 121 54 = some (.if_icmp .ge 117, 3, 171, 0, 0, 0) := (congrArg (fun t => List.lookup 54 t) gt121).trans rfl
theorem t121_57 : zT 121 57 = some (.aload_n 0, 1, 0, 0, 0, 0) := (congrArg (fun t => List.lookup 57 t) gt121).trans rfl
theorem t121_58 : zT 121 58 = some (.getfield 37, 3, 5, 8, 0, 357) := (congrArg (fun t => List.lookup 58 t) gt121).trans rfl
theorem t121_61 : zT 121 61 = some (.iload 6, 2, 0, 0, 0, 0) := (congrArg (fun t => List.lookup 61 t) gt121).trans rfl
theorem t121_63 : zT 121 63 = some (.iaload, 1, 0, 0, 0, 0) := (congrArg (fun t => List.lookup 63 t) gt121).trans rfl
theorem t121_64 : zT 121 64 = some (.istore 7, 2, 0, 0, 0, 0) := (congrArg (fun t => List.lookup 64 t) gt121).trans rfl
theorem t121_66 : zT 121 66 = some (.aload_n 0, 1, 0, 0, 0, 0) := (congrArg (fun t => List.lookup 66 t) gt121).trans rfl
theorem t121_67 : zT 121 67 = some (.getfield 40, 3, 5, 9, 0, 358) := (congrArg (fun t => List.lookup 67 t) gt121).trans rfl
theorem t121_70 : zT 121 70 = some (.iload 6, 2, 0, 0, 0, 0) := (congrArg (fun t => List.lookup 70 t) gt121).trans rfl
theorem t121_72 : zT 121 72 = some (.iaload, 1, 0, 0, 0, 0) := (congrArg (fun t => List.lookup 72 t) gt121).trans rfl
theorem t121_73 : zT 121 73 = some (.aload_n 0, 1, 0, 0, 0, 0) := (congrArg (fun t => List.lookup 73 t) gt121).trans rfl
theorem t121_74 : zT 121 74 = some (.getfield 22, 3, 5, 3, 0, 352) := (congrArg (fun t => List.lookup 74 t) gt121).trans rfl
theorem t121_77 : zT 121 77 = some (.iload_n 2, 1, 2, 0, 0, 0) := (congrArg (fun t => List.lookup 77 t) gt121).trans rfl
theorem t121_78 : zT 121 78 = some (.iload 7, 2, 0, 0, 0, 0) := (congrArg (fun t => List.lookup 78 t) gt121).trans rfl
theorem t121_80 : zT 121 80 = some (.iadd, 1, 0, 0, 0, 0) := (congrArg (fun t => List.lookup 80 t) gt121).trans rfl
theorem t121_81 : zT 121 81 = some (.iaload, 1, 0, 0, 0, 0) := (congrArg (fun t => List.lookup 81 t) gt121).trans rfl
theorem t121_82 : zT 121 82 = some (.isub, 1, 0, 0, 0, 0) := (congrArg (fun t => List.lookup 82 t) gt121).trans rfl
theorem t121_83 : zT 121 83 = some (.aload_n 0, 1, 0, 0, 0, 0) := (congrArg (fun t => List.lookup 83 t) gt121).trans rfl
theorem t121_84 : zT 121 84 = some (.getfield 25, 3, 5, 4, 0, 353) := (congrArg (fun t => List.lookup 84 t) gt121).trans rfl
theorem t121_87 : zT 121 87 = some (.iload_n 3, 1, 3, 0, 0, 0) := (congrArg (fun t => List.lookup 87 t) gt121).trans rfl
theorem t121_88 : zT 121 88 = some (.iload 7, 2, 0, 0, 0, 0) := (congrArg (fun t => List.lookup 88 t) gt121).trans rfl
theorem t121_90 : zT 121 90 = some (.iadd, 1, 0, 0, 0, 0) := (congrArg (fun t => List.lookup 90 t) gt121).trans rfl
theorem t121_91 : zT 121 91 = some (.iaload, 1, 0, 0, 0, 0) := (congrArg (fun t => List.lookup 91 t) gt121).trans rfl
theorem t121_92 : zT 121 92 = some (.isub, 1, 0, 0, 0, 0) := (congrArg (fun t => List.lookup 92 t) gt121).trans rfl
theorem t121_93 : zT 121 93 = some (.istore 8, 2, 0, 0, 0, 0) := (congrArg (fun t => List.lookup 93 t) gt121).trans rfl
theorem t121_95 : zT 121 95 = some (.iload 8, 2, 0, 0, 0, 0) := (congrArg (fun t => List.lookup 95 t) gt121).trans rfl
theorem t121_97 : zT 121 97 = some (.aload_n 0, 1, 0, 0, 0, 0) := (congrArg (fun t => List.lookup 97 t) gt121).trans rfl
theorem t121_98 : zT 121 98 = some (.getfield 28, 3, 5, 5, 0, 354) := (congrArg (fun t => List.lookup 98 t) gt121).trans rfl
theorem t121_101 : zT 121 101 = some (.invokestatic 126, 3, 54, 1, 0, 1125) := (congrArg (fun t => List.lookup 101 t) gt121).trans rfl
theorem t121_104 : zT 121 104 = some (.aload_n 1, 1, 1, 0, 0, 0) := (congrArg (fun t => List.lookup 104 t) gt121).trans rfl
theorem t121_105 : zT 121 105 = some (.getfield 140, 3, 8, 2, 0, 424) := (congrArg (fun t => List.lookup 105 t) gt121).trans rfl
theorem t121_108 : zT 121 108 = some (.if_icmp .eq 6, 3, 114, 0, 0, 0) := (congrArg (fun t => List.lookup 108 t) gt121).trans rfl
theorem t121_111 : zT 121 111 = some (.goto 54, 3, 165, 0, 0, 0) := (congrArg (fun t => List.lookup 111 t) gt121).trans rfl
theorem t121_114 : zT 121 114 = some (.iload 8, 2, 0, 0, 0, 0) := (congrArg (fun t => List.lookup 114 t) gt121).trans rfl
theorem t121_116 : zT 121 116 = some (.iload 4, 2, 0, 0, 0, 0) := (congrArg (fun t => List.lookup 116 t) gt121).trans rfl
theorem t121_118 : zT 121 118 = some (.isub, 1, 0, 0, 0, 0) := (congrArg (fun t => List.lookup 118 t) gt121).trans rfl
theorem t121_119 : zT 121 119 = some (.invokestatic 146, 3, 122, 1, 0, 1148) := (congrArg (fun t => List.lookup 119 t) gt121).trans rfl
theorem t121_122 : zT 121 122 = some (.istore 9, 2, 0, 0, 0, 0) := (congrArg (fun t => List.lookup 122 t) gt121).trans (by decide +kernel)
theorem t121_124 : zT 121 124 = some (.aload_n 1, 1, 1, 0, 0, 0) := (congrArg (fun t => List.lookup 124 t) gt121).trans (by decide +kernel)
theorem t121_125 : zT 121 125 = some (.getfield 149, 3, 8, 6, 0, 436) := (congrArg (fun t => List.lookup 125 t) gt121).trans (by decide +kernel)
theorem t121_128 : zT 121 128 = some (.iload 7, 2, 0, 0, 0, 0) := (congrArg (fun t => List.lookup 128 t) gt121).trans (by decide +kernel)
theorem t121_130 : zT 121 130 = some (.iaload, 1, 0, 0, 0, 0) := (congrArg (fun t => List.lookup 130 t) gt121).trans (by decide +kernel)
theorem t121_131 : zT 121 131 = some (.ifCond .lt 13, 3, 144, 0, 0, 0) := (congrArg (fun t => List.lookup 131 t) gt121).trans (by decide +kernel)
theorem t121_134 : zT 121 134 = some (.iload 9, 2, 0, 0, 0, 0) := (congrArg (fun t => List.lookup 134 t) gt121).trans (by decide +kernel)
theorem t121_136 : zT 121 136 = some (.aload 5, 2, 0, 0, 0, 0) := (congrArg (fun t => List.lookup 136 t) gt121).trans (by decide +kernel)
theorem t121_138 : zT 121 138 = some (.iload 7, 2, 0, 0, 0, 0) := (congrArg (fun t => List.lookup 138 t) gt121).trans (by decide +kernel)
theorem t121_140 : zT 121 140 = some (.iaload, 1, 0, 0, 0, 0) := (congrArg (fun t => List.lookup 140 t) gt121).trans (by decide +kernel)
theorem t121_141 : zT 121 141 = some (.if_icmp .ge 24, 3, 165, 0, 0, 0) := (congrArg (fun t => List.lookup 141 t) gt121).trans (by decide +kernel)
theorem t121_144 : zT 121 144 = some (.aload_n 1, 1, 1, 0, 0, 0) := (congrArg (fun t => List.lookup 144 t) gt121).trans (by decide +kernel)
theorem t121_145 : zT 121 145 = some (.getfield 149, 3, 8, 6, 0, 436) := (congrArg (fun t => List.lookup 145 t) gt121).trans (by decide +kernel)
theorem t121_148 : zT 121 148 = some (.iload 7, 2, 0, 0, 0, 0) := (congrArg (fun t => List.lookup 148 t) gt121).trans (by decide +kernel)
theorem t121_150 : zT 121 150 = some (.aload_n 0, 1, 0, 0, 0, 0) := (congrArg (fun t => List.lookup 150 t) gt121).trans (by decide +kernel)
theorem t121_151 : zT 121 151 = some (.getfield 34, 3, 5, 7, 0, 356) := (congrArg (fun t => List.lookup 151 t) gt121).trans (by decide +kernel)
theorem t121_154 : zT 121 154 = some (.iload 6, 2, 0, 0, 0, 0) := (congrArg (fun t => List.lookup 154 t) gt121).trans (by decide +kernel)
theorem t121_156 : zT 121 156 = some (.iaload, 1, 0, 0, 0, 0) := (congrArg (fun t => List.lookup 156 t) gt121).trans (by decide +kernel)
theorem t121_157 : zT 121 157 = some (.iastore, 1, 0, 0, 0, 0) := (congrArg (fun t => List.lookup 157 t) gt121).trans (by decide +kernel)
theorem t121_158 : zT 121 158 = some (.aload 5, 2, 0, 0, 0, 0) := (congrArg (fun t => List.lookup 158 t) gt121).trans (by decide +kernel)
theorem t121_160 : zT 121 160 = some (.iload 7, 2, 0, 0, 0, 0) := (congrArg (fun t => List.lookup 160 t) gt121).trans (by decide +kernel)
theorem t121_162 : zT 121 162 = some (.iload 9, 2, 0, 0, 0, 0) := (congrArg (fun t => List.lookup 162 t) gt121).trans (by decide +kernel)
theorem t121_164 : zT 121 164 = some (.iastore, 1, 0, 0, 0, 0) := (congrArg (fun t => List.lookup 164 t) gt121).trans (by decide +kernel)
theorem t121_165 : zT 121 165 = some (.iinc 6 1, 3, 0, 0, 0, 0) := (congrArg (fun t => List.lookup 165 t) gt121).trans (by decide +kernel)
theorem t121_168 : zT 121 168 = some (.goto (-120), 3, 48, 0, 0, 0) := (congrArg (fun t => List.lookup 168 t) gt121).trans (by decide +kernel)
theorem t121_171 : zT 121 171 = some (.return_, 1, 0, 0, 0, 0) := (congrArg (fun t => List.lookup 171 t) gt121).trans (by decide +kernel)
theorem t122_0 : zT 122 0 = some (.iload_n 0, 1, 0, 0, 0, 0) := (congrArg (fun t => List.lookup 0 t) gt122).trans rfl
theorem t122_1 : zT 122 1 = some (.ifCond .ge 8, 3, 9, 0, 0, 0) := (congrArg (fun t => List.lookup 1 t) gt122).trans rfl
theorem t122_4 : zT 122 4 = some (.iload_n 0, 1, 0, 0, 0, 0) := (congrArg (fun t => List.lookup 4 t) gt122).trans rfl
theorem t122_5 : zT 122 5 = some (.ineg, 1, 0, 0, 0, 0) := (congrArg (fun t => List.lookup 5 t) gt122).trans rfl
theorem t122_6 : zT 122 6 = some (.goto 4, 3, 10, 0, 0, 0) := (congrArg (fun t => List.lookup 6 t) gt122).trans rfl
theorem t122_9 : zT 122 9 = some (.iload_n 0, 1, 0, 0, 0, 0) := (congrArg (fun t => List.lookup 9 t) gt122).trans rfl
theorem t122_10 : zT 122 10 = some (.ireturn, 1, 0, 0, 0, 0) := (congrArg (fun t => List.lookup 10 t) gt122).trans rfl
theorem t123_0 : zT 123 0 = some (.iconst 0, 1, 0, 0, 0, 0) := (congrArg (fun t => List.lookup 0 t) gt123).trans rfl
theorem t123_1 : zT 123 1 = some (.istore_n 2, 1, 2, 0, 0, 0) := (congrArg (fun t => List.lookup 1 t) gt123).trans rfl
theorem t123_2 : zT 123 2 = some (.iconst 0, 1, 0, 0, 0, 0) := (congrArg (fun t => List.lookup 2 t) gt123).trans rfl
theorem t123_3 : zT 123 3 = some (.istore_n 3, 1, 3, 0, 0, 0) := (congrArg (fun t => List.lookup 3 t) gt123).trans rfl
theorem t123_4 : zT 123 4 = some (.iload_n 3, 1, 3, 0, 0, 0) := (congrArg (fun t => List.lookup 4 t) gt123).trans rfl
theorem t123_5 : zT 123 5 = some (.aload_n 0, 1, 0, 0, 0, 0) := (congrArg (fun t => List.lookup 5 t) gt123).trans rfl
theorem t123_6 : zT 123 6 = some (.getfield 31, 3, 5, 6, 0, 355) := (congrArg (fun t => List.lookup 6 t) gt123).trans rfl
theorem t123_9 : zT 123 9 = some (.if_icmp .ge 68, 3, 77, 0, 0, 0) := (congrArg (fun t => List.lookup 9 t) gt123).trans rfl
theorem t123_12 : zT 123 12 = some (.aload_n 1, 1, 1, 0, 0, 0) := (congrArg (fun t => List.lookup 12 t) gt123).trans rfl
theorem t123_13 : zT 123 13 = some (.getfield 149, 3, 8, 6, 0, 436) := (congrArg (fun t => List.lookup 13 t) gt123).trans rfl
theorem t123_16 : zT 123 16 = some (.aload_n 0, 1, 0, 0, 0, 0) := (congrArg (fun t => List.lookup 16 t) gt123).trans rfl
theorem t123_17 : zT 123 17 = some (.getfield 37, 3, 5, 8, 0, 357) := (congrArg (fun t => List.lookup 17 t) gt123).trans rfl
theorem t123_20 : zT 123 20 = some (.iload_n 3, 1, 3, 0, 0, 0) := (congrArg (fun t => List.lookup 20 t) gt123).trans rfl
theorem t123_21 : zT 123 21 = some (.iaload, 1, 0, 0, 0, 0) := (congrArg (fun t => List.lookup 21 t) gt123).trans rfl
theorem t123_22 : zT 123 22 = some (.iaload, 1, 0, 0, 0, 0) := (congrArg (fun t => List.lookup 22 t) gt123).trans rfl
theorem t123_23 : zT 123 23 = some (.aload_n 0, 1, 0, 0, 0, 0) := (congrArg (fun t => List.lookup 23 t) gt123).trans rfl
theorem t123_24 : zT 123 24 = some (.getfield 34, 3, 5, 7, 0, 356) := (congrArg (fun t => List.lookup 24 t) gt123).trans rfl
theorem t123_27 : zT 123 27 = some (.iload_n 3, 1, 3, 0, 0, 0) := (congrArg (fun t => List.lookup 27 t) gt123).trans rfl
theorem t123_28 : zT 123 28 = some (.iaload, 1, 0, 0, 0, 0) := (congrArg (fun t => List.lookup 28 t) gt123).trans rfl
theorem t123_29 : zT 123 29 = some (.if_icmp .eq 42, 3, 71, 0, 0, 0) := (congrArg (fun t => List.lookup 29 t) gt123).trans rfl
theorem t123_32 : zT 123 32 = some (.aload_n 0, 1, 0, 0, 0, 0) := (congrArg (fun t => List.lookup 32 t) gt123).trans rfl
theorem t123_33 : zT 123 33 = some (.getfield 34, 3, 5, 7, 0, 356) := (congrArg (fun t => List.lookup 33 t) gt123).trans rfl
theorem t123_36 : zT 123 36 = some (.iload_n 2, 1, 2, 0, 0, 0) := (congrArg (fun t => List.lookup 36 t) gt123).trans rfl
theorem t123_37 : zT 123 37 = some (.aload_n 0, 1, 0, 0, 0, 0) := (congrArg (fun t => List.lookup 37 t) gt123).trans rfl
theorem t123_38 : zT 123 38 = some (.getfield 34, 3, 5, 7, 0, 356) := (congrArg (fun t => List.lookup 38 t) gt123).trans rfl
theorem t123_41 : zT 123 41 = some (.iload_n 3, 1, 3, 0, 0, 0) := (congrArg (fun t => List.lookup 41 t) gt123).trans rfl
theorem t123_42 : zT 123 42 = some (.iaload, 1, 0, 0, 0, 0) := (congrArg (fun t => List.lookup 42 t) gt123).trans rfl
theorem t123_43 : zT 123 43 = some (.iastore, 1, 0, 0, 0, 0) := (congrArg (fun t => List.lookup 43 t) gt123).trans rfl
theorem t123_44 : zT 123 44 = some (.aload_n 0, 1, 0, 0, 0, 0) := (congrArg (fun t => List.lookup 44 t) gt123).trans rfl
theorem t123_45 : zT 123 45 = some (.getfield 37, 3, 5, 8, 0, 357) := (congrArg (fun t => List.lookup 45 t) gt123).trans rfl
theorem t123_48 : zT 123 48 = some (.iload_n 2, 1, 2, 0, 0, 0) := (congrArg (fun t => List.lookup 48 t) gt123).trans rfl
theorem t123_49 : zT 123 49 = some (.aload_n 0, 1, 0, 0, 0, 0) := (congrArg (fun t => List.lookup 49 t) gt123).trans rfl
theorem t123_50 : zT 123 50 = some (.getfield 37, 3, 5, 8, 0, 357) := (congrArg (fun t => List.lookup 50 t) gt123).trans rfl
theorem t123_53 : zT 123 53 = some (.iload_n 3, 1, 3, 0, 0, 0) := (congrArg (fun t => List.lookup 53 t) gt123).trans rfl
theorem t123_54 : zT 123 54 = some (.iaload, 1, 0, 0, 0, 0) := (congrArg (fun t => List.lookup 54 t) gt123).trans rfl
theorem t123_55 : zT 123 55 = some (.iastore, 1, 0, 0, 0, 0) := (congrArg (fun t => List.lookup 55 t) gt123).trans rfl
theorem t123_56 : zT 123 56 = some (.aload_n 0, 1, 0, 0, 0, 0) := (congrArg (fun t => List.lookup 56 t) gt123).trans rfl
theorem t123_57 : zT 123 57 = some (.getfield 40, 3, 5, 9, 0, 358) := (congrArg (fun t => List.lookup 57 t) gt123).trans rfl
theorem t123_60 : zT 123 60 = some (.iload_n 2, 1, 2, 0, 0, 0) := (congrArg (fun t => List.lookup 60 t) gt123).trans rfl
theorem t123_61 : zT 123 61 = some (.aload_n 0, 1, 0, 0, 0, 0) := (congrArg (fun t => List.lookup 61 t) gt123).trans rfl
theorem t123_62 : zT 123 62 = some (.getfield 40, 3, 5, 9, 0, 358) := (congrArg (fun t => List.lookup 62 t) gt123).trans rfl
theorem t123_65 : zT 123 65 = some (.iload_n 3, 1, 3, 0, 0, 0) := (congrArg (fun t => List.lookup 65 t) gt123).trans rfl
theorem t123_66 : zT 123 66 = some (.iaload, 1, 0, 0, 0, 0) := (congrArg (fun t => List.lookup 66 t) gt123).trans rfl
theorem t123_67 : zT 123 67 = some (.iastore, 1, 0, 0, 0, 0) := (congrArg (fun t => List.lookup 67 t) gt123).trans rfl
theorem t123_68 : zT 123 68 = some (.iinc 2 1, 3, 0, 0, 0, 0) := (congrArg (fun t => List.lookup 68 t) gt123).trans rfl
theorem t123_71 : zT 123 71 = some (.iinc 3 1, 3, 0, 0, 0, 0) := (congrArg (fun t => List.lookup 71 t) gt123).trans rfl
theorem t123_74 : zT 123 74 = some (.goto (-70), 3, 4, 0, 0, 0) := (congrArg (fun t => List.lookup 74 t) gt123).trans rfl
theorem t123_77 : zT 123 77 = some (.aload_n 0, 1, 0, 0, 0, 0) := (congrArg (fun t => List.lookup 77 t) gt123).trans rfl
theorem t123_78 : zT 123 78 = some (.iload_n 2, 1, 2, 0, 0, 0) := (congrArg (fun t => List.lookup 78 t) gt123).trans rfl
theorem t123_79 : zT 123 79 = some (.putfield 31, 3, 5, 6, 0, 355) := (congrArg (fun t => List.lookup 79 t) gt123).trans rfl
theorem t123_82 : zT 123 82 = some (.return_, 1, 0, 0, 0, 0) := (congrArg (fun t => List.lookup 82 t) gt123).trans rfl
theorem t124_0 : zT 124 0 = some (.iconst 0, 1, 0, 0, 0, 0) := (congrArg (fun t => List.lookup 0 t) gt124).trans rfl
theorem t124_1 : zT 124 1 = some (.istore_n 2, 1, 2, 0, 0, 0) := (congrArg (fun t => List.lookup 1 t) gt124).trans rfl
theorem t124_2 : zT 124 2 = some (.iconst 0, 1, 0, 0, 0, 0) := (congrArg (fun t => List.lookup 2 t) gt124).trans rfl
theorem t124_3 : zT 124 3 = some (.istore_n 3, 1, 3, 0, 0, 0) := (congrArg (fun t => List.lookup 3 t) gt124).trans rfl
theorem t124_4 : zT 124 4 = some (.iload_n 3, 1, 3, 0, 0, 0) := (congrArg (fun t => List.lookup 4 t) gt124).trans rfl
theorem t124_5 : zT 124 5 = some (.aload_n 0, 1, 0, 0, 0, 0) := (congrArg (fun t => List.lookup 5 t) gt124).trans rfl
theorem t124_6 : zT 124 6 = some (.getfield 18, 3, 4, 1, 0, 493) := (congrArg (fun t => List.lookup 6 t) gt124).trans rfl
theorem t124_9 : zT 124 9 = some (.invokevirtual 92, 3, 125, 0, 0, 1159) := (congrArg (fun t => List.lookup 9 t) gt124).trans rfl
theorem t124_12 : zT 124 12 = some (.if_icmp .ge 36, 3, 48, 0, 0, 0) := (congrArg (fun t => List.lookup 12 t) gt124).trans rfl
theorem t124_15 : zT 124 15 = some (.aload_n 0, 1, 0, 0, 0, 0) := (congrArg (fun t => List.lookup 15 t) gt124).trans rfl
theorem t124_16 : zT 124 16 = some (.getfield 18, 3, 4, 1, 0, 493) := (congrArg (fun t => List.lookup 16 t) gt124).trans rfl
theorem t124_19 : zT 124 19 = some (.iload_n 3, 1, 3, 0, 0, 0) := (congrArg (fun t => List.lookup 19 t) gt124).trans rfl
theorem t124_20 : zT 124 20 = some (.invokevirtual 96, 3, 126, 0, 0, 1163) := (congrArg (fun t => List.lookup 20 t) gt124).trans rfl
theorem t124_23 : zT 124 23 = some (.astore 4, 2, 0, 0, 0, 0) := (congrArg (fun t => List.lookup 23 t) gt124).trans rfl
theorem t124_25 : zT 124 25 = some (.aload 4, 2, 0, 0, 0, 0) := (congrArg (fun t => List.lookup 25 t) gt124).trans rfl
theorem t124_27 : zT 124 27 = some (.ifnull 15, 3, 42, 0, 0, 0) := (congrArg (fun t => List.lookup 27 t) gt124).trans rfl
theorem t124_30 : zT 124 30 = some (.aload 4, 2, 0, 0, 0, 0) := (congrArg (fun t => List.lookup 30 t) gt124).trans rfl
theorem t124_32 : zT 124 32 = some (.getfield 100, 3, 8, 3, 0, 427) := (congrArg (fun t => List.lookup 32 t) gt124).trans rfl
theorem t124_35 : zT 124 35 = some (.iload_n 1, 1, 1, 0, 0, 0) := (congrArg (fun t => List.lookup 35 t) gt124).trans rfl
theorem t124_36 : zT 124 36 = some (.if_icmp .lt 6, 3, 42, 0, 0, 0) := (congrArg (fun t => List.lookup 36 t) gt124).trans rfl
theorem t124_39 : zT 124 39 = some (.iinc 2 1, 3, 0, 0, 0, 0) := (congrArg (fun t => List.lookup 39 t) gt124).trans rfl
theorem t124_42 : zT 124 42 = some (.iinc 3 1, 3, 0, 0, 0, 0) := (congrArg (fun t => List.lookup 42 t) gt124).trans rfl
theorem t124_45 : zT 124 45 = some (.goto (-41), 3, 4, 0, 0, 0) := (congrArg (fun t => List.lookup 45 t) gt124).trans rfl
theorem t124_48 : zT 124 48 = some (.iload_n 2, 1, 2, 0, 0, 0) := (congrArg (fun t => List.lookup 48 t) gt124).trans rfl
theorem t124_49 : zT 124 49 = some (.ireturn, 1, 0, 0, 0, 0) := (congrArg (fun t => List.lookup 49 t) gt124).trans rfl
theorem t125_0 : zT 125 0 = some (.aload_n 0, 1, 0, 0, 0, 0) := (congrArg (fun t => List.lookup 0 t) gt125).trans rfl
theorem t125_1 : zT 125 1 = some (.getfield 24, 3, 0, 2, 0, 475) := (congrArg (fun t => List.lookup 1 t) gt125).trans rfl
theorem t125_4 : zT 125 4 = some (.ireturn, 1, 0, 0, 0, 0) := (congrArg (fun t => List.lookup 4 t) gt125).trans rfl
theorem t126_0 : zT 126 0 = some (.iload_n 1, 1, 1, 0, 0, 0) := (congrArg (fun t => List.lookup 0 t) gt126).trans rfl
theorem t126_1 : zT 126 1 = some (.ifCond .lt 20, 3, 21, 0, 0, 0) := (congrArg (fun t => List.lookup 1 t) gt126).trans rfl
theorem t126_4 : zT 126 4 = some (.iload_n 1, 1, 1, 0, 0, 0) := (congrArg (fun t => List.lookup 4 t) gt126).trans rfl
theorem t126_5 : zT 126 5 = some (.aload_n 0, 1, 0, 0, 0, 0) := (congrArg (fun t => List.lookup 5 t) gt126).trans rfl
theorem t126_6 : zT 126 6 = some (.getfield 24, 3, 0, 2, 0, 475) := (congrArg (fun t => List.lookup 6 t) gt126).trans rfl
theorem t126_9 : zT 126 9 = some (.if_icmp .ge 12, 3, 21, 0, 0, 0) := (congrArg (fun t => List.lookup 9 t) gt126).trans rfl
theorem t126_12 : zT 126 12 = some (.aload_n 0, 1, 0, 0, 0, 0) := (congrArg (fun t => List.lookup 12 t) gt126).trans rfl
theorem t126_13 : zT 126 13 = some (.getfield 20, 3, 0, 1, 0, 474) := (congrArg (fun t => List.lookup 13 t) gt126).trans rfl
theorem t126_16 : zT 126 16 = some (.iload_n 1, 1, 1, 0, 0, 0) := (congrArg (fun t => List.lookup 16 t) gt126).trans rfl
theorem t126_17 : zT 126 17 = some (.aaload, 1, 0, 0, 0, 0) := (congrArg (fun t => List.lookup 17 t) gt126).trans rfl
theorem t126_18 : zT 126 18 = some (.goto 4, 3, 22, 0, 0, 0) := (congrArg (fun t => List.lookup 18 t) gt126).trans rfl
theorem t126_21 : zT 126 21 = some (.aconst_null, 1, 0, 0, 0, 0) := (congrArg (fun t => List.lookup 21 t) gt126).trans rfl
theorem t126_22 : zT 126 22 = some (.areturn, 1, 0, 0, 0, 0) := (congrArg (fun t => List.lookup 22 t) gt126).trans rfl
theorem t127_0 : zT 127 0 = some (.iconst 0, 1, 0, 0, 0, 0) := (congrArg (fun t => List.lookup 0 t) gt127).trans rfl
theorem t127_1 : zT 127 1 = some (.istore_n 2, 1, 2, 0, 0, 0) := (congrArg (fun t => List.lookup 1 t) gt127).trans rfl
theorem t127_2 : zT 127 2 = some (.iload_n 2, 1, 2, 0, 0, 0) := (congrArg (fun t => List.lookup 2 t) gt127).trans rfl
theorem t127_3 : zT 127 3 = some (.bipush 60, 2, 0, 0, 60, 0) := (congrArg (fun t => List.lookup 3 t) gt127).trans rfl
theorem t127_5 : zT 127 5 = some (.if_icmp .ge 17, 3, 22, 0, 0, 0) := (congrArg (fun t => List.lookup 5 t) gt127).trans rfl
theorem t127_8 : zT 127 8 = some (.aload_n 0, 1, 0, 0, 0, 0) := (congrArg (fun t => List.lookup 8 t) gt127).trans rfl
theorem t127_9 : zT 127 9 = some (.getfield 35, 3, 4, 6, 0, 498) := (congrArg (fun t => List.lookup 9 t) gt127).trans rfl
theorem t127_12 : zT 127 12 = some (.iload_n 2, 1, 2, 0, 0, 0) := (congrArg (fun t => List.lookup 12 t) gt127).trans rfl
theorem t127_13 : zT 127 13 = some (.bipush (-2), 2, 0, 0, (-2), 0) := (congrArg (fun t => List.lookup 13 t) gt127).trans rfl
theorem t127_15 : zT 127 15 = some (.iastore, 1, 0, 0, 0, 0) := (congrArg (fun t => List.lookup 15 t) gt127).trans rfl
theorem t127_16 : zT 127 16 = some (.iinc 2 1, 3, 0, 0, 0, 0) := (congrArg (fun t => List.lookup 16 t) gt127).trans rfl
theorem t127_19 : zT 127 19 = some (.goto (-17), 3, 2, 0, 0, 0) := (congrArg (fun t => List.lookup 19 t) gt127).trans rfl
theorem t127_22 : zT 127 22 = some (.iconst 0, 1, 0, 0, 0, 0) := (congrArg (fun t => List.lookup 22 t) gt127).trans rfl
theorem t127_23 : zT 127 23 = some (.istore_n 2, 1, 2, 0, 0, 0) := (congrArg (fun t => List.lookup 23 t) gt127).trans rfl
theorem t127_24 : zT 127 24 = some (.iload_n 2, 1, 2, 0, 0, 0) := (congrArg (fun t => List.lookup 24 t) gt127).trans rfl
theorem t127_25 : zT 127 25 = some (.aload_n 0, 1, 0, 0, 0, 0) := (congrArg (fun t => List.lookup 25 t) gt127).trans rfl
theorem t127_26 : zT 127 26 = some (.getfield 32, 3, 4, 5, 0, 497) := (congrArg (fun t => List.lookup 26 t) gt127).trans rfl
theorem t127_29 : zT 127 29 = some (.if_icmp .ge 46, 3, 75, 0, 0, 0) := (congrArg (fun t => List.lookup 29 t) gt127).trans rfl
theorem t127_32 : zT 127 32 = some (.aload_n 0, 1, 0, 0, 0, 0) := (congrArg (fun t => List.lookup 32 t) gt127).trans rfl
theorem t127_33 : zT 127 33 = some (.getfield 39, 3, 4, 7, 0, 499) := (congrArg (fun t => List.lookup 33 t) gt127).trans rfl
theorem t127_36 : zT 127 36 = some (.iload_n 2, 1, 2, 0, 0, 0) := (congrArg (fun t => List.lookup 36 t) gt127).trans rfl
theorem t127_37 : zT 127 37 = some (.aload_n 1, 1, 1, 0, 0, 0) := (congrArg (fun t => List.lookup 37 t) gt127).trans rfl
theorem t127_38 : zT 127 38 = some (.iload_n 2, 1, 2, 0, 0, 0) := (congrArg (fun t => List.lookup 38 t) gt127).trans rfl
theorem t127_39 : zT 127 39 = some (.invokevirtual 105, 3, 128, 0, 0, 1171) := (congrArg (fun t => List.lookup 39 t) gt127).trans rfl
theorem t127_42 : zT 127 42 = some (.iastore, 1, 0, 0, 0, 0) := (congrArg (fun t => List.lookup 42 t) gt127).trans rfl
theorem t127_43 : zT 127 43 = some (.iconst 0, 1, 0, 0, 0, 0) := (congrArg (fun t => List.lookup 43 t) gt127).trans rfl
theorem t127_44 : zT 127 44 = some (.istore_n 3, 1, 3, 0, 0, 0) := (congrArg (fun t => List.lookup 44 t) gt127).trans rfl
theorem t127_45 : zT 127 45 = some (.iload_n 3, 1, 3, 0, 0, 0) := (congrArg (fun t => List.lookup 45 t) gt127).trans rfl
theorem t127_46 : zT 127 46 = some (.bipush 20, 2, 0, 0, 20, 0) := (congrArg (fun t => List.lookup 46 t) gt127).trans rfl
theorem t127_48 : zT 127 48 = some (.if_icmp .ge 21, 3, 69, 0, 0, 0) := (congrArg (fun t => List.lookup 48 t) gt127).trans rfl
theorem t127_51 : zT 127 51 = some (.aload_n 0, 1, 0, 0, 0, 0) := (congrArg (fun t => List.lookup 51 t) gt127).trans rfl
theorem t127_52 : zT 127 52 = some (.getfield 42, 3, 4, 8, 0, 500) := (congrArg (fun t => List.lookup 52 t) gt127).trans rfl
theorem t127_55 : zT 127 55 = some (.iload_n 2, 1, 2, 0, 0, 0) := (congrArg (fun t => List.lookup 55 t) gt127).trans rfl
theorem t127_56 : zT 127 56 = some (.bipush 20, 2, 0, 0, 20, 0) := (congrArg (fun t => List.lookup 56 t) gt127).trans rfl
theorem t127_58 : zT 127 58 = some (.imul, 1, 0, 0, 0, 0) := (congrArg (fun t => List.lookup 58 t) gt127).trans rfl
theorem t127_59 : zT 127 59 = some (.iload_n 3, 1, 3, 0, 0, 0) := (congrArg (fun t => List.lookup 59 t) gt127).trans rfl
theorem t127_60 : zT 127 60 = some (.iadd, 1, 0, 0, 0, 0) := (congrArg (fun t => List.lookup 60 t) gt127).trans rfl
theorem t127_61 : zT 127 61 = some (.iconst 0, 1, 0, 0, 0, 0) := (congrArg (fun t => List.lookup 61 t) gt127).trans rfl
theorem t127_62 : zT 127 62 = some (.iastore, 1, 0, 0, 0, 0) := (congrArg (fun t => List.lookup 62 t) gt127).trans rfl
theorem t127_63 : zT 127 63 = some (.iinc 3 1, 3, 0, 0, 0, 0) := (congrArg (fun t => List.lookup 63 t) gt127).trans rfl
theorem t127_66 : zT 127 66 = some (.goto (-21), 3, 45, 0, 0, 0) := (congrArg (fun t => List.lookup 66 t) gt127).trans rfl
theorem t127_69 : zT 127 69 = some (.iinc 2 1, 3, 0, 0, 0, 0) := (congrArg (fun t => List.lookup 69 t) gt127).trans rfl
theorem t127_72 : zT 127 72 = some (.goto (-48), 3, 24, 0, 0, 0) := (congrArg (fun t => List.lookup 72 t) gt127).trans rfl
theorem t127_75 : zT 127 75 = some (.iconst 0, 1, 0, 0, 0, 0) := (congrArg (fun t => List.lookup 75 t) gt127).trans rfl
theorem t127_76 : zT 127 76 = some (.istore_n 2, 1, 2, 0, 0, 0) := (congrArg (fun t => List.lookup 76 t) gt127).trans rfl
theorem t127_77 : zT 127 77 = some (.iload_n 2, 1, 2, 0, 0, 0) := (congrArg (fun t => List.lookup 77 t) gt127).trans rfl
theorem t127_78 : zT 127 78 = some (.aload_n 0, 1, 0, 0, 0, 0) := (congrArg (fun t => List.lookup 78 t) gt127).trans rfl
theorem t127_79 : zT 127 79 = some (.getfield 18, 3, 4, 1, 0, 493) := (congrArg (fun t => List.lookup 79 t) gt127).trans rfl
theorem t127_82 : zT 127 82 = some (.invokevirtual 92, 3, 125, 0, 0, 1159) := (congrArg (fun t => List.lookup 82 t) gt127).trans rfl
theorem t127_85 : zT 127 85 = some (.if_icmp .ge 53, 3, 138, 0, 0, 0) := (congrArg (fun t => List.lookup 85 t) gt127).trans rfl
theorem t127_88 : zT 127 88 = some (.aload_n 0, 1, 0, 0, 0, 0) := (congrArg (fun t => List.lookup 88 t) gt127).trans rfl
theorem t127_89 : zT 127 89 = some (.getfield 18, 3, 4, 1, 0, 493) := (congrArg (fun t => List.lookup 89 t) gt127).trans rfl
theorem t127_92 : zT 127 92 = some (.iload_n 2, 1, 2, 0, 0, 0) := (congrArg (fun t => List.lookup 92 t) gt127).trans rfl
theorem t127_93 : zT 127 93 = some (.invokevirtual 96, 3, 126, 0, 0, 1163) := (congrArg (fun t => List.lookup 93 t) gt127).trans rfl
theorem t127_96 : zT 127 96 = some (.astore_n 3, 1, 3, 0, 0, 0) := (congrArg (fun t => List.lookup 96 t) gt127).trans rfl
theorem t127_97 : zT 127 97 = some (.iconst 0, 1, 0, 0, 0, 0) := (congrArg (fun t => List.lookup 97 t) gt127).trans rfl
theorem t127_98 : zT 127 98 = some (.istore 4, 2, 0, 0, 0, 0) := (congrArg (fun t => List.lookup 98 t) gt127).trans rfl
theorem t127_100 : zT 127 100 = some (.iload 4, 2, 0, 0, 0, 0) := (congrArg (fun t => List.lookup 100 t) gt127).trans rfl
theorem t127_102 : zT 127 102 = some (.aload_n 1, 1, 1, 0, 0, 0) := (congrArg (fun t => List.lookup 102 t) gt127).trans rfl
theorem t127_103 : zT 127 103 = some (.getfield 108, 3, 6, 0, 0, 155) := (congrArg (fun t => List.lookup 103 t) gt127).trans rfl
theorem t127_106 : zT 127 106 = some (.if_icmp .ge 26, 3, 132, 0, 0, 0) := (congrArg (fun t => List.lookup 106 t) gt127).trans rfl
theorem t127_109 : zT 127 109 = some (.aload_n 3, 1, 3, 0, 0, 0) := (congrArg (fun t => List.lookup 109 t) gt127).trans rfl
theorem t127_110 : zT 127 110 = some (.ifnull 22, 3, 132, 0, 0, 0) := (congrArg (fun t => List.lookup 110 t) gt127).trans rfl
theorem t127_113 : zT 127 113 = some (.aload_n 0, 1, 0, 0, 0, 0) := (congrArg (fun t => List.lookup 113 t) gt127).trans rfl
theorem t127_114 : zT 127 114 = some (.aload_n 1, 1, 1, 0, 0, 0) := (congrArg (fun t => List.lookup 114 t) gt127).trans rfl
theorem t127_115 : zT 127 115 = some (.aload_n 3, 1, 3, 0, 0, 0) := (congrArg (fun t => List.lookup 115 t) gt127).trans rfl
theorem t127_116 : zT 127 116 = some (.getfield 111, 3, 8, 6, 0, 435) := (congrArg (fun t => List.lookup 116 t) gt127).trans rfl
theorem t127_119 : zT 127 119 = some (.iload 4, 2, 0, 0, 0, 0) := (congrArg (fun t => List.lookup 119 t) gt127).trans rfl
theorem t127_121 : zT 127 121 = some (.iaload, 1, 0, 0, 0, 0) := (congrArg (fun t => List.lookup 121 t) gt127).trans rfl
theorem t127_122 : zT 127 122 = some (.iload_n 2, 1, 2, 0, 0, 0) := (congrArg (fun t => List.lookup 122 t) gt127).trans rfl
theorem t127_123 : zT 127 123 = some (.invokevirtual 114, 3, 129, 0, 0, 1175) := (congrArg (fun t => List.lookup 123 t) gt127).trans (by decide +kernel)
theorem t127_126 : zT 127 126 = some (.iinc 4 1, 3, 0, 0, 0, 0) := (congrArg (fun t => List.lookup 126 t) gt127).trans (by decide +kernel)
theorem t127_129 : zT 127 129 = some (.goto (-29), 3, 100, 0, 0, 0) := (congrArg (fun t => List.lookup 129 t) gt127).trans (by decide +kernel)
theorem t127_132 : zT 127 132 = some (.iinc 2 1, 3, 0, 0, 0, 0) := (congrArg (fun t => List.lookup 132 t) gt127).trans (by decide +kernel)
theorem t127_135 : zT 127 135 = some (.goto (-58), 3, 77, 0, 0, 0) := (congrArg (fun t => List.lookup 135 t) gt127).trans (by decide +kernel)
theorem t127_138 : zT 127 138 = some (.return_, 1, 0, 0, 0, 0) := (congrArg (fun t => List.lookup 138 t) gt127).trans (by decide +kernel)
theorem t128_0 : zT 128 0 = some (.iconst 0, 1, 0, 0, 0, 0) := (congrArg (fun t => List.lookup 0 t) gt128).trans rfl
theorem t128_1 : zT 128 1 = some (.istore_n 2, 1, 2, 0, 0, 0) := (congrArg (fun t => List.lookup 1 t) gt128).trans rfl
theorem t128_2 : zT 128 2 = some (.iconst 0, 1, 0, 0, 0, 0) := (congrArg (fun t => List.lookup 2 t) gt128).trans rfl
theorem t128_3 : zT 128 3 = some (.istore_n 3, 1, 3, 0, 0, 0) := (congrArg (fun t => List.lookup 3 t) gt128).trans rfl
theorem t128_4 : zT 128 4 = some (.iload_n 3, 1, 3, 0, 0, 0) := (congrArg (fun t => List.lookup 4 t) gt128).trans rfl
theorem t128_5 : zT 128 5 = some (.aload_n 0, 1, 0, 0, 0, 0) := (congrArg (fun t => List.lookup 5 t) gt128).trans rfl
theorem t128_6 : zT 128 6 = some (.getfield 23, 3, 6, 3, 0, 164) := (congrArg (fun t => List.lookup 6 t) gt128).trans rfl
theorem t128_9 : zT 128 9 = some (.if_icmp .ge 30, 3, 39, 0, 0, 0) := (congrArg (fun t => List.lookup 9 t) gt128).trans rfl
theorem t128_12 : zT 128 12 = some (.aload_n 0, 1, 0, 0, 0, 0) := (congrArg (fun t => List.lookup 12 t) gt128).trans rfl
theorem t128_13 : zT 128 13 = some (.getfield 35, 3, 6, 7, 0, 177) := (congrArg (fun t => List.lookup 13 t) gt128).trans rfl
theorem t128_16 : zT 128 16 = some (.iload_n 3, 1, 3, 0, 0, 0) := (congrArg (fun t => List.lookup 16 t) gt128).trans rfl
theorem t128_17 : zT 128 17 = some (.iaload, 1, 0, 0, 0, 0) := (congrArg (fun t => List.lookup 17 t) gt128).trans rfl
theorem t128_18 : zT 128 18 = some (.iload_n 1, 1, 1, 0, 0, 0) := (congrArg (fun t => List.lookup 18 t) gt128).trans rfl
theorem t128_19 : zT 128 19 = some (.if_icmp .ne 14, 3, 33, 0, 0, 0) := (congrArg (fun t => List.lookup 19 t) gt128).trans rfl
theorem t128_22 : zT 128 22 = some (.aload_n 0, 1, 0, 0, 0, 0) := (congrArg (fun t => List.lookup 22 t) gt128).trans rfl
theorem t128_23 : zT 128 23 = some (.iload_n 3, 1, 3, 0, 0, 0) := (congrArg (fun t => List.lookup 23 t) gt128).trans rfl
theorem t128_24 : zT 128 24 = some (.invokevirtual 95, 3, 93, 0, 0, 1014) := (congrArg (fun t => List.lookup 24 t) gt128).trans rfl
theorem t128_27 : zT 128 27 = some (.ifCond .eq 6, 3, 33, 0, 0, 0) := (congrArg (fun t => List.lookup 27 t) gt128).trans rfl
theorem t128_30 : zT 128 30 = some (.iinc 2 1, 3, 0, 0, 0, 0) := (congrArg (fun t => List.lookup 30 t) gt128).trans rfl
theorem t128_33 : zT 128 33 = some (.iinc 3 1, 3, 0, 0, 0, 0) := (congrArg (fun t => List.lookup 33 t) gt128).trans rfl
theorem t128_36 : zT 128 36 = some (.goto (-32), 3, 4, 0, 0, 0) := (congrArg (fun t => List.lookup 36 t) gt128).trans rfl
theorem t128_39 : zT 128 39 = some (.iload_n 2, 1, 2, 0, 0, 0) := (congrArg (fun t => List.lookup 39 t) gt128).trans rfl
theorem t128_40 : zT 128 40 = some (.ireturn, 1, 0, 0, 0, 0) := (congrArg (fun t => List.lookup 40 t) gt128).trans rfl
theorem t129_0 : zT 129 0 = some (.aload_n 1, 1, 1, 0, 0, 0) := (congrArg (fun t => List.lookup 0 t) gt129).trans rfl
theorem t129_1 : zT 129 1 = some (.iload_n 2, 1, 2, 0, 0, 0) := (congrArg (fun t => List.lookup 1 t) gt129).trans rfl
theorem t129_2 : zT 129 2 = some (.invokevirtual 117, 3, 91, 0, 0, 1179) := (congrArg (fun t => List.lookup 2 t) gt129).trans rfl
theorem t129_5 : zT 129 5 = some (.ifCond .ne 4, 3, 9, 0, 0, 0) := (congrArg (fun t => List.lookup 5 t) gt129).trans rfl
theorem t129_8 : zT 129 8 = some (.return_, 1, 0, 0, 0, 0) := (congrArg (fun t => List.lookup 8 t) gt129).trans rfl
theorem t129_9 : zT 129 9 = some (.iload_n 3, 1, 3, 0, 0, 0) := (congrArg (fun t => List.lookup 9 t) gt129).trans rfl
theorem t129_10 : zT 129 10 = some (.aload_n 0, 1, 0, 0, 0, 0) := (congrArg (fun t => List.lookup 10 t) gt129).trans rfl
theorem t129_11 : zT 129 11 = some (.getfield 29, 3, 4, 4, 0, 496) := (congrArg (fun t => List.lookup 11 t) gt129).trans rfl
theorem t129_14 : zT 129 14 = some (.if_icmp .ge 10, 3, 24, 0, 0, 0) := (congrArg (fun t => List.lookup 14 t) gt129).trans rfl
theorem t129_17 : zT 129 17 = some (.aload_n 0, 1, 0, 0, 0, 0) := (congrArg (fun t => List.lookup 17 t) gt129).trans rfl
theorem t129_18 : zT 129 18 = some (.getfield 35, 3, 4, 6, 0, 498) := (congrArg (fun t => List.lookup 18 t) gt129).trans rfl
theorem t129_21 : zT 129 21 = some (.iload_n 2, 1, 2, 0, 0, 0) := (congrArg (fun t => List.lookup 21 t) gt129).trans rfl
theorem t129_22 : zT 129 22 = some (.iload_n 3, 1, 3, 0, 0, 0) := (congrArg (fun t => List.lookup 22 t) gt129).trans rfl
theorem t129_23 : zT 129 23 = some (.iastore, 1, 0, 0, 0, 0) := (congrArg (fun t => List.lookup 23 t) gt129).trans rfl
theorem t129_24 : zT 129 24 = some (.aload_n 1, 1, 1, 0, 0, 0) := (congrArg (fun t => List.lookup 24 t) gt129).trans rfl
theorem t129_25 : zT 129 25 = some (.getfield 121, 3, 6, 7, 0, 178) := (congrArg (fun t => List.lookup 25 t) gt129).trans rfl
theorem t129_28 : zT 129 28 = some (.iload_n 2, 1, 2, 0, 0, 0) := (congrArg (fun t => List.lookup 28 t) gt129).trans rfl
theorem t129_29 : zT 129 29 = some (.iaload, 1, 0, 0, 0, 0) := (congrArg (fun t => List.lookup 29 t) gt129).trans rfl
theorem t129_30 : zT 129 30 = some (.istore 4, 2, 0, 0, 0, 0) := (congrArg (fun t => List.lookup 30 t) gt129).trans rfl
theorem t129_32 : zT 129 32 = some (.aload_n 1, 1, 1, 0, 0, 0) := (congrArg (fun t => List.lookup 32 t) gt129).trans rfl
theorem t129_33 : zT 129 33 = some (.iload 4, 2, 0, 0, 0, 0) := (congrArg (fun t => List.lookup 33 t) gt129).trans rfl
theorem t129_35 : zT 129 35 = some (.invokevirtual 124, 3, 130, 0, 0, 1180) := (congrArg (fun t => List.lookup 35 t) gt129).trans rfl
theorem t129_38 : zT 129 38 = some (.ifCond .eq 19, 3, 57, 0, 0, 0) := (congrArg (fun t => List.lookup 38 t) gt129).trans rfl
theorem t129_41 : zT 129 41 = some (.aload_n 0, 1, 0, 0, 0, 0) := (congrArg (fun t => List.lookup 41 t) gt129).trans rfl
theorem t129_42 : zT 129 42 = some (.getfield 42, 3, 4, 8, 0, 500) := (congrArg (fun t => List.lookup 42 t) gt129).trans rfl
theorem t129_45 : zT 129 45 = some (.iload 4, 2, 0, 0, 0, 0) := (congrArg (fun t => List.lookup 45 t) gt129).trans rfl
theorem t129_47 : zT 129 47 = some (.bipush 20, 2, 0, 0, 20, 0) := (congrArg (fun t => List.lookup 47 t) gt129).trans rfl
theorem t129_49 : zT 129 49 = some (.imul, 1, 0, 0, 0, 0) := (congrArg (fun t => List.lookup 49 t) gt129).trans rfl
theorem t129_50 : zT 129 50 = some (.iload_n 3, 1, 3, 0, 0, 0) := (congrArg (fun t => List.lookup 50 t) gt129).trans rfl
theorem t129_51 : zT 129 51 = some (.iadd, 1, 0, 0, 0, 0) := (congrArg (fun t => List.lookup 51 t) gt129).trans rfl
theorem t129_52 : zT 129 52 = some (.dup2, 1, 0, 0, 0, 0) := (congrArg (fun t => List.lookup 52 t) gt129).trans rfl
theorem t129_53 : zT 129 53 = some (.iaload, 1, 0, 0, 0, 0) := (congrArg (fun t => List.lookup 53 t) gt129).trans rfl
theorem t129_54 : zT 129 54 = some (.iconst 1, 1, 0, 0, 1, 0) := (congrArg (fun t => List.lookup 54 t) gt129).trans rfl
theorem t129_55 : zT 129 55 = some (.iadd, 1, 0, 0, 0, 0) := (congrArg (fun t => List.lookup 55 t) gt129).trans rfl
theorem t129_56 : zT 129 56 = some (.iastore, 1, 0, 0, 0, 0) := (congrArg (fun t => List.lookup 56 t) gt129).trans rfl
theorem t129_57 : zT 129 57 = some (.return_, 1, 0, 0, 0, 0) := (congrArg (fun t => List.lookup 57 t) gt129).trans rfl
theorem t130_0 : zT 130 0 = some (.iload_n 1, 1, 1, 0, 0, 0) := (congrArg (fun t => List.lookup 0 t) gt130).trans rfl
theorem t130_1 : zT 130 1 = some (.ifCond .lt 15, 3, 16, 0, 0, 0) := (congrArg (fun t => List.lookup 1 t) gt130).trans rfl
theorem t130_4 : zT 130 4 = some (.iload_n 1, 1, 1, 0, 0, 0) := (congrArg (fun t => List.lookup 4 t) gt130).trans rfl
theorem t130_5 : zT 130 5 = some (.aload_n 0, 1, 0, 0, 0, 0) := (congrArg (fun t => List.lookup 5 t) gt130).trans rfl
theorem t130_6 : zT 130 6 = some (.getfield 38, 3, 6, 8, 0, 180) := (congrArg (fun t => List.lookup 6 t) gt130).trans rfl
theorem t130_9 : zT 130 9 = some (.if_icmp .ge 7, 3, 16, 0, 0, 0) := (congrArg (fun t => List.lookup 9 t) gt130).trans rfl
theorem t130_12 : zT 130 12 = some (.iconst 1, 1, 0, 0, 1, 0) := (congrArg (fun t => List.lookup 12 t) gt130).trans rfl
theorem t130_13 : zT 130 13 = some (.goto 4, 3, 17, 0, 0, 0) := (congrArg (fun t => List.lookup 13 t) gt130).trans rfl
theorem t130_16 : zT 130 16 = some (.iconst 0, 1, 0, 0, 0, 0) := (congrArg (fun t => List.lookup 16 t) gt130).trans rfl
theorem t130_17 : zT 130 17 = some (.ireturn, 1, 0, 0, 0, 0) := (congrArg (fun t => List.lookup 17 t) gt130).trans rfl
theorem t131_0 : zT 131 0 = some (.iconst 0, 1, 0, 0, 0, 0) := (congrArg (fun t => List.lookup 0 t) gt131).trans rfl
theorem t131_1 : zT 131 1 = some (.istore_n 2, 1, 2, 0, 0, 0) := (congrArg (fun t => List.lookup 1 t) gt131).trans rfl
theorem t131_2 : zT 131 2 = some (.iload_n 2, 1, 2, 0, 0, 0) := (congrArg (fun t => List.lookup 2 t) gt131).trans rfl
theorem t131_3 : zT 131 3 = some (.aload_n 0, 1, 0, 0, 0, 0) := (congrArg (fun t => List.lookup 3 t) gt131).trans rfl
theorem t131_4 : zT 131 4 = some (.getfield 29, 3, 4, 4, 0, 496) := (congrArg (fun t => List.lookup 4 t) gt131).trans rfl
theorem t131_7 : zT 131 7 = some (.if_icmp .ge 32, 3, 39, 0, 0, 0) := (congrArg (fun t => List.lookup 7 t) gt131).trans rfl
theorem t131_10 : zT 131 10 = some (.aload_n 0, 1, 0, 0, 0, 0) := (congrArg (fun t => List.lookup 10 t) gt131).trans rfl
theorem t131_11 : zT 131 11 = some (.getfield 18, 3, 4, 1, 0, 493) := (congrArg (fun t => List.lookup 11 t) gt131).trans rfl
theorem t131_14 : zT 131 14 = some (.iload_n 2, 1, 2, 0, 0, 0) := (congrArg (fun t => List.lookup 14 t) gt131).trans rfl
theorem t131_15 : zT 131 15 = some (.invokevirtual 96, 3, 126, 0, 0, 1163) := (congrArg (fun t => List.lookup 15 t) gt131).trans rfl
theorem t131_18 : zT 131 18 = some (.astore_n 3, 1, 3, 0, 0, 0) := (congrArg (fun t => List.lookup 18 t) gt131).trans rfl
theorem t131_19 : zT 131 19 = some (.aload_n 3, 1, 3, 0, 0, 0) := (congrArg (fun t => List.lookup 19 t) gt131).trans rfl
theorem t131_20 : zT 131 20 = some (.ifnull 13, 3, 33, 0, 0, 0) := (congrArg (fun t => List.lookup 20 t) gt131).trans rfl
theorem t131_23 : zT 131 23 = some (.aload_n 3, 1, 3, 0, 0, 0) := (congrArg (fun t => List.lookup 23 t) gt131).trans rfl
theorem t131_24 : zT 131 24 = some (.aload_n 1, 1, 1, 0, 0, 0) := (congrArg (fun t => List.lookup 24 t) gt131).trans rfl
theorem t131_25 : zT 131 25 = some (.invokevirtual 127, 3, 132, 0, 0, 1188) := (congrArg (fun t => List.lookup 25 t) gt131).trans rfl
theorem t131_28 : zT 131 28 = some (.aload_n 3, 1, 3, 0, 0, 0) := (congrArg (fun t => List.lookup 28 t) gt131).trans rfl
theorem t131_29 : zT 131 29 = some (.aload_n 1, 1, 1, 0, 0, 0) := (congrArg (fun t => List.lookup 29 t) gt131).trans rfl
theorem t131_30 : zT 131 30 = some (.invokevirtual 130, 3, 135, 0, 0, 1201) := (congrArg (fun t => List.lookup 30 t) gt131).trans rfl
theorem t131_33 : zT 131 33 = some (.iinc 2 1, 3, 0, 0, 0, 0) := (congrArg (fun t => List.lookup 33 t) gt131).trans rfl
theorem t131_36 : zT 131 36 = some (.goto (-34), 3, 2, 0, 0, 0) := (congrArg (fun t => List.lookup 36 t) gt131).trans rfl
theorem t131_39 : zT 131 39 = some (.return_, 1, 0, 0, 0, 0) := (congrArg (fun t => List.lookup 39 t) gt131).trans rfl
theorem t132_0 : zT 132 0 = some (.lconst 0, 1, 0, 0, 0, 0) := (congrArg (fun t => List.lookup 0 t) gt132).trans rfl
theorem t132_1 : zT 132 1 = some (.lstore_n 2, 1, 2, 0, 0, 0) := (congrArg (fun t => List.lookup 1 t) gt132).trans rfl
theorem t132_2 : zT 132 2 = some (.lconst 0, 1, 0, 0, 0, 0) := (congrArg (fun t => List.lookup 2 t) gt132).trans rfl
theorem t132_3 : zT 132 3 = some (.lstore 4, 2, 0, 0, 0, 0) := (congrArg (fun t => List.lookup 3 t) gt132).trans rfl
theorem t132_5 : zT 132 5 = some (.lconst 0, 1, 0, 0, 0, 0) := (congrArg (fun t => List.lookup 5 t) gt132).trans rfl
theorem t132_6 : zT 132 6 = some (.lstore 6, 2, 0, 0, 0, 0) := (congrArg (fun t => List.lookup 6 t) gt132).trans rfl
theorem t132_8 : zT 132 8 = some (.lconst 0, 1, 0, 0, 0, 0) := (congrArg (fun t => List.lookup 8 t) gt132).trans rfl
theorem t132_9 : zT 132 9 = some (.lstore 8, 2, 0, 0, 0, 0) := (congrArg (fun t => List.lookup 9 t) gt132).trans rfl
theorem t132_11 : zT 132 11 = some (.lconst 0, 1, 0, 0, 0, 0) := (congrArg (fun t => List.lookup 11 t) gt132).trans rfl
theorem t132_12 : zT 132 12 = some (.lstore 10, 2, 0, 0, 0, 0) := (congrArg (fun t => List.lookup 12 t) gt132).trans rfl
theorem t132_14 : zT 132 14 = some (.lconst 0, 1, 0, 0, 0, 0) := (congrArg (fun t => List.lookup 14 t) gt132).trans rfl
theorem t132_15 : zT 132 15 = some (.lstore 12, 2, 0, 0, 0, 0) := (congrArg (fun t => List.lookup 15 t) gt132).trans rfl
theorem t132_17 : zT 132 17 = some (.iconst 0, 1, 0, 0, 0, 0) := (congrArg (fun t => List.lookup 17 t) gt132).trans rfl
theorem t132_18 : zT 132 18 = some (.istore 14, 2, 0, 0, 0, 0) := (congrArg (fun t => List.lookup 18 t) gt132).trans rfl
theorem t132_20 : zT 132 20 = some (.iload 14, 2, 0, 0, 0, 0) := (congrArg (fun t => List.lookup 20 t) gt132).trans rfl
theorem t132_22 : zT 132 22 = some (.aload_n 1, 1, 1, 0, 0, 0) := (congrArg (fun t => List.lookup 22 t) gt132).trans rfl
theorem t132_23 : zT 132 23 = some (.getfield 63, 3, 6, 0, 0, 152) := (congrArg (fun t => List.lookup 23 t) gt132).trans rfl
theorem t132_26 : zT 132 26 = some (.if_icmp .ge 89, 3, 115, 0, 0, 0) := (congrArg (fun t => List.lookup 26 t) gt132).trans rfl
theorem t132_29 : zT 132 29 = some (.aload_n 0, 1, 0, 0, 0, 0) := (congrArg (fun t => List.lookup 29 t) gt132).trans rfl
theorem t132_30 : zT 132 30 = some (.getfield 30, 3, 8, 6, 0, 434) := (congrArg (fun t => List.lookup 30 t) gt132).trans rfl
theorem t132_33 : zT 132 33 = some (.iload 14, 2, 0, 0, 0, 0) := (congrArg (fun t => List.lookup 33 t) gt132).trans rfl
theorem t132_35 : zT 132 35 = some (.iaload, 1, 0, 0, 0, 0) := (congrArg (fun t => List.lookup 35 t) gt132).trans rfl
theorem t132_36 : zT 132 36 = some (.ifCond .ge 6, 3, 42, 0, 0, 0) := (congrArg (fun t => List.lookup 36 t) gt132).trans rfl
theorem t132_39 : zT 132 39 = some (.goto 70, 3, 109, 0, 0, 0) := (congrArg (fun t => List.lookup 39 t) gt132).trans rfl
theorem t132_42 : zT 132 42 = some (.aload_n 1, 1, 1, 0, 0, 0) := (congrArg (fun t => List.lookup 42 t) gt132).trans rfl
theorem t132_43 : zT 132 43 = some (.getfield 66, 3, 6, 1, 0, 158) := (congrArg (fun t => List.lookup 43 t) gt132).trans rfl
theorem t132_46 : zT 132 46 = some (.iload 14, 2, 0, 0, 0, 0) := (congrArg (fun t => List.lookup 46 t) gt132).trans rfl
theorem t132_48 : zT 132 48 = some (.iaload, 1, 0, 0, 0, 0) := (congrArg (fun t => List.lookup 48 t) gt132).trans rfl
theorem t132_49 : zT 132 49 = some (.i2l, 1, 0, 0, 0, 0) := (congrArg (fun t => List.lookup 49 t) gt132).trans rfl
theorem t132_50 : zT 132 50 = some (.lstore 15, 2, 0, 0, 0, 0) := (congrArg (fun t => List.lookup 50 t) gt132).trans rfl
theorem t132_52 : zT 132 52 = some (.aload_n 0, 1, 0, 0, 0, 0) := (congrArg (fun t => List.lookup 52 t) gt132).trans rfl
theorem t132_53 : zT 132 53 = some (.aload_n 1, 1, 1, 0, 0, 0) := (congrArg (fun t => List.lookup 53 t) gt132).trans rfl
theorem t132_54 : zT 132 54 = some (.iload 14, 2, 0, 0, 0, 0) := (congrArg (fun t => List.lookup 54 t) gt132).trans rfl
theorem t132_56 : zT 132 56 = some (.invokevirtual 69, 3, 133, 0, 0, 1192) := (congrArg (fun t => List.lookup 56 t) gt132).trans rfl
theorem t132_59 : zT 132 59 = some (.lstore 17, 2, 0, 0, 0, 0) := (congrArg (fun t => List.lookup 59 t) gt132).trans rfl
theorem t132_61 : zT 132 61 = some (.lload_n 2, 1, 2, 0, 0, 0) := (congrArg (fun t => List.lookup 61 t) gt132).trans rfl
theorem t132_62 : zT 132 62 = some (.lconst 1, 1, 0, 0, 1, 0) := (congrArg (fun t => List.lookup 62 t) gt132).trans rfl
theorem t132_63 : zT 132 63 = some (.ladd, 1, 0, 0, 0, 0) := (congrArg (fun t => List.lookup 63 t) gt132).trans rfl
theorem t132_64 : zT 132 64 = some (.lstore_n 2, 1, 2, 0, 0, 0) := (congrArg (fun t => List.lookup 64 t) gt132).trans rfl
theorem t132_65 : zT 132 65 = some (.lload 4, 2, 0, 0, 0, 0) := (congrArg (fun t => List.lookup 65 t) gt132).trans rfl
theorem t132_67 : zT 132 67 = some (.lload 15, 2, 0, 0, 0, 0) := (congrArg (fun t => List.lookup 67 t) gt132).trans rfl
theorem t132_69 : zT 132 69 = some (.ladd, 1, 0, 0, 0, 0) := (congrArg (fun t => List.lookup 69 t) gt132).trans rfl
theorem t132_70 : zT 132 70 = some (.lstore 4, 2, 0, 0, 0, 0) := (congrArg (fun t => List.lookup 70 t) gt132).trans rfl
theorem t132_72 : zT 132 72 = some (.lload 6, 2, 0, 0, 0, 0) := (congrArg (fun t => List.lookup 72 t) gt132).trans rfl
theorem t132_74 : zT 132 74 = some (.lload 17, 2, 0, 0, 0, 0) := (congrArg (fun t => List.lookup 74 t) gt132).trans rfl
theorem t132_76 : zT 132 76 = some (.ladd, 1, 0, 0, 0, 0) := (congrArg (fun t => List.lookup 76 t) gt132).trans rfl
theorem t132_77 : zT 132 77 = some (.lstore 6, 2, 0, 0, 0, 0) := (congrArg (fun t => List.lookup 77 t) gt132).trans rfl
theorem t132_79 : zT 132 79 = some (.lload 8, 2, 0, 0, 0, 0) := (congrArg (fun t => List.lookup 79 t) gt132).trans rfl
theorem t132_81 : zT 132 81 = some (.lload 15, 2, 0, 0, 0, 0) := (congrArg (fun t => List.lookup 81 t) gt132).trans rfl
theorem t132_83 : zT 132 83 = some (.lload 15, 2, 0, 0, 0, 0) := (congrArg (fun t => List.lookup 83 t) gt132).trans rfl
theorem t132_85 : zT 132 85 = some (.lmul, 1, 0, 0, 0, 0) := (congrArg (fun t => List.lookup 85 t) gt132).trans rfl
theorem t132_86 : zT 132 86 = some (.ladd, 1, 0, 0, 0, 0) := (congrArg (fun t => List.lookup 86 t) gt132).trans rfl
theorem t132_87 : zT 132 87 = some (.lstore 8, 2, 0, 0, 0, 0) := (congrArg (fun t => List.lookup 87 t) gt132).trans rfl
theorem t132_89 : zT 132 89 = some (.lload 10, 2, 0, 0, 0, 0) := (congrArg (fun t => List.lookup 89 t) gt132).trans rfl
theorem t132_91 : zT 132 91 = some (.lload 15, 2, 0, 0, 0, 0) := (congrArg (fun t => List.lookup 91 t) gt132).trans rfl
theorem t132_93 : zT 132 93 = some (.lload 17, 2, 0, 0, 0, 0) := (congrArg (fun t => List.lookup 93 t) gt132).trans rfl
theorem t132_95 : zT 132 95 = some (.lmul, 1, 0, 0, 0, 0) := (congrArg (fun t => List.lookup 95 t) gt132).trans rfl
theorem t132_96 : zT 132 96 = some (.ladd, 1, 0, 0, 0, 0) := (congrArg (fun t => List.lookup 96 t) gt132).trans rfl
theorem t132_97 : zT 132 97 = some (.lstore 10, 2, 0, 0, 0, 0) := (congrArg (fun t => List.lookup 97 t) gt132).trans rfl
theorem t132_99 : zT 132 99 = some (.lload 12, 2, 0, 0, 0, 0) := (congrArg (fun t => List.lookup 99 t) gt132).trans rfl
theorem t132_101 : zT 132 101 = some (.lload 17, 2, 0, 0, 0, 0) := (congrArg (fun t => List.lookup 101 t) gt132).trans rfl
theorem t132_103 : zT 132 103 = some (.lload 17, 2, 0, 0, 0, 0) := (congrArg (fun t => List.lookup 103 t) gt132).trans rfl
theorem t132_105 : zT 132 105 = some (.lmul, 1, 0, 0, 0, 0) := (congrArg (fun t => List.lookup 105 t) gt132).trans rfl
theorem t132_106 : zT 132 106 = some (.ladd, 1, 0, 0, 0, 0) := (congrArg (fun t => List.lookup 106 t) gt132).trans rfl
theorem t132_107 : zT 132 107 = some (.lstore 12, 2, 0, 0, 0, 0) := (congrArg (fun t => List.lookup 107 t) gt132).trans rfl
theorem t132_109 : zT 132 109 = some (.iinc 14 1, 3, 0, 0, 0, 0) := (congrArg (fun t => List.lookup 109 t) gt132).trans rfl
theorem t132_112 : zT 132 112 = some (.goto (-92), 3, 20, 0, 0, 0) := (congrArg (fun t => List.lookup 112 t) gt132).trans rfl
theorem t132_115 : zT 132 115 = some (.aload_n 0, 1, 0, 0, 0, 0) := (congrArg (fun t => List.lookup 115 t) gt132).trans rfl
theorem t132_116 : zT 132 116 = some (.lconst 1, 1, 0, 0, 1, 0) := (congrArg (fun t => List.lookup 116 t) gt132).trans rfl
theorem t132_117 : zT 132 117 = some (.lload_n 2, 1, 2, 0, 0, 0) := (congrArg (fun t => List.lookup 117 t) gt132).trans rfl
theorem t132_118 : zT 132 118 = some (.lload 8, 2, 0, 0, 0, 0) := (congrArg (fun t => List.lookup 118 t) gt132).trans (by decide +kernel)
theorem t132_120 : zT 132 120 = some (.lmul, 1, 0, 0, 0, 0) := (congrArg (fun t => List.lookup 120 t) gt132).trans (by decide +kernel)
theorem t132_121 : zT 132 121 = some (.lload 4, 2, 0, 0, 0, 0) := (congrArg (fun t => List.lookup 121 t) gt132).trans (by decide +kernel)
theorem t132_123 : zT 132 123 = some (.lload 4, 2, 0, 0, 0, 0) := (congrArg (fun t => List.lookup 123 t) gt132).trans (by decide +kernel)
theorem t132_125 : zT 132 125 = some (.lmul, 1, 0, 0, 0, 0) := (congrArg (fun t => List.lookup 125 t) gt132).trans (by decide +kernel)
theorem t132_126 : zT 132 126 = some (.lsub, 1, 0, 0, 0, 0) := (congrArg (fun t => List.lookup 126 t) gt132).trans (by decide +kernel)
theorem t132_127 : zT 132 127 = some (.invokestatic 73, 3, 134, 1, 0, 1198) := (congrArg (fun t => List.lookup 127 t) gt132).trans (by decide +kernel)
theorem t132_130 : zT 132 130 = some (.putfield 37, 3, 8, 8, 0, 440) := (congrArg (fun t => List.lookup 130 t) gt132).trans (by decide +kernel)
theorem t132_133 : zT 132 133 = some (.aload_n 0, 1, 0, 0, 0, 0) := (congrArg (fun t => List.lookup 133 t) gt132).trans (by decide +kernel)
theorem t132_134 : zT 132 134 = some (.lload_n 2, 1, 2, 0, 0, 0) := (congrArg (fun t => List.lookup 134 t) gt132).trans (by decide +kernel)
theorem t132_135 : zT 132 135 = some (.lload 10, 2, 0, 0, 0, 0) := (congrArg (fun t => List.lookup 135 t) gt132).trans (by decide +kernel)
theorem t132_137 : zT 132 137 = some (.lmul, 1, 0, 0, 0, 0) := (congrArg (fun t => List.lookup 137 t) gt132).trans (by decide +kernel)
theorem t132_138 : zT 132 138 = some (.lload 4, 2, 0, 0, 0, 0) := (congrArg (fun t => List.lookup 138 t) gt132).trans (by decide +kernel)
theorem t132_140 : zT 132 140 = some (.lload 6, 2, 0, 0, 0, 0) := (congrArg (fun t => List.lookup 140 t) gt132).trans (by decide +kernel)
theorem t132_142 : zT 132 142 = some (.lmul, 1, 0, 0, 0, 0) := (congrArg (fun t => List.lookup 142 t) gt132).trans (by decide +kernel)
theorem t132_143 : zT 132 143 = some (.lsub, 1, 0, 0, 0, 0) := (congrArg (fun t => List.lookup 143 t) gt132).trans (by decide +kernel)
theorem t132_144 : zT 132 144 = some (.putfield 44, 3, 8, 10, 0, 444) := (congrArg (fun t => List.lookup 144 t) gt132).trans (by decide +kernel)
theorem t132_147 : zT 132 147 = some (.aload_n 0, 1, 0, 0, 0, 0) := (congrArg (fun t => List.lookup 147 t) gt132).trans (by decide +kernel)
theorem t132_148 : zT 132 148 = some (.lload 6, 2, 0, 0, 0, 0) := (congrArg (fun t => List.lookup 148 t) gt132).trans (by decide +kernel)
theorem t132_150 : zT 132 150 = some (.lload 8, 2, 0, 0, 0, 0) := (congrArg (fun t => List.lookup 150 t) gt132).trans (by decide +kernel)
theorem t132_152 : zT 132 152 = some (.lmul, 1, 0, 0, 0, 0) := (congrArg (fun t => List.lookup 152 t) gt132).trans (by decide +kernel)
theorem t132_153 : zT 132 153 = some (.lload 4, 2, 0, 0, 0, 0) := (congrArg (fun t => List.lookup 153 t) gt132).trans (by decide +kernel)
theorem t132_155 : zT 132 155 = some (.lload 10, 2, 0, 0, 0, 0) := (congrArg (fun t => List.lookup 155 t) gt132).trans (by decide +kernel)
theorem t132_157 : zT 132 157 = some (.lmul, 1, 0, 0, 0, 0) := (congrArg (fun t => List.lookup 157 t) gt132).trans (by decide +kernel)
theorem t132_158 : zT 132 158 = some (.lsub, 1, 0, 0, 0, 0) := (congrArg (fun t => List.lookup 158 t) gt132).trans (by decide +kernel)
theorem t132_159 : zT 132 159 = some (.putfield 41, 3, 8, 9, 0, 442) := (congrArg (fun t => List.lookup 159 t) gt132).trans (by decide +kernel)
theorem t132_162 : zT 132 162 = some (.aload_n 0, 1, 0, 0, 0, 0) := (congrArg (fun t => List.lookup 162 t) gt132).trans (by decide +kernel)
theorem t132_163 : zT 132 163 = some (.aload_n 0, 1, 0, 0, 0, 0) := (congrArg (fun t => List.lookup 163 t) gt132).trans (by decide +kernel)
theorem t132_164 : zT 132 164 = some (.getfield 37, 3, 8, 8, 0, 440) := (congrArg (fun t => List.lookup 164 t) gt132).trans (by decide +kernel)
theorem t132_167 : zT 132 167 = some (.lload 12, 2, 0, 0, 0, 0) := (congrArg (fun t => List.lookup 167 t) gt132).trans (by decide +kernel)
theorem t132_169 : zT 132 169 = some (.lmul, 1, 0, 0, 0, 0) := (congrArg (fun t => List.lookup 169 t) gt132).trans (by decide +kernel)
theorem t132_170 : zT 132 170 = some (.aload_n 0, 1, 0, 0, 0, 0) := (congrArg (fun t => List.lookup 170 t) gt132).trans (by decide +kernel)
theorem t132_171 : zT 132 171 = some (.getfield 41, 3, 8, 9, 0, 442) := (congrArg (fun t => List.lookup 171 t) gt132).trans (by decide +kernel)
theorem t132_174 : zT 132 174 = some (.lload 6, 2, 0, 0, 0, 0) := (congrArg (fun t => List.lookup 174 t) gt132).trans (by decide +kernel)
theorem t132_176 : zT 132 176 = some (.lmul, 1, 0, 0, 0, 0) := (congrArg (fun t => List.lookup 176 t) gt132).trans (by decide +kernel)
theorem t132_177 : zT 132 177 = some (.lsub, 1, 0, 0, 0, 0) := (congrArg (fun t => List.lookup 177 t) gt132).trans (by decide +kernel)
theorem t132_178 : zT 132 178 = some (.aload_n 0, 1, 0, 0, 0, 0) := (congrArg (fun t => List.lookup 178 t) gt132).trans (by decide +kernel)
theorem t132_179 : zT 132 179 = some (.getfield 44, 3, 8, 10, 0, 444) := (congrArg (fun t => List.lookup 179 t) gt132).trans (by decide +kernel)
theorem t132_182 : zT 132 182 = some (.lload 10, 2, 0, 0, 0, 0) := (congrArg (fun t => List.lookup 182 t) gt132).trans (by decide +kernel)
theorem t132_184 : zT 132 184 = some (.lmul, 1, 0, 0, 0, 0) := (congrArg (fun t => List.lookup 184 t) gt132).trans (by decide +kernel)
theorem t132_185 : zT 132 185 = some (.lsub, 1, 0, 0, 0, 0) := (congrArg (fun t => List.lookup 185 t) gt132).trans (by decide +kernel)
theorem t132_186 : zT 132 186 = some (.putfield 47, 3, 8, 11, 0, 446) := (congrArg (fun t => List.lookup 186 t) gt132).trans (by decide +kernel)
theorem t132_189 : zT 132 189 = some (.return_, 1, 0, 0, 0, 0) := (congrArg (fun t => List.lookup 189 t) gt132).trans (by decide +kernel)
theorem t133_0 : zT 133 0 = some (.aload_n 1, 1, 1, 0, 0, 0) := (congrArg (fun t => List.lookup 0 t) gt133).trans rfl
theorem t133_1 : zT 133 1 = some (.aload_n 0, 1, 0, 0, 0, 0) := (congrArg (fun t => List.lookup 1 t) gt133).trans rfl
theorem t133_2 : zT 133 2 = some (.getfield 30, 3, 8, 6, 0, 434) := (congrArg (fun t => List.lookup 2 t) gt133).trans rfl
theorem t133_5 : zT 133 5 = some (.iload_n 2, 1, 2, 0, 0, 0) := (congrArg (fun t => List.lookup 5 t) gt133).trans rfl
theorem t133_6 : zT 133 6 = some (.iaload, 1, 0, 0, 0, 0) := (congrArg (fun t => List.lookup 6 t) gt133).trans rfl
theorem t133_7 : zT 133 7 = some (.invokevirtual 50, 3, 91, 0, 0, 1196) := (congrArg (fun t => List.lookup 7 t) gt133).trans rfl
theorem t133_10 : zT 133 10 = some (.ifCond .eq 28, 3, 38, 0, 0, 0) := (congrArg (fun t => List.lookup 10 t) gt133).trans rfl
theorem t133_13 : zT 133 13 = some (.aload_n 1, 1, 1, 0, 0, 0) := (congrArg (fun t => List.lookup 13 t) gt133).trans rfl
theorem t133_14 : zT 133 14 = some (.getfield 56, 3, 6, 5, 0, 173) := (congrArg (fun t => List.lookup 14 t) gt133).trans rfl
theorem t133_17 : zT 133 17 = some (.aload_n 0, 1, 0, 0, 0, 0) := (congrArg (fun t => List.lookup 17 t) gt133).trans rfl
theorem t133_18 : zT 133 18 = some (.getfield 30, 3, 8, 6, 0, 434) := (congrArg (fun t => List.lookup 18 t) gt133).trans rfl
theorem t133_21 : zT 133 21 = some (.iload_n 2, 1, 2, 0, 0, 0) := (congrArg (fun t => List.lookup 21 t) gt133).trans rfl
theorem t133_22 : zT 133 22 = some (.iaload, 1, 0, 0, 0, 0) := (congrArg (fun t => List.lookup 22 t) gt133).trans rfl
theorem t133_23 : zT 133 23 = some (.iaload, 1, 0, 0, 0, 0) := (congrArg (fun t => List.lookup 23 t) gt133).trans rfl
theorem t133_24 : zT 133 24 = some (.aload_n 1, 1, 1, 0, 0, 0) := (congrArg (fun t => List.lookup 24 t) gt133).trans rfl
theorem t133_25 : zT 133 25 = some (.iload_n 2, 1, 2, 0, 0, 0) := (congrArg (fun t => List.lookup 25 t) gt133).trans rfl
theorem t133_26 : zT 133 26 = some (.aload_n 0, 1, 0, 0, 0, 0) := (congrArg (fun t => List.lookup 26 t) gt133).trans rfl
theorem t133_27 : zT 133 27 = some (.getfield 9, 3, 8, 0, 0, 414) := (congrArg (fun t => List.lookup 27 t) gt133).trans rfl
theorem t133_30 : zT 133 30 = some (.invokevirtual 59, 3, 55, 0, 0, 1197) := (congrArg (fun t => List.lookup 30 t) gt133).trans rfl
theorem t133_33 : zT 133 33 = some (.isub, 1, 0, 0, 0, 0) := (congrArg (fun t => List.lookup 33 t) gt133).trans rfl
theorem t133_34 : zT 133 34 = some (.i2l, 1, 0, 0, 0, 0) := (congrArg (fun t => List.lookup 34 t) gt133).trans rfl
theorem t133_35 : zT 133 35 = some (.goto 4, 3, 39, 0, 0, 0) := (congrArg (fun t => List.lookup 35 t) gt133).trans rfl
theorem t133_38 : zT 133 38 = some (.lconst 0, 1, 0, 0, 0, 0) := (congrArg (fun t => List.lookup 38 t) gt133).trans rfl
theorem t133_39 : zT 133 39 = some (.lreturn, 1, 0, 0, 0, 0) := (congrArg (fun t => List.lookup 39 t) gt133).trans rfl
theorem t134_0 : zT 134 0 = some (.lload_n 0, 1, 0, 0, 0, 0) := (congrArg (fun t => List.lookup 0 t) gt134).trans rfl
theorem t134_1 : zT 134 1 = some (.lload_n 2, 1, 2, 0, 0, 0) := (congrArg (fun t => List.lookup 1 t) gt134).trans rfl
theorem t134_2 : zT 134 2 = some (.lcmp, 1, 0, 0, 0, 0) := (congrArg (fun t => List.lookup 2 t) gt134).trans rfl
theorem t134_3 : zT 134 3 = some (.ifCond .lt 7, 3, 10, 0, 0, 0) := (congrArg (fun t => List.lookup 3 t) gt134).trans rfl
theorem t134_6 : zT 134 6 = some (.lload_n 0, 1, 0, 0, 0, 0) := (congrArg (fun t => List.lookup 6 t) gt134).trans rfl
theorem t134_7 : zT 134 7 = some (.goto 4, 3, 11, 0, 0, 0) := (congrArg (fun t => List.lookup 7 t) gt134).trans rfl
theorem t134_10 : zT 134 10 = some (.lload_n 2, 1, 2, 0, 0, 0) := (congrArg (fun t => List.lookup 10 t) gt134).trans rfl
theorem t134_11 : zT 134 11 = some (.lreturn, 1, 0, 0, 0, 0) := (congrArg (fun t => List.lookup 11 t) gt134).trans rfl
theorem t135_0 : zT 135 0 = some (.lconst 0, 1, 0, 0, 0, 0) := (congrArg (fun t => List.lookup 0 t) gt135).trans rfl
theorem t135_1 : zT 135 1 = some (.lstore_n 2, 1, 2, 0, 0, 0) := (congrArg (fun t => List.lookup 1 t) gt135).trans rfl
theorem t135_2 : zT 135 2 = some (.iconst 0, 1, 0, 0, 0, 0) := (congrArg (fun t => List.lookup 2 t) gt135).trans rfl
theorem t135_3 : zT 135 3 = some (.istore 4, 2, 0, 0, 0, 0) := (congrArg (fun t => List.lookup 3 t) gt135).trans rfl
theorem t135_5 : zT 135 5 = some (.iload 4, 2, 0, 0, 0, 0) := (congrArg (fun t => List.lookup 5 t) gt135).trans rfl
theorem t135_7 : zT 135 7 = some (.aload_n 1, 1, 1, 0, 0, 0) := (congrArg (fun t => List.lookup 7 t) gt135).trans rfl
theorem t135_8 : zT 135 8 = some (.getfield 63, 3, 6, 0, 0, 152) := (congrArg (fun t => List.lookup 8 t) gt135).trans rfl
theorem t135_11 : zT 135 11 = some (.if_icmp .ge 62, 3, 73, 0, 0, 0) := (congrArg (fun t => List.lookup 11 t) gt135).trans rfl
theorem t135_14 : zT 135 14 = some (.aload_n 0, 1, 0, 0, 0, 0) := (congrArg (fun t => List.lookup 14 t) gt135).trans rfl
theorem t135_15 : zT 135 15 = some (.getfield 30, 3, 8, 6, 0, 434) := (congrArg (fun t => List.lookup 15 t) gt135).trans rfl
theorem t135_18 : zT 135 18 = some (.iload 4, 2, 0, 0, 0, 0) := (congrArg (fun t => List.lookup 18 t) gt135).trans rfl
theorem t135_20 : zT 135 20 = some (.iaload, 1, 0, 0, 0, 0) := (congrArg (fun t => List.lookup 20 t) gt135).trans rfl
theorem t135_21 : zT 135 21 = some (.ifCond .lt 46, 3, 67, 0, 0, 0) := (congrArg (fun t => List.lookup 21 t) gt135).trans rfl
theorem t135_24 : zT 135 24 = some (.aload_n 0, 1, 0, 0, 0, 0) := (congrArg (fun t => List.lookup 24 t) gt135).trans rfl
theorem t135_25 : zT 135 25 = some (.getfield 41, 3, 8, 9, 0, 442) := (congrArg (fun t => List.lookup 25 t) gt135).trans rfl
theorem t135_28 : zT 135 28 = some (.aload_n 0, 1, 0, 0, 0, 0) := (congrArg (fun t => List.lookup 28 t) gt135).trans rfl
theorem t135_29 : zT 135 29 = some (.getfield 44, 3, 8, 10, 0, 444) := (congrArg (fun t => List.lookup 29 t) gt135).trans rfl
theorem t135_32 : zT 135 32 = some (.aload_n 1, 1, 1, 0, 0, 0) := (congrArg (fun t => List.lookup 32 t) gt135).trans rfl
theorem t135_33 : zT 135 33 = some (.getfield 66, 3, 6, 1, 0, 158) := (congrArg (fun t => List.lookup 33 t) gt135).trans rfl
theorem t135_36 : zT 135 36 = some (.iload 4, 2, 0, 0, 0, 0) := (congrArg (fun t => List.lookup 36 t) gt135).trans rfl
theorem t135_38 : zT 135 38 = some (.iaload, 1, 0, 0, 0, 0) := (congrArg (fun t => List.lookup 38 t) gt135).trans rfl
theorem t135_39 : zT 135 39 = some (.i2l, 1, 0, 0, 0, 0) := (congrArg (fun t => List.lookup 39 t) gt135).trans rfl
theorem t135_40 : zT 135 40 = some (.lmul, 1, 0, 0, 0, 0) := (congrArg (fun t => List.lookup 40 t) gt135).trans rfl
theorem t135_41 : zT 135 41 = some (.ladd, 1, 0, 0, 0, 0) := (congrArg (fun t => List.lookup 41 t) gt135).trans rfl
theorem t135_42 : zT 135 42 = some (.lstore 5, 2, 0, 0, 0, 0) := (congrArg (fun t => List.lookup 42 t) gt135).trans rfl
theorem t135_44 : zT 135 44 = some (.lload_n 2, 1, 2, 0, 0, 0) := (congrArg (fun t => List.lookup 44 t) gt135).trans rfl
theorem t135_45 : zT 135 45 = some (.aload_n 0, 1, 0, 0, 0, 0) := (congrArg (fun t => List.lookup 45 t) gt135).trans rfl
theorem t135_46 : zT 135 46 = some (.aload_n 1, 1, 1, 0, 0, 0) := (congrArg (fun t => List.lookup 46 t) gt135).trans rfl
theorem t135_47 : zT 135 47 = some (.iload 4, 2, 0, 0, 0, 0) := (congrArg (fun t => List.lookup 47 t) gt135).trans rfl
theorem t135_49 : zT 135 49 = some (.invokevirtual 69, 3, 133, 0, 0, 1192) := (congrArg (fun t => List.lookup 49 t) gt135).trans rfl
theorem t135_52 : zT 135 52 = some (.aload_n 0, 1, 0, 0, 0, 0) := (congrArg (fun t => List.lookup 52 t) gt135).trans rfl
theorem t135_53 : zT 135 53 = some (.getfield 37, 3, 8, 8, 0, 440) := (congrArg (fun t => List.lookup 53 t) gt135).trans rfl
theorem t135_56 : zT 135 56 = some (.lmul, 1, 0, 0, 0, 0) := (congrArg (fun t => List.lookup 56 t) gt135).trans rfl
theorem t135_57 : zT 135 57 = some (.lload 5, 2, 0, 0, 0, 0) := (congrArg (fun t => List.lookup 57 t) gt135).trans rfl
theorem t135_59 : zT 135 59 = some (.lsub, 1, 0, 0, 0, 0) := (congrArg (fun t => List.lookup 59 t) gt135).trans rfl
theorem t135_60 : zT 135 60 = some (.invokestatic 79, 3, 136, 1, 0, 1205) := (congrArg (fun t => List.lookup 60 t) gt135).trans rfl
theorem t135_63 : zT 135 63 = some (.invokestatic 73, 3, 134, 1, 0, 1198) := (congrArg (fun t => List.lookup 63 t) gt135).trans rfl
theorem t135_66 : zT 135 66 = some (.lstore_n 2, 1, 2, 0, 0, 0) := (congrArg (fun t => List.lookup 66 t) gt135).trans rfl
theorem t135_67 : zT 135 67 = some (.iinc 4 1, 3, 0, 0, 0, 0) := (congrArg (fun t => List.lookup 67 t) gt135).trans rfl
theorem t135_70 : zT 135 70 = some (.goto (-65), 3, 5, 0, 0, 0) := (congrArg (fun t => List.lookup 70 t) gt135).trans rfl
theorem t135_73 : zT 135 73 = some (.aload_n 0, 1, 0, 0, 0, 0) := (congrArg (fun t => List.lookup 73 t) gt135).trans rfl
theorem t135_74 : zT 135 74 = some (.lload_n 2, 1, 2, 0, 0, 0) := (congrArg (fun t => List.lookup 74 t) gt135).trans rfl
theorem t135_75 : zT 135 75 = some (.lconst 1, 1, 0, 0, 1, 0) := (congrArg (fun t => List.lookup 75 t) gt135).trans rfl
theorem t135_76 : zT 135 76 = some (.aload_n 0, 1, 0, 0, 0, 0) := (congrArg (fun t => List.lookup 76 t) gt135).trans rfl
theorem t135_77 : zT 135 77 = some (.getfield 37, 3, 8, 8, 0, 440) := (congrArg (fun t => List.lookup 77 t) gt135).trans rfl
theorem t135_80 : zT 135 80 = some (.invokestatic 73, 3, 134, 1, 0, 1198) := (congrArg (fun t => List.lookup 80 t) gt135).trans rfl
theorem t135_83 : zT 135 83 = some (.ldiv, 1, 0, 0, 0, 0) := (congrArg (fun t => List.lookup 83 t) gt135).trans rfl
theorem t135_84 : zT 135 84 = some (.l2i, 1, 0, 0, 0, 0) := (congrArg (fun t => List.lookup 84 t) gt135).trans rfl
theorem t135_85 : zT 135 85 = some (.putfield 27, 3, 8, 5, 0, 432) := (congrArg (fun t => List.lookup 85 t) gt135).trans rfl
theorem t135_88 : zT 135 88 = some (.return_, 1, 0, 0, 0, 0) := (congrArg (fun t => List.lookup 88 t) gt135).trans rfl
theorem t136_0 : zT 136 0 = some (.lload_n 0, 1, 0, 0, 0, 0) := (congrArg (fun t => List.lookup 0 t) gt136).trans rfl
theorem t136_1 : zT 136 1 = some (.lconst 0, 1, 0, 0, 0, 0) := (congrArg (fun t => List.lookup 1 t) gt136).trans rfl
theorem t136_2 : zT 136 2 = some (.lcmp, 1, 0, 0, 0, 0) := (congrArg (fun t => List.lookup 2 t) gt136).trans rfl
theorem t136_3 : zT 136 3 = some (.ifCond .ge 8, 3, 11, 0, 0, 0) := (congrArg (fun t => List.lookup 3 t) gt136).trans rfl
theorem t136_6 : zT 136 6 = some (.lload_n 0, 1, 0, 0, 0, 0) := (congrArg (fun t => List.lookup 6 t) gt136).trans rfl
theorem t136_7 : zT 136 7 = some (.lneg, 1, 0, 0, 0, 0) := (congrArg (fun t => List.lookup 7 t) gt136).trans rfl
theorem t136_8 : zT 136 8 = some (.goto 4, 3, 12, 0, 0, 0) := (congrArg (fun t => List.lookup 8 t) gt136).trans rfl
theorem t136_11 : zT 136 11 = some (.lload_n 0, 1, 0, 0, 0, 0) := (congrArg (fun t => List.lookup 11 t) gt136).trans rfl
theorem t136_12 : zT 136 12 = some (.lreturn, 1, 0, 0, 0, 0) := (congrArg (fun t => List.lookup 12 t) gt136).trans rfl
theorem t137_0 : zT 137 0 = some (.iconst 0, 1, 0, 0, 0, 0) := (congrArg (fun t => List.lookup 0 t) gt137).trans rfl
theorem t137_1 : zT 137 1 = some (.istore_n 1, 1, 1, 0, 0, 0) := (congrArg (fun t => List.lookup 1 t) gt137).trans rfl
theorem t137_2 : zT 137 2 = some (.iload_n 1, 1, 1, 0, 0, 0) := (congrArg (fun t => List.lookup 2 t) gt137).trans rfl
theorem t137_3 : zT 137 3 = some (.aload_n 0, 1, 0, 0, 0, 0) := (congrArg (fun t => List.lookup 3 t) gt137).trans rfl
theorem t137_4 : zT 137 4 = some (.getfield 29, 3, 4, 4, 0, 496) := (congrArg (fun t => List.lookup 4 t) gt137).trans rfl
theorem t137_7 : zT 137 7 = some (.if_icmp .ge 62, 3, 69, 0, 0, 0) := (congrArg (fun t => List.lookup 7 t) gt137).trans rfl
theorem t137_10 : zT 137 10 = some (.iload_n 1, 1, 1, 0, 0, 0) := (congrArg (fun t => List.lookup 10 t) gt137).trans rfl
theorem t137_11 : zT 137 11 = some (.istore_n 2, 1, 2, 0, 0, 0) := (congrArg (fun t => List.lookup 11 t) gt137).trans rfl
theorem t137_12 : zT 137 12 = some (.iload_n 2, 1, 2, 0, 0, 0) := (congrArg (fun t => List.lookup 12 t) gt137).trans rfl
theorem t137_13 : zT 137 13 = some (.ifCond .le 43, 3, 56, 0, 0, 0) := (congrArg (fun t => List.lookup 13 t) gt137).trans rfl
theorem t137_16 : zT 137 16 = some (.aload_n 0, 1, 0, 0, 0, 0) := (congrArg (fun t => List.lookup 16 t) gt137).trans rfl
theorem t137_17 : zT 137 17 = some (.aload_n 0, 1, 0, 0, 0, 0) := (congrArg (fun t => List.lookup 17 t) gt137).trans rfl
theorem t137_18 : zT 137 18 = some (.getfield 48, 3, 4, 10, 0, 502) := (congrArg (fun t => List.lookup 18 t) gt137).trans rfl
theorem t137_21 : zT 137 21 = some (.iload_n 2, 1, 2, 0, 0, 0) := (congrArg (fun t => List.lookup 21 t) gt137).trans rfl
theorem t137_22 : zT 137 22 = some (.iconst 1, 1, 0, 0, 1, 0) := (congrArg (fun t => List.lookup 22 t) gt137).trans rfl
theorem t137_23 : zT 137 23 = some (.isub, 1, 0, 0, 0, 0) := (congrArg (fun t => List.lookup 23 t) gt137).trans rfl
theorem t137_24 : zT 137 24 = some (.iaload, 1, 0, 0, 0, 0) := (congrArg (fun t => List.lookup 24 t) gt137).trans rfl
theorem t137_25 : zT 137 25 = some (.invokevirtual 133, 3, 138, 0, 0, 1212) := (congrArg (fun t => List.lookup 25 t) gt137).trans rfl
theorem t137_28 : zT 137 28 = some (.aload_n 0, 1, 0, 0, 0, 0) := (congrArg (fun t => List.lookup 28 t) gt137).trans rfl
theorem t137_29 : zT 137 29 = some (.iload_n 1, 1, 1, 0, 0, 0) := (congrArg (fun t => List.lookup 29 t) gt137).trans rfl
theorem t137_30 : zT 137 30 = some (.invokevirtual 133, 3, 138, 0, 0, 1212) := (congrArg (fun t => List.lookup 30 t) gt137).trans rfl
theorem t137_33 : zT 137 33 = some (.if_icmp .le 23, 3, 56, 0, 0, 0) := (congrArg (fun t => List.lookup 33 t) gt137).trans rfl
theorem t137_36 : zT 137 36 = some (.aload_n 0, 1, 0, 0, 0, 0) := (congrArg (fun t => List.lookup 36 t) gt137).trans rfl
theorem t137_37 : zT 137 37 = some (.getfield 48, 3, 4, 10, 0, 502) := (congrArg (fun t => List.lookup 37 t) gt137).trans rfl
theorem t137_40 : zT 137 40 = some (.iload_n 2, 1, 2, 0, 0, 0) := (congrArg (fun t => List.lookup 40 t) gt137).trans rfl
theorem t137_41 : zT 137 41 = some (.aload_n 0, 1, 0, 0, 0, 0) := (congrArg (fun t => List.lookup 41 t) gt137).trans rfl
theorem t137_42 : zT 137 42 = some (.getfield 48, 3, 4, 10, 0, 502) := (congrArg (fun t => List.lookup 42 t) gt137).trans rfl
theorem t137_45 : zT 137 45 = some (.iload_n 2, 1, 2, 0, 0, 0) := (congrArg (fun t => List.lookup 45 t) gt137).trans rfl
theorem t137_46 : zT 137 46 = some (.iconst 1, 1, 0, 0, 1, 0) := (congrArg (fun t => List.lookup 46 t) gt137).trans rfl
theorem t137_47 : zT 137 47 = some (.isub, 1, 0, 0, 0, 0) := (congrArg (fun t => List.lookup 47 t) gt137).trans rfl
theorem t137_48 : zT 137 48 = some (.iaload, 1, 0, 0, 0, 0) := (congrArg (fun t => List.lookup 48 t) gt137).trans rfl
theorem t137_49 : zT 137 49 = some (.iastore, 1, 0, 0, 0, 0) := (congrArg (fun t => List.lookup 49 t) gt137).trans rfl
theorem t137_50 : zT 137 50 = some (.iinc 2 (-1), 3, 0, 0, 0, 0) := (congrArg (fun t => List.lookup 50 t) gt137).trans rfl
theorem t137_53 : zT 137 53 = some (.goto (-41), 3, 12, 0, 0, 0) := (congrArg (fun t => List.lookup 53 t) gt137).trans rfl
theorem t137_56 : zT 137 56 = some (.aload_n 0, 1, 0, 0, 0, 0) := (congrArg (fun t => List.lookup 56 t) gt137).trans rfl
theorem t137_57 : zT 137 57 = some (.getfield 48, 3, 4, 10, 0, 502) := (congrArg (fun t => List.lookup 57 t) gt137).trans rfl
theorem t137_60 : zT 137 60 = some (.iload_n 2, 1, 2, 0, 0, 0) := (congrArg (fun t => List.lookup 60 t) gt137).trans rfl
theorem t137_61 : zT 137 61 = some (.iload_n 1, 1, 1, 0, 0, 0) := (congrArg (fun t => List.lookup 61 t) gt137).trans rfl
theorem t137_62 : zT 137 62 = some (.iastore, 1, 0, 0, 0, 0) := (congrArg (fun t => List.lookup 62 t) gt137).trans rfl
theorem t137_63 : zT 137 63 = some (.iinc 1 1, 3, 0, 0, 0, 0) := (congrArg (fun t => List.lookup 63 t) gt137).trans rfl
theorem t137_66 : zT 137 66 = some (.goto (-64), 3, 2, 0, 0, 0) := (congrArg (fun t => List.lookup 66 t) gt137).trans rfl
theorem t137_69 : zT 137 69 = some (.return_, 1, 0, 0, 0, 0) := (congrArg (fun t => List.lookup 69 t) gt137).trans rfl
theorem t138_0 : zT 138 0 = some (.aload_n 0, 1, 0, 0, 0, 0) := (congrArg (fun t => List.lookup 0 t) gt138).trans rfl
theorem t138_1 : zT 138 1 = some (.getfield 18, 3, 4, 1, 0, 493) := (congrArg (fun t => List.lookup 1 t) gt138).trans rfl
theorem t138_4 : zT 138 4 = some (.iload_n 1, 1, 1, 0, 0, 0) := (congrArg (fun t => List.lookup 4 t) gt138).trans rfl
theorem t138_5 : zT 138 5 = some (.invokevirtual 96, 3, 126, 0, 0, 1163) := (congrArg (fun t => List.lookup 5 t) gt138).trans rfl
theorem t138_8 : zT 138 8 = some (.astore_n 2, 1, 2, 0, 0, 0) := (congrArg (fun t => List.lookup 8 t) gt138).trans rfl
theorem t138_9 : zT 138 9 = some (.aload_n 2, 1, 2, 0, 0, 0) := (congrArg (fun t => List.lookup 9 t) gt138).trans rfl
theorem t138_10 : zT 138 10 = some (.ifnonnull 7, 3, 17, 0, 0, 0) := (congrArg (fun t => List.lookup 10 t) gt138).trans rfl
theorem t138_13 : zT 138 13 = some (.iconst 0, 1, 0, 0, 0, 0) := (congrArg (fun t => List.lookup 13 t) gt138).trans rfl
theorem t138_14 : zT 138 14 = some (.goto 7, 3, 21, 0, 0, 0) := (congrArg (fun t => List.lookup 14 t) gt138).trans rfl
theorem t138_17 : zT 138 17 = some (.aload_n 2, 1, 2, 0, 0, 0) := (congrArg (fun t => List.lookup 17 t) gt138).trans rfl
theorem t138_18 : zT 138 18 = some (.invokevirtual 136, 3, 139, 0, 0, 1216) := (congrArg (fun t => List.lookup 18 t) gt138).trans rfl
theorem t138_21 : zT 138 21 = some (.ireturn, 1, 0, 0, 0, 0) := (congrArg (fun t => List.lookup 21 t) gt138).trans rfl
theorem t139_0 : zT 139 0 = some (.aload_n 0, 1, 0, 0, 0, 0) := (congrArg (fun t => List.lookup 0 t) gt139).trans rfl
theorem t139_1 : zT 139 1 = some (.getfield 41, 3, 8, 9, 0, 442) := (congrArg (fun t => List.lookup 1 t) gt139).trans rfl
theorem t139_4 : zT 139 4 = some (.lconst 1, 1, 0, 0, 1, 0) := (congrArg (fun t => List.lookup 4 t) gt139).trans rfl
theorem t139_5 : zT 139 5 = some (.aload_n 0, 1, 0, 0, 0, 0) := (congrArg (fun t => List.lookup 5 t) gt139).trans rfl
theorem t139_6 : zT 139 6 = some (.getfield 37, 3, 8, 8, 0, 440) := (congrArg (fun t => List.lookup 6 t) gt139).trans rfl
theorem t139_9 : zT 139 9 = some (.invokestatic 73, 3, 134, 1, 0, 1198) := (congrArg (fun t => List.lookup 9 t) gt139).trans rfl
theorem t139_12 : zT 139 12 = some (.invokestatic 83, 3, 140, 1, 0, 1220) := (congrArg (fun t => List.lookup 12 t) gt139).trans rfl
theorem t139_15 : zT 139 15 = some (.l2i, 1, 0, 0, 0, 0) := (congrArg (fun t => List.lookup 15 t) gt139).trans rfl
theorem t139_16 : zT 139 16 = some (.ireturn, 1, 0, 0, 0, 0) := (congrArg (fun t => List.lookup 16 t) gt139).trans rfl
theorem t140_0 : zT 140 0 = some (.lload_n 0, 1, 0, 0, 0, 0) := (congrArg (fun t => List.lookup 0 t) gt140).trans rfl
theorem t140_1 : zT 140 1 = some (.lload_n 2, 1, 2, 0, 0, 0) := (congrArg (fun t => List.lookup 1 t) gt140).trans rfl
theorem t140_2 : zT 140 2 = some (.ldiv, 1, 0, 0, 0, 0) := (congrArg (fun t => List.lookup 2 t) gt140).trans rfl
theorem t140_3 : zT 140 3 = some (.lstore 4, 2, 0, 0, 0, 0) := (congrArg (fun t => List.lookup 3 t) gt140).trans rfl
theorem t140_5 : zT 140 5 = some (.lload_n 0, 1, 0, 0, 0, 0) := (congrArg (fun t => List.lookup 5 t) gt140).trans rfl
theorem t140_6 : zT 140 6 = some (.lload_n 2, 1, 2, 0, 0, 0) := (congrArg (fun t => List.lookup 6 t) gt140).trans rfl
theorem t140_7 : zT 140 7 = some (.lxor, 1, 0, 0, 0, 0) := (congrArg (fun t => List.lookup 7 t) gt140).trans rfl
theorem t140_8 : zT 140 8 = some (.lconst 0, 1, 0, 0, 0, 0) := (congrArg (fun t => List.lookup 8 t) gt140).trans rfl
theorem t140_9 : zT 140 9 = some (.lcmp, 1, 0, 0, 0, 0) := (congrArg (fun t => List.lookup 9 t) gt140).trans rfl
theorem t140_10 : zT 140 10 = some (.ifCond .ge 17, 3, 27, 0, 0, 0) := (congrArg (fun t => List.lookup 10 t) gt140).trans rfl
theorem t140_13 : zT 140 13 = some (.lload 4, 2, 0, 0, 0, 0) := (congrArg (fun t => List.lookup 13 t) gt140).trans rfl
theorem t140_15 : zT 140 15 = some (.lload_n 2, 1, 2, 0, 0, 0) := (congrArg (fun t => List.lookup 15 t) gt140).trans rfl
theorem t140_16 : zT 140 16 = some (.lmul, 1, 0, 0, 0, 0) := (congrArg (fun t => List.lookup 16 t) gt140).trans rfl
theorem t140_17 : zT 140 17 = some (.lload_n 0, 1, 0, 0, 0, 0) := (congrArg (fun t => List.lookup 17 t) gt140).trans rfl
theorem t140_18 : zT 140 18 = some (.lcmp, 1, 0, 0, 0, 0) := (congrArg (fun t => List.lookup 18 t) gt140).trans rfl
theorem t140_19 : zT 140 19 = some (.ifCond .eq 8, 3, 27, 0, 0, 0) := (congrArg (fun t => List.lookup 19 t) gt140).trans rfl
theorem t140_22 : zT 140 22 = some (.lload 4, 2, 0, 0, 0, 0) := (congrArg (fun t => List.lookup 22 t) gt140).trans rfl
theorem t140_24 : zT 140 24 = some (.lconst 1, 1, 0, 0, 1, 0) := (congrArg (fun t => List.lookup 24 t) gt140).trans rfl
theorem t140_25 : zT 140 25 = some (.lsub, 1, 0, 0, 0, 0) := (congrArg (fun t => List.lookup 25 t) gt140).trans rfl
theorem t140_26 : zT 140 26 = some (.lreturn, 1, 0, 0, 0, 0) := (congrArg (fun t => List.lookup 26 t) gt140).trans rfl
theorem t140_27 : zT 140 27 = some (.lload 4, 2, 0, 0, 0, 0) := (congrArg (fun t => List.lookup 27 t) gt140).trans rfl
theorem t140_29 : zT 140 29 = some (.lreturn, 1, 0, 0, 0, 0) := (congrArg (fun t => List.lookup 29 t) gt140).trans rfl
theorem t141_0 : zT 141 0 = some (.aload_n 0, 1, 0, 0, 0, 0) := (congrArg (fun t => List.lookup 0 t) gt141).trans rfl
theorem t141_1 : zT 141 1 = some (.iconst 0, 1, 0, 0, 0, 0) := (congrArg (fun t => List.lookup 1 t) gt141).trans rfl
theorem t141_2 : zT 141 2 = some (.putfield 45, 3, 4, 9, 0, 501) := (congrArg (fun t => List.lookup 2 t) gt141).trans rfl
theorem t141_5 : zT 141 5 = some (.iconst 0, 1, 0, 0, 0, 0) := (congrArg (fun t => List.lookup 5 t) gt141).trans rfl
theorem t141_6 : zT 141 6 = some (.istore_n 2, 1, 2, 0, 0, 0) := (congrArg (fun t => List.lookup 6 t) gt141).trans rfl
theorem t141_7 : zT 141 7 = some (.iload_n 2, 1, 2, 0, 0, 0) := (congrArg (fun t => List.lookup 7 t) gt141).trans rfl
theorem t141_8 : zT 141 8 = some (.aload_n 0, 1, 0, 0, 0, 0) := (congrArg (fun t => List.lookup 8 t) gt141).trans rfl
theorem t141_9 : zT 141 9 = some (.getfield 29, 3, 4, 4, 0, 496) := (congrArg (fun t => List.lookup 9 t) gt141).trans rfl
theorem t141_12 : zT 141 12 = some (.if_icmp .ge 133, 3, 145, 0, 0, 0) := (congrArg (fun t => List.lookup 12 t) gt141).trans rfl
theorem t141_15 : zT 141 15 = some (.aload_n 0, 1, 0, 0, 0, 0) := (congrArg (fun t => List.lookup 15 t) gt141).trans rfl
theorem t141_16 : zT 141 16 = some (.aload_n 0, 1, 0, 0, 0, 0) := (congrArg (fun t => List.lookup 16 t) gt141).trans rfl
theorem t141_17 : zT 141 17 = some (.getfield 48, 3, 4, 10, 0, 502) := (congrArg (fun t => List.lookup 17 t) gt141).trans rfl
theorem t141_20 : zT 141 20 = some (.iload_n 2, 1, 2, 0, 0, 0) := (congrArg (fun t => List.lookup 20 t) gt141).trans rfl
theorem t141_21 : zT 141 21 = some (.iaload, 1, 0, 0, 0, 0) := (congrArg (fun t => List.lookup 21 t) gt141).trans rfl
theorem t141_22 : zT 141 22 = some (.invokevirtual 133, 3, 138, 0, 0, 1212) := (congrArg (fun t => List.lookup 22 t) gt141).trans rfl
theorem t141_25 : zT 141 25 = some (.istore_n 3, 1, 3, 0, 0, 0) := (congrArg (fun t => List.lookup 25 t) gt141).trans rfl
theorem t141_26 : zT 141 26 = some (.iload_n 2, 1, 2, 0, 0, 0) := (congrArg (fun t => List.lookup 26 t) gt141).trans rfl
theorem t141_27 : zT 141 27 = some (.ifCond .eq 21, 3, 48, 0, 0, 0) := (congrArg (fun t => List.lookup 27 t) gt141).trans rfl
theorem t141_30 : zT 141 30 = some (.iload_n 3, 1, 3, 0, 0, 0) := (congrArg (fun t => List.lookup 30 t) gt141).trans rfl
theorem t141_31 : zT 141 31 = some (.aload_n 0, 1, 0, 0, 0, 0) := (congrArg (fun t => List.lookup 31 t) gt141).trans rfl
theorem t141_32 : zT 141 32 = some (.aload_n 0, 1, 0, 0, 0, 0) := (congrArg (fun t => List.lookup 32 t) gt141).trans rfl
theorem t141_33 : zT 141 33 = some (.getfield 48, 3, 4, 10, 0, 502) := (congrArg (fun t => List.lookup 33 t) gt141).trans rfl
theorem t141_36 : zT 141 36 = some (.iload_n 2, 1, 2, 0, 0, 0) := (congrArg (fun t => List.lookup 36 t) gt141).trans rfl
theorem t141_37 : zT 141 37 = some (.iconst 1, 1, 0, 0, 1, 0) := (congrArg (fun t => List.lookup 37 t) gt141).trans rfl
theorem t141_38 : zT 141 38 = some (.isub, 1, 0, 0, 0, 0) := (congrArg (fun t => List.lookup 38 t) gt141).trans rfl
theorem t141_39 : zT 141 39 = some (.iaload, 1, 0, 0, 0, 0) := (congrArg (fun t => List.lookup 39 t) gt141).trans rfl
theorem t141_40 : zT 141 40 = some (.invokevirtual 133, 3, 138, 0, 0, 1212) := (congrArg (fun t => List.lookup 40 t) gt141).trans rfl
theorem t141_43 : zT 141 43 = some (.isub, 1, 0, 0, 0, 0) := (congrArg (fun t => List.lookup 43 t) gt141).trans rfl
theorem t141_44 : zT 141 44 = some (.iload_n 1, 1, 1, 0, 0, 0) := (congrArg (fun t => List.lookup 44 t) gt141).trans rfl
theorem t141_45 : zT 141 45 = some (.if_icmp .le 33, 3, 78, 0, 0, 0) := (congrArg (fun t => List.lookup 45 t) gt141).trans rfl
theorem t141_48 : zT 141 48 = some (.aload_n 0, 1, 0, 0, 0, 0) := (congrArg (fun t => List.lookup 48 t) gt141).trans rfl
theorem t141_49 : zT 141 49 = some (.getfield 51, 3, 4, 11, 0, 503) := (congrArg (fun t => List.lookup 49 t) gt141).trans rfl
theorem t141_52 : zT 141 52 = some (.aload_n 0, 1, 0, 0, 0, 0) := (congrArg (fun t => List.lookup 52 t) gt141).trans rfl
theorem t141_53 : zT 141 53 = some (.getfield 45, 3, 4, 9, 0, 501) := (congrArg (fun t => List.lookup 53 t) gt141).trans rfl
theorem t141_56 : zT 141 56 = some (.iconst 0, 1, 0, 0, 0, 0) := (congrArg (fun t => List.lookup 56 t) gt141).trans rfl
theorem t141_57 : zT 141 57 = some (.iastore, 1, 0, 0, 0, 0) := (congrArg (fun t => List.lookup 57 t) gt141).trans rfl
theorem t141_58 : zT 141 58 = some (.aload_n 0, 1, 0, 0, 0, 0) := (congrArg (fun t => List.lookup 58 t) gt141).trans rfl
theorem t141_59 : zT 141 59 = some (.getfield 54, 3, 4, 12, 0, 504) := (congrArg (fun t => List.lookup 59 t) gt141).trans rfl
theorem t141_62 : zT 141 62 = some (.aload_n 0, 1, 0, 0, 0, 0) := (congrArg (fun t => List.lookup 62 t) gt141).trans rfl
theorem t141_63 : zT 141 63 = some (.getfield 45, 3, 4, 9, 0, 501) := (congrArg (fun t => List.lookup 63 t) gt141).trans rfl
theorem t141_66 : zT 141 66 = some (.iconst 0, 1, 0, 0, 0, 0) := (congrArg (fun t => List.lookup 66 t) gt141).trans rfl
theorem t141_67 : zT 141 67 = some (.iastore, 1, 0, 0, 0, 0) := (congrArg (fun t => List.lookup 67 t) gt141).trans rfl
theorem t141_68 : zT 141 68 = some (.aload_n 0, 1, 0, 0, 0, 0) := (congrArg (fun t => List.lookup 68 t) gt141).trans rfl
theorem t141_69 : zT 141 69 = some (.dup, 1, 0, 0, 0, 0) := (congrArg (fun t => List.lookup 69 t) gt141).trans rfl
theorem t141_70 : zT 141 70 = some (.getfield 45, 3, 4, 9, 0, 501) := (congrArg (fun t => List.lookup 70 t) gt141).trans rfl
theorem t141_73 : zT 141 73 = some (.iconst 1, 1, 0, 0, 1, 0) := (congrArg (fun t => List.lookup 73 t) gt141).trans rfl
theorem t141_74 : zT 141 74 = some (.iadd, 1, 0, 0, 0, 0) := (congrArg (fun t => List.lookup 74 t) gt141).trans rfl
