theorem t285_7 : zT 285 7 = some (.getfield 58, 3, 12, 29, 0, 1636) := (congrArg (fun t => List.lookup 7 t) gt285).trans rfl
theorem t285_10 : zT 285 10 = some (.iload_n 1, 1, 1, 0, 0, 0) := (congrArg (fun t => List.lookup 10 t) gt285).trans rfl
theorem t285_11 : zT 285 11 = some (.laload, 1, 0, 0, 0, 0) := (congrArg (fun t => List.lookup 11 t) gt285).trans rfl
theorem t285_12 : zT 285 12 = some (.invokestatic 324, 3, 286, 1, 0, 2003) := (congrArg (fun t => List.lookup 12 t) gt285).trans rfl
theorem t285_15 : zT 285 15 = some (.l2i, 1, 0, 0, 0, 0) := (congrArg (fun t => List.lookup 15 t) gt285).trans rfl
theorem t285_16 : zT 285 16 = some (.ireturn, 1, 0, 0, 0, 0) := (congrArg (fun t => List.lookup 16 t) gt285).trans rfl
theorem t286_0 : zT 286 0 = some (.lload_n 0, 1, 0, 0, 0, 0) := (congrArg (fun t => List.lookup 0 t) gt286).trans rfl
theorem t286_1 : zT 286 1 = some (.lconst 0, 1, 0, 0, 0, 0) := (congrArg (fun t => List.lookup 1 t) gt286).trans rfl
theorem t286_2 : zT 286 2 = some (.lcmp, 1, 0, 0, 0, 0) := (congrArg (fun t => List.lookup 2 t) gt286).trans rfl
theorem t286_3 : zT 286 3 = some (.ifCond .lt 9, 3, 12, 0, 0, 0) := (congrArg (fun t => List.lookup 3 t) gt286).trans rfl
theorem t286_6 : zT 286 6 = some (.lload_n 0, 1, 0, 0, 0, 0) := (congrArg (fun t => List.lookup 6 t) gt286).trans rfl
theorem t286_7 : zT 286 7 = some (.lload_n 2, 1, 2, 0, 0, 0) := (congrArg (fun t => List.lookup 7 t) gt286).trans rfl
theorem t286_8 : zT 286 8 = some (.ldiv, 1, 0, 0, 0, 0) := (congrArg (fun t => List.lookup 8 t) gt286).trans rfl
theorem t286_9 : zT 286 9 = some (.goto 12, 3, 21, 0, 0, 0) := (congrArg (fun t => List.lookup 9 t) gt286).trans rfl
theorem t286_12 : zT 286 12 = some (.lload_n 0, 1, 0, 0, 0, 0) := (congrArg (fun t => List.lookup 12 t) gt286).trans rfl
theorem t286_13 : zT 286 13 = some (.lneg, 1, 0, 0, 0, 0) := (congrArg (fun t => List.lookup 13 t) gt286).trans rfl
theorem t286_14 : zT 286 14 = some (.lload_n 2, 1, 2, 0, 0, 0) := (congrArg (fun t => List.lookup 14 t) gt286).trans rfl
theorem t286_15 : zT 286 15 = some (.ladd, 1, 0, 0, 0, 0) := (congrArg (fun t => List.lookup 15 t) gt286).trans rfl
theorem t286_16 : zT 286 16 = some (.lconst 1, 1, 0, 0, 1, 0) := (congrArg (fun t => List.lookup 16 t) gt286).trans rfl
theorem t286_17 : zT 286 17 = some (.lsub, 1, 0, 0, 0, 0) := (congrArg (fun t => List.lookup 17 t) gt286).trans rfl
theorem t286_18 : zT 286 18 = some (.lload_n 2, 1, 2, 0, 0, 0) := (congrArg (fun t => List.lookup 18 t) gt286).trans rfl
theorem t286_19 : zT 286 19 = some (.ldiv, 1, 0, 0, 0, 0) := (congrArg (fun t => List.lookup 19 t) gt286).trans rfl
theorem t286_20 : zT 286 20 = some (.lneg, 1, 0, 0, 0, 0) := (congrArg (fun t => List.lookup 20 t) gt286).trans rfl
theorem t286_21 : zT 286 21 = some (.lreturn, 1, 0, 0, 0, 0) := (congrArg (fun t => List.lookup 21 t) gt286).trans rfl
theorem t287_0 : zT 287 0 = some (.iconst 0, 1, 0, 0, 0, 0) := (congrArg (fun t => List.lookup 0 t) gt287).trans rfl
theorem t287_1 : zT 287 1 = some (.istore_n 1, 1, 1, 0, 0, 0) := (congrArg (fun t => List.lookup 1 t) gt287).trans rfl
theorem t287_2 : zT 287 2 = some (.iload_n 1, 1, 1, 0, 0, 0) := (congrArg (fun t => List.lookup 2 t) gt287).trans rfl
theorem t287_3 : zT 287 3 = some (.aload_n 0, 1, 0, 0, 0, 0) := (congrArg (fun t => List.lookup 3 t) gt287).trans rfl
theorem t287_4 : zT 287 4 = some (.getfield 3, 3, 12, 0, 0, 1607) := (congrArg (fun t => List.lookup 4 t) gt287).trans rfl
theorem t287_7 : zT 287 7 = some (.iconst 1, 1, 0, 0, 1, 0) := (congrArg (fun t => List.lookup 7 t) gt287).trans rfl
theorem t287_8 : zT 287 8 = some (.iaload, 1, 0, 0, 0, 0) := (congrArg (fun t => List.lookup 8 t) gt287).trans rfl
theorem t287_9 : zT 287 9 = some (.if_icmp .ge 21, 3, 30, 0, 0, 0) := (congrArg (fun t => List.lookup 9 t) gt287).trans rfl
theorem t287_12 : zT 287 12 = some (.aload_n 0, 1, 0, 0, 0, 0) := (congrArg (fun t => List.lookup 12 t) gt287).trans rfl
theorem t287_13 : zT 287 13 = some (.getfield 34, 3, 12, 16, 0, 1623) := (congrArg (fun t => List.lookup 13 t) gt287).trans rfl
theorem t287_16 : zT 287 16 = some (.iload_n 1, 1, 1, 0, 0, 0) := (congrArg (fun t => List.lookup 16 t) gt287).trans rfl
theorem t287_17 : zT 287 17 = some (.aload_n 0, 1, 0, 0, 0, 0) := (congrArg (fun t => List.lookup 17 t) gt287).trans rfl
theorem t287_18 : zT 287 18 = some (.iload_n 1, 1, 1, 0, 0, 0) := (congrArg (fun t => List.lookup 18 t) gt287).trans rfl
theorem t287_19 : zT 287 19 = some (.iconst (-1), 1, 0, 0, (-1), 0) := (congrArg (fun t => List.lookup 19 t) gt287).trans rfl
theorem t287_20 : zT 287 20 = some (.invokevirtual 295, 3, 271, 0, 0, 1945) := (congrArg (fun t => List.lookup 20 t) gt287).trans rfl
theorem t287_23 : zT 287 23 = some (.bastore, 1, 0, 0, 0, 0) := (congrArg (fun t => List.lookup 23 t) gt287).trans rfl
theorem t287_24 : zT 287 24 = some (.iinc 1 1, 3, 0, 0, 0, 0) := (congrArg (fun t => List.lookup 24 t) gt287).trans rfl
theorem t287_27 : zT 287 27 = some (.goto (-25), 3, 2, 0, 0, 0) := (congrArg (fun t => List.lookup 27 t) gt287).trans rfl
theorem t287_30 : zT 287 30 = some (.aload_n 0, 1, 0, 0, 0, 0) := (congrArg (fun t => List.lookup 30 t) gt287).trans rfl
theorem t287_31 : zT 287 31 = some (.iconst 0, 1, 0, 0, 0, 0) := (congrArg (fun t => List.lookup 31 t) gt287).trans rfl
theorem t287_32 : zT 287 32 = some (.putfield 354, 3, 12, 39, 0, 1646) := (congrArg (fun t => List.lookup 32 t) gt287).trans rfl
theorem t287_35 : zT 287 35 = some (.aload_n 0, 1, 0, 0, 0, 0) := (congrArg (fun t => List.lookup 35 t) gt287).trans rfl
theorem t287_36 : zT 287 36 = some (.getfield 3, 3, 12, 0, 0, 1607) := (congrArg (fun t => List.lookup 36 t) gt287).trans rfl
theorem t287_39 : zT 287 39 = some (.iconst 5, 1, 0, 0, 5, 0) := (congrArg (fun t => List.lookup 39 t) gt287).trans rfl
theorem t287_40 : zT 287 40 = some (.iaload, 1, 0, 0, 0, 0) := (congrArg (fun t => List.lookup 40 t) gt287).trans rfl
theorem t287_41 : zT 287 41 = some (.ineg, 1, 0, 0, 0, 0) := (congrArg (fun t => List.lookup 41 t) gt287).trans rfl
theorem t287_42 : zT 287 42 = some (.istore_n 1, 1, 1, 0, 0, 0) := (congrArg (fun t => List.lookup 42 t) gt287).trans rfl
theorem t287_43 : zT 287 43 = some (.iload_n 1, 1, 1, 0, 0, 0) := (congrArg (fun t => List.lookup 43 t) gt287).trans rfl
theorem t287_44 : zT 287 44 = some (.aload_n 0, 1, 0, 0, 0, 0) := (congrArg (fun t => List.lookup 44 t) gt287).trans rfl
theorem t287_45 : zT 287 45 = some (.getfield 3, 3, 12, 0, 0, 1607) := (congrArg (fun t => List.lookup 45 t) gt287).trans rfl
theorem t287_48 : zT 287 48 = some (.iconst 5, 1, 0, 0, 5, 0) := (congrArg (fun t => List.lookup 48 t) gt287).trans rfl
theorem t287_49 : zT 287 49 = some (.iaload, 1, 0, 0, 0, 0) := (congrArg (fun t => List.lookup 49 t) gt287).trans rfl
theorem t287_50 : zT 287 50 = some (.if_icmp .gt 132, 3, 182, 0, 0, 0) := (congrArg (fun t => List.lookup 50 t) gt287).trans rfl
theorem t287_53 : zT 287 53 = some (.aload_n 0, 1, 0, 0, 0, 0) := (congrArg (fun t => List.lookup 53 t) gt287).trans rfl
theorem t287_54 : zT 287 54 = some (.getfield 3, 3, 12, 0, 0, 1607) := (congrArg (fun t => List.lookup 54 t) gt287).trans rfl
theorem t287_57 : zT 287 57 = some (.bipush 6, 2, 0, 0, 6, 0) := (congrArg (fun t => List.lookup 57 t) gt287).trans rfl
theorem t287_59 : zT 287 59 = some (.iaload, 1, 0, 0, 0, 0) := (congrArg (fun t => List.lookup 59 t) gt287).trans rfl
theorem t287_60 : zT 287 60 = some (.ineg, 1, 0, 0, 0, 0) := (congrArg (fun t => List.lookup 60 t) gt287).trans rfl
theorem t287_61 : zT 287 61 = some (.istore_n 2, 1, 2, 0, 0, 0) := (congrArg (fun t => List.lookup 61 t) gt287).trans rfl
theorem t287_62 : zT 287 62 = some (.iload_n 2, 1, 2, 0, 0, 0) := (congrArg (fun t => List.lookup 62 t) gt287).trans rfl
theorem t287_63 : zT 287 63 = some (.aload_n 0, 1, 0, 0, 0, 0) := (congrArg (fun t => List.lookup 63 t) gt287).trans rfl
theorem t287_64 : zT 287 64 = some (.getfield 3, 3, 12, 0, 0, 1607) := (congrArg (fun t => List.lookup 64 t) gt287).trans rfl
theorem t287_67 : zT 287 67 = some (.bipush 6, 2, 0, 0, 6, 0) := (congrArg (fun t => List.lookup 67 t) gt287).trans rfl
theorem t287_69 : zT 287 69 = some (.iaload, 1, 0, 0, 0, 0) := (congrArg (fun t => List.lookup 69 t) gt287).trans rfl
theorem t287_70 : zT 287 70 = some (.if_icmp .gt 106, 3, 176, 0, 0, 0) := (congrArg (fun t => List.lookup 70 t) gt287).trans rfl
theorem t287_73 : zT 287 73 = some (.aload_n 0, 1, 0, 0, 0, 0) := (congrArg (fun t => List.lookup 73 t) gt287).trans rfl
theorem t287_74 : zT 287 74 = some (.iload_n 2, 1, 2, 0, 0, 0) := (congrArg (fun t => List.lookup 74 t) gt287).trans rfl
theorem t287_75 : zT 287 75 = some (.iload_n 1, 1, 1, 0, 0, 0) := (congrArg (fun t => List.lookup 75 t) gt287).trans rfl
theorem t287_76 : zT 287 76 = some (.invokevirtual 270, 3, 275, 0, 0, 1961) := (congrArg (fun t => List.lookup 76 t) gt287).trans rfl
theorem t287_79 : zT 287 79 = some (.iconst 0, 1, 0, 0, 0, 0) := (congrArg (fun t => List.lookup 79 t) gt287).trans rfl
theorem t287_80 : zT 287 80 = some (.istore_n 3, 1, 3, 0, 0, 0) := (congrArg (fun t => List.lookup 80 t) gt287).trans rfl
theorem t287_81 : zT 287 81 = some (.iload_n 3, 1, 3, 0, 0, 0) := (congrArg (fun t => List.lookup 81 t) gt287).trans rfl
theorem t287_82 : zT 287 82 = some (.aload_n 0, 1, 0, 0, 0, 0) := (congrArg (fun t => List.lookup 82 t) gt287).trans rfl
theorem t287_83 : zT 287 83 = some (.getfield 3, 3, 12, 0, 0, 1607) := (congrArg (fun t => List.lookup 83 t) gt287).trans rfl
theorem t287_86 : zT 287 86 = some (.iconst 1, 1, 0, 0, 1, 0) := (congrArg (fun t => List.lookup 86 t) gt287).trans rfl
theorem t287_87 : zT 287 87 = some (.iaload, 1, 0, 0, 0, 0) := (congrArg (fun t => List.lookup 87 t) gt287).trans rfl
theorem t287_88 : zT 287 88 = some (.if_icmp .ge 82, 3, 170, 0, 0, 0) := (congrArg (fun t => List.lookup 88 t) gt287).trans rfl
theorem t287_91 : zT 287 91 = some (.aload_n 0, 1, 0, 0, 0, 0) := (congrArg (fun t => List.lookup 91 t) gt287).trans rfl
theorem t287_92 : zT 287 92 = some (.getfield 34, 3, 12, 16, 0, 1623) := (congrArg (fun t => List.lookup 92 t) gt287).trans rfl
theorem t287_95 : zT 287 95 = some (.iload_n 3, 1, 3, 0, 0, 0) := (congrArg (fun t => List.lookup 95 t) gt287).trans rfl
theorem t287_96 : zT 287 96 = some (.baload, 1, 0, 0, 0, 0) := (congrArg (fun t => List.lookup 96 t) gt287).trans rfl
theorem t287_97 : zT 287 97 = some (.ifCond .eq 67, 3, 164, 0, 0, 0) := (congrArg (fun t => List.lookup 97 t) gt287).trans rfl
theorem t287_100 : zT 287 100 = some (.aload_n 0, 1, 0, 0, 0, 0) := (congrArg (fun t => List.lookup 100 t) gt287).trans rfl
theorem t287_101 : zT 287 101 = some (.iload_n 3, 1, 3, 0, 0, 0) := (congrArg (fun t => List.lookup 101 t) gt287).trans rfl
theorem t287_102 : zT 287 102 = some (.invokevirtual 273, 3, 276, 0, 0, 1965) := (congrArg (fun t => List.lookup 102 t) gt287).trans rfl
theorem t287_105 : zT 287 105 = some (.ifCond .eq 59, 3, 164, 0, 0, 0) := (congrArg (fun t => List.lookup 105 t) gt287).trans rfl
theorem t287_108 : zT 287 108 = some (.aload_n 0, 1, 0, 0, 0, 0) := (congrArg (fun t => List.lookup 108 t) gt287).trans rfl
theorem t287_109 : zT 287 109 = some (.iload_n 1, 1, 1, 0, 0, 0) := (congrArg (fun t => List.lookup 109 t) gt287).trans rfl
theorem t287_110 : zT 287 110 = some (.iload_n 2, 1, 2, 0, 0, 0) := (congrArg (fun t => List.lookup 110 t) gt287).trans rfl
theorem t287_111 : zT 287 111 = some (.aload_n 0, 1, 0, 0, 0, 0) := (congrArg (fun t => List.lookup 111 t) gt287).trans rfl
theorem t287_112 : zT 287 112 = some (.getfield 37, 3, 12, 17, 0, 1624) := (congrArg (fun t => List.lookup 112 t) gt287).trans (by decide +kernel)
theorem t287_115 : zT 287 115 = some (.iload_n 3, 1, 3, 0, 0, 0) := (congrArg (fun t => List.lookup 115 t) gt287).trans (by decide +kernel)
theorem t287_116 : zT 287 116 = some (.iaload, 1, 0, 0, 0, 0) := (congrArg (fun t => List.lookup 116 t) gt287).trans (by decide +kernel)
theorem t287_117 : zT 287 117 = some (.invokevirtual 357, 3, 288, 0, 0, 2010) := (congrArg (fun t => List.lookup 117 t) gt287).trans (by decide +kernel)
theorem t287_120 : zT 287 120 = some (.ifCond .eq 6, 3, 126, 0, 0, 0) := (congrArg (fun t => List.lookup 120 t) gt287).trans (by decide +kernel)
theorem t287_123 : zT 287 123 = some (.goto 41, 3, 164, 0, 0, 0) := (congrArg (fun t => List.lookup 123 t) gt287).trans (by decide +kernel)
theorem t287_126 : zT 287 126 = some (.aload_n 0, 1, 0, 0, 0, 0) := (congrArg (fun t => List.lookup 126 t) gt287).trans (by decide +kernel)
theorem t287_127 : zT 287 127 = some (.aload_n 0, 1, 0, 0, 0, 0) := (congrArg (fun t => List.lookup 127 t) gt287).trans (by decide +kernel)
theorem t287_128 : zT 287 128 = some (.getfield 37, 3, 12, 17, 0, 1624) := (congrArg (fun t => List.lookup 128 t) gt287).trans (by decide +kernel)
theorem t287_131 : zT 287 131 = some (.iload_n 3, 1, 3, 0, 0, 0) := (congrArg (fun t => List.lookup 131 t) gt287).trans (by decide +kernel)
theorem t287_132 : zT 287 132 = some (.iaload, 1, 0, 0, 0, 0) := (congrArg (fun t => List.lookup 132 t) gt287).trans (by decide +kernel)
theorem t287_133 : zT 287 133 = some (.invokevirtual 276, 3, 277, 0, 0, 1969) := (congrArg (fun t => List.lookup 133 t) gt287).trans (by decide +kernel)
theorem t287_136 : zT 287 136 = some (.istore 4, 2, 0, 0, 0, 0) := (congrArg (fun t => List.lookup 136 t) gt287).trans (by decide +kernel)
theorem t287_138 : zT 287 138 = some (.iload 4, 2, 0, 0, 0, 0) := (congrArg (fun t => List.lookup 138 t) gt287).trans (by decide +kernel)
theorem t287_140 : zT 287 140 = some (.aload_n 0, 1, 0, 0, 0, 0) := (congrArg (fun t => List.lookup 140 t) gt287).trans (by decide +kernel)
theorem t287_141 : zT 287 141 = some (.getfield 3, 3, 12, 0, 0, 1607) := (congrArg (fun t => List.lookup 141 t) gt287).trans (by decide +kernel)
theorem t287_144 : zT 287 144 = some (.bipush 8, 2, 0, 0, 8, 0) := (congrArg (fun t => List.lookup 144 t) gt287).trans (by decide +kernel)
theorem t287_146 : zT 287 146 = some (.iaload, 1, 0, 0, 0, 0) := (congrArg (fun t => List.lookup 146 t) gt287).trans (by decide +kernel)
theorem t287_147 : zT 287 147 = some (.if_icmp .lt 17, 3, 164, 0, 0, 0) := (congrArg (fun t => List.lookup 147 t) gt287).trans (by decide +kernel)
theorem t287_150 : zT 287 150 = some (.aload_n 0, 1, 0, 0, 0, 0) := (congrArg (fun t => List.lookup 150 t) gt287).trans (by decide +kernel)
theorem t287_151 : zT 287 151 = some (.iload_n 1, 1, 1, 0, 0, 0) := (congrArg (fun t => List.lookup 151 t) gt287).trans (by decide +kernel)
theorem t287_152 : zT 287 152 = some (.iload_n 2, 1, 2, 0, 0, 0) := (congrArg (fun t => List.lookup 152 t) gt287).trans (by decide +kernel)
theorem t287_153 : zT 287 153 = some (.aload_n 0, 1, 0, 0, 0, 0) := (congrArg (fun t => List.lookup 153 t) gt287).trans (by decide +kernel)
theorem t287_154 : zT 287 154 = some (.getfield 37, 3, 12, 17, 0, 1624) := (congrArg (fun t => List.lookup 154 t) gt287).trans (by decide +kernel)
theorem t287_157 : zT 287 157 = some (.iload_n 3, 1, 3, 0, 0, 0) := (congrArg (fun t => List.lookup 157 t) gt287).trans (by decide +kernel)
theorem t287_158 : zT 287 158 = some (.iaload, 1, 0, 0, 0, 0) := (congrArg (fun t => List.lookup 158 t) gt287).trans (by decide +kernel)
theorem t287_159 : zT 287 159 = some (.iload 4, 2, 0, 0, 0, 0) := (congrArg (fun t => List.lookup 159 t) gt287).trans (by decide +kernel)
theorem t287_161 : zT 287 161 = some (.invokevirtual 361, 3, 289, 0, 0, 2014) := (congrArg (fun t => List.lookup 161 t) gt287).trans (by decide +kernel)
theorem t287_164 : zT 287 164 = some (.iinc 3 1, 3, 0, 0, 0, 0) := (congrArg (fun t => List.lookup 164 t) gt287).trans (by decide +kernel)
theorem t287_167 : zT 287 167 = some (.goto (-86), 3, 81, 0, 0, 0) := (congrArg (fun t => List.lookup 167 t) gt287).trans (by decide +kernel)
theorem t287_170 : zT 287 170 = some (.iinc 2 1, 3, 0, 0, 0, 0) := (congrArg (fun t => List.lookup 170 t) gt287).trans (by decide +kernel)
theorem t287_173 : zT 287 173 = some (.goto (-111), 3, 62, 0, 0, 0) := (congrArg (fun t => List.lookup 173 t) gt287).trans (by decide +kernel)
theorem t287_176 : zT 287 176 = some (.iinc 1 1, 3, 0, 0, 0, 0) := (congrArg (fun t => List.lookup 176 t) gt287).trans (by decide +kernel)
theorem t287_179 : zT 287 179 = some (.goto (-136), 3, 43, 0, 0, 0) := (congrArg (fun t => List.lookup 179 t) gt287).trans (by decide +kernel)
theorem t287_182 : zT 287 182 = some (.return_, 1, 0, 0, 0, 0) := (congrArg (fun t => List.lookup 182 t) gt287).trans (by decide +kernel)
theorem t288_0 : zT 288 0 = some (.iconst 0, 1, 0, 0, 0, 0) := (congrArg (fun t => List.lookup 0 t) gt288).trans rfl
theorem t288_1 : zT 288 1 = some (.istore 4, 2, 0, 0, 0, 0) := (congrArg (fun t => List.lookup 1 t) gt288).trans rfl
theorem t288_3 : zT 288 3 = some (.iload 4, 2, 0, 0, 0, 0) := (congrArg (fun t => List.lookup 3 t) gt288).trans rfl
theorem t288_5 : zT 288 5 = some (.aload_n 0, 1, 0, 0, 0, 0) := (congrArg (fun t => List.lookup 5 t) gt288).trans rfl
theorem t288_6 : zT 288 6 = some (.getfield 261, 3, 12, 22, 0, 1629) := (congrArg (fun t => List.lookup 6 t) gt288).trans rfl
theorem t288_9 : zT 288 9 = some (.if_icmp .ge 44, 3, 53, 0, 0, 0) := (congrArg (fun t => List.lookup 9 t) gt288).trans rfl
theorem t288_12 : zT 288 12 = some (.aload_n 0, 1, 0, 0, 0, 0) := (congrArg (fun t => List.lookup 12 t) gt288).trans rfl
theorem t288_13 : zT 288 13 = some (.getfield 40, 3, 12, 23, 0, 1630) := (congrArg (fun t => List.lookup 13 t) gt288).trans rfl
theorem t288_16 : zT 288 16 = some (.iload 4, 2, 0, 0, 0, 0) := (congrArg (fun t => List.lookup 16 t) gt288).trans rfl
theorem t288_18 : zT 288 18 = some (.iaload, 1, 0, 0, 0, 0) := (congrArg (fun t => List.lookup 18 t) gt288).trans rfl
theorem t288_19 : zT 288 19 = some (.iload_n 1, 1, 1, 0, 0, 0) := (congrArg (fun t => List.lookup 19 t) gt288).trans rfl
theorem t288_20 : zT 288 20 = some (.if_icmp .ne 27, 3, 47, 0, 0, 0) := (congrArg (fun t => List.lookup 20 t) gt288).trans rfl
theorem t288_23 : zT 288 23 = some (.aload_n 0, 1, 0, 0, 0, 0) := (congrArg (fun t => List.lookup 23 t) gt288).trans rfl
theorem t288_24 : zT 288 24 = some (.getfield 43, 3, 12, 24, 0, 1631) := (congrArg (fun t => List.lookup 24 t) gt288).trans rfl
theorem t288_27 : zT 288 27 = some (.iload 4, 2, 0, 0, 0, 0) := (congrArg (fun t => List.lookup 27 t) gt288).trans rfl
theorem t288_29 : zT 288 29 = some (.iaload, 1, 0, 0, 0, 0) := (congrArg (fun t => List.lookup 29 t) gt288).trans rfl
theorem t288_30 : zT 288 30 = some (.iload_n 2, 1, 2, 0, 0, 0) := (congrArg (fun t => List.lookup 30 t) gt288).trans rfl
theorem t288_31 : zT 288 31 = some (.if_icmp .ne 16, 3, 47, 0, 0, 0) := (congrArg (fun t => List.lookup 31 t) gt288).trans rfl
theorem t288_34 : zT 288 34 = some (.aload_n 0, 1, 0, 0, 0, 0) := (congrArg (fun t => List.lookup 34 t) gt288).trans rfl
theorem t288_35 : zT 288 35 = some (.getfield 46, 3, 12, 25, 0, 1632) := (congrArg (fun t => List.lookup 35 t) gt288).trans rfl
theorem t288_38 : zT 288 38 = some (.iload 4, 2, 0, 0, 0, 0) := (congrArg (fun t => List.lookup 38 t) gt288).trans rfl
theorem t288_40 : zT 288 40 = some (.iaload, 1, 0, 0, 0, 0) := (congrArg (fun t => List.lookup 40 t) gt288).trans rfl
theorem t288_41 : zT 288 41 = some (.iload_n 3, 1, 3, 0, 0, 0) := (congrArg (fun t => List.lookup 41 t) gt288).trans rfl
theorem t288_42 : zT 288 42 = some (.if_icmp .ne 5, 3, 47, 0, 0, 0) := (congrArg (fun t => List.lookup 42 t) gt288).trans rfl
theorem t288_45 : zT 288 45 = some (.iconst 1, 1, 0, 0, 1, 0) := (congrArg (fun t => List.lookup 45 t) gt288).trans rfl
theorem t288_46 : zT 288 46 = some (.ireturn, 1, 0, 0, 0, 0) := (congrArg (fun t => List.lookup 46 t) gt288).trans rfl
theorem t288_47 : zT 288 47 = some (.iinc 4 1, 3, 0, 0, 0, 0) := (congrArg (fun t => List.lookup 47 t) gt288).trans rfl
theorem t288_50 : zT 288 50 = some (.goto (-47), 3, 3, 0, 0, 0) := (congrArg (fun t => List.lookup 50 t) gt288).trans rfl
theorem t288_53 : zT 288 53 = some (.iconst 0, 1, 0, 0, 0, 0) := (congrArg (fun t => List.lookup 53 t) gt288).trans rfl
theorem t288_54 : zT 288 54 = some (.ireturn, 1, 0, 0, 0, 0) := (congrArg (fun t => List.lookup 54 t) gt288).trans rfl
theorem t289_0 : zT 289 0 = some (.aload_n 0, 1, 0, 0, 0, 0) := (congrArg (fun t => List.lookup 0 t) gt289).trans rfl
theorem t289_1 : zT 289 1 = some (.getfield 354, 3, 12, 39, 0, 1646) := (congrArg (fun t => List.lookup 1 t) gt289).trans rfl
theorem t289_4 : zT 289 4 = some (.bipush 20, 2, 0, 0, 20, 0) := (congrArg (fun t => List.lookup 4 t) gt289).trans rfl
theorem t289_6 : zT 289 6 = some (.if_icmp .ge 10, 3, 16, 0, 0, 0) := (congrArg (fun t => List.lookup 6 t) gt289).trans rfl
theorem t289_9 : zT 289 9 = some (.aload_n 0, 1, 0, 0, 0, 0) := (congrArg (fun t => List.lookup 9 t) gt289).trans rfl
theorem t289_10 : zT 289 10 = some (.getfield 354, 3, 12, 39, 0, 1646) := (congrArg (fun t => List.lookup 10 t) gt289).trans rfl
theorem t289_13 : zT 289 13 = some (.goto 5, 3, 18, 0, 0, 0) := (congrArg (fun t => List.lookup 13 t) gt289).trans rfl
theorem t289_16 : zT 289 16 = some (.bipush 20, 2, 0, 0, 20, 0) := (congrArg (fun t => List.lookup 16 t) gt289).trans rfl
theorem t289_18 : zT 289 18 = some (.istore 5, 2, 0, 0, 0, 0) := (congrArg (fun t => List.lookup 18 t) gt289).trans rfl
theorem t289_20 : zT 289 20 = some (.iload 5, 2, 0, 0, 0, 0) := (congrArg (fun t => List.lookup 20 t) gt289).trans rfl
theorem t289_22 : zT 289 22 = some (.ifCond .le 105, 3, 127, 0, 0, 0) := (congrArg (fun t => List.lookup 22 t) gt289).trans rfl
theorem t289_25 : zT 289 25 = some (.iload 4, 2, 0, 0, 0, 0) := (congrArg (fun t => List.lookup 25 t) gt289).trans rfl
theorem t289_27 : zT 289 27 = some (.iload_n 1, 1, 1, 0, 0, 0) := (congrArg (fun t => List.lookup 27 t) gt289).trans rfl
theorem t289_28 : zT 289 28 = some (.iload_n 2, 1, 2, 0, 0, 0) := (congrArg (fun t => List.lookup 28 t) gt289).trans rfl
theorem t289_29 : zT 289 29 = some (.iload_n 3, 1, 3, 0, 0, 0) := (congrArg (fun t => List.lookup 29 t) gt289).trans rfl
theorem t289_30 : zT 289 30 = some (.aload_n 0, 1, 0, 0, 0, 0) := (congrArg (fun t => List.lookup 30 t) gt289).trans rfl
theorem t289_31 : zT 289 31 = some (.getfield 83, 3, 12, 38, 0, 1645) := (congrArg (fun t => List.lookup 31 t) gt289).trans rfl
theorem t289_34 : zT 289 34 = some (.iconst 4, 1, 0, 0, 4, 0) := (congrArg (fun t => List.lookup 34 t) gt289).trans rfl
theorem t289_35 : zT 289 35 = some (.iload 5, 2, 0, 0, 0, 0) := (congrArg (fun t => List.lookup 35 t) gt289).trans rfl
theorem t289_37 : zT 289 37 = some (.imul, 1, 0, 0, 0, 0) := (congrArg (fun t => List.lookup 37 t) gt289).trans rfl
theorem t289_38 : zT 289 38 = some (.iconst 1, 1, 0, 0, 1, 0) := (congrArg (fun t => List.lookup 38 t) gt289).trans rfl
theorem t289_39 : zT 289 39 = some (.isub, 1, 0, 0, 0, 0) := (congrArg (fun t => List.lookup 39 t) gt289).trans rfl
theorem t289_40 : zT 289 40 = some (.iaload, 1, 0, 0, 0, 0) := (congrArg (fun t => List.lookup 40 t) gt289).trans rfl
theorem t289_41 : zT 289 41 = some (.aload_n 0, 1, 0, 0, 0, 0) := (congrArg (fun t => List.lookup 41 t) gt289).trans rfl
theorem t289_42 : zT 289 42 = some (.getfield 83, 3, 12, 38, 0, 1645) := (congrArg (fun t => List.lookup 42 t) gt289).trans rfl
theorem t289_45 : zT 289 45 = some (.iconst 4, 1, 0, 0, 4, 0) := (congrArg (fun t => List.lookup 45 t) gt289).trans rfl
theorem t289_46 : zT 289 46 = some (.iload 5, 2, 0, 0, 0, 0) := (congrArg (fun t => List.lookup 46 t) gt289).trans rfl
theorem t289_48 : zT 289 48 = some (.imul, 1, 0, 0, 0, 0) := (congrArg (fun t => List.lookup 48 t) gt289).trans rfl
theorem t289_49 : zT 289 49 = some (.iconst 4, 1, 0, 0, 4, 0) := (congrArg (fun t => List.lookup 49 t) gt289).trans rfl
theorem t289_50 : zT 289 50 = some (.isub, 1, 0, 0, 0, 0) := (congrArg (fun t => List.lookup 50 t) gt289).trans rfl
theorem t289_51 : zT 289 51 = some (.iaload, 1, 0, 0, 0, 0) := (congrArg (fun t => List.lookup 51 t) gt289).trans rfl
theorem t289_52 : zT 289 52 = some (.aload_n 0, 1, 0, 0, 0, 0) := (congrArg (fun t => List.lookup 52 t) gt289).trans rfl
theorem t289_53 : zT 289 53 = some (.getfield 83, 3, 12, 38, 0, 1645) := (congrArg (fun t => List.lookup 53 t) gt289).trans rfl
theorem t289_56 : zT 289 56 = some (.iconst 4, 1, 0, 0, 4, 0) := (congrArg (fun t => List.lookup 56 t) gt289).trans rfl
theorem t289_57 : zT 289 57 = some (.iload 5, 2, 0, 0, 0, 0) := (congrArg (fun t => List.lookup 57 t) gt289).trans rfl
theorem t289_59 : zT 289 59 = some (.imul, 1, 0, 0, 0, 0) := (congrArg (fun t => List.lookup 59 t) gt289).trans rfl
theorem t289_60 : zT 289 60 = some (.iconst 3, 1, 0, 0, 3, 0) := (congrArg (fun t => List.lookup 60 t) gt289).trans rfl
theorem t289_61 : zT 289 61 = some (.isub, 1, 0, 0, 0, 0) := (congrArg (fun t => List.lookup 61 t) gt289).trans rfl
theorem t289_62 : zT 289 62 = some (.iaload, 1, 0, 0, 0, 0) := (congrArg (fun t => List.lookup 62 t) gt289).trans rfl
theorem t289_63 : zT 289 63 = some (.aload_n 0, 1, 0, 0, 0, 0) := (congrArg (fun t => List.lookup 63 t) gt289).trans rfl
theorem t289_64 : zT 289 64 = some (.getfield 83, 3, 12, 38, 0, 1645) := (congrArg (fun t => List.lookup 64 t) gt289).trans rfl
theorem t289_67 : zT 289 67 = some (.iconst 4, 1, 0, 0, 4, 0) := (congrArg (fun t => List.lookup 67 t) gt289).trans rfl
theorem t289_68 : zT 289 68 = some (.iload 5, 2, 0, 0, 0, 0) := (congrArg (fun t => List.lookup 68 t) gt289).trans rfl
theorem t289_70 : zT 289 70 = some (.imul, 1, 0, 0, 0, 0) := (congrArg (fun t => List.lookup 70 t) gt289).trans rfl
theorem t289_71 : zT 289 71 = some (.iconst 2, 1, 0, 0, 2, 0) := (congrArg (fun t => List.lookup 71 t) gt289).trans rfl
theorem t289_72 : zT 289 72 = some (.isub, 1, 0, 0, 0, 0) := (congrArg (fun t => List.lookup 72 t) gt289).trans rfl
theorem t289_73 : zT 289 73 = some (.iaload, 1, 0, 0, 0, 0) := (congrArg (fun t => List.lookup 73 t) gt289).trans rfl
theorem t289_74 : zT 289 74 = some (.invokestatic 291, 3, 279, 1, 0, 1976) := (congrArg (fun t => List.lookup 74 t) gt289).trans rfl
theorem t289_77 : zT 289 77 = some (.ifCond .eq 50, 3, 127, 0, 0, 0) := (congrArg (fun t => List.lookup 77 t) gt289).trans rfl
theorem t289_80 : zT 289 80 = some (.iconst 0, 1, 0, 0, 0, 0) := (congrArg (fun t => List.lookup 80 t) gt289).trans rfl
theorem t289_81 : zT 289 81 = some (.istore 6, 2, 0, 0, 0, 0) := (congrArg (fun t => List.lookup 81 t) gt289).trans rfl
theorem t289_83 : zT 289 83 = some (.iload 6, 2, 0, 0, 0, 0) := (congrArg (fun t => List.lookup 83 t) gt289).trans rfl
theorem t289_85 : zT 289 85 = some (.iconst 4, 1, 0, 0, 4, 0) := (congrArg (fun t => List.lookup 85 t) gt289).trans rfl
theorem t289_86 : zT 289 86 = some (.if_icmp .ge 35, 3, 121, 0, 0, 0) := (congrArg (fun t => List.lookup 86 t) gt289).trans rfl
theorem t289_89 : zT 289 89 = some (.aload_n 0, 1, 0, 0, 0, 0) := (congrArg (fun t => List.lookup 89 t) gt289).trans rfl
theorem t289_90 : zT 289 90 = some (.getfield 83, 3, 12, 38, 0, 1645) := (congrArg (fun t => List.lookup 90 t) gt289).trans rfl
theorem t289_93 : zT 289 93 = some (.iconst 4, 1, 0, 0, 4, 0) := (congrArg (fun t => List.lookup 93 t) gt289).trans rfl
theorem t289_94 : zT 289 94 = some (.iload 5, 2, 0, 0, 0, 0) := (congrArg (fun t => List.lookup 94 t) gt289).trans rfl
theorem t289_96 : zT 289 96 = some (.imul, 1, 0, 0, 0, 0) := (congrArg (fun t => List.lookup 96 t) gt289).trans rfl
theorem t289_97 : zT 289 97 = some (.iload 6, 2, 0, 0, 0, 0) := (congrArg (fun t => List.lookup 97 t) gt289).trans rfl
theorem t289_99 : zT 289 99 = some (.iadd, 1, 0, 0, 0, 0) := (congrArg (fun t => List.lookup 99 t) gt289).trans rfl
theorem t289_100 : zT 289 100 = some (.aload_n 0, 1, 0, 0, 0, 0) := (congrArg (fun t => List.lookup 100 t) gt289).trans rfl
theorem t289_101 : zT 289 101 = some (.getfield 83, 3, 12, 38, 0, 1645) := (congrArg (fun t => List.lookup 101 t) gt289).trans rfl
theorem t289_104 : zT 289 104 = some (.iconst 4, 1, 0, 0, 4, 0) := (congrArg (fun t => List.lookup 104 t) gt289).trans rfl
theorem t289_105 : zT 289 105 = some (.iload 5, 2, 0, 0, 0, 0) := (congrArg (fun t => List.lookup 105 t) gt289).trans rfl
theorem t289_107 : zT 289 107 = some (.imul, 1, 0, 0, 0, 0) := (congrArg (fun t => List.lookup 107 t) gt289).trans rfl
theorem t289_108 : zT 289 108 = some (.iconst 4, 1, 0, 0, 4, 0) := (congrArg (fun t => List.lookup 108 t) gt289).trans rfl
theorem t289_109 : zT 289 109 = some (.isub, 1, 0, 0, 0, 0) := (congrArg (fun t => List.lookup 109 t) gt289).trans rfl
theorem t289_110 : zT 289 110 = some (.iload 6, 2, 0, 0, 0, 0) := (congrArg (fun t => List.lookup 110 t) gt289).trans rfl
theorem t289_112 : zT 289 112 = some (.iadd, 1, 0, 0, 0, 0) := (congrArg (fun t => List.lookup 112 t) gt289).trans rfl
theorem t289_113 : zT 289 113 = some (.iaload, 1, 0, 0, 0, 0) := (congrArg (fun t => List.lookup 113 t) gt289).trans (by decide +kernel)
theorem t289_114 : zT 289 114 = some (.iastore, 1, 0, 0, 0, 0) := (congrArg (fun t => List.lookup 114 t) gt289).trans (by decide +kernel)
theorem t289_115 : zT 289 115 = some (.iinc 6 1, 3, 0, 0, 0, 0) := (congrArg (fun t => List.lookup 115 t) gt289).trans (by decide +kernel)
theorem t289_118 : zT 289 118 = some (.goto (-35), 3, 83, 0, 0, 0) := (congrArg (fun t => List.lookup 118 t) gt289).trans (by decide +kernel)
theorem t289_121 : zT 289 121 = some (.iinc 5 (-1), 3, 0, 0, 0, 0) := (congrArg (fun t => List.lookup 121 t) gt289).trans (by decide +kernel)
theorem t289_124 : zT 289 124 = some (.goto (-104), 3, 20, 0, 0, 0) := (congrArg (fun t => List.lookup 124 t) gt289).trans (by decide +kernel)
theorem t289_127 : zT 289 127 = some (.aload_n 0, 1, 0, 0, 0, 0) := (congrArg (fun t => List.lookup 127 t) gt289).trans (by decide +kernel)
theorem t289_128 : zT 289 128 = some (.getfield 83, 3, 12, 38, 0, 1645) := (congrArg (fun t => List.lookup 128 t) gt289).trans (by decide +kernel)
theorem t289_131 : zT 289 131 = some (.iconst 4, 1, 0, 0, 4, 0) := (congrArg (fun t => List.lookup 131 t) gt289).trans (by decide +kernel)
theorem t289_132 : zT 289 132 = some (.iload 5, 2, 0, 0, 0, 0) := (congrArg (fun t => List.lookup 132 t) gt289).trans (by decide +kernel)
theorem t289_134 : zT 289 134 = some (.imul, 1, 0, 0, 0, 0) := (congrArg (fun t => List.lookup 134 t) gt289).trans (by decide +kernel)
theorem t289_135 : zT 289 135 = some (.iload_n 1, 1, 1, 0, 0, 0) := (congrArg (fun t => List.lookup 135 t) gt289).trans (by decide +kernel)
theorem t289_136 : zT 289 136 = some (.iastore, 1, 0, 0, 0, 0) := (congrArg (fun t => List.lookup 136 t) gt289).trans (by decide +kernel)
theorem t289_137 : zT 289 137 = some (.aload_n 0, 1, 0, 0, 0, 0) := (congrArg (fun t => List.lookup 137 t) gt289).trans (by decide +kernel)
theorem t289_138 : zT 289 138 = some (.getfield 83, 3, 12, 38, 0, 1645) := (congrArg (fun t => List.lookup 138 t) gt289).trans (by decide +kernel)
theorem t289_141 : zT 289 141 = some (.iconst 4, 1, 0, 0, 4, 0) := (congrArg (fun t => List.lookup 141 t) gt289).trans (by decide +kernel)
theorem t289_142 : zT 289 142 = some (.iload 5, 2, 0, 0, 0, 0) := (congrArg (fun t => List.lookup 142 t) gt289).trans (by decide +kernel)
theorem t289_144 : zT 289 144 = some (.imul, 1, 0, 0, 0, 0) := (congrArg (fun t => List.lookup 144 t) gt289).trans (by decide +kernel)
theorem t289_145 : zT 289 145 = some (.iconst 1, 1, 0, 0, 1, 0) := (congrArg (fun t => List.lookup 145 t) gt289).trans (by decide +kernel)
theorem t289_146 : zT 289 146 = some (.iadd, 1, 0, 0, 0, 0) := (congrArg (fun t => List.lookup 146 t) gt289).trans (by decide +kernel)
theorem t289_147 : zT 289 147 = some (.iload_n 2, 1, 2, 0, 0, 0) := (congrArg (fun t => List.lookup 147 t) gt289).trans (by decide +kernel)
theorem t289_148 : zT 289 148 = some (.iastore, 1, 0, 0, 0, 0) := (congrArg (fun t => List.lookup 148 t) gt289).trans (by decide +kernel)
theorem t289_149 : zT 289 149 = some (.aload_n 0, 1, 0, 0, 0, 0) := (congrArg (fun t => List.lookup 149 t) gt289).trans (by decide +kernel)
theorem t289_150 : zT 289 150 = some (.getfield 83, 3, 12, 38, 0, 1645) := (congrArg (fun t => List.lookup 150 t) gt289).trans (by decide +kernel)
theorem t289_153 : zT 289 153 = some (.iconst 4, 1, 0, 0, 4, 0) := (congrArg (fun t => List.lookup 153 t) gt289).trans (by decide +kernel)
theorem t289_154 : zT 289 154 = some (.iload 5, 2, 0, 0, 0, 0) := (congrArg (fun t => List.lookup 154 t) gt289).trans (by decide +kernel)
theorem t289_156 : zT 289 156 = some (.imul, 1, 0, 0, 0, 0) := (congrArg (fun t => List.lookup 156 t) gt289).trans (by decide +kernel)
theorem t289_157 : zT 289 157 = some (.iconst 2, 1, 0, 0, 2, 0) := (congrArg (fun t => List.lookup 157 t) gt289).trans (by decide +kernel)
theorem t289_158 : zT 289 158 = some (.iadd, 1, 0, 0, 0, 0) := (congrArg (fun t => List.lookup 158 t) gt289).trans (by decide +kernel)
theorem t289_159 : zT 289 159 = some (.iload_n 3, 1, 3, 0, 0, 0) := (congrArg (fun t => List.lookup 159 t) gt289).trans (by decide +kernel)
theorem t289_160 : zT 289 160 = some (.iastore, 1, 0, 0, 0, 0) := (congrArg (fun t => List.lookup 160 t) gt289).trans (by decide +kernel)
theorem t289_161 : zT 289 161 = some (.aload_n 0, 1, 0, 0, 0, 0) := (congrArg (fun t => List.lookup 161 t) gt289).trans (by decide +kernel)
theorem t289_162 : zT 289 162 = some (.getfield 83, 3, 12, 38, 0, 1645) := (congrArg (fun t => List.lookup 162 t) gt289).trans (by decide +kernel)
theorem t289_165 : zT 289 165 = some (.iconst 4, 1, 0, 0, 4, 0) := (congrArg (fun t => List.lookup 165 t) gt289).trans (by decide +kernel)
theorem t289_166 : zT 289 166 = some (.iload 5, 2, 0, 0, 0, 0) := (congrArg (fun t => List.lookup 166 t) gt289).trans (by decide +kernel)
theorem t289_168 : zT 289 168 = some (.imul, 1, 0, 0, 0, 0) := (congrArg (fun t => List.lookup 168 t) gt289).trans (by decide +kernel)
theorem t289_169 : zT 289 169 = some (.iconst 3, 1, 0, 0, 3, 0) := (congrArg (fun t => List.lookup 169 t) gt289).trans (by decide +kernel)
theorem t289_170 : zT 289 170 = some (.iadd, 1, 0, 0, 0, 0) := (congrArg (fun t => List.lookup 170 t) gt289).trans (by decide +kernel)
theorem t289_171 : zT 289 171 = some (.iload 4, 2, 0, 0, 0, 0) := (congrArg (fun t => List.lookup 171 t) gt289).trans (by decide +kernel)
theorem t289_173 : zT 289 173 = some (.iastore, 1, 0, 0, 0, 0) := (congrArg (fun t => List.lookup 173 t) gt289).trans (by decide +kernel)
theorem t289_174 : zT 289 174 = some (.aload_n 0, 1, 0, 0, 0, 0) := (congrArg (fun t => List.lookup 174 t) gt289).trans (by decide +kernel)
theorem t289_175 : zT 289 175 = some (.dup, 1, 0, 0, 0, 0) := (congrArg (fun t => List.lookup 175 t) gt289).trans (by decide +kernel)
theorem t289_176 : zT 289 176 = some (.getfield 354, 3, 12, 39, 0, 1646) := (congrArg (fun t => List.lookup 176 t) gt289).trans (by decide +kernel)
theorem t289_179 : zT 289 179 = some (.iconst 1, 1, 0, 0, 1, 0) := (congrArg (fun t => List.lookup 179 t) gt289).trans (by decide +kernel)
theorem t289_180 : zT 289 180 = some (.iadd, 1, 0, 0, 0, 0) := (congrArg (fun t => List.lookup 180 t) gt289).trans (by decide +kernel)
theorem t289_181 : zT 289 181 = some (.putfield 354, 3, 12, 39, 0, 1646) := (congrArg (fun t => List.lookup 181 t) gt289).trans (by decide +kernel)
theorem t289_184 : zT 289 184 = some (.return_, 1, 0, 0, 0, 0) := (congrArg (fun t => List.lookup 184 t) gt289).trans (by decide +kernel)
theorem t290_0 : zT 290 0 = some (.iconst 0, 1, 0, 0, 0, 0) := (congrArg (fun t => List.lookup 0 t) gt290).trans rfl
theorem t290_1 : zT 290 1 = some (.istore_n 2, 1, 2, 0, 0, 0) := (congrArg (fun t => List.lookup 1 t) gt290).trans rfl
theorem t290_2 : zT 290 2 = some (.iconst 0, 1, 0, 0, 0, 0) := (congrArg (fun t => List.lookup 2 t) gt290).trans rfl
theorem t290_3 : zT 290 3 = some (.istore_n 3, 1, 3, 0, 0, 0) := (congrArg (fun t => List.lookup 3 t) gt290).trans rfl
theorem t290_4 : zT 290 4 = some (.iload_n 3, 1, 3, 0, 0, 0) := (congrArg (fun t => List.lookup 4 t) gt290).trans rfl
theorem t290_5 : zT 290 5 = some (.aload_n 0, 1, 0, 0, 0, 0) := (congrArg (fun t => List.lookup 5 t) gt290).trans rfl
theorem t290_6 : zT 290 6 = some (.getfield 3, 3, 12, 0, 0, 1607) := (congrArg (fun t => List.lookup 6 t) gt290).trans rfl
theorem t290_9 : zT 290 9 = some (.iconst 1, 1, 0, 0, 1, 0) := (congrArg (fun t => List.lookup 9 t) gt290).trans rfl
theorem t290_10 : zT 290 10 = some (.iaload, 1, 0, 0, 0, 0) := (congrArg (fun t => List.lookup 10 t) gt290).trans rfl
theorem t290_11 : zT 290 11 = some (.if_icmp .ge 41, 3, 52, 0, 0, 0) := (congrArg (fun t => List.lookup 11 t) gt290).trans rfl
theorem t290_14 : zT 290 14 = some (.iload_n 2, 1, 2, 0, 0, 0) := (congrArg (fun t => List.lookup 14 t) gt290).trans rfl
theorem t290_15 : zT 290 15 = some (.aload_n 0, 1, 0, 0, 0, 0) := (congrArg (fun t => List.lookup 15 t) gt290).trans rfl
theorem t290_16 : zT 290 16 = some (.iload_n 3, 1, 3, 0, 0, 0) := (congrArg (fun t => List.lookup 16 t) gt290).trans rfl
theorem t290_17 : zT 290 17 = some (.iconst (-1), 1, 0, 0, (-1), 0) := (congrArg (fun t => List.lookup 17 t) gt290).trans rfl
theorem t290_18 : zT 290 18 = some (.invokevirtual 295, 3, 271, 0, 0, 1945) := (congrArg (fun t => List.lookup 18 t) gt290).trans rfl
theorem t290_21 : zT 290 21 = some (.ifCond .eq 22, 3, 43, 0, 0, 0) := (congrArg (fun t => List.lookup 21 t) gt290).trans rfl
theorem t290_24 : zT 290 24 = some (.iload_n 1, 1, 1, 0, 0, 0) := (congrArg (fun t => List.lookup 24 t) gt290).trans rfl
theorem t290_25 : zT 290 25 = some (.iconst (-1), 1, 0, 0, (-1), 0) := (congrArg (fun t => List.lookup 25 t) gt290).trans rfl
theorem t290_26 : zT 290 26 = some (.if_icmp .eq 13, 3, 39, 0, 0, 0) := (congrArg (fun t => List.lookup 26 t) gt290).trans rfl
theorem t290_29 : zT 290 29 = some (.aload_n 0, 1, 0, 0, 0, 0) := (congrArg (fun t => List.lookup 29 t) gt290).trans rfl
theorem t290_30 : zT 290 30 = some (.iload_n 3, 1, 3, 0, 0, 0) := (congrArg (fun t => List.lookup 30 t) gt290).trans rfl
theorem t290_31 : zT 290 31 = some (.iconst 0, 1, 0, 0, 0, 0) := (congrArg (fun t => List.lookup 31 t) gt290).trans rfl
theorem t290_32 : zT 290 32 = some (.invokevirtual 255, 3, 272, 0, 0, 1949) := (congrArg (fun t => List.lookup 32 t) gt290).trans rfl
theorem t290_35 : zT 290 35 = some (.iload_n 1, 1, 1, 0, 0, 0) := (congrArg (fun t => List.lookup 35 t) gt290).trans rfl
theorem t290_36 : zT 290 36 = some (.if_icmp .ne 7, 3, 43, 0, 0, 0) := (congrArg (fun t => List.lookup 36 t) gt290).trans rfl
theorem t290_39 : zT 290 39 = some (.iconst 1, 1, 0, 0, 1, 0) := (congrArg (fun t => List.lookup 39 t) gt290).trans rfl
theorem t290_40 : zT 290 40 = some (.goto 4, 3, 44, 0, 0, 0) := (congrArg (fun t => List.lookup 40 t) gt290).trans rfl
theorem t290_43 : zT 290 43 = some (.iconst 0, 1, 0, 0, 0, 0) := (congrArg (fun t => List.lookup 43 t) gt290).trans rfl
theorem t290_44 : zT 290 44 = some (.iadd, 1, 0, 0, 0, 0) := (congrArg (fun t => List.lookup 44 t) gt290).trans rfl
theorem t290_45 : zT 290 45 = some (.istore_n 2, 1, 2, 0, 0, 0) := (congrArg (fun t => List.lookup 45 t) gt290).trans rfl
theorem t290_46 : zT 290 46 = some (.iinc 3 1, 3, 0, 0, 0, 0) := (congrArg (fun t => List.lookup 46 t) gt290).trans rfl
theorem t290_49 : zT 290 49 = some (.goto (-45), 3, 4, 0, 0, 0) := (congrArg (fun t => List.lookup 49 t) gt290).trans rfl
theorem t290_52 : zT 290 52 = some (.iload_n 2, 1, 2, 0, 0, 0) := (congrArg (fun t => List.lookup 52 t) gt290).trans rfl
theorem t290_53 : zT 290 53 = some (.ireturn, 1, 0, 0, 0, 0) := (congrArg (fun t => List.lookup 53 t) gt290).trans rfl
theorem t291_0 : zT 291 0 = some (.iconst 0, 1, 0, 0, 0, 0) := (congrArg (fun t => List.lookup 0 t) gt291).trans rfl
theorem t291_1 : zT 291 1 = some (.istore_n 3, 1, 3, 0, 0, 0) := (congrArg (fun t => List.lookup 1 t) gt291).trans rfl
theorem t291_2 : zT 291 2 = some (.iconst 0, 1, 0, 0, 0, 0) := (congrArg (fun t => List.lookup 2 t) gt291).trans rfl
theorem t291_3 : zT 291 3 = some (.istore 4, 2, 0, 0, 0, 0) := (congrArg (fun t => List.lookup 3 t) gt291).trans rfl
theorem t291_5 : zT 291 5 = some (.iload 4, 2, 0, 0, 0, 0) := (congrArg (fun t => List.lookup 5 t) gt291).trans rfl
theorem t291_7 : zT 291 7 = some (.iload_n 2, 1, 2, 0, 0, 0) := (congrArg (fun t => List.lookup 7 t) gt291).trans rfl
theorem t291_8 : zT 291 8 = some (.if_icmp .ge 26, 3, 34, 0, 0, 0) := (congrArg (fun t => List.lookup 8 t) gt291).trans rfl
theorem t291_11 : zT 291 11 = some (.aload_n 1, 1, 1, 0, 0, 0) := (congrArg (fun t => List.lookup 11 t) gt291).trans rfl
theorem t291_12 : zT 291 12 = some (.iload 4, 2, 0, 0, 0, 0) := (congrArg (fun t => List.lookup 12 t) gt291).trans rfl
theorem t291_14 : zT 291 14 = some (.iaload, 1, 0, 0, 0, 0) := (congrArg (fun t => List.lookup 14 t) gt291).trans rfl
theorem t291_15 : zT 291 15 = some (.iload_n 3, 1, 3, 0, 0, 0) := (congrArg (fun t => List.lookup 15 t) gt291).trans rfl
theorem t291_16 : zT 291 16 = some (.if_icmp .le 10, 3, 26, 0, 0, 0) := (congrArg (fun t => List.lookup 16 t) gt291).trans rfl
theorem t291_19 : zT 291 19 = some (.aload_n 1, 1, 1, 0, 0, 0) := (congrArg (fun t => List.lookup 19 t) gt291).trans rfl
theorem t291_20 : zT 291 20 = some (.iload 4, 2, 0, 0, 0, 0) := (congrArg (fun t => List.lookup 20 t) gt291).trans rfl
theorem t291_22 : zT 291 22 = some (.iaload, 1, 0, 0, 0, 0) := (congrArg (fun t => List.lookup 22 t) gt291).trans rfl
theorem t291_23 : zT 291 23 = some (.goto 4, 3, 27, 0, 0, 0) := (congrArg (fun t => List.lookup 23 t) gt291).trans rfl
theorem t291_26 : zT 291 26 = some (.iload_n 3, 1, 3, 0, 0, 0) := (congrArg (fun t => List.lookup 26 t) gt291).trans rfl
theorem t291_27 : zT 291 27 = some (.istore_n 3, 1, 3, 0, 0, 0) := (congrArg (fun t => List.lookup 27 t) gt291).trans rfl
theorem t291_28 : zT 291 28 = some (.iinc 4 1, 3, 0, 0, 0, 0) := (congrArg (fun t => List.lookup 28 t) gt291).trans rfl
theorem t291_31 : zT 291 31 = some (.goto (-26), 3, 5, 0, 0, 0) := (congrArg (fun t => List.lookup 31 t) gt291).trans rfl
theorem t291_34 : zT 291 34 = some (.iload_n 3, 1, 3, 0, 0, 0) := (congrArg (fun t => List.lookup 34 t) gt291).trans rfl
theorem t291_35 : zT 291 35 = some (.ireturn, 1, 0, 0, 0, 0) := (congrArg (fun t => List.lookup 35 t) gt291).trans rfl
theorem t292_0 : zT 292 0 = some (.iconst 0, 1, 0, 0, 0, 0) := (congrArg (fun t => List.lookup 0 t) gt292).trans rfl
theorem t292_1 : zT 292 1 = some (.istore_n 1, 1, 1, 0, 0, 0) := (congrArg (fun t => List.lookup 1 t) gt292).trans rfl
theorem t292_2 : zT 292 2 = some (.iconst 0, 1, 0, 0, 0, 0) := (congrArg (fun t => List.lookup 2 t) gt292).trans rfl
theorem t292_3 : zT 292 3 = some (.istore_n 2, 1, 2, 0, 0, 0) := (congrArg (fun t => List.lookup 3 t) gt292).trans rfl
theorem t292_4 : zT 292 4 = some (.iload_n 2, 1, 2, 0, 0, 0) := (congrArg (fun t => List.lookup 4 t) gt292).trans rfl
theorem t292_5 : zT 292 5 = some (.aload_n 0, 1, 0, 0, 0, 0) := (congrArg (fun t => List.lookup 5 t) gt292).trans rfl
theorem t292_6 : zT 292 6 = some (.getfield 3, 3, 12, 0, 0, 1607) := (congrArg (fun t => List.lookup 6 t) gt292).trans rfl
theorem t292_9 : zT 292 9 = some (.iconst 0, 1, 0, 0, 0, 0) := (congrArg (fun t => List.lookup 9 t) gt292).trans rfl
theorem t292_10 : zT 292 10 = some (.iaload, 1, 0, 0, 0, 0) := (congrArg (fun t => List.lookup 10 t) gt292).trans rfl
theorem t292_11 : zT 292 11 = some (.if_icmp .ge 25, 3, 36, 0, 0, 0) := (congrArg (fun t => List.lookup 11 t) gt292).trans rfl
theorem t292_14 : zT 292 14 = some (.iload_n 1, 1, 1, 0, 0, 0) := (congrArg (fun t => List.lookup 14 t) gt292).trans rfl
theorem t292_15 : zT 292 15 = some (.aload_n 0, 1, 0, 0, 0, 0) := (congrArg (fun t => List.lookup 15 t) gt292).trans rfl
theorem t292_16 : zT 292 16 = some (.iload_n 2, 1, 2, 0, 0, 0) := (congrArg (fun t => List.lookup 16 t) gt292).trans rfl
theorem t292_17 : zT 292 17 = some (.invokevirtual 258, 3, 273, 0, 0, 1953) := (congrArg (fun t => List.lookup 17 t) gt292).trans rfl
theorem t292_20 : zT 292 20 = some (.ifCond .eq 7, 3, 27, 0, 0, 0) := (congrArg (fun t => List.lookup 20 t) gt292).trans rfl
theorem t292_23 : zT 292 23 = some (.iconst 1, 1, 0, 0, 1, 0) := (congrArg (fun t => List.lookup 23 t) gt292).trans rfl
theorem t292_24 : zT 292 24 = some (.goto 4, 3, 28, 0, 0, 0) := (congrArg (fun t => List.lookup 24 t) gt292).trans rfl
theorem t292_27 : zT 292 27 = some (.iconst 0, 1, 0, 0, 0, 0) := (congrArg (fun t => List.lookup 27 t) gt292).trans rfl
theorem t292_28 : zT 292 28 = some (.iadd, 1, 0, 0, 0, 0) := (congrArg (fun t => List.lookup 28 t) gt292).trans rfl
theorem t292_29 : zT 292 29 = some (.istore_n 1, 1, 1, 0, 0, 0) := (congrArg (fun t => List.lookup 29 t) gt292).trans rfl
theorem t292_30 : zT 292 30 = some (.iinc 2 1, 3, 0, 0, 0, 0) := (congrArg (fun t => List.lookup 30 t) gt292).trans rfl
theorem t292_33 : zT 292 33 = some (.goto (-29), 3, 4, 0, 0, 0) := (congrArg (fun t => List.lookup 33 t) gt292).trans rfl
theorem t292_36 : zT 292 36 = some (.iload_n 1, 1, 1, 0, 0, 0) := (congrArg (fun t => List.lookup 36 t) gt292).trans rfl
theorem t292_37 : zT 292 37 = some (.ireturn, 1, 0, 0, 0, 0) := (congrArg (fun t => List.lookup 37 t) gt292).trans rfl
theorem t293_0 : zT 293 0 = some (.iconst 0, 1, 0, 0, 0, 0) := (congrArg (fun t => List.lookup 0 t) gt293).trans rfl
theorem t293_1 : zT 293 1 = some (.istore_n 1, 1, 1, 0, 0, 0) := (congrArg (fun t => List.lookup 1 t) gt293).trans rfl
theorem t293_2 : zT 293 2 = some (.iconst 0, 1, 0, 0, 0, 0) := (congrArg (fun t => List.lookup 2 t) gt293).trans rfl
theorem t293_3 : zT 293 3 = some (.istore_n 2, 1, 2, 0, 0, 0) := (congrArg (fun t => List.lookup 3 t) gt293).trans rfl
theorem t293_4 : zT 293 4 = some (.iload_n 2, 1, 2, 0, 0, 0) := (congrArg (fun t => List.lookup 4 t) gt293).trans rfl
theorem t293_5 : zT 293 5 = some (.aload_n 0, 1, 0, 0, 0, 0) := (congrArg (fun t => List.lookup 5 t) gt293).trans rfl
theorem t293_6 : zT 293 6 = some (.getfield 3, 3, 12, 0, 0, 1607) := (congrArg (fun t => List.lookup 6 t) gt293).trans rfl
theorem t293_9 : zT 293 9 = some (.iconst 1, 1, 0, 0, 1, 0) := (congrArg (fun t => List.lookup 9 t) gt293).trans rfl
theorem t293_10 : zT 293 10 = some (.iaload, 1, 0, 0, 0, 0) := (congrArg (fun t => List.lookup 10 t) gt293).trans rfl
theorem t293_11 : zT 293 11 = some (.if_icmp .ge 37, 3, 48, 0, 0, 0) := (congrArg (fun t => List.lookup 11 t) gt293).trans rfl
theorem t293_14 : zT 293 14 = some (.iload_n 1, 1, 1, 0, 0, 0) := (congrArg (fun t => List.lookup 14 t) gt293).trans rfl
theorem t293_15 : zT 293 15 = some (.aload_n 0, 1, 0, 0, 0, 0) := (congrArg (fun t => List.lookup 15 t) gt293).trans rfl
theorem t293_16 : zT 293 16 = some (.iload_n 2, 1, 2, 0, 0, 0) := (congrArg (fun t => List.lookup 16 t) gt293).trans rfl
theorem t293_17 : zT 293 17 = some (.iconst (-1), 1, 0, 0, (-1), 0) := (congrArg (fun t => List.lookup 17 t) gt293).trans rfl
theorem t293_18 : zT 293 18 = some (.invokevirtual 295, 3, 271, 0, 0, 1945) := (congrArg (fun t => List.lookup 18 t) gt293).trans rfl
theorem t293_21 : zT 293 21 = some (.ifCond .eq 18, 3, 39, 0, 0, 0) := (congrArg (fun t => List.lookup 21 t) gt293).trans rfl
theorem t293_24 : zT 293 24 = some (.aload_n 0, 1, 0, 0, 0, 0) := (congrArg (fun t => List.lookup 24 t) gt293).trans rfl
theorem t293_25 : zT 293 25 = some (.getfield 55, 3, 12, 28, 0, 1635) := (congrArg (fun t => List.lookup 25 t) gt293).trans rfl
theorem t293_28 : zT 293 28 = some (.iload_n 2, 1, 2, 0, 0, 0) := (congrArg (fun t => List.lookup 28 t) gt293).trans rfl
theorem t293_29 : zT 293 29 = some (.iaload, 1, 0, 0, 0, 0) := (congrArg (fun t => List.lookup 29 t) gt293).trans rfl
theorem t293_30 : zT 293 30 = some (.bipush (-2), 2, 0, 0, (-2), 0) := (congrArg (fun t => List.lookup 30 t) gt293).trans rfl
theorem t293_32 : zT 293 32 = some (.if_icmp .ne 7, 3, 39, 0, 0, 0) := (congrArg (fun t => List.lookup 32 t) gt293).trans rfl
theorem t293_35 : zT 293 35 = some (.iconst 1, 1, 0, 0, 1, 0) := (congrArg (fun t => List.lookup 35 t) gt293).trans rfl
theorem t293_36 : zT 293 36 = some (.goto 4, 3, 40, 0, 0, 0) := (congrArg (fun t => List.lookup 36 t) gt293).trans rfl
theorem t293_39 : zT 293 39 = some (.iconst 0, 1, 0, 0, 0, 0) := (congrArg (fun t => List.lookup 39 t) gt293).trans rfl
theorem t293_40 : zT 293 40 = some (.iadd, 1, 0, 0, 0, 0) := (congrArg (fun t => List.lookup 40 t) gt293).trans rfl
theorem t293_41 : zT 293 41 = some (.istore_n 1, 1, 1, 0, 0, 0) := (congrArg (fun t => List.lookup 41 t) gt293).trans rfl
theorem t293_42 : zT 293 42 = some (.iinc 2 1, 3, 0, 0, 0, 0) := (congrArg (fun t => List.lookup 42 t) gt293).trans rfl
theorem t293_45 : zT 293 45 = some (.goto (-41), 3, 4, 0, 0, 0) := (congrArg (fun t => List.lookup 45 t) gt293).trans rfl
theorem t293_48 : zT 293 48 = some (.iload_n 1, 1, 1, 0, 0, 0) := (congrArg (fun t => List.lookup 48 t) gt293).trans rfl
theorem t293_49 : zT 293 49 = some (.ireturn, 1, 0, 0, 0, 0) := (congrArg (fun t => List.lookup 49 t) gt293).trans rfl
theorem t294_0 : zT 294 0 = some (.iload_n 0, 1, 0, 0, 0, 0) := (congrArg (fun t => List.lookup 0 t) gt294).trans rfl
theorem t294_1 : zT 294 1 = some (.tableswitch 164 38 62 #[160, 164, 164, 164, 123, 115, 164, 119, 164, 164, 164, 164, 164, 164, 164, 164, 164, 164, 164, 164, 164, 164, 127, 149, 138], 115, 0, 0, 0, 0) := (congrArg (fun t => List.lookup 1 t) gt294).trans rfl
theorem t294_116 : zT 294 116 = some (.iload_n 1, 1, 1, 0, 0, 0) := (congrArg (fun t => List.lookup 116 t) gt294).trans rfl
theorem t294_117 : zT 294 117 = some (.iload_n 2, 1, 2, 0, 0, 0) := (congrArg (fun t => List.lookup 117 t) gt294).trans rfl
theorem t294_118 : zT 294 118 = some (.iadd, 1, 0, 0, 0, 0) := (congrArg (fun t => List.lookup 118 t) gt294).trans rfl
theorem t294_119 : zT 294 119 = some (.ireturn, 1, 0, 0, 0, 0) := (congrArg (fun t => List.lookup 119 t) gt294).trans rfl
theorem t294_120 : zT 294 120 = some (.iload_n 1, 1, 1, 0, 0, 0) := (congrArg (fun t => List.lookup 120 t) gt294).trans rfl
theorem t294_121 : zT 294 121 = some (.iload_n 2, 1, 2, 0, 0, 0) := (congrArg (fun t => List.lookup 121 t) gt294).trans rfl
theorem t294_122 : zT 294 122 = some (.isub, 1, 0, 0, 0, 0) := (congrArg (fun t => List.lookup 122 t) gt294).trans rfl
theorem t294_123 : zT 294 123 = some (.ireturn, 1, 0, 0, 0, 0) := (congrArg (fun t => List.lookup 123 t) gt294).trans rfl
theorem t294_124 : zT 294 124 = some (.iload_n 1, 1, 1, 0, 0, 0) := (congrArg (fun t => List.lookup 124 t) gt294).trans rfl
theorem t294_125 : zT 294 125 = some (.iload_n 2, 1, 2, 0, 0, 0) := (congrArg (fun t => List.lookup 125 t) gt294).trans rfl
theorem t294_126 : zT 294 126 = some (.imul, 1, 0, 0, 0, 0) := (congrArg (fun t => List.lookup 126 t) gt294).trans rfl
theorem t294_127 : zT 294 127 = some (.ireturn, 1, 0, 0, 0, 0) := (congrArg (fun t => List.lookup 127 t) gt294).trans rfl
theorem t294_128 : zT 294 128 = some (.iload_n 1, 1, 1, 0, 0, 0) := (congrArg (fun t => List.lookup 128 t) gt294).trans rfl
theorem t294_129 : zT 294 129 = some (.iload_n 2, 1, 2, 0, 0, 0) := (congrArg (fun t => List.lookup 129 t) gt294).trans rfl
theorem t294_130 : zT 294 130 = some (.if_icmp .ge 7, 3, 137, 0, 0, 0) := (congrArg (fun t => List.lookup 130 t) gt294).trans rfl
theorem t294_133 : zT 294 133 = some (.iconst 1, 1, 0, 0, 1, 0) := (congrArg (fun t => List.lookup 133 t) gt294).trans rfl
theorem t294_134 : zT 294 134 = some (.goto 4, 3, 138, 0, 0, 0) := (congrArg (fun t => List.lookup 134 t) gt294).trans rfl
theorem t294_137 : zT 294 137 = some (.iconst 0, 1, 0, 0, 0, 0) := (congrArg (fun t => List.lookup 137 t) gt294).trans rfl
theorem t294_138 : zT 294 138 = some (.ireturn, 1, 0, 0, 0, 0) := (congrArg (fun t => List.lookup 138 t) gt294).trans rfl
theorem t294_139 : zT 294 139 = some (.iload_n 1, 1, 1, 0, 0, 0) := (congrArg (fun t => List.lookup 139 t) gt294).trans rfl
theorem t294_140 : zT 294 140 = some (.iload_n 2, 1, 2, 0, 0, 0) := (congrArg (fun t => List.lookup 140 t) gt294).trans rfl
theorem t294_141 : zT 294 141 = some (.if_icmp .le 7, 3, 148, 0, 0, 0) := (congrArg (fun t => List.lookup 141 t) gt294).trans rfl
theorem t294_144 : zT 294 144 = some (.iconst 1, 1, 0, 0, 1, 0) := (congrArg (fun t => List.lookup 144 t) gt294).trans rfl
theorem t294_145 : zT 294 145 = some (.goto 4, 3, 149, 0, 0, 0) := (congrArg (fun t => List.lookup 145 t) gt294).trans rfl
theorem t294_148 : zT 294 148 = some (.iconst 0, 1, 0, 0, 0, 0) := (congrArg (fun t => List.lookup 148 t) gt294).trans rfl
theorem t294_149 : zT 294 149 = some (.ireturn, 1, 0, 0, 0, 0) := (congrArg (fun t => List.lookup 149 t) gt294).trans rfl
theorem t294_150 : zT 294 150 = some (.iload_n 1, 1, 1, 0, 0, 0) := (congrArg (fun t => List.lookup 150 t) gt294).trans rfl
theorem t294_151 : zT 294 151 = some (.iload_n 2, 1, 2, 0, 0, 0) := (congrArg (fun t => List.lookup 151 t) gt294).trans rfl
theorem t294_152 : zT 294 152 = some (.if_icmp .ne 7, 3, 159, 0, 0, 0) := (congrArg (fun t => List.lookup 152 t) gt294).trans rfl
theorem t294_155 : zT 294 155 = some (.iconst 1, 1, 0, 0, 1, 0) := (congrArg (fun t => List.lookup 155 t) gt294).trans rfl
theorem t294_156 : zT 294 156 = some (.goto 4, 3, 160, 0, 0, 0) := (congrArg (fun t => List.lookup 156 t) gt294).trans rfl
theorem t294_159 : zT 294 159 = some (.iconst 0, 1, 0, 0, 0, 0) := (congrArg (fun t => List.lookup 159 t) gt294).trans rfl
theorem t294_160 : zT 294 160 = some (.ireturn, 1, 0, 0, 0, 0) := (congrArg (fun t => List.lookup 160 t) gt294).trans rfl
theorem t294_161 : zT 294 161 = some (.iload_n 1, 1, 1, 0, 0, 0) := (congrArg (fun t => List.lookup 161 t) gt294).trans rfl
theorem t294_162 : zT 294 162 = some (.iload_n 2, 1, 2, 0, 0, 0) := (congrArg (fun t => List.lookup 162 t) gt294).trans rfl
theorem t294_163 : zT 294 163 = some (.iand, 1, 0, 0, 0, 0) := (congrArg (fun t => List.lookup 163 t) gt294).trans rfl
theorem t294_164 : zT 294 164 = some (.ireturn, 1, 0, 0, 0, 0) := (congrArg (fun t => List.lookup 164 t) gt294).trans rfl
theorem t294_165 : zT 294 165 = some (.iload_n 1, 1, 1, 0, 0, 0) := (congrArg (fun t => List.lookup 165 t) gt294).trans rfl
theorem t294_166 : zT 294 166 = some (.iload_n 2, 1, 2, 0, 0, 0) := (congrArg (fun t => List.lookup 166 t) gt294).trans rfl
theorem t294_167 : zT 294 167 = some (.ior, 1, 0, 0, 0, 0) := (congrArg (fun t => List.lookup 167 t) gt294).trans rfl
theorem t294_168 : zT 294 168 = some (.ireturn, 1, 0, 0, 0, 0) := (congrArg (fun t => List.lookup 168 t) gt294).trans rfl
theorem t295_0 : zT 295 0 = some (.iload_n 1, 1, 1, 0, 0, 0) := (congrArg (fun t => List.lookup 0 t) gt295).trans rfl
theorem t295_1 : zT 295 1 = some (.invokestatic 207, 3, 260, 1, 0, 1903) := (congrArg (fun t => List.lookup 1 t) gt295).trans rfl
theorem t295_4 : zT 295 4 = some (.iconst (-1), 1, 0, 0, (-1), 0) := (congrArg (fun t => List.lookup 4 t) gt295).trans rfl
theorem t295_5 : zT 295 5 = some (.if_icmp .ne 7, 3, 12, 0, 0, 0) := (congrArg (fun t => List.lookup 5 t) gt295).trans rfl
theorem t295_8 : zT 295 8 = some (.iconst (-1), 1, 0, 0, (-1), 0) := (congrArg (fun t => List.lookup 8 t) gt295).trans rfl
theorem t295_9 : zT 295 9 = some (.goto 11, 3, 20, 0, 0, 0) := (congrArg (fun t => List.lookup 9 t) gt295).trans rfl
theorem t295_12 : zT 295 12 = some (.aload_n 0, 1, 0, 0, 0, 0) := (congrArg (fun t => List.lookup 12 t) gt295).trans rfl
theorem t295_13 : zT 295 13 = some (.iload_n 1, 1, 1, 0, 0, 0) := (congrArg (fun t => List.lookup 13 t) gt295).trans rfl
theorem t295_14 : zT 295 14 = some (.invokestatic 207, 3, 260, 1, 0, 1903) := (congrArg (fun t => List.lookup 14 t) gt295).trans rfl
theorem t295_17 : zT 295 17 = some (.invokevirtual 249, 3, 267, 0, 0, 1929) := (congrArg (fun t => List.lookup 17 t) gt295).trans rfl
theorem t295_20 : zT 295 20 = some (.ireturn, 1, 0, 0, 0, 0) := (congrArg (fun t => List.lookup 20 t) gt295).trans rfl
theorem t296_0 : zT 296 0 = some (.aload_n 0, 1, 0, 0, 0, 0) := (congrArg (fun t => List.lookup 0 t) gt296).trans rfl
theorem t296_1 : zT 296 1 = some (.invokevirtual 331, 3, 268, 0, 0, 1933) := (congrArg (fun t => List.lookup 1 t) gt296).trans rfl
theorem t296_4 : zT 296 4 = some (.aload_n 0, 1, 0, 0, 0, 0) := (congrArg (fun t => List.lookup 4 t) gt296).trans rfl
theorem t296_5 : zT 296 5 = some (.iload_n 1, 1, 1, 0, 0, 0) := (congrArg (fun t => List.lookup 5 t) gt296).trans rfl
theorem t296_6 : zT 296 6 = some (.invokevirtual 334, 3, 297, 0, 0, 2045) := (congrArg (fun t => List.lookup 6 t) gt296).trans rfl
theorem t296_9 : zT 296 9 = some (.ifCond .eq 15, 3, 24, 0, 0, 0) := (congrArg (fun t => List.lookup 9 t) gt296).trans rfl
theorem t296_12 : zT 296 12 = some (.iload_n 2, 1, 2, 0, 0, 0) := (congrArg (fun t => List.lookup 12 t) gt296).trans rfl
theorem t296_13 : zT 296 13 = some (.i2l, 1, 0, 0, 0, 0) := (congrArg (fun t => List.lookup 13 t) gt296).trans rfl
theorem t296_14 : zT 296 14 = some (.lconst 0, 1, 0, 0, 0, 0) := (congrArg (fun t => List.lookup 14 t) gt296).trans rfl
theorem t296_15 : zT 296 15 = some (.ldc2_w 337, 3, 1, 0, 5, 2049) := (congrArg (fun t => List.lookup 15 t) gt296).trans rfl
theorem t296_18 : zT 296 18 = some (.invokestatic 112, 3, 228, 1, 0, 1774) := (congrArg (fun t => List.lookup 18 t) gt296).trans rfl
theorem t296_21 : zT 296 21 = some (.ifCond .ne 7, 3, 28, 0, 0, 0) := (congrArg (fun t => List.lookup 21 t) gt296).trans rfl
theorem t296_24 : zT 296 24 = some (.ldc2_w 339, 3, 1, 0, (-1000000000000), 2050) := (congrArg (fun t => List.lookup 24 t) gt296).trans rfl
theorem t296_27 : zT 296 27 = some (.lreturn, 1, 0, 0, 0, 0) := (congrArg (fun t => List.lookup 27 t) gt296).trans rfl
theorem t296_28 : zT 296 28 = some (.iload_n 2, 1, 2, 0, 0, 0) := (congrArg (fun t => List.lookup 28 t) gt296).trans rfl
theorem t296_29 : zT 296 29 = some (.iconst 2, 1, 0, 0, 2, 0) := (congrArg (fun t => List.lookup 29 t) gt296).trans rfl
theorem t296_30 : zT 296 30 = some (.if_icmp .ge 12, 3, 42, 0, 0, 0) := (congrArg (fun t => List.lookup 30 t) gt296).trans rfl
theorem t296_33 : zT 296 33 = some (.aload_n 0, 1, 0, 0, 0, 0) := (congrArg (fun t => List.lookup 33 t) gt296).trans rfl
theorem t296_34 : zT 296 34 = some (.getfield 62, 3, 12, 30, 0, 1637) := (congrArg (fun t => List.lookup 34 t) gt296).trans rfl
theorem t296_37 : zT 296 37 = some (.iload_n 1, 1, 1, 0, 0, 0) := (congrArg (fun t => List.lookup 37 t) gt296).trans rfl
theorem t296_38 : zT 296 38 = some (.laload, 1, 0, 0, 0, 0) := (congrArg (fun t => List.lookup 38 t) gt296).trans rfl
theorem t296_39 : zT 296 39 = some (.goto 23, 3, 62, 0, 0, 0) := (congrArg (fun t => List.lookup 39 t) gt296).trans rfl
theorem t296_42 : zT 296 42 = some (.iload_n 2, 1, 2, 0, 0, 0) := (congrArg (fun t => List.lookup 42 t) gt296).trans rfl
theorem t296_43 : zT 296 43 = some (.iconst 4, 1, 0, 0, 4, 0) := (congrArg (fun t => List.lookup 43 t) gt296).trans rfl
theorem t296_44 : zT 296 44 = some (.if_icmp .ge 12, 3, 56, 0, 0, 0) := (congrArg (fun t => List.lookup 44 t) gt296).trans rfl
theorem t296_47 : zT 296 47 = some (.aload_n 0, 1, 0, 0, 0, 0) := (congrArg (fun t => List.lookup 47 t) gt296).trans rfl
theorem t296_48 : zT 296 48 = some (.getfield 65, 3, 12, 31, 0, 1638) := (congrArg (fun t => List.lookup 48 t) gt296).trans rfl
theorem t296_51 : zT 296 51 = some (.iload_n 1, 1, 1, 0, 0, 0) := (congrArg (fun t => List.lookup 51 t) gt296).trans rfl
theorem t296_52 : zT 296 52 = some (.laload, 1, 0, 0, 0, 0) := (congrArg (fun t => List.lookup 52 t) gt296).trans rfl
theorem t296_53 : zT 296 53 = some (.goto 9, 3, 62, 0, 0, 0) := (congrArg (fun t => List.lookup 53 t) gt296).trans rfl
theorem t296_56 : zT 296 56 = some (.aload_n 0, 1, 0, 0, 0, 0) := (congrArg (fun t => List.lookup 56 t) gt296).trans rfl
theorem t296_57 : zT 296 57 = some (.getfield 68, 3, 12, 32, 0, 1639) := (congrArg (fun t => List.lookup 57 t) gt296).trans rfl
theorem t296_60 : zT 296 60 = some (.iload_n 1, 1, 1, 0, 0, 0) := (congrArg (fun t => List.lookup 60 t) gt296).trans rfl
theorem t296_61 : zT 296 61 = some (.laload, 1, 0, 0, 0, 0) := (congrArg (fun t => List.lookup 61 t) gt296).trans rfl
theorem t296_62 : zT 296 62 = some (.aload_n 0, 1, 0, 0, 0, 0) := (congrArg (fun t => List.lookup 62 t) gt296).trans rfl
theorem t296_63 : zT 296 63 = some (.getfield 58, 3, 12, 29, 0, 1636) := (congrArg (fun t => List.lookup 63 t) gt296).trans rfl
theorem t296_66 : zT 296 66 = some (.iload_n 1, 1, 1, 0, 0, 0) := (congrArg (fun t => List.lookup 66 t) gt296).trans rfl
theorem t296_67 : zT 296 67 = some (.laload, 1, 0, 0, 0, 0) := (congrArg (fun t => List.lookup 67 t) gt296).trans rfl
theorem t296_68 : zT 296 68 = some (.iload_n 2, 1, 2, 0, 0, 0) := (congrArg (fun t => List.lookup 68 t) gt296).trans rfl
theorem t296_69 : zT 296 69 = some (.iconst 2, 1, 0, 0, 2, 0) := (congrArg (fun t => List.lookup 69 t) gt296).trans rfl
theorem t296_70 : zT 296 70 = some (.irem, 1, 0, 0, 0, 0) := (congrArg (fun t => List.lookup 70 t) gt296).trans rfl
theorem t296_71 : zT 296 71 = some (.invokestatic 341, 3, 298, 1, 0, 2051) := (congrArg (fun t => List.lookup 71 t) gt296).trans rfl
theorem t296_74 : zT 296 74 = some (.lreturn, 1, 0, 0, 0, 0) := (congrArg (fun t => List.lookup 74 t) gt296).trans rfl
theorem t297_0 : zT 297 0 = some (.iload_n 1, 1, 1, 0, 0, 0) := (congrArg (fun t => List.lookup 0 t) gt297).trans rfl
theorem t297_1 : zT 297 1 = some (.i2l, 1, 0, 0, 0, 0) := (congrArg (fun t => List.lookup 1 t) gt297).trans rfl
theorem t297_2 : zT 297 2 = some (.lconst 0, 1, 0, 0, 0, 0) := (congrArg (fun t => List.lookup 2 t) gt297).trans rfl
theorem t297_3 : zT 297 3 = some (.aload_n 0, 1, 0, 0, 0, 0) := (congrArg (fun t => List.lookup 3 t) gt297).trans rfl
theorem t297_4 : zT 297 4 = some (.getfield 261, 3, 12, 22, 0, 1629) := (congrArg (fun t => List.lookup 4 t) gt297).trans rfl
theorem t297_7 : zT 297 7 = some (.iconst 1, 1, 0, 0, 1, 0) := (congrArg (fun t => List.lookup 7 t) gt297).trans rfl
theorem t297_8 : zT 297 8 = some (.isub, 1, 0, 0, 0, 0) := (congrArg (fun t => List.lookup 8 t) gt297).trans rfl
theorem t297_9 : zT 297 9 = some (.i2l, 1, 0, 0, 0, 0) := (congrArg (fun t => List.lookup 9 t) gt297).trans rfl
theorem t297_10 : zT 297 10 = some (.invokestatic 112, 3, 228, 1, 0, 1774) := (congrArg (fun t => List.lookup 10 t) gt297).trans rfl
theorem t297_13 : zT 297 13 = some (.ireturn, 1, 0, 0, 0, 0) := (congrArg (fun t => List.lookup 13 t) gt297).trans rfl
theorem t298_0 : zT 298 0 = some (.lload_n 2, 1, 2, 0, 0, 0) := (congrArg (fun t => List.lookup 0 t) gt298).trans rfl
theorem t298_1 : zT 298 1 = some (.lconst 0, 1, 0, 0, 0, 0) := (congrArg (fun t => List.lookup 1 t) gt298).trans rfl
theorem t298_2 : zT 298 2 = some (.lcmp, 1, 0, 0, 0, 0) := (congrArg (fun t => List.lookup 2 t) gt298).trans rfl
theorem t298_3 : zT 298 3 = some (.ifCond .ge 12, 3, 15, 0, 0, 0) := (congrArg (fun t => List.lookup 3 t) gt298).trans rfl
theorem t298_6 : zT 298 6 = some (.lload_n 0, 1, 0, 0, 0, 0) := (congrArg (fun t => List.lookup 6 t) gt298).trans rfl
theorem t298_7 : zT 298 7 = some (.lload_n 2, 1, 2, 0, 0, 0) := (congrArg (fun t => List.lookup 7 t) gt298).trans rfl
theorem t298_8 : zT 298 8 = some (.invokestatic 328, 3, 299, 1, 0, 2054) := (congrArg (fun t => List.lookup 8 t) gt298).trans rfl
theorem t298_11 : zT 298 11 = some (.lneg, 1, 0, 0, 0, 0) := (congrArg (fun t => List.lookup 11 t) gt298).trans rfl
theorem t298_12 : zT 298 12 = some (.goto 8, 3, 20, 0, 0, 0) := (congrArg (fun t => List.lookup 12 t) gt298).trans rfl
theorem t298_15 : zT 298 15 = some (.lload_n 0, 1, 0, 0, 0, 0) := (congrArg (fun t => List.lookup 15 t) gt298).trans rfl
theorem t298_16 : zT 298 16 = some (.lload_n 2, 1, 2, 0, 0, 0) := (congrArg (fun t => List.lookup 16 t) gt298).trans rfl
theorem t298_17 : zT 298 17 = some (.invokestatic 328, 3, 299, 1, 0, 2054) := (congrArg (fun t => List.lookup 17 t) gt298).trans rfl
theorem t298_20 : zT 298 20 = some (.lstore 5, 2, 0, 0, 0, 0) := (congrArg (fun t => List.lookup 20 t) gt298).trans rfl
theorem t298_22 : zT 298 22 = some (.iload 4, 2, 0, 0, 0, 0) := (congrArg (fun t => List.lookup 22 t) gt298).trans rfl
theorem t298_24 : zT 298 24 = some (.ifCond .ne 10, 3, 34, 0, 0, 0) := (congrArg (fun t => List.lookup 24 t) gt298).trans rfl
theorem t298_27 : zT 298 27 = some (.lload_n 0, 1, 0, 0, 0, 0) := (congrArg (fun t => List.lookup 27 t) gt298).trans rfl
theorem t298_28 : zT 298 28 = some (.lload 5, 2, 0, 0, 0, 0) := (congrArg (fun t => List.lookup 28 t) gt298).trans rfl
theorem t298_30 : zT 298 30 = some (.ldiv, 1, 0, 0, 0, 0) := (congrArg (fun t => List.lookup 30 t) gt298).trans rfl
theorem t298_31 : zT 298 31 = some (.goto 7, 3, 38, 0, 0, 0) := (congrArg (fun t => List.lookup 31 t) gt298).trans rfl
theorem t298_34 : zT 298 34 = some (.lload_n 2, 1, 2, 0, 0, 0) := (congrArg (fun t => List.lookup 34 t) gt298).trans rfl
theorem t298_35 : zT 298 35 = some (.lload 5, 2, 0, 0, 0, 0) := (congrArg (fun t => List.lookup 35 t) gt298).trans rfl
theorem t298_37 : zT 298 37 = some (.ldiv, 1, 0, 0, 0, 0) := (congrArg (fun t => List.lookup 37 t) gt298).trans rfl
theorem t298_38 : zT 298 38 = some (.lreturn, 1, 0, 0, 0, 0) := (congrArg (fun t => List.lookup 38 t) gt298).trans rfl
theorem t299_0 : zT 299 0 = some (.lload_n 0, 1, 0, 0, 0, 0) := (congrArg (fun t => List.lookup 0 t) gt299).trans rfl
theorem t299_1 : zT 299 1 = some (.lconst 0, 1, 0, 0, 0, 0) := (congrArg (fun t => List.lookup 1 t) gt299).trans rfl
theorem t299_2 : zT 299 2 = some (.lcmp, 1, 0, 0, 0, 0) := (congrArg (fun t => List.lookup 2 t) gt299).trans rfl
theorem t299_3 : zT 299 3 = some (.ifCond .ge 8, 3, 11, 0, 0, 0) := (congrArg (fun t => List.lookup 3 t) gt299).trans rfl
theorem t299_6 : zT 299 6 = some (.lload_n 0, 1, 0, 0, 0, 0) := (congrArg (fun t => List.lookup 6 t) gt299).trans rfl
theorem t299_7 : zT 299 7 = some (.lneg, 1, 0, 0, 0, 0) := (congrArg (fun t => List.lookup 7 t) gt299).trans rfl
theorem t299_8 : zT 299 8 = some (.goto 4, 3, 12, 0, 0, 0) := (congrArg (fun t => List.lookup 8 t) gt299).trans rfl
theorem t299_11 : zT 299 11 = some (.lload_n 0, 1, 0, 0, 0, 0) := (congrArg (fun t => List.lookup 11 t) gt299).trans rfl
theorem t299_12 : zT 299 12 = some (.lstore 4, 2, 0, 0, 0, 0) := (congrArg (fun t => List.lookup 12 t) gt299).trans rfl
theorem t299_14 : zT 299 14 = some (.lload_n 2, 1, 2, 0, 0, 0) := (congrArg (fun t => List.lookup 14 t) gt299).trans rfl
theorem t299_15 : zT 299 15 = some (.lconst 0, 1, 0, 0, 0, 0) := (congrArg (fun t => List.lookup 15 t) gt299).trans rfl
theorem t299_16 : zT 299 16 = some (.lcmp, 1, 0, 0, 0, 0) := (congrArg (fun t => List.lookup 16 t) gt299).trans rfl
theorem t299_17 : zT 299 17 = some (.ifCond .ge 8, 3, 25, 0, 0, 0) := (congrArg (fun t => List.lookup 17 t) gt299).trans rfl
theorem t299_20 : zT 299 20 = some (.lload_n 2, 1, 2, 0, 0, 0) := (congrArg (fun t => List.lookup 20 t) gt299).trans rfl
theorem t299_21 : zT 299 21 = some (.lneg, 1, 0, 0, 0, 0) := (congrArg (fun t => List.lookup 21 t) gt299).trans rfl
theorem t299_22 : zT 299 22 = some (.goto 4, 3, 26, 0, 0, 0) := (congrArg (fun t => List.lookup 22 t) gt299).trans rfl
theorem t299_25 : zT 299 25 = some (.lload_n 2, 1, 2, 0, 0, 0) := (congrArg (fun t => List.lookup 25 t) gt299).trans rfl
theorem t299_26 : zT 299 26 = some (.lstore 6, 2, 0, 0, 0, 0) := (congrArg (fun t => List.lookup 26 t) gt299).trans rfl
theorem t299_28 : zT 299 28 = some (.lload 6, 2, 0, 0, 0, 0) := (congrArg (fun t => List.lookup 28 t) gt299).trans rfl
theorem t299_30 : zT 299 30 = some (.lconst 0, 1, 0, 0, 0, 0) := (congrArg (fun t => List.lookup 30 t) gt299).trans rfl
theorem t299_31 : zT 299 31 = some (.lcmp, 1, 0, 0, 0, 0) := (congrArg (fun t => List.lookup 31 t) gt299).trans rfl
theorem t299_32 : zT 299 32 = some (.ifCond .eq 21, 3, 53, 0, 0, 0) := (congrArg (fun t => List.lookup 32 t) gt299).trans rfl
theorem t299_35 : zT 299 35 = some (.lload 4, 2, 0, 0, 0, 0) := (congrArg (fun t => List.lookup 35 t) gt299).trans rfl
theorem t299_37 : zT 299 37 = some (.lload 6, 2, 0, 0, 0, 0) := (congrArg (fun t => List.lookup 37 t) gt299).trans rfl
theorem t299_39 : zT 299 39 = some (.lrem, 1, 0, 0, 0, 0) := (congrArg (fun t => List.lookup 39 t) gt299).trans rfl
theorem t299_40 : zT 299 40 = some (.lstore 8, 2, 0, 0, 0, 0) := (congrArg (fun t => List.lookup 40 t) gt299).trans rfl
theorem t299_42 : zT 299 42 = some (.lload 6, 2, 0, 0, 0, 0) := (congrArg (fun t => List.lookup 42 t) gt299).trans rfl
theorem t299_44 : zT 299 44 = some (.lstore 4, 2, 0, 0, 0, 0) := (congrArg (fun t => List.lookup 44 t) gt299).trans rfl
theorem t299_46 : zT 299 46 = some (.lload 8, 2, 0, 0, 0, 0) := (congrArg (fun t => List.lookup 46 t) gt299).trans rfl
theorem t299_48 : zT 299 48 = some (.lstore 6, 2, 0, 0, 0, 0) := (congrArg (fun t => List.lookup 48 t) gt299).trans rfl
theorem t299_50 : zT 299 50 = some (.goto (-22), 3, 28, 0, 0, 0) := (congrArg (fun t => List.lookup 50 t) gt299).trans rfl
theorem t299_53 : zT 299 53 = some (.lload 4, 2, 0, 0, 0, 0) := (congrArg (fun t => List.lookup 53 t) gt299).trans rfl
theorem t299_55 : zT 299 55 = some (.lreturn, 1, 0, 0, 0, 0) := (congrArg (fun t => List.lookup 55 t) gt299).trans rfl
theorem t300_0 : zT 300 0 = some (.aload_n 0, 1, 0, 0, 0, 0) := (congrArg (fun t => List.lookup 0 t) gt300).trans rfl
theorem t300_1 : zT 300 1 = some (.invokevirtual 331, 3, 268, 0, 0, 1933) := (congrArg (fun t => List.lookup 1 t) gt300).trans rfl
theorem t300_4 : zT 300 4 = some (.aload_n 0, 1, 0, 0, 0, 0) := (congrArg (fun t => List.lookup 4 t) gt300).trans rfl
theorem t300_5 : zT 300 5 = some (.iload_n 1, 1, 1, 0, 0, 0) := (congrArg (fun t => List.lookup 5 t) gt300).trans rfl
theorem t300_6 : zT 300 6 = some (.invokevirtual 334, 3, 297, 0, 0, 2045) := (congrArg (fun t => List.lookup 6 t) gt300).trans rfl
theorem t300_9 : zT 300 9 = some (.ifCond .eq 26, 3, 35, 0, 0, 0) := (congrArg (fun t => List.lookup 9 t) gt300).trans rfl
theorem t300_12 : zT 300 12 = some (.aload_n 0, 1, 0, 0, 0, 0) := (congrArg (fun t => List.lookup 12 t) gt300).trans rfl
theorem t300_13 : zT 300 13 = some (.iload_n 2, 1, 2, 0, 0, 0) := (congrArg (fun t => List.lookup 13 t) gt300).trans rfl
theorem t300_14 : zT 300 14 = some (.invokevirtual 334, 3, 297, 0, 0, 2045) := (congrArg (fun t => List.lookup 14 t) gt300).trans rfl
theorem t300_17 : zT 300 17 = some (.ifCond .eq 18, 3, 35, 0, 0, 0) := (congrArg (fun t => List.lookup 17 t) gt300).trans rfl
theorem t300_20 : zT 300 20 = some (.iload_n 1, 1, 1, 0, 0, 0) := (congrArg (fun t => List.lookup 20 t) gt300).trans rfl
theorem t300_21 : zT 300 21 = some (.iload_n 2, 1, 2, 0, 0, 0) := (congrArg (fun t => List.lookup 21 t) gt300).trans rfl
theorem t300_22 : zT 300 22 = some (.if_icmp .eq 13, 3, 35, 0, 0, 0) := (congrArg (fun t => List.lookup 22 t) gt300).trans rfl
theorem t300_25 : zT 300 25 = some (.iload_n 3, 1, 3, 0, 0, 0) := (congrArg (fun t => List.lookup 25 t) gt300).trans rfl
theorem t300_26 : zT 300 26 = some (.i2l, 1, 0, 0, 0, 0) := (congrArg (fun t => List.lookup 26 t) gt300).trans rfl
theorem t300_27 : zT 300 27 = some (.lconst 0, 1, 0, 0, 0, 0) := (congrArg (fun t => List.lookup 27 t) gt300).trans rfl
theorem t300_28 : zT 300 28 = some (.lconst 1, 1, 0, 0, 1, 0) := (congrArg (fun t => List.lookup 28 t) gt300).trans rfl
theorem t300_29 : zT 300 29 = some (.invokestatic 112, 3, 228, 1, 0, 1774) := (congrArg (fun t => List.lookup 29 t) gt300).trans rfl
theorem t300_32 : zT 300 32 = some (.ifCond .ne 7, 3, 39, 0, 0, 0) := (congrArg (fun t => List.lookup 32 t) gt300).trans rfl
theorem t300_35 : zT 300 35 = some (.ldc2_w 339, 3, 1, 0, (-1000000000000), 2050) := (congrArg (fun t => List.lookup 35 t) gt300).trans rfl
theorem t300_38 : zT 300 38 = some (.lreturn, 1, 0, 0, 0, 0) := (congrArg (fun t => List.lookup 38 t) gt300).trans rfl
theorem t300_39 : zT 300 39 = some (.aload_n 0, 1, 0, 0, 0, 0) := (congrArg (fun t => List.lookup 39 t) gt300).trans rfl
theorem t300_40 : zT 300 40 = some (.getfield 65, 3, 12, 31, 0, 1638) := (congrArg (fun t => List.lookup 40 t) gt300).trans rfl
theorem t300_43 : zT 300 43 = some (.iload_n 1, 1, 1, 0, 0, 0) := (congrArg (fun t => List.lookup 43 t) gt300).trans rfl
theorem t300_44 : zT 300 44 = some (.laload, 1, 0, 0, 0, 0) := (congrArg (fun t => List.lookup 44 t) gt300).trans rfl
theorem t300_45 : zT 300 45 = some (.aload_n 0, 1, 0, 0, 0, 0) := (congrArg (fun t => List.lookup 45 t) gt300).trans rfl
theorem t300_46 : zT 300 46 = some (.getfield 58, 3, 12, 29, 0, 1636) := (congrArg (fun t => List.lookup 46 t) gt300).trans rfl
theorem t300_49 : zT 300 49 = some (.iload_n 2, 1, 2, 0, 0, 0) := (congrArg (fun t => List.lookup 49 t) gt300).trans rfl
theorem t300_50 : zT 300 50 = some (.laload, 1, 0, 0, 0, 0) := (congrArg (fun t => List.lookup 50 t) gt300).trans rfl
theorem t300_51 : zT 300 51 = some (.lmul, 1, 0, 0, 0, 0) := (congrArg (fun t => List.lookup 51 t) gt300).trans rfl
theorem t300_52 : zT 300 52 = some (.aload_n 0, 1, 0, 0, 0, 0) := (congrArg (fun t => List.lookup 52 t) gt300).trans rfl
theorem t300_53 : zT 300 53 = some (.getfield 65, 3, 12, 31, 0, 1638) := (congrArg (fun t => List.lookup 53 t) gt300).trans rfl
theorem t300_56 : zT 300 56 = some (.iload_n 2, 1, 2, 0, 0, 0) := (congrArg (fun t => List.lookup 56 t) gt300).trans rfl
theorem t300_57 : zT 300 57 = some (.laload, 1, 0, 0, 0, 0) := (congrArg (fun t => List.lookup 57 t) gt300).trans rfl
theorem t300_58 : zT 300 58 = some (.aload_n 0, 1, 0, 0, 0, 0) := (congrArg (fun t => List.lookup 58 t) gt300).trans rfl
theorem t300_59 : zT 300 59 = some (.getfield 58, 3, 12, 29, 0, 1636) := (congrArg (fun t => List.lookup 59 t) gt300).trans rfl
theorem t300_62 : zT 300 62 = some (.iload_n 1, 1, 1, 0, 0, 0) := (congrArg (fun t => List.lookup 62 t) gt300).trans rfl
theorem t300_63 : zT 300 63 = some (.laload, 1, 0, 0, 0, 0) := (congrArg (fun t => List.lookup 63 t) gt300).trans rfl
theorem t300_64 : zT 300 64 = some (.lmul, 1, 0, 0, 0, 0) := (congrArg (fun t => List.lookup 64 t) gt300).trans rfl
theorem t300_65 : zT 300 65 = some (.lsub, 1, 0, 0, 0, 0) := (congrArg (fun t => List.lookup 65 t) gt300).trans rfl
theorem t300_66 : zT 300 66 = some (.lstore 4, 2, 0, 0, 0, 0) := (congrArg (fun t => List.lookup 66 t) gt300).trans rfl
theorem t300_68 : zT 300 68 = some (.lload 4, 2, 0, 0, 0, 0) := (congrArg (fun t => List.lookup 68 t) gt300).trans rfl
theorem t300_70 : zT 300 70 = some (.lconst 0, 1, 0, 0, 0, 0) := (congrArg (fun t => List.lookup 70 t) gt300).trans rfl
theorem t300_71 : zT 300 71 = some (.lcmp, 1, 0, 0, 0, 0) := (congrArg (fun t => List.lookup 71 t) gt300).trans rfl
theorem t300_72 : zT 300 72 = some (.ifCond .ne 9, 3, 81, 0, 0, 0) := (congrArg (fun t => List.lookup 72 t) gt300).trans rfl
theorem t300_75 : zT 300 75 = some (.ldc2_w 345, 3, 1, 0, (-2), 2061) := (congrArg (fun t => List.lookup 75 t) gt300).trans rfl
theorem t300_78 : zT 300 78 = some (.goto 36, 3, 114, 0, 0, 0) := (congrArg (fun t => List.lookup 78 t) gt300).trans rfl
theorem t300_81 : zT 300 81 = some (.aload_n 0, 1, 0, 0, 0, 0) := (congrArg (fun t => List.lookup 81 t) gt300).trans rfl
theorem t300_82 : zT 300 82 = some (.getfield 62, 3, 12, 30, 0, 1637) := (congrArg (fun t => List.lookup 82 t) gt300).trans rfl
theorem t300_85 : zT 300 85 = some (.iload_n 2, 1, 2, 0, 0, 0) := (congrArg (fun t => List.lookup 85 t) gt300).trans rfl
theorem t300_86 : zT 300 86 = some (.laload, 1, 0, 0, 0, 0) := (congrArg (fun t => List.lookup 86 t) gt300).trans rfl
theorem t300_87 : zT 300 87 = some (.aload_n 0, 1, 0, 0, 0, 0) := (congrArg (fun t => List.lookup 87 t) gt300).trans rfl
theorem t300_88 : zT 300 88 = some (.getfield 58, 3, 12, 29, 0, 1636) := (congrArg (fun t => List.lookup 88 t) gt300).trans rfl
theorem t300_91 : zT 300 91 = some (.iload_n 1, 1, 1, 0, 0, 0) := (congrArg (fun t => List.lookup 91 t) gt300).trans rfl
theorem t300_92 : zT 300 92 = some (.laload, 1, 0, 0, 0, 0) := (congrArg (fun t => List.lookup 92 t) gt300).trans rfl
theorem t300_93 : zT 300 93 = some (.lmul, 1, 0, 0, 0, 0) := (congrArg (fun t => List.lookup 93 t) gt300).trans rfl
theorem t300_94 : zT 300 94 = some (.aload_n 0, 1, 0, 0, 0, 0) := (congrArg (fun t => List.lookup 94 t) gt300).trans rfl
theorem t300_95 : zT 300 95 = some (.getfield 62, 3, 12, 30, 0, 1637) := (congrArg (fun t => List.lookup 95 t) gt300).trans rfl
theorem t300_98 : zT 300 98 = some (.iload_n 1, 1, 1, 0, 0, 0) := (congrArg (fun t => List.lookup 98 t) gt300).trans rfl
theorem t300_99 : zT 300 99 = some (.laload, 1, 0, 0, 0, 0) := (congrArg (fun t => List.lookup 99 t) gt300).trans rfl
theorem t300_100 : zT 300 100 = some (.aload_n 0, 1, 0, 0, 0, 0) := (congrArg (fun t => List.lookup 100 t) gt300).trans rfl
theorem t300_101 : zT 300 101 = some (.getfield 58, 3, 12, 29, 0, 1636) := (congrArg (fun t => List.lookup 101 t) gt300).trans rfl
theorem t300_104 : zT 300 104 = some (.iload_n 2, 1, 2, 0, 0, 0) := (congrArg (fun t => List.lookup 104 t) gt300).trans rfl
theorem t300_105 : zT 300 105 = some (.laload, 1, 0, 0, 0, 0) := (congrArg (fun t => List.lookup 105 t) gt300).trans rfl
theorem t300_106 : zT 300 106 = some (.lmul, 1, 0, 0, 0, 0) := (congrArg (fun t => List.lookup 106 t) gt300).trans rfl
theorem t300_107 : zT 300 107 = some (.lsub, 1, 0, 0, 0, 0) := (congrArg (fun t => List.lookup 107 t) gt300).trans rfl
theorem t300_108 : zT 300 108 = some (.lload 4, 2, 0, 0, 0, 0) := (congrArg (fun t => List.lookup 108 t) gt300).trans rfl
theorem t300_110 : zT 300 110 = some (.iload_n 3, 1, 3, 0, 0, 0) := (congrArg (fun t => List.lookup 110 t) gt300).trans rfl
theorem t300_111 : zT 300 111 = some (.invokestatic 341, 3, 298, 1, 0, 2051) := (congrArg (fun t => List.lookup 111 t) gt300).trans rfl
theorem t300_114 : zT 300 114 = some (.lreturn, 1, 0, 0, 0, 0) := (congrArg (fun t => List.lookup 114 t) gt300).trans rfl
theorem t301_0 : zT 301 0 = some (.aload_n 0, 1, 0, 0, 0, 0) := (congrArg (fun t => List.lookup 0 t) gt301).trans rfl
theorem t301_1 : zT 301 1 = some (.invokevirtual 331, 3, 268, 0, 0, 1933) := (congrArg (fun t => List.lookup 1 t) gt301).trans rfl
theorem t301_4 : zT 301 4 = some (.iload_n 1, 1, 1, 0, 0, 0) := (congrArg (fun t => List.lookup 4 t) gt301).trans rfl
theorem t301_5 : zT 301 5 = some (.i2l, 1, 0, 0, 0, 0) := (congrArg (fun t => List.lookup 5 t) gt301).trans rfl
theorem t301_6 : zT 301 6 = some (.lconst 0, 1, 0, 0, 0, 0) := (congrArg (fun t => List.lookup 6 t) gt301).trans rfl
theorem t301_7 : zT 301 7 = some (.aload_n 0, 1, 0, 0, 0, 0) := (congrArg (fun t => List.lookup 7 t) gt301).trans rfl
theorem t301_8 : zT 301 8 = some (.getfield 350, 3, 12, 37, 0, 1644) := (congrArg (fun t => List.lookup 8 t) gt301).trans rfl
theorem t301_11 : zT 301 11 = some (.iconst 1, 1, 0, 0, 1, 0) := (congrArg (fun t => List.lookup 11 t) gt301).trans rfl
theorem t301_12 : zT 301 12 = some (.isub, 1, 0, 0, 0, 0) := (congrArg (fun t => List.lookup 12 t) gt301).trans rfl
theorem t301_13 : zT 301 13 = some (.i2l, 1, 0, 0, 0, 0) := (congrArg (fun t => List.lookup 13 t) gt301).trans rfl
theorem t301_14 : zT 301 14 = some (.invokestatic 112, 3, 228, 1, 0, 1774) := (congrArg (fun t => List.lookup 14 t) gt301).trans rfl
theorem t301_17 : zT 301 17 = some (.ifCond .eq 13, 3, 30, 0, 0, 0) := (congrArg (fun t => List.lookup 17 t) gt301).trans rfl
theorem t301_20 : zT 301 20 = some (.iload_n 2, 1, 2, 0, 0, 0) := (congrArg (fun t => List.lookup 20 t) gt301).trans rfl
theorem t301_21 : zT 301 21 = some (.i2l, 1, 0, 0, 0, 0) := (congrArg (fun t => List.lookup 21 t) gt301).trans rfl
theorem t301_22 : zT 301 22 = some (.lconst 0, 1, 0, 0, 0, 0) := (congrArg (fun t => List.lookup 22 t) gt301).trans rfl
theorem t301_23 : zT 301 23 = some (.lconst 1, 1, 0, 0, 1, 0) := (congrArg (fun t => List.lookup 23 t) gt301).trans rfl
theorem t301_24 : zT 301 24 = some (.invokestatic 112, 3, 228, 1, 0, 1774) := (congrArg (fun t => List.lookup 24 t) gt301).trans rfl
theorem t301_27 : zT 301 27 = some (.ifCond .ne 7, 3, 34, 0, 0, 0) := (congrArg (fun t => List.lookup 27 t) gt301).trans rfl
theorem t301_30 : zT 301 30 = some (.ldc_w 353, 3, 0, 0, (-100000), 2066) := (congrArg (fun t => List.lookup 30 t) gt301).trans rfl
theorem t301_33 : zT 301 33 = some (.ireturn, 1, 0, 0, 0, 0) := (congrArg (fun t => List.lookup 33 t) gt301).trans rfl
theorem t301_34 : zT 301 34 = some (.iload_n 2, 1, 2, 0, 0, 0) := (congrArg (fun t => List.lookup 34 t) gt301).trans rfl
theorem t301_35 : zT 301 35 = some (.ifCond .ne 12, 3, 47, 0, 0, 0) := (congrArg (fun t => List.lookup 35 t) gt301).trans rfl
theorem t301_38 : zT 301 38 = some (.aload_n 0, 1, 0, 0, 0, 0) := (congrArg (fun t => List.lookup 38 t) gt301).trans rfl
theorem t301_39 : zT 301 39 = some (.getfield 74, 3, 12, 34, 0, 1641) := (congrArg (fun t => List.lookup 39 t) gt301).trans rfl
theorem t301_42 : zT 301 42 = some (.iload_n 1, 1, 1, 0, 0, 0) := (congrArg (fun t => List.lookup 42 t) gt301).trans rfl
theorem t301_43 : zT 301 43 = some (.iaload, 1, 0, 0, 0, 0) := (congrArg (fun t => List.lookup 43 t) gt301).trans rfl
theorem t301_44 : zT 301 44 = some (.goto 20, 3, 64, 0, 0, 0) := (congrArg (fun t => List.lookup 44 t) gt301).trans rfl
theorem t301_47 : zT 301 47 = some (.aload_n 0, 1, 0, 0, 0, 0) := (congrArg (fun t => List.lookup 47 t) gt301).trans rfl
theorem t301_48 : zT 301 48 = some (.getfield 77, 3, 12, 35, 0, 1642) := (congrArg (fun t => List.lookup 48 t) gt301).trans rfl
theorem t301_51 : zT 301 51 = some (.iload_n 1, 1, 1, 0, 0, 0) := (congrArg (fun t => List.lookup 51 t) gt301).trans rfl
theorem t301_52 : zT 301 52 = some (.laload, 1, 0, 0, 0, 0) := (congrArg (fun t => List.lookup 52 t) gt301).trans rfl
theorem t301_53 : zT 301 53 = some (.aload_n 0, 1, 0, 0, 0, 0) := (congrArg (fun t => List.lookup 53 t) gt301).trans rfl
theorem t301_54 : zT 301 54 = some (.getfield 74, 3, 12, 34, 0, 1641) := (congrArg (fun t => List.lookup 54 t) gt301).trans rfl
theorem t301_57 : zT 301 57 = some (.iload_n 1, 1, 1, 0, 0, 0) := (congrArg (fun t => List.lookup 57 t) gt301).trans rfl
theorem t301_58 : zT 301 58 = some (.iaload, 1, 0, 0, 0, 0) := (congrArg (fun t => List.lookup 58 t) gt301).trans rfl
theorem t301_59 : zT 301 59 = some (.i2l, 1, 0, 0, 0, 0) := (congrArg (fun t => List.lookup 59 t) gt301).trans rfl
theorem t301_60 : zT 301 60 = some (.invokestatic 324, 3, 286, 1, 0, 2003) := (congrArg (fun t => List.lookup 60 t) gt301).trans rfl
theorem t301_63 : zT 301 63 = some (.l2i, 1, 0, 0, 0, 0) := (congrArg (fun t => List.lookup 63 t) gt301).trans rfl
theorem t301_64 : zT 301 64 = some (.ireturn, 1, 0, 0, 0, 0) := (congrArg (fun t => List.lookup 64 t) gt301).trans rfl
theorem t302_0 : zT 302 0 = some (.aload_n 0, 1, 0, 0, 0, 0) := (congrArg (fun t => List.lookup 0 t) gt302).trans rfl
theorem t302_1 : zT 302 1 = some (.invokevirtual 331, 3, 268, 0, 0, 1933) := (congrArg (fun t => List.lookup 1 t) gt302).trans rfl
theorem t302_4 : zT 302 4 = some (.iload_n 1, 1, 1, 0, 0, 0) := (congrArg (fun t => List.lookup 4 t) gt302).trans rfl
theorem t302_5 : zT 302 5 = some (.i2l, 1, 0, 0, 0, 0) := (congrArg (fun t => List.lookup 5 t) gt302).trans rfl
theorem t302_6 : zT 302 6 = some (.lconst 0, 1, 0, 0, 0, 0) := (congrArg (fun t => List.lookup 6 t) gt302).trans rfl
theorem t302_7 : zT 302 7 = some (.aload_n 0, 1, 0, 0, 0, 0) := (congrArg (fun t => List.lookup 7 t) gt302).trans rfl
theorem t302_8 : zT 302 8 = some (.getfield 354, 3, 12, 39, 0, 1646) := (congrArg (fun t => List.lookup 8 t) gt302).trans rfl
theorem t302_11 : zT 302 11 = some (.bipush 20, 2, 0, 0, 20, 0) := (congrArg (fun t => List.lookup 11 t) gt302).trans rfl
theorem t302_13 : zT 302 13 = some (.invokestatic 364, 3, 303, 1, 0, 2071) := (congrArg (fun t => List.lookup 13 t) gt302).trans rfl
theorem t302_16 : zT 302 16 = some (.iconst 1, 1, 0, 0, 1, 0) := (congrArg (fun t => List.lookup 16 t) gt302).trans rfl
theorem t302_17 : zT 302 17 = some (.isub, 1, 0, 0, 0, 0) := (congrArg (fun t => List.lookup 17 t) gt302).trans rfl
theorem t302_18 : zT 302 18 = some (.i2l, 1, 0, 0, 0, 0) := (congrArg (fun t => List.lookup 18 t) gt302).trans rfl
theorem t302_19 : zT 302 19 = some (.invokestatic 112, 3, 228, 1, 0, 1774) := (congrArg (fun t => List.lookup 19 t) gt302).trans rfl
theorem t302_22 : zT 302 22 = some (.ifCond .eq 28, 3, 50, 0, 0, 0) := (congrArg (fun t => List.lookup 22 t) gt302).trans rfl
theorem t302_25 : zT 302 25 = some (.iload_n 2, 1, 2, 0, 0, 0) := (congrArg (fun t => List.lookup 25 t) gt302).trans rfl
theorem t302_26 : zT 302 26 = some (.i2l, 1, 0, 0, 0, 0) := (congrArg (fun t => List.lookup 26 t) gt302).trans rfl
theorem t302_27 : zT 302 27 = some (.lconst 0, 1, 0, 0, 0, 0) := (congrArg (fun t => List.lookup 27 t) gt302).trans rfl
theorem t302_28 : zT 302 28 = some (.ldc2_w 367, 3, 1, 0, 3, 2074) := (congrArg (fun t => List.lookup 28 t) gt302).trans rfl
theorem t302_31 : zT 302 31 = some (.invokestatic 112, 3, 228, 1, 0, 1774) := (congrArg (fun t => List.lookup 31 t) gt302).trans rfl
theorem t302_34 : zT 302 34 = some (.ifCond .eq 16, 3, 50, 0, 0, 0) := (congrArg (fun t => List.lookup 34 t) gt302).trans rfl
theorem t302_37 : zT 302 37 = some (.aload_n 0, 1, 0, 0, 0, 0) := (congrArg (fun t => List.lookup 37 t) gt302).trans rfl
theorem t302_38 : zT 302 38 = some (.getfield 83, 3, 12, 38, 0, 1645) := (congrArg (fun t => List.lookup 38 t) gt302).trans rfl
theorem t302_41 : zT 302 41 = some (.iconst 4, 1, 0, 0, 4, 0) := (congrArg (fun t => List.lookup 41 t) gt302).trans rfl
theorem t302_42 : zT 302 42 = some (.iload_n 1, 1, 1, 0, 0, 0) := (congrArg (fun t => List.lookup 42 t) gt302).trans rfl
theorem t302_43 : zT 302 43 = some (.imul, 1, 0, 0, 0, 0) := (congrArg (fun t => List.lookup 43 t) gt302).trans rfl
theorem t302_44 : zT 302 44 = some (.iload_n 2, 1, 2, 0, 0, 0) := (congrArg (fun t => List.lookup 44 t) gt302).trans rfl
theorem t302_45 : zT 302 45 = some (.iadd, 1, 0, 0, 0, 0) := (congrArg (fun t => List.lookup 45 t) gt302).trans rfl
theorem t302_46 : zT 302 46 = some (.iaload, 1, 0, 0, 0, 0) := (congrArg (fun t => List.lookup 46 t) gt302).trans rfl
theorem t302_47 : zT 302 47 = some (.goto 6, 3, 53, 0, 0, 0) := (congrArg (fun t => List.lookup 47 t) gt302).trans rfl
theorem t302_50 : zT 302 50 = some (.ldc_w 353, 3, 0, 0, (-100000), 2066) := (congrArg (fun t => List.lookup 50 t) gt302).trans rfl
theorem t302_53 : zT 302 53 = some (.ireturn, 1, 0, 0, 0, 0) := (congrArg (fun t => List.lookup 53 t) gt302).trans rfl
theorem t303_0 : zT 303 0 = some (.iload_n 0, 1, 0, 0, 0, 0) := (congrArg (fun t => List.lookup 0 t) gt303).trans rfl
theorem t303_1 : zT 303 1 = some (.iload_n 1, 1, 1, 0, 0, 0) := (congrArg (fun t => List.lookup 1 t) gt303).trans rfl
theorem t303_2 : zT 303 2 = some (.if_icmp .ge 7, 3, 9, 0, 0, 0) := (congrArg (fun t => List.lookup 2 t) gt303).trans rfl
theorem t303_5 : zT 303 5 = some (.iload_n 0, 1, 0, 0, 0, 0) := (congrArg (fun t => List.lookup 5 t) gt303).trans rfl
theorem t303_6 : zT 303 6 = some (.goto 4, 3, 10, 0, 0, 0) := (congrArg (fun t => List.lookup 6 t) gt303).trans rfl
theorem t303_9 : zT 303 9 = some (.iload_n 1, 1, 1, 0, 0, 0) := (congrArg (fun t => List.lookup 9 t) gt303).trans rfl
theorem t303_10 : zT 303 10 = some (.ireturn, 1, 0, 0, 0, 0) := (congrArg (fun t => List.lookup 10 t) gt303).trans rfl
theorem t304_0 : zT 304 0 = some (.iload_n 1, 1, 1, 0, 0, 0) := (congrArg (fun t => List.lookup 0 t) gt304).trans rfl
theorem t304_1 : zT 304 1 = some (.tableswitch 121 0 15 #[79, 86, 91, 98, 104, 121, 121, 121, 121, 121, 121, 121, 121, 121, 111, 116], 79, 0, 0, 0, 0) := (congrArg (fun t => List.lookup 1 t) gt304).trans rfl
theorem t304_80 : zT 304 80 = some (.aload_n 0, 1, 0, 0, 0, 0) := (congrArg (fun t => List.lookup 80 t) gt304).trans rfl
