theorem t304_81 : zT 304 81 = some (.getfield 3, 3, 12, 0, 0, 1607) := (congrArg (fun t => List.lookup 81 t) gt304).trans rfl
theorem t304_84 : zT 304 84 = some (.iconst 0, 1, 0, 0, 0, 0) := (congrArg (fun t => List.lookup 84 t) gt304).trans rfl
theorem t304_85 : zT 304 85 = some (.iaload, 1, 0, 0, 0, 0) := (congrArg (fun t => List.lookup 85 t) gt304).trans rfl
theorem t304_86 : zT 304 86 = some (.ireturn, 1, 0, 0, 0, 0) := (congrArg (fun t => List.lookup 86 t) gt304).trans rfl
theorem t304_87 : zT 304 87 = some (.aload_n 0, 1, 0, 0, 0, 0) := (congrArg (fun t => List.lookup 87 t) gt304).trans rfl
theorem t304_88 : zT 304 88 = some (.invokevirtual 369, 3, 292, 0, 0, 2026) := (congrArg (fun t => List.lookup 88 t) gt304).trans rfl
theorem t304_91 : zT 304 91 = some (.ireturn, 1, 0, 0, 0, 0) := (congrArg (fun t => List.lookup 91 t) gt304).trans rfl
theorem t304_92 : zT 304 92 = some (.aload_n 0, 1, 0, 0, 0, 0) := (congrArg (fun t => List.lookup 92 t) gt304).trans rfl
theorem t304_93 : zT 304 93 = some (.getfield 3, 3, 12, 0, 0, 1607) := (congrArg (fun t => List.lookup 93 t) gt304).trans rfl
theorem t304_96 : zT 304 96 = some (.iconst 1, 1, 0, 0, 1, 0) := (congrArg (fun t => List.lookup 96 t) gt304).trans rfl
theorem t304_97 : zT 304 97 = some (.iaload, 1, 0, 0, 0, 0) := (congrArg (fun t => List.lookup 97 t) gt304).trans rfl
theorem t304_98 : zT 304 98 = some (.ireturn, 1, 0, 0, 0, 0) := (congrArg (fun t => List.lookup 98 t) gt304).trans rfl
theorem t304_99 : zT 304 99 = some (.aload_n 0, 1, 0, 0, 0, 0) := (congrArg (fun t => List.lookup 99 t) gt304).trans rfl
theorem t304_100 : zT 304 100 = some (.iconst (-1), 1, 0, 0, (-1), 0) := (congrArg (fun t => List.lookup 100 t) gt304).trans rfl
theorem t304_101 : zT 304 101 = some (.invokevirtual 372, 3, 290, 0, 0, 2018) := (congrArg (fun t => List.lookup 101 t) gt304).trans rfl
theorem t304_104 : zT 304 104 = some (.ireturn, 1, 0, 0, 0, 0) := (congrArg (fun t => List.lookup 104 t) gt304).trans rfl
theorem t304_105 : zT 304 105 = some (.aload_n 0, 1, 0, 0, 0, 0) := (congrArg (fun t => List.lookup 105 t) gt304).trans rfl
theorem t304_106 : zT 304 106 = some (.getfield 3, 3, 12, 0, 0, 1607) := (congrArg (fun t => List.lookup 106 t) gt304).trans rfl
theorem t304_109 : zT 304 109 = some (.iconst 2, 1, 0, 0, 2, 0) := (congrArg (fun t => List.lookup 109 t) gt304).trans rfl
theorem t304_110 : zT 304 110 = some (.iaload, 1, 0, 0, 0, 0) := (congrArg (fun t => List.lookup 110 t) gt304).trans rfl
theorem t304_111 : zT 304 111 = some (.ireturn, 1, 0, 0, 0, 0) := (congrArg (fun t => List.lookup 111 t) gt304).trans rfl
theorem t304_112 : zT 304 112 = some (.aload_n 0, 1, 0, 0, 0, 0) := (congrArg (fun t => List.lookup 112 t) gt304).trans rfl
theorem t304_113 : zT 304 113 = some (.getfield 101, 3, 12, 1, 0, 1608) := (congrArg (fun t => List.lookup 113 t) gt304).trans rfl
theorem t304_116 : zT 304 116 = some (.ireturn, 1, 0, 0, 0, 0) := (congrArg (fun t => List.lookup 116 t) gt304).trans rfl
theorem t304_117 : zT 304 117 = some (.aload_n 0, 1, 0, 0, 0, 0) := (congrArg (fun t => List.lookup 117 t) gt304).trans rfl
theorem t304_118 : zT 304 118 = some (.getfield 120, 3, 12, 5, 0, 1612) := (congrArg (fun t => List.lookup 118 t) gt304).trans rfl
theorem t304_121 : zT 304 121 = some (.ireturn, 1, 0, 0, 0, 0) := (congrArg (fun t => List.lookup 121 t) gt304).trans rfl
theorem t304_122 : zT 304 122 = some (.iload_n 1, 1, 1, 0, 0, 0) := (congrArg (fun t => List.lookup 122 t) gt304).trans rfl
theorem t304_123 : zT 304 123 = some (.i2l, 1, 0, 0, 0, 0) := (congrArg (fun t => List.lookup 123 t) gt304).trans rfl
theorem t304_124 : zT 304 124 = some (.ldc2_w 337, 3, 1, 0, 5, 2049) := (congrArg (fun t => List.lookup 124 t) gt304).trans rfl
theorem t304_127 : zT 304 127 = some (.ldc2_w 375, 3, 1, 0, 13, 2079) := (congrArg (fun t => List.lookup 127 t) gt304).trans rfl
theorem t304_130 : zT 304 130 = some (.invokestatic 112, 3, 228, 1, 0, 1774) := (congrArg (fun t => List.lookup 130 t) gt304).trans rfl
theorem t304_133 : zT 304 133 = some (.ifCond .eq 16, 3, 149, 0, 0, 0) := (congrArg (fun t => List.lookup 133 t) gt304).trans rfl
theorem t304_136 : zT 304 136 = some (.aload_n 0, 1, 0, 0, 0, 0) := (congrArg (fun t => List.lookup 136 t) gt304).trans rfl
theorem t304_137 : zT 304 137 = some (.getfield 3, 3, 12, 0, 0, 1607) := (congrArg (fun t => List.lookup 137 t) gt304).trans rfl
theorem t304_140 : zT 304 140 = some (.iconst 5, 1, 0, 0, 5, 0) := (congrArg (fun t => List.lookup 140 t) gt304).trans rfl
theorem t304_141 : zT 304 141 = some (.iload_n 1, 1, 1, 0, 0, 0) := (congrArg (fun t => List.lookup 141 t) gt304).trans rfl
theorem t304_142 : zT 304 142 = some (.iadd, 1, 0, 0, 0, 0) := (congrArg (fun t => List.lookup 142 t) gt304).trans rfl
theorem t304_143 : zT 304 143 = some (.iconst 5, 1, 0, 0, 5, 0) := (congrArg (fun t => List.lookup 143 t) gt304).trans rfl
theorem t304_144 : zT 304 144 = some (.isub, 1, 0, 0, 0, 0) := (congrArg (fun t => List.lookup 144 t) gt304).trans rfl
theorem t304_145 : zT 304 145 = some (.iaload, 1, 0, 0, 0, 0) := (congrArg (fun t => List.lookup 145 t) gt304).trans rfl
theorem t304_146 : zT 304 146 = some (.goto 4, 3, 150, 0, 0, 0) := (congrArg (fun t => List.lookup 146 t) gt304).trans rfl
theorem t304_149 : zT 304 149 = some (.iconst (-1), 1, 0, 0, (-1), 0) := (congrArg (fun t => List.lookup 149 t) gt304).trans rfl
theorem t304_150 : zT 304 150 = some (.ireturn, 1, 0, 0, 0, 0) := (congrArg (fun t => List.lookup 150 t) gt304).trans rfl
theorem t305_0 : zT 305 0 = some (.aload_n 0, 1, 0, 0, 0, 0) := (congrArg (fun t => List.lookup 0 t) gt305).trans rfl
theorem t305_1 : zT 305 1 = some (.iload_n 1, 1, 1, 0, 0, 0) := (congrArg (fun t => List.lookup 1 t) gt305).trans rfl
theorem t305_2 : zT 305 2 = some (.invokevirtual 377, 3, 306, 0, 0, 2084) := (congrArg (fun t => List.lookup 2 t) gt305).trans rfl
theorem t305_5 : zT 305 5 = some (.ifCond .ne 5, 3, 10, 0, 0, 0) := (congrArg (fun t => List.lookup 5 t) gt305).trans rfl
theorem t305_8 : zT 305 8 = some (.iconst (-1), 1, 0, 0, (-1), 0) := (congrArg (fun t => List.lookup 8 t) gt305).trans rfl
theorem t305_9 : zT 305 9 = some (.ireturn, 1, 0, 0, 0, 0) := (congrArg (fun t => List.lookup 9 t) gt305).trans rfl
theorem t305_10 : zT 305 10 = some (.iload_n 2, 1, 2, 0, 0, 0) := (congrArg (fun t => List.lookup 10 t) gt305).trans rfl
theorem t305_11 : zT 305 11 = some (.ifCond .ne 11, 3, 22, 0, 0, 0) := (congrArg (fun t => List.lookup 11 t) gt305).trans rfl
theorem t305_14 : zT 305 14 = some (.aload_n 0, 1, 0, 0, 0, 0) := (congrArg (fun t => List.lookup 14 t) gt305).trans rfl
theorem t305_15 : zT 305 15 = some (.iload_n 1, 1, 1, 0, 0, 0) := (congrArg (fun t => List.lookup 15 t) gt305).trans rfl
theorem t305_16 : zT 305 16 = some (.invokevirtual 154, 3, 241, 0, 0, 1825) := (congrArg (fun t => List.lookup 16 t) gt305).trans rfl
theorem t305_19 : zT 305 19 = some (.goto 38, 3, 57, 0, 0, 0) := (congrArg (fun t => List.lookup 19 t) gt305).trans rfl
theorem t305_22 : zT 305 22 = some (.iload_n 2, 1, 2, 0, 0, 0) := (congrArg (fun t => List.lookup 22 t) gt305).trans rfl
theorem t305_23 : zT 305 23 = some (.iconst 1, 1, 0, 0, 1, 0) := (congrArg (fun t => List.lookup 23 t) gt305).trans rfl
theorem t305_24 : zT 305 24 = some (.if_icmp .ne 19, 3, 43, 0, 0, 0) := (congrArg (fun t => List.lookup 24 t) gt305).trans rfl
theorem t305_27 : zT 305 27 = some (.aload_n 0, 1, 0, 0, 0, 0) := (congrArg (fun t => List.lookup 27 t) gt305).trans rfl
theorem t305_28 : zT 305 28 = some (.getfield 3, 3, 12, 0, 0, 1607) := (congrArg (fun t => List.lookup 28 t) gt305).trans rfl
theorem t305_31 : zT 305 31 = some (.bipush 14, 2, 0, 0, 14, 0) := (congrArg (fun t => List.lookup 31 t) gt305).trans rfl
theorem t305_33 : zT 305 33 = some (.iconst 2, 1, 0, 0, 2, 0) := (congrArg (fun t => List.lookup 33 t) gt305).trans rfl
theorem t305_34 : zT 305 34 = some (.iload_n 1, 1, 1, 0, 0, 0) := (congrArg (fun t => List.lookup 34 t) gt305).trans rfl
theorem t305_35 : zT 305 35 = some (.imul, 1, 0, 0, 0, 0) := (congrArg (fun t => List.lookup 35 t) gt305).trans rfl
theorem t305_36 : zT 305 36 = some (.iadd, 1, 0, 0, 0, 0) := (congrArg (fun t => List.lookup 36 t) gt305).trans rfl
theorem t305_37 : zT 305 37 = some (.iconst 1, 1, 0, 0, 1, 0) := (congrArg (fun t => List.lookup 37 t) gt305).trans rfl
theorem t305_38 : zT 305 38 = some (.iadd, 1, 0, 0, 0, 0) := (congrArg (fun t => List.lookup 38 t) gt305).trans rfl
theorem t305_39 : zT 305 39 = some (.iaload, 1, 0, 0, 0, 0) := (congrArg (fun t => List.lookup 39 t) gt305).trans rfl
theorem t305_40 : zT 305 40 = some (.goto 17, 3, 57, 0, 0, 0) := (congrArg (fun t => List.lookup 40 t) gt305).trans rfl
theorem t305_43 : zT 305 43 = some (.iload_n 2, 1, 2, 0, 0, 0) := (congrArg (fun t => List.lookup 43 t) gt305).trans rfl
theorem t305_44 : zT 305 44 = some (.iconst 2, 1, 0, 0, 2, 0) := (congrArg (fun t => List.lookup 44 t) gt305).trans rfl
theorem t305_45 : zT 305 45 = some (.if_icmp .ne 11, 3, 56, 0, 0, 0) := (congrArg (fun t => List.lookup 45 t) gt305).trans rfl
theorem t305_48 : zT 305 48 = some (.aload_n 0, 1, 0, 0, 0, 0) := (congrArg (fun t => List.lookup 48 t) gt305).trans rfl
theorem t305_49 : zT 305 49 = some (.iload_n 1, 1, 1, 0, 0, 0) := (congrArg (fun t => List.lookup 49 t) gt305).trans rfl
theorem t305_50 : zT 305 50 = some (.invokevirtual 372, 3, 290, 0, 0, 2018) := (congrArg (fun t => List.lookup 50 t) gt305).trans rfl
theorem t305_53 : zT 305 53 = some (.goto 4, 3, 57, 0, 0, 0) := (congrArg (fun t => List.lookup 53 t) gt305).trans rfl
theorem t305_56 : zT 305 56 = some (.iconst (-1), 1, 0, 0, (-1), 0) := (congrArg (fun t => List.lookup 56 t) gt305).trans rfl
theorem t305_57 : zT 305 57 = some (.ireturn, 1, 0, 0, 0, 0) := (congrArg (fun t => List.lookup 57 t) gt305).trans rfl
theorem t306_0 : zT 306 0 = some (.iload_n 1, 1, 1, 0, 0, 0) := (congrArg (fun t => List.lookup 0 t) gt306).trans rfl
theorem t306_1 : zT 306 1 = some (.i2l, 1, 0, 0, 0, 0) := (congrArg (fun t => List.lookup 1 t) gt306).trans rfl
theorem t306_2 : zT 306 2 = some (.lconst 0, 1, 0, 0, 0, 0) := (congrArg (fun t => List.lookup 2 t) gt306).trans rfl
theorem t306_3 : zT 306 3 = some (.aload_n 0, 1, 0, 0, 0, 0) := (congrArg (fun t => List.lookup 3 t) gt306).trans rfl
theorem t306_4 : zT 306 4 = some (.getfield 3, 3, 12, 0, 0, 1607) := (congrArg (fun t => List.lookup 4 t) gt306).trans rfl
theorem t306_7 : zT 306 7 = some (.iconst 0, 1, 0, 0, 0, 0) := (congrArg (fun t => List.lookup 7 t) gt306).trans rfl
theorem t306_8 : zT 306 8 = some (.iaload, 1, 0, 0, 0, 0) := (congrArg (fun t => List.lookup 8 t) gt306).trans rfl
theorem t306_9 : zT 306 9 = some (.iconst 1, 1, 0, 0, 1, 0) := (congrArg (fun t => List.lookup 9 t) gt306).trans rfl
theorem t306_10 : zT 306 10 = some (.isub, 1, 0, 0, 0, 0) := (congrArg (fun t => List.lookup 10 t) gt306).trans rfl
theorem t306_11 : zT 306 11 = some (.i2l, 1, 0, 0, 0, 0) := (congrArg (fun t => List.lookup 11 t) gt306).trans rfl
theorem t306_12 : zT 306 12 = some (.invokestatic 112, 3, 228, 1, 0, 1774) := (congrArg (fun t => List.lookup 12 t) gt306).trans rfl
theorem t306_15 : zT 306 15 = some (.ireturn, 1, 0, 0, 0, 0) := (congrArg (fun t => List.lookup 15 t) gt306).trans rfl
theorem t307_0 : zT 307 0 = some (.aload_n 0, 1, 0, 0, 0, 0) := (congrArg (fun t => List.lookup 0 t) gt307).trans rfl
theorem t307_1 : zT 307 1 = some (.iload_n 1, 1, 1, 0, 0, 0) := (congrArg (fun t => List.lookup 1 t) gt307).trans rfl
theorem t307_2 : zT 307 2 = some (.invokevirtual 380, 3, 308, 0, 0, 2092) := (congrArg (fun t => List.lookup 2 t) gt307).trans rfl
theorem t307_5 : zT 307 5 = some (.ifCond .eq 15, 3, 20, 0, 0, 0) := (congrArg (fun t => List.lookup 5 t) gt307).trans rfl
theorem t307_8 : zT 307 8 = some (.iload_n 2, 1, 2, 0, 0, 0) := (congrArg (fun t => List.lookup 8 t) gt307).trans rfl
theorem t307_9 : zT 307 9 = some (.i2l, 1, 0, 0, 0, 0) := (congrArg (fun t => List.lookup 9 t) gt307).trans rfl
theorem t307_10 : zT 307 10 = some (.lconst 0, 1, 0, 0, 0, 0) := (congrArg (fun t => List.lookup 10 t) gt307).trans rfl
theorem t307_11 : zT 307 11 = some (.ldc2_w 337, 3, 1, 0, 5, 2049) := (congrArg (fun t => List.lookup 11 t) gt307).trans rfl
theorem t307_14 : zT 307 14 = some (.invokestatic 112, 3, 228, 1, 0, 1774) := (congrArg (fun t => List.lookup 14 t) gt307).trans rfl
theorem t307_17 : zT 307 17 = some (.ifCond .ne 7, 3, 24, 0, 0, 0) := (congrArg (fun t => List.lookup 17 t) gt307).trans rfl
theorem t307_20 : zT 307 20 = some (.ldc_w 353, 3, 0, 0, (-100000), 2066) := (congrArg (fun t => List.lookup 20 t) gt307).trans rfl
theorem t307_23 : zT 307 23 = some (.ireturn, 1, 0, 0, 0, 0) := (congrArg (fun t => List.lookup 23 t) gt307).trans rfl
theorem t307_24 : zT 307 24 = some (.iload_n 2, 1, 2, 0, 0, 0) := (congrArg (fun t => List.lookup 24 t) gt307).trans rfl
theorem t307_25 : zT 307 25 = some (.iconst 4, 1, 0, 0, 4, 0) := (congrArg (fun t => List.lookup 25 t) gt307).trans rfl
theorem t307_26 : zT 307 26 = some (.if_icmp .ge 10, 3, 36, 0, 0, 0) := (congrArg (fun t => List.lookup 26 t) gt307).trans rfl
theorem t307_29 : zT 307 29 = some (.aload_n 0, 1, 0, 0, 0, 0) := (congrArg (fun t => List.lookup 29 t) gt307).trans rfl
theorem t307_30 : zT 307 30 = some (.iload_n 1, 1, 1, 0, 0, 0) := (congrArg (fun t => List.lookup 30 t) gt307).trans rfl
theorem t307_31 : zT 307 31 = some (.iload_n 2, 1, 2, 0, 0, 0) := (congrArg (fun t => List.lookup 31 t) gt307).trans rfl
theorem t307_32 : zT 307 32 = some (.invokevirtual 255, 3, 272, 0, 0, 1949) := (congrArg (fun t => List.lookup 32 t) gt307).trans rfl
theorem t307_35 : zT 307 35 = some (.ireturn, 1, 0, 0, 0, 0) := (congrArg (fun t => List.lookup 35 t) gt307).trans rfl
theorem t307_36 : zT 307 36 = some (.aload_n 0, 1, 0, 0, 0, 0) := (congrArg (fun t => List.lookup 36 t) gt307).trans rfl
theorem t307_37 : zT 307 37 = some (.invokevirtual 331, 3, 268, 0, 0, 1933) := (congrArg (fun t => List.lookup 37 t) gt307).trans rfl
theorem t307_40 : zT 307 40 = some (.iload_n 2, 1, 2, 0, 0, 0) := (congrArg (fun t => List.lookup 40 t) gt307).trans rfl
theorem t307_41 : zT 307 41 = some (.iconst 5, 1, 0, 0, 5, 0) := (congrArg (fun t => List.lookup 41 t) gt307).trans rfl
theorem t307_42 : zT 307 42 = some (.if_icmp .ne 12, 3, 54, 0, 0, 0) := (congrArg (fun t => List.lookup 42 t) gt307).trans rfl
theorem t307_45 : zT 307 45 = some (.aload_n 0, 1, 0, 0, 0, 0) := (congrArg (fun t => List.lookup 45 t) gt307).trans rfl
theorem t307_46 : zT 307 46 = some (.getfield 55, 3, 12, 28, 0, 1635) := (congrArg (fun t => List.lookup 46 t) gt307).trans rfl
theorem t307_49 : zT 307 49 = some (.iload_n 1, 1, 1, 0, 0, 0) := (congrArg (fun t => List.lookup 49 t) gt307).trans rfl
theorem t307_50 : zT 307 50 = some (.iaload, 1, 0, 0, 0, 0) := (congrArg (fun t => List.lookup 50 t) gt307).trans rfl
theorem t307_51 : zT 307 51 = some (.goto 17, 3, 68, 0, 0, 0) := (congrArg (fun t => List.lookup 51 t) gt307).trans rfl
theorem t307_54 : zT 307 54 = some (.aload_n 0, 1, 0, 0, 0, 0) := (congrArg (fun t => List.lookup 54 t) gt307).trans rfl
theorem t307_55 : zT 307 55 = some (.iload_n 1, 1, 1, 0, 0, 0) := (congrArg (fun t => List.lookup 55 t) gt307).trans rfl
theorem t307_56 : zT 307 56 = some (.iconst (-1), 1, 0, 0, (-1), 0) := (congrArg (fun t => List.lookup 56 t) gt307).trans rfl
theorem t307_57 : zT 307 57 = some (.invokevirtual 295, 3, 271, 0, 0, 1945) := (congrArg (fun t => List.lookup 57 t) gt307).trans rfl
theorem t307_60 : zT 307 60 = some (.ifCond .eq 7, 3, 67, 0, 0, 0) := (congrArg (fun t => List.lookup 60 t) gt307).trans rfl
theorem t307_63 : zT 307 63 = some (.iconst 1, 1, 0, 0, 1, 0) := (congrArg (fun t => List.lookup 63 t) gt307).trans rfl
theorem t307_64 : zT 307 64 = some (.goto 4, 3, 68, 0, 0, 0) := (congrArg (fun t => List.lookup 64 t) gt307).trans rfl
theorem t307_67 : zT 307 67 = some (.iconst 0, 1, 0, 0, 0, 0) := (congrArg (fun t => List.lookup 67 t) gt307).trans rfl
theorem t307_68 : zT 307 68 = some (.ireturn, 1, 0, 0, 0, 0) := (congrArg (fun t => List.lookup 68 t) gt307).trans rfl
theorem t308_0 : zT 308 0 = some (.iload_n 1, 1, 1, 0, 0, 0) := (congrArg (fun t => List.lookup 0 t) gt308).trans rfl
theorem t308_1 : zT 308 1 = some (.i2l, 1, 0, 0, 0, 0) := (congrArg (fun t => List.lookup 1 t) gt308).trans rfl
theorem t308_2 : zT 308 2 = some (.lconst 0, 1, 0, 0, 0, 0) := (congrArg (fun t => List.lookup 2 t) gt308).trans rfl
theorem t308_3 : zT 308 3 = some (.aload_n 0, 1, 0, 0, 0, 0) := (congrArg (fun t => List.lookup 3 t) gt308).trans rfl
theorem t308_4 : zT 308 4 = some (.getfield 3, 3, 12, 0, 0, 1607) := (congrArg (fun t => List.lookup 4 t) gt308).trans rfl
theorem t308_7 : zT 308 7 = some (.iconst 1, 1, 0, 0, 1, 0) := (congrArg (fun t => List.lookup 7 t) gt308).trans rfl
theorem t308_8 : zT 308 8 = some (.iaload, 1, 0, 0, 0, 0) := (congrArg (fun t => List.lookup 8 t) gt308).trans rfl
theorem t308_9 : zT 308 9 = some (.iconst 1, 1, 0, 0, 1, 0) := (congrArg (fun t => List.lookup 9 t) gt308).trans rfl
theorem t308_10 : zT 308 10 = some (.isub, 1, 0, 0, 0, 0) := (congrArg (fun t => List.lookup 10 t) gt308).trans rfl
theorem t308_11 : zT 308 11 = some (.i2l, 1, 0, 0, 0, 0) := (congrArg (fun t => List.lookup 11 t) gt308).trans rfl
theorem t308_12 : zT 308 12 = some (.invokestatic 112, 3, 228, 1, 0, 1774) := (congrArg (fun t => List.lookup 12 t) gt308).trans rfl
theorem t308_15 : zT 308 15 = some (.ireturn, 1, 0, 0, 0, 0) := (congrArg (fun t => List.lookup 15 t) gt308).trans rfl
theorem t309_0 : zT 309 0 = some (.aload_n 0, 1, 0, 0, 0, 0) := (congrArg (fun t => List.lookup 0 t) gt309).trans rfl
theorem t309_1 : zT 309 1 = some (.iload_n 1, 1, 1, 0, 0, 0) := (congrArg (fun t => List.lookup 1 t) gt309).trans rfl
theorem t309_2 : zT 309 2 = some (.invokevirtual 389, 3, 310, 0, 0, 2100) := (congrArg (fun t => List.lookup 2 t) gt309).trans rfl
theorem t309_5 : zT 309 5 = some (.ifCond .eq 15, 3, 20, 0, 0, 0) := (congrArg (fun t => List.lookup 5 t) gt309).trans rfl
theorem t309_8 : zT 309 8 = some (.iload_n 2, 1, 2, 0, 0, 0) := (congrArg (fun t => List.lookup 8 t) gt309).trans rfl
theorem t309_9 : zT 309 9 = some (.i2l, 1, 0, 0, 0, 0) := (congrArg (fun t => List.lookup 9 t) gt309).trans rfl
theorem t309_10 : zT 309 10 = some (.lconst 0, 1, 0, 0, 0, 0) := (congrArg (fun t => List.lookup 10 t) gt309).trans rfl
theorem t309_11 : zT 309 11 = some (.ldc2_w 392, 3, 1, 0, 4, 2104) := (congrArg (fun t => List.lookup 11 t) gt309).trans rfl
theorem t309_14 : zT 309 14 = some (.invokestatic 112, 3, 228, 1, 0, 1774) := (congrArg (fun t => List.lookup 14 t) gt309).trans rfl
theorem t309_17 : zT 309 17 = some (.ifCond .ne 7, 3, 24, 0, 0, 0) := (congrArg (fun t => List.lookup 17 t) gt309).trans rfl
theorem t309_20 : zT 309 20 = some (.ldc_w 353, 3, 0, 0, (-100000), 2066) := (congrArg (fun t => List.lookup 20 t) gt309).trans rfl
theorem t309_23 : zT 309 23 = some (.ireturn, 1, 0, 0, 0, 0) := (congrArg (fun t => List.lookup 23 t) gt309).trans rfl
theorem t309_24 : zT 309 24 = some (.iload_n 2, 1, 2, 0, 0, 0) := (congrArg (fun t => List.lookup 24 t) gt309).trans rfl
theorem t309_25 : zT 309 25 = some (.iconst 3, 1, 0, 0, 3, 0) := (congrArg (fun t => List.lookup 25 t) gt309).trans rfl
theorem t309_26 : zT 309 26 = some (.if_icmp .ge 18, 3, 44, 0, 0, 0) := (congrArg (fun t => List.lookup 26 t) gt309).trans rfl
theorem t309_29 : zT 309 29 = some (.aload_n 0, 1, 0, 0, 0, 0) := (congrArg (fun t => List.lookup 29 t) gt309).trans rfl
theorem t309_30 : zT 309 30 = some (.getfield 3, 3, 12, 0, 0, 1607) := (congrArg (fun t => List.lookup 30 t) gt309).trans rfl
theorem t309_33 : zT 309 33 = some (.sipush 270, 3, 0, 0, 270, 0) := (congrArg (fun t => List.lookup 33 t) gt309).trans rfl
theorem t309_36 : zT 309 36 = some (.iconst 3, 1, 0, 0, 3, 0) := (congrArg (fun t => List.lookup 36 t) gt309).trans rfl
theorem t309_37 : zT 309 37 = some (.iload_n 1, 1, 1, 0, 0, 0) := (congrArg (fun t => List.lookup 37 t) gt309).trans rfl
theorem t309_38 : zT 309 38 = some (.imul, 1, 0, 0, 0, 0) := (congrArg (fun t => List.lookup 38 t) gt309).trans rfl
theorem t309_39 : zT 309 39 = some (.iadd, 1, 0, 0, 0, 0) := (congrArg (fun t => List.lookup 39 t) gt309).trans rfl
theorem t309_40 : zT 309 40 = some (.iload_n 2, 1, 2, 0, 0, 0) := (congrArg (fun t => List.lookup 40 t) gt309).trans rfl
theorem t309_41 : zT 309 41 = some (.iadd, 1, 0, 0, 0, 0) := (congrArg (fun t => List.lookup 41 t) gt309).trans rfl
theorem t309_42 : zT 309 42 = some (.iaload, 1, 0, 0, 0, 0) := (congrArg (fun t => List.lookup 42 t) gt309).trans rfl
theorem t309_43 : zT 309 43 = some (.ireturn, 1, 0, 0, 0, 0) := (congrArg (fun t => List.lookup 43 t) gt309).trans rfl
theorem t309_44 : zT 309 44 = some (.aload_n 0, 1, 0, 0, 0, 0) := (congrArg (fun t => List.lookup 44 t) gt309).trans rfl
theorem t309_45 : zT 309 45 = some (.invokevirtual 331, 3, 268, 0, 0, 1933) := (congrArg (fun t => List.lookup 45 t) gt309).trans rfl
theorem t309_48 : zT 309 48 = some (.iload_n 2, 1, 2, 0, 0, 0) := (congrArg (fun t => List.lookup 48 t) gt309).trans rfl
theorem t309_49 : zT 309 49 = some (.iconst 3, 1, 0, 0, 3, 0) := (congrArg (fun t => List.lookup 49 t) gt309).trans rfl
theorem t309_50 : zT 309 50 = some (.if_icmp .ne 11, 3, 61, 0, 0, 0) := (congrArg (fun t => List.lookup 50 t) gt309).trans rfl
theorem t309_53 : zT 309 53 = some (.aload_n 0, 1, 0, 0, 0, 0) := (congrArg (fun t => List.lookup 53 t) gt309).trans rfl
theorem t309_54 : zT 309 54 = some (.iload_n 1, 1, 1, 0, 0, 0) := (congrArg (fun t => List.lookup 54 t) gt309).trans rfl
theorem t309_55 : zT 309 55 = some (.invokevirtual 386, 3, 311, 0, 0, 2105) := (congrArg (fun t => List.lookup 55 t) gt309).trans rfl
theorem t309_58 : zT 309 58 = some (.goto 8, 3, 66, 0, 0, 0) := (congrArg (fun t => List.lookup 58 t) gt309).trans rfl
theorem t309_61 : zT 309 61 = some (.aload_n 0, 1, 0, 0, 0, 0) := (congrArg (fun t => List.lookup 61 t) gt309).trans rfl
theorem t309_62 : zT 309 62 = some (.iload_n 1, 1, 1, 0, 0, 0) := (congrArg (fun t => List.lookup 62 t) gt309).trans rfl
theorem t309_63 : zT 309 63 = some (.invokevirtual 394, 3, 312, 0, 0, 2109) := (congrArg (fun t => List.lookup 63 t) gt309).trans rfl
theorem t309_66 : zT 309 66 = some (.ireturn, 1, 0, 0, 0, 0) := (congrArg (fun t => List.lookup 66 t) gt309).trans rfl
theorem t310_0 : zT 310 0 = some (.iload_n 1, 1, 1, 0, 0, 0) := (congrArg (fun t => List.lookup 0 t) gt310).trans rfl
theorem t310_1 : zT 310 1 = some (.i2l, 1, 0, 0, 0, 0) := (congrArg (fun t => List.lookup 1 t) gt310).trans rfl
theorem t310_2 : zT 310 2 = some (.lconst 0, 1, 0, 0, 0, 0) := (congrArg (fun t => List.lookup 2 t) gt310).trans rfl
theorem t310_3 : zT 310 3 = some (.aload_n 0, 1, 0, 0, 0, 0) := (congrArg (fun t => List.lookup 3 t) gt310).trans rfl
theorem t310_4 : zT 310 4 = some (.getfield 3, 3, 12, 0, 0, 1607) := (congrArg (fun t => List.lookup 4 t) gt310).trans rfl
theorem t310_7 : zT 310 7 = some (.iconst 2, 1, 0, 0, 2, 0) := (congrArg (fun t => List.lookup 7 t) gt310).trans rfl
theorem t310_8 : zT 310 8 = some (.iaload, 1, 0, 0, 0, 0) := (congrArg (fun t => List.lookup 8 t) gt310).trans rfl
theorem t310_9 : zT 310 9 = some (.iconst 1, 1, 0, 0, 1, 0) := (congrArg (fun t => List.lookup 9 t) gt310).trans rfl
theorem t310_10 : zT 310 10 = some (.isub, 1, 0, 0, 0, 0) := (congrArg (fun t => List.lookup 10 t) gt310).trans rfl
theorem t310_11 : zT 310 11 = some (.i2l, 1, 0, 0, 0, 0) := (congrArg (fun t => List.lookup 11 t) gt310).trans rfl
theorem t310_12 : zT 310 12 = some (.invokestatic 112, 3, 228, 1, 0, 1774) := (congrArg (fun t => List.lookup 12 t) gt310).trans rfl
theorem t310_15 : zT 310 15 = some (.ireturn, 1, 0, 0, 0, 0) := (congrArg (fun t => List.lookup 15 t) gt310).trans rfl
theorem t311_0 : zT 311 0 = some (.iconst 0, 1, 0, 0, 0, 0) := (congrArg (fun t => List.lookup 0 t) gt311).trans rfl
theorem t311_1 : zT 311 1 = some (.istore_n 2, 1, 2, 0, 0, 0) := (congrArg (fun t => List.lookup 1 t) gt311).trans rfl
theorem t311_2 : zT 311 2 = some (.iconst 0, 1, 0, 0, 0, 0) := (congrArg (fun t => List.lookup 2 t) gt311).trans rfl
theorem t311_3 : zT 311 3 = some (.istore_n 3, 1, 3, 0, 0, 0) := (congrArg (fun t => List.lookup 3 t) gt311).trans rfl
theorem t311_4 : zT 311 4 = some (.iload_n 3, 1, 3, 0, 0, 0) := (congrArg (fun t => List.lookup 4 t) gt311).trans rfl
theorem t311_5 : zT 311 5 = some (.aload_n 0, 1, 0, 0, 0, 0) := (congrArg (fun t => List.lookup 5 t) gt311).trans rfl
theorem t311_6 : zT 311 6 = some (.getfield 3, 3, 12, 0, 0, 1607) := (congrArg (fun t => List.lookup 6 t) gt311).trans rfl
theorem t311_9 : zT 311 9 = some (.iconst 1, 1, 0, 0, 1, 0) := (congrArg (fun t => List.lookup 9 t) gt311).trans rfl
theorem t311_10 : zT 311 10 = some (.iaload, 1, 0, 0, 0, 0) := (congrArg (fun t => List.lookup 10 t) gt311).trans rfl
theorem t311_11 : zT 311 11 = some (.if_icmp .ge 36, 3, 47, 0, 0, 0) := (congrArg (fun t => List.lookup 11 t) gt311).trans rfl
theorem t311_14 : zT 311 14 = some (.iload_n 2, 1, 2, 0, 0, 0) := (congrArg (fun t => List.lookup 14 t) gt311).trans rfl
theorem t311_15 : zT 311 15 = some (.aload_n 0, 1, 0, 0, 0, 0) := (congrArg (fun t => List.lookup 15 t) gt311).trans rfl
theorem t311_16 : zT 311 16 = some (.iload_n 3, 1, 3, 0, 0, 0) := (congrArg (fun t => List.lookup 16 t) gt311).trans rfl
theorem t311_17 : zT 311 17 = some (.iconst 3, 1, 0, 0, 3, 0) := (congrArg (fun t => List.lookup 17 t) gt311).trans rfl
theorem t311_18 : zT 311 18 = some (.invokevirtual 255, 3, 272, 0, 0, 1949) := (congrArg (fun t => List.lookup 18 t) gt311).trans rfl
theorem t311_21 : zT 311 21 = some (.iload_n 1, 1, 1, 0, 0, 0) := (congrArg (fun t => List.lookup 21 t) gt311).trans rfl
theorem t311_22 : zT 311 22 = some (.if_icmp .ne 16, 3, 38, 0, 0, 0) := (congrArg (fun t => List.lookup 22 t) gt311).trans rfl
theorem t311_25 : zT 311 25 = some (.aload_n 0, 1, 0, 0, 0, 0) := (congrArg (fun t => List.lookup 25 t) gt311).trans rfl
theorem t311_26 : zT 311 26 = some (.iload_n 3, 1, 3, 0, 0, 0) := (congrArg (fun t => List.lookup 26 t) gt311).trans rfl
theorem t311_27 : zT 311 27 = some (.iconst (-1), 1, 0, 0, (-1), 0) := (congrArg (fun t => List.lookup 27 t) gt311).trans rfl
theorem t311_28 : zT 311 28 = some (.invokevirtual 295, 3, 271, 0, 0, 1945) := (congrArg (fun t => List.lookup 28 t) gt311).trans rfl
theorem t311_31 : zT 311 31 = some (.ifCond .eq 7, 3, 38, 0, 0, 0) := (congrArg (fun t => List.lookup 31 t) gt311).trans rfl
theorem t311_34 : zT 311 34 = some (.iconst 1, 1, 0, 0, 1, 0) := (congrArg (fun t => List.lookup 34 t) gt311).trans rfl
theorem t311_35 : zT 311 35 = some (.goto 4, 3, 39, 0, 0, 0) := (congrArg (fun t => List.lookup 35 t) gt311).trans rfl
theorem t311_38 : zT 311 38 = some (.iconst 0, 1, 0, 0, 0, 0) := (congrArg (fun t => List.lookup 38 t) gt311).trans rfl
theorem t311_39 : zT 311 39 = some (.iadd, 1, 0, 0, 0, 0) := (congrArg (fun t => List.lookup 39 t) gt311).trans rfl
theorem t311_40 : zT 311 40 = some (.istore_n 2, 1, 2, 0, 0, 0) := (congrArg (fun t => List.lookup 40 t) gt311).trans rfl
theorem t311_41 : zT 311 41 = some (.iinc 3 1, 3, 0, 0, 0, 0) := (congrArg (fun t => List.lookup 41 t) gt311).trans rfl
theorem t311_44 : zT 311 44 = some (.goto (-40), 3, 4, 0, 0, 0) := (congrArg (fun t => List.lookup 44 t) gt311).trans rfl
theorem t311_47 : zT 311 47 = some (.iload_n 2, 1, 2, 0, 0, 0) := (congrArg (fun t => List.lookup 47 t) gt311).trans rfl
theorem t311_48 : zT 311 48 = some (.ireturn, 1, 0, 0, 0, 0) := (congrArg (fun t => List.lookup 48 t) gt311).trans rfl
theorem t312_0 : zT 312 0 = some (.bipush (-2), 2, 0, 0, (-2), 0) := (congrArg (fun t => List.lookup 0 t) gt312).trans rfl
theorem t312_2 : zT 312 2 = some (.istore_n 2, 1, 2, 0, 0, 0) := (congrArg (fun t => List.lookup 2 t) gt312).trans rfl
theorem t312_3 : zT 312 3 = some (.iconst 0, 1, 0, 0, 0, 0) := (congrArg (fun t => List.lookup 3 t) gt312).trans rfl
theorem t312_4 : zT 312 4 = some (.istore_n 3, 1, 3, 0, 0, 0) := (congrArg (fun t => List.lookup 4 t) gt312).trans rfl
theorem t312_5 : zT 312 5 = some (.iconst 0, 1, 0, 0, 0, 0) := (congrArg (fun t => List.lookup 5 t) gt312).trans rfl
theorem t312_6 : zT 312 6 = some (.istore 4, 2, 0, 0, 0, 0) := (congrArg (fun t => List.lookup 6 t) gt312).trans rfl
theorem t312_8 : zT 312 8 = some (.iload 4, 2, 0, 0, 0, 0) := (congrArg (fun t => List.lookup 8 t) gt312).trans rfl
theorem t312_10 : zT 312 10 = some (.aload_n 0, 1, 0, 0, 0, 0) := (congrArg (fun t => List.lookup 10 t) gt312).trans rfl
theorem t312_11 : zT 312 11 = some (.getfield 261, 3, 12, 22, 0, 1629) := (congrArg (fun t => List.lookup 11 t) gt312).trans rfl
theorem t312_14 : zT 312 14 = some (.if_icmp .ge 45, 3, 59, 0, 0, 0) := (congrArg (fun t => List.lookup 14 t) gt312).trans rfl
theorem t312_17 : zT 312 17 = some (.aload_n 0, 1, 0, 0, 0, 0) := (congrArg (fun t => List.lookup 17 t) gt312).trans rfl
theorem t312_18 : zT 312 18 = some (.iload 4, 2, 0, 0, 0, 0) := (congrArg (fun t => List.lookup 18 t) gt312).trans rfl
theorem t312_20 : zT 312 20 = some (.iload_n 1, 1, 1, 0, 0, 0) := (congrArg (fun t => List.lookup 20 t) gt312).trans rfl
theorem t312_21 : zT 312 21 = some (.invokevirtual 383, 3, 313, 0, 0, 2113) := (congrArg (fun t => List.lookup 21 t) gt312).trans rfl
theorem t312_24 : zT 312 24 = some (.istore 5, 2, 0, 0, 0, 0) := (congrArg (fun t => List.lookup 24 t) gt312).trans rfl
theorem t312_26 : zT 312 26 = some (.iload 5, 2, 0, 0, 0, 0) := (congrArg (fun t => List.lookup 26 t) gt312).trans rfl
theorem t312_28 : zT 312 28 = some (.iload_n 3, 1, 3, 0, 0, 0) := (congrArg (fun t => List.lookup 28 t) gt312).trans rfl
theorem t312_29 : zT 312 29 = some (.if_icmp .le 24, 3, 53, 0, 0, 0) := (congrArg (fun t => List.lookup 29 t) gt312).trans rfl
theorem t312_32 : zT 312 32 = some (.iconst 2, 1, 0, 0, 2, 0) := (congrArg (fun t => List.lookup 32 t) gt312).trans rfl
theorem t312_33 : zT 312 33 = some (.iload 5, 2, 0, 0, 0, 0) := (congrArg (fun t => List.lookup 33 t) gt312).trans rfl
theorem t312_35 : zT 312 35 = some (.imul, 1, 0, 0, 0, 0) := (congrArg (fun t => List.lookup 35 t) gt312).trans rfl
theorem t312_36 : zT 312 36 = some (.aload_n 0, 1, 0, 0, 0, 0) := (congrArg (fun t => List.lookup 36 t) gt312).trans rfl
theorem t312_37 : zT 312 37 = some (.iload_n 1, 1, 1, 0, 0, 0) := (congrArg (fun t => List.lookup 37 t) gt312).trans rfl
theorem t312_38 : zT 312 38 = some (.invokevirtual 386, 3, 311, 0, 0, 2105) := (congrArg (fun t => List.lookup 38 t) gt312).trans rfl
theorem t312_41 : zT 312 41 = some (.if_icmp .ge 6, 3, 47, 0, 0, 0) := (congrArg (fun t => List.lookup 41 t) gt312).trans rfl
theorem t312_44 : zT 312 44 = some (.goto 9, 3, 53, 0, 0, 0) := (congrArg (fun t => List.lookup 44 t) gt312).trans rfl
theorem t312_47 : zT 312 47 = some (.iload 4, 2, 0, 0, 0, 0) := (congrArg (fun t => List.lookup 47 t) gt312).trans rfl
theorem t312_49 : zT 312 49 = some (.istore_n 2, 1, 2, 0, 0, 0) := (congrArg (fun t => List.lookup 49 t) gt312).trans rfl
theorem t312_50 : zT 312 50 = some (.iload 5, 2, 0, 0, 0, 0) := (congrArg (fun t => List.lookup 50 t) gt312).trans rfl
theorem t312_52 : zT 312 52 = some (.istore_n 3, 1, 3, 0, 0, 0) := (congrArg (fun t => List.lookup 52 t) gt312).trans rfl
theorem t312_53 : zT 312 53 = some (.iinc 4 1, 3, 0, 0, 0, 0) := (congrArg (fun t => List.lookup 53 t) gt312).trans rfl
theorem t312_56 : zT 312 56 = some (.goto (-48), 3, 8, 0, 0, 0) := (congrArg (fun t => List.lookup 56 t) gt312).trans rfl
theorem t312_59 : zT 312 59 = some (.iload_n 2, 1, 2, 0, 0, 0) := (congrArg (fun t => List.lookup 59 t) gt312).trans rfl
theorem t312_60 : zT 312 60 = some (.ireturn, 1, 0, 0, 0, 0) := (congrArg (fun t => List.lookup 60 t) gt312).trans rfl
theorem t313_0 : zT 313 0 = some (.iconst 0, 1, 0, 0, 0, 0) := (congrArg (fun t => List.lookup 0 t) gt313).trans rfl
theorem t313_1 : zT 313 1 = some (.istore_n 3, 1, 3, 0, 0, 0) := (congrArg (fun t => List.lookup 1 t) gt313).trans rfl
theorem t313_2 : zT 313 2 = some (.iconst 0, 1, 0, 0, 0, 0) := (congrArg (fun t => List.lookup 2 t) gt313).trans rfl
theorem t313_3 : zT 313 3 = some (.istore 4, 2, 0, 0, 0, 0) := (congrArg (fun t => List.lookup 3 t) gt313).trans rfl
theorem t313_5 : zT 313 5 = some (.iload 4, 2, 0, 0, 0, 0) := (congrArg (fun t => List.lookup 5 t) gt313).trans rfl
theorem t313_7 : zT 313 7 = some (.aload_n 0, 1, 0, 0, 0, 0) := (congrArg (fun t => List.lookup 7 t) gt313).trans rfl
theorem t313_8 : zT 313 8 = some (.getfield 3, 3, 12, 0, 0, 1607) := (congrArg (fun t => List.lookup 8 t) gt313).trans rfl
theorem t313_11 : zT 313 11 = some (.iconst 0, 1, 0, 0, 0, 0) := (congrArg (fun t => List.lookup 11 t) gt313).trans rfl
theorem t313_12 : zT 313 12 = some (.iaload, 1, 0, 0, 0, 0) := (congrArg (fun t => List.lookup 12 t) gt313).trans rfl
theorem t313_13 : zT 313 13 = some (.if_icmp .ge 55, 3, 68, 0, 0, 0) := (congrArg (fun t => List.lookup 13 t) gt313).trans rfl
theorem t313_16 : zT 313 16 = some (.iload_n 3, 1, 3, 0, 0, 0) := (congrArg (fun t => List.lookup 16 t) gt313).trans rfl
theorem t313_17 : zT 313 17 = some (.aload_n 0, 1, 0, 0, 0, 0) := (congrArg (fun t => List.lookup 17 t) gt313).trans rfl
theorem t313_18 : zT 313 18 = some (.getfield 52, 3, 12, 27, 0, 1634) := (congrArg (fun t => List.lookup 18 t) gt313).trans rfl
theorem t313_21 : zT 313 21 = some (.bipush 8, 2, 0, 0, 8, 0) := (congrArg (fun t => List.lookup 21 t) gt313).trans rfl
theorem t313_23 : zT 313 23 = some (.iload_n 1, 1, 1, 0, 0, 0) := (congrArg (fun t => List.lookup 23 t) gt313).trans rfl
theorem t313_24 : zT 313 24 = some (.imul, 1, 0, 0, 0, 0) := (congrArg (fun t => List.lookup 24 t) gt313).trans rfl
theorem t313_25 : zT 313 25 = some (.iload 4, 2, 0, 0, 0, 0) := (congrArg (fun t => List.lookup 25 t) gt313).trans rfl
theorem t313_27 : zT 313 27 = some (.iadd, 1, 0, 0, 0, 0) := (congrArg (fun t => List.lookup 27 t) gt313).trans rfl
theorem t313_28 : zT 313 28 = some (.iaload, 1, 0, 0, 0, 0) := (congrArg (fun t => List.lookup 28 t) gt313).trans rfl
theorem t313_29 : zT 313 29 = some (.bipush (-2), 2, 0, 0, (-2), 0) := (congrArg (fun t => List.lookup 29 t) gt313).trans rfl
theorem t313_31 : zT 313 31 = some (.if_icmp .eq 28, 3, 59, 0, 0, 0) := (congrArg (fun t => List.lookup 31 t) gt313).trans rfl
theorem t313_34 : zT 313 34 = some (.aload_n 0, 1, 0, 0, 0, 0) := (congrArg (fun t => List.lookup 34 t) gt313).trans rfl
theorem t313_35 : zT 313 35 = some (.aload_n 0, 1, 0, 0, 0, 0) := (congrArg (fun t => List.lookup 35 t) gt313).trans rfl
theorem t313_36 : zT 313 36 = some (.getfield 52, 3, 12, 27, 0, 1634) := (congrArg (fun t => List.lookup 36 t) gt313).trans rfl
theorem t313_39 : zT 313 39 = some (.bipush 8, 2, 0, 0, 8, 0) := (congrArg (fun t => List.lookup 39 t) gt313).trans rfl
theorem t313_41 : zT 313 41 = some (.iload_n 1, 1, 1, 0, 0, 0) := (congrArg (fun t => List.lookup 41 t) gt313).trans rfl
theorem t313_42 : zT 313 42 = some (.imul, 1, 0, 0, 0, 0) := (congrArg (fun t => List.lookup 42 t) gt313).trans rfl
theorem t313_43 : zT 313 43 = some (.iload 4, 2, 0, 0, 0, 0) := (congrArg (fun t => List.lookup 43 t) gt313).trans rfl
theorem t313_45 : zT 313 45 = some (.iadd, 1, 0, 0, 0, 0) := (congrArg (fun t => List.lookup 45 t) gt313).trans rfl
theorem t313_46 : zT 313 46 = some (.iaload, 1, 0, 0, 0, 0) := (congrArg (fun t => List.lookup 46 t) gt313).trans rfl
theorem t313_47 : zT 313 47 = some (.iconst 3, 1, 0, 0, 3, 0) := (congrArg (fun t => List.lookup 47 t) gt313).trans rfl
theorem t313_48 : zT 313 48 = some (.invokevirtual 255, 3, 272, 0, 0, 1949) := (congrArg (fun t => List.lookup 48 t) gt313).trans rfl
theorem t313_51 : zT 313 51 = some (.iload_n 2, 1, 2, 0, 0, 0) := (congrArg (fun t => List.lookup 51 t) gt313).trans rfl
theorem t313_52 : zT 313 52 = some (.if_icmp .ne 7, 3, 59, 0, 0, 0) := (congrArg (fun t => List.lookup 52 t) gt313).trans rfl
theorem t313_55 : zT 313 55 = some (.iconst 1, 1, 0, 0, 1, 0) := (congrArg (fun t => List.lookup 55 t) gt313).trans rfl
theorem t313_56 : zT 313 56 = some (.goto 4, 3, 60, 0, 0, 0) := (congrArg (fun t => List.lookup 56 t) gt313).trans rfl
theorem t313_59 : zT 313 59 = some (.iconst 0, 1, 0, 0, 0, 0) := (congrArg (fun t => List.lookup 59 t) gt313).trans rfl
theorem t313_60 : zT 313 60 = some (.iadd, 1, 0, 0, 0, 0) := (congrArg (fun t => List.lookup 60 t) gt313).trans rfl
theorem t313_61 : zT 313 61 = some (.istore_n 3, 1, 3, 0, 0, 0) := (congrArg (fun t => List.lookup 61 t) gt313).trans rfl
theorem t313_62 : zT 313 62 = some (.iinc 4 1, 3, 0, 0, 0, 0) := (congrArg (fun t => List.lookup 62 t) gt313).trans rfl
theorem t313_65 : zT 313 65 = some (.goto (-60), 3, 5, 0, 0, 0) := (congrArg (fun t => List.lookup 65 t) gt313).trans rfl
theorem t313_68 : zT 313 68 = some (.iload_n 3, 1, 3, 0, 0, 0) := (congrArg (fun t => List.lookup 68 t) gt313).trans rfl
theorem t313_69 : zT 313 69 = some (.ireturn, 1, 0, 0, 0, 0) := (congrArg (fun t => List.lookup 69 t) gt313).trans rfl
theorem t314_0 : zT 314 0 = some (.aload_n 0, 1, 0, 0, 0, 0) := (congrArg (fun t => List.lookup 0 t) gt314).trans rfl
theorem t314_1 : zT 314 1 = some (.iload_n 1, 1, 1, 0, 0, 0) := (congrArg (fun t => List.lookup 1 t) gt314).trans rfl
theorem t314_2 : zT 314 2 = some (.invokevirtual 377, 3, 306, 0, 0, 2084) := (congrArg (fun t => List.lookup 2 t) gt314).trans rfl
theorem t314_5 : zT 314 5 = some (.ifCond .eq 41, 3, 46, 0, 0, 0) := (congrArg (fun t => List.lookup 5 t) gt314).trans rfl
theorem t314_8 : zT 314 8 = some (.iload_n 2, 1, 2, 0, 0, 0) := (congrArg (fun t => List.lookup 8 t) gt314).trans rfl
theorem t314_9 : zT 314 9 = some (.i2l, 1, 0, 0, 0, 0) := (congrArg (fun t => List.lookup 9 t) gt314).trans rfl
theorem t314_10 : zT 314 10 = some (.ldc2_w 397, 3, 1, 0, (-99), 2121) := (congrArg (fun t => List.lookup 10 t) gt314).trans rfl
theorem t314_13 : zT 314 13 = some (.ldc2_w 399, 3, 1, 0, 99, 2122) := (congrArg (fun t => List.lookup 13 t) gt314).trans rfl
theorem t314_16 : zT 314 16 = some (.invokestatic 112, 3, 228, 1, 0, 1774) := (congrArg (fun t => List.lookup 16 t) gt314).trans rfl
theorem t314_19 : zT 314 19 = some (.ifCond .eq 27, 3, 46, 0, 0, 0) := (congrArg (fun t => List.lookup 19 t) gt314).trans rfl
theorem t314_22 : zT 314 22 = some (.iload_n 3, 1, 3, 0, 0, 0) := (congrArg (fun t => List.lookup 22 t) gt314).trans rfl
theorem t314_23 : zT 314 23 = some (.i2l, 1, 0, 0, 0, 0) := (congrArg (fun t => List.lookup 23 t) gt314).trans rfl
theorem t314_24 : zT 314 24 = some (.ldc2_w 397, 3, 1, 0, (-99), 2121) := (congrArg (fun t => List.lookup 24 t) gt314).trans rfl
theorem t314_27 : zT 314 27 = some (.ldc2_w 399, 3, 1, 0, 99, 2122) := (congrArg (fun t => List.lookup 27 t) gt314).trans rfl
theorem t314_30 : zT 314 30 = some (.invokestatic 112, 3, 228, 1, 0, 1774) := (congrArg (fun t => List.lookup 30 t) gt314).trans rfl
theorem t314_33 : zT 314 33 = some (.ifCond .eq 13, 3, 46, 0, 0, 0) := (congrArg (fun t => List.lookup 33 t) gt314).trans rfl
theorem t314_36 : zT 314 36 = some (.aload_n 0, 1, 0, 0, 0, 0) := (congrArg (fun t => List.lookup 36 t) gt314).trans rfl
theorem t314_37 : zT 314 37 = some (.iload_n 1, 1, 1, 0, 0, 0) := (congrArg (fun t => List.lookup 37 t) gt314).trans rfl
theorem t314_38 : zT 314 38 = some (.iload_n 2, 1, 2, 0, 0, 0) := (congrArg (fun t => List.lookup 38 t) gt314).trans rfl
theorem t314_39 : zT 314 39 = some (.iload_n 3, 1, 3, 0, 0, 0) := (congrArg (fun t => List.lookup 39 t) gt314).trans rfl
theorem t314_40 : zT 314 40 = some (.invokevirtual 173, 3, 249, 0, 0, 1856) := (congrArg (fun t => List.lookup 40 t) gt314).trans rfl
theorem t314_43 : zT 314 43 = some (.goto 6, 3, 49, 0, 0, 0) := (congrArg (fun t => List.lookup 43 t) gt314).trans rfl
theorem t314_46 : zT 314 46 = some (.ldc_w 353, 3, 0, 0, (-100000), 2066) := (congrArg (fun t => List.lookup 46 t) gt314).trans rfl
theorem t314_49 : zT 314 49 = some (.ireturn, 1, 0, 0, 0, 0) := (congrArg (fun t => List.lookup 49 t) gt314).trans rfl
theorem t315_0 : zT 315 0 = some (.iload_n 1, 1, 1, 0, 0, 0) := (congrArg (fun t => List.lookup 0 t) gt315).trans rfl
theorem t315_1 : zT 315 1 = some (.i2l, 1, 0, 0, 0, 0) := (congrArg (fun t => List.lookup 1 t) gt315).trans rfl
theorem t315_2 : zT 315 2 = some (.aload_n 0, 1, 0, 0, 0, 0) := (congrArg (fun t => List.lookup 2 t) gt315).trans rfl
theorem t315_3 : zT 315 3 = some (.getfield 3, 3, 12, 0, 0, 1607) := (congrArg (fun t => List.lookup 3 t) gt315).trans rfl
theorem t315_6 : zT 315 6 = some (.iconst 5, 1, 0, 0, 5, 0) := (congrArg (fun t => List.lookup 6 t) gt315).trans rfl
theorem t315_7 : zT 315 7 = some (.iaload, 1, 0, 0, 0, 0) := (congrArg (fun t => List.lookup 7 t) gt315).trans rfl
theorem t315_8 : zT 315 8 = some (.ineg, 1, 0, 0, 0, 0) := (congrArg (fun t => List.lookup 8 t) gt315).trans rfl
theorem t315_9 : zT 315 9 = some (.i2l, 1, 0, 0, 0, 0) := (congrArg (fun t => List.lookup 9 t) gt315).trans rfl
theorem t315_10 : zT 315 10 = some (.aload_n 0, 1, 0, 0, 0, 0) := (congrArg (fun t => List.lookup 10 t) gt315).trans rfl
theorem t315_11 : zT 315 11 = some (.getfield 3, 3, 12, 0, 0, 1607) := (congrArg (fun t => List.lookup 11 t) gt315).trans rfl
theorem t315_14 : zT 315 14 = some (.iconst 5, 1, 0, 0, 5, 0) := (congrArg (fun t => List.lookup 14 t) gt315).trans rfl
theorem t315_15 : zT 315 15 = some (.iaload, 1, 0, 0, 0, 0) := (congrArg (fun t => List.lookup 15 t) gt315).trans rfl
theorem t315_16 : zT 315 16 = some (.i2l, 1, 0, 0, 0, 0) := (congrArg (fun t => List.lookup 16 t) gt315).trans rfl
theorem t315_17 : zT 315 17 = some (.invokestatic 112, 3, 228, 1, 0, 1774) := (congrArg (fun t => List.lookup 17 t) gt315).trans rfl
theorem t315_20 : zT 315 20 = some (.ifCond .eq 28, 3, 48, 0, 0, 0) := (congrArg (fun t => List.lookup 20 t) gt315).trans rfl
theorem t315_23 : zT 315 23 = some (.iload_n 2, 1, 2, 0, 0, 0) := (congrArg (fun t => List.lookup 23 t) gt315).trans rfl
theorem t315_24 : zT 315 24 = some (.i2l, 1, 0, 0, 0, 0) := (congrArg (fun t => List.lookup 24 t) gt315).trans rfl
theorem t315_25 : zT 315 25 = some (.aload_n 0, 1, 0, 0, 0, 0) := (congrArg (fun t => List.lookup 25 t) gt315).trans rfl
theorem t315_26 : zT 315 26 = some (.getfield 3, 3, 12, 0, 0, 1607) := (congrArg (fun t => List.lookup 26 t) gt315).trans rfl
theorem t315_29 : zT 315 29 = some (.bipush 6, 2, 0, 0, 6, 0) := (congrArg (fun t => List.lookup 29 t) gt315).trans rfl
theorem t315_31 : zT 315 31 = some (.iaload, 1, 0, 0, 0, 0) := (congrArg (fun t => List.lookup 31 t) gt315).trans rfl
theorem t315_32 : zT 315 32 = some (.ineg, 1, 0, 0, 0, 0) := (congrArg (fun t => List.lookup 32 t) gt315).trans rfl
theorem t315_33 : zT 315 33 = some (.i2l, 1, 0, 0, 0, 0) := (congrArg (fun t => List.lookup 33 t) gt315).trans rfl
theorem t315_34 : zT 315 34 = some (.aload_n 0, 1, 0, 0, 0, 0) := (congrArg (fun t => List.lookup 34 t) gt315).trans rfl
theorem t315_35 : zT 315 35 = some (.getfield 3, 3, 12, 0, 0, 1607) := (congrArg (fun t => List.lookup 35 t) gt315).trans rfl
theorem t315_38 : zT 315 38 = some (.bipush 6, 2, 0, 0, 6, 0) := (congrArg (fun t => List.lookup 38 t) gt315).trans rfl
theorem t315_40 : zT 315 40 = some (.iaload, 1, 0, 0, 0, 0) := (congrArg (fun t => List.lookup 40 t) gt315).trans rfl
theorem t315_41 : zT 315 41 = some (.i2l, 1, 0, 0, 0, 0) := (congrArg (fun t => List.lookup 41 t) gt315).trans rfl
theorem t315_42 : zT 315 42 = some (.invokestatic 112, 3, 228, 1, 0, 1774) := (congrArg (fun t => List.lookup 42 t) gt315).trans rfl
theorem t315_45 : zT 315 45 = some (.ifCond .ne 5, 3, 50, 0, 0, 0) := (congrArg (fun t => List.lookup 45 t) gt315).trans rfl
theorem t315_48 : zT 315 48 = some (.iconst (-1), 1, 0, 0, (-1), 0) := (congrArg (fun t => List.lookup 48 t) gt315).trans rfl
theorem t315_49 : zT 315 49 = some (.ireturn, 1, 0, 0, 0, 0) := (congrArg (fun t => List.lookup 49 t) gt315).trans rfl
theorem t315_50 : zT 315 50 = some (.iconst 0, 1, 0, 0, 0, 0) := (congrArg (fun t => List.lookup 50 t) gt315).trans rfl
theorem t315_51 : zT 315 51 = some (.istore 4, 2, 0, 0, 0, 0) := (congrArg (fun t => List.lookup 51 t) gt315).trans rfl
theorem t315_53 : zT 315 53 = some (.iconst 0, 1, 0, 0, 0, 0) := (congrArg (fun t => List.lookup 53 t) gt315).trans rfl
theorem t315_54 : zT 315 54 = some (.istore 5, 2, 0, 0, 0, 0) := (congrArg (fun t => List.lookup 54 t) gt315).trans rfl
theorem t315_56 : zT 315 56 = some (.iload 5, 2, 0, 0, 0, 0) := (congrArg (fun t => List.lookup 56 t) gt315).trans rfl
theorem t315_58 : zT 315 58 = some (.aload_n 0, 1, 0, 0, 0, 0) := (congrArg (fun t => List.lookup 58 t) gt315).trans rfl
theorem t315_59 : zT 315 59 = some (.getfield 3, 3, 12, 0, 0, 1607) := (congrArg (fun t => List.lookup 59 t) gt315).trans rfl
theorem t315_62 : zT 315 62 = some (.iconst 1, 1, 0, 0, 1, 0) := (congrArg (fun t => List.lookup 62 t) gt315).trans rfl
theorem t315_63 : zT 315 63 = some (.iaload, 1, 0, 0, 0, 0) := (congrArg (fun t => List.lookup 63 t) gt315).trans rfl
theorem t315_64 : zT 315 64 = some (.if_icmp .ge 69, 3, 133, 0, 0, 0) := (congrArg (fun t => List.lookup 64 t) gt315).trans rfl
theorem t315_67 : zT 315 67 = some (.aload_n 0, 1, 0, 0, 0, 0) := (congrArg (fun t => List.lookup 67 t) gt315).trans rfl
theorem t315_68 : zT 315 68 = some (.iload 5, 2, 0, 0, 0, 0) := (congrArg (fun t => List.lookup 68 t) gt315).trans rfl
theorem t315_70 : zT 315 70 = some (.iconst 0, 1, 0, 0, 0, 0) := (congrArg (fun t => List.lookup 70 t) gt315).trans rfl
theorem t315_71 : zT 315 71 = some (.invokevirtual 255, 3, 272, 0, 0, 1949) := (congrArg (fun t => List.lookup 71 t) gt315).trans rfl
theorem t315_74 : zT 315 74 = some (.istore 6, 2, 0, 0, 0, 0) := (congrArg (fun t => List.lookup 74 t) gt315).trans rfl
theorem t315_76 : zT 315 76 = some (.aload_n 0, 1, 0, 0, 0, 0) := (congrArg (fun t => List.lookup 76 t) gt315).trans rfl
theorem t315_77 : zT 315 77 = some (.iload 5, 2, 0, 0, 0, 0) := (congrArg (fun t => List.lookup 77 t) gt315).trans rfl
theorem t315_79 : zT 315 79 = some (.iconst (-1), 1, 0, 0, (-1), 0) := (congrArg (fun t => List.lookup 79 t) gt315).trans rfl
theorem t315_80 : zT 315 80 = some (.invokevirtual 295, 3, 271, 0, 0, 1945) := (congrArg (fun t => List.lookup 80 t) gt315).trans rfl
theorem t315_83 : zT 315 83 = some (.ifCond .eq 44, 3, 127, 0, 0, 0) := (congrArg (fun t => List.lookup 83 t) gt315).trans rfl
theorem t315_86 : zT 315 86 = some (.aload_n 0, 1, 0, 0, 0, 0) := (congrArg (fun t => List.lookup 86 t) gt315).trans rfl
theorem t315_87 : zT 315 87 = some (.iload 5, 2, 0, 0, 0, 0) := (congrArg (fun t => List.lookup 87 t) gt315).trans rfl
theorem t315_89 : zT 315 89 = some (.iconst 1, 1, 0, 0, 1, 0) := (congrArg (fun t => List.lookup 89 t) gt315).trans rfl
theorem t315_90 : zT 315 90 = some (.invokevirtual 255, 3, 272, 0, 0, 1949) := (congrArg (fun t => List.lookup 90 t) gt315).trans rfl
theorem t315_93 : zT 315 93 = some (.aload_n 0, 1, 0, 0, 0, 0) := (congrArg (fun t => List.lookup 93 t) gt315).trans rfl
theorem t315_94 : zT 315 94 = some (.iload 6, 2, 0, 0, 0, 0) := (congrArg (fun t => List.lookup 94 t) gt315).trans rfl
theorem t315_96 : zT 315 96 = some (.iload_n 2, 1, 2, 0, 0, 0) := (congrArg (fun t => List.lookup 96 t) gt315).trans rfl
theorem t315_97 : zT 315 97 = some (.iload_n 1, 1, 1, 0, 0, 0) := (congrArg (fun t => List.lookup 97 t) gt315).trans rfl
theorem t315_98 : zT 315 98 = some (.invokevirtual 173, 3, 249, 0, 0, 1856) := (congrArg (fun t => List.lookup 98 t) gt315).trans rfl
theorem t315_101 : zT 315 101 = some (.isub, 1, 0, 0, 0, 0) := (congrArg (fun t => List.lookup 101 t) gt315).trans rfl
theorem t315_102 : zT 315 102 = some (.i2l, 1, 0, 0, 0, 0) := (congrArg (fun t => List.lookup 102 t) gt315).trans rfl
theorem t315_103 : zT 315 103 = some (.aload_n 0, 1, 0, 0, 0, 0) := (congrArg (fun t => List.lookup 103 t) gt315).trans rfl
theorem t315_104 : zT 315 104 = some (.getfield 3, 3, 12, 0, 0, 1607) := (congrArg (fun t => List.lookup 104 t) gt315).trans rfl
theorem t315_107 : zT 315 107 = some (.bipush 7, 2, 0, 0, 7, 0) := (congrArg (fun t => List.lookup 107 t) gt315).trans rfl
theorem t315_109 : zT 315 109 = some (.iaload, 1, 0, 0, 0, 0) := (congrArg (fun t => List.lookup 109 t) gt315).trans rfl
theorem t315_110 : zT 315 110 = some (.i2l, 1, 0, 0, 0, 0) := (congrArg (fun t => List.lookup 110 t) gt315).trans rfl
theorem t315_111 : zT 315 111 = some (.invokestatic 160, 3, 250, 1, 0, 1861) := (congrArg (fun t => List.lookup 111 t) gt315).trans rfl
theorem t315_114 : zT 315 114 = some (.iload_n 3, 1, 3, 0, 0, 0) := (congrArg (fun t => List.lookup 114 t) gt315).trans rfl
theorem t315_115 : zT 315 115 = some (.if_icmp .ne 12, 3, 127, 0, 0, 0) := (congrArg (fun t => List.lookup 115 t) gt315).trans (by decide +kernel)
theorem t315_118 : zT 315 118 = some (.iload 4, 2, 0, 0, 0, 0) := (congrArg (fun t => List.lookup 118 t) gt315).trans (by decide +kernel)
theorem t315_120 : zT 315 120 = some (.iconst 1, 1, 0, 0, 1, 0) := (congrArg (fun t => List.lookup 120 t) gt315).trans (by decide +kernel)
theorem t315_121 : zT 315 121 = some (.iload 6, 2, 0, 0, 0, 0) := (congrArg (fun t => List.lookup 121 t) gt315).trans (by decide +kernel)
theorem t315_123 : zT 315 123 = some (.ishl, 1, 0, 0, 0, 0) := (congrArg (fun t => List.lookup 123 t) gt315).trans (by decide +kernel)
theorem t315_124 : zT 315 124 = some (.ior, 1, 0, 0, 0, 0) := (congrArg (fun t => List.lookup 124 t) gt315).trans (by decide +kernel)
theorem t315_125 : zT 315 125 = some (.istore 4, 2, 0, 0, 0, 0) := (congrArg (fun t => List.lookup 125 t) gt315).trans (by decide +kernel)
theorem t315_127 : zT 315 127 = some (.iinc 5 1, 3, 0, 0, 0, 0) := (congrArg (fun t => List.lookup 127 t) gt315).trans (by decide +kernel)
theorem t315_130 : zT 315 130 = some (.goto (-74), 3, 56, 0, 0, 0) := (congrArg (fun t => List.lookup 130 t) gt315).trans (by decide +kernel)
theorem t315_133 : zT 315 133 = some (.iload 4, 2, 0, 0, 0, 0) := (congrArg (fun t => List.lookup 133 t) gt315).trans (by decide +kernel)
theorem t315_135 : zT 315 135 = some (.invokestatic 264, 3, 278, 1, 0, 1973) := (congrArg (fun t => List.lookup 135 t) gt315).trans (by decide +kernel)
theorem t315_138 : zT 315 138 = some (.ireturn, 1, 0, 0, 0, 0) := (congrArg (fun t => List.lookup 138 t) gt315).trans (by decide +kernel)
theorem t316_0 : zT 316 0 = some (.iload_n 1, 1, 1, 0, 0, 0) := (congrArg (fun t => List.lookup 0 t) gt316).trans rfl
theorem t316_1 : zT 316 1 = some (.tableswitch 77 0 5 #[39, 45, 51, 57, 64, 70], 39, 0, 0, 0, 0) := (congrArg (fun t => List.lookup 1 t) gt316).trans rfl
theorem t316_40 : zT 316 40 = some (.aload_n 0, 1, 0, 0, 0, 0) := (congrArg (fun t => List.lookup 40 t) gt316).trans rfl
theorem t316_41 : zT 316 41 = some (.iconst 0, 1, 0, 0, 0, 0) := (congrArg (fun t => List.lookup 41 t) gt316).trans rfl
theorem t316_42 : zT 316 42 = some (.invokevirtual 249, 3, 267, 0, 0, 1929) := (congrArg (fun t => List.lookup 42 t) gt316).trans rfl
theorem t316_45 : zT 316 45 = some (.ireturn, 1, 0, 0, 0, 0) := (congrArg (fun t => List.lookup 45 t) gt316).trans rfl
theorem t316_46 : zT 316 46 = some (.aload_n 0, 1, 0, 0, 0, 0) := (congrArg (fun t => List.lookup 46 t) gt316).trans rfl
theorem t316_47 : zT 316 47 = some (.iconst 3, 1, 0, 0, 3, 0) := (congrArg (fun t => List.lookup 47 t) gt316).trans rfl
theorem t316_48 : zT 316 48 = some (.invokevirtual 249, 3, 267, 0, 0, 1929) := (congrArg (fun t => List.lookup 48 t) gt316).trans rfl
theorem t316_51 : zT 316 51 = some (.ireturn, 1, 0, 0, 0, 0) := (congrArg (fun t => List.lookup 51 t) gt316).trans rfl
theorem t316_52 : zT 316 52 = some (.aload_n 0, 1, 0, 0, 0, 0) := (congrArg (fun t => List.lookup 52 t) gt316).trans rfl
theorem t316_53 : zT 316 53 = some (.iconst 2, 1, 0, 0, 2, 0) := (congrArg (fun t => List.lookup 53 t) gt316).trans rfl
theorem t316_54 : zT 316 54 = some (.invokevirtual 249, 3, 267, 0, 0, 1929) := (congrArg (fun t => List.lookup 54 t) gt316).trans rfl
theorem t316_57 : zT 316 57 = some (.ireturn, 1, 0, 0, 0, 0) := (congrArg (fun t => List.lookup 57 t) gt316).trans rfl
theorem t316_58 : zT 316 58 = some (.aload_n 0, 1, 0, 0, 0, 0) := (congrArg (fun t => List.lookup 58 t) gt316).trans rfl
theorem t316_59 : zT 316 59 = some (.bipush 6, 2, 0, 0, 6, 0) := (congrArg (fun t => List.lookup 59 t) gt316).trans rfl
theorem t316_61 : zT 316 61 = some (.invokevirtual 249, 3, 267, 0, 0, 1929) := (congrArg (fun t => List.lookup 61 t) gt316).trans rfl
theorem t316_64 : zT 316 64 = some (.ireturn, 1, 0, 0, 0, 0) := (congrArg (fun t => List.lookup 64 t) gt316).trans rfl
theorem t316_65 : zT 316 65 = some (.aload_n 0, 1, 0, 0, 0, 0) := (congrArg (fun t => List.lookup 65 t) gt316).trans rfl
theorem t316_66 : zT 316 66 = some (.iconst 4, 1, 0, 0, 4, 0) := (congrArg (fun t => List.lookup 66 t) gt316).trans rfl
theorem t316_67 : zT 316 67 = some (.invokevirtual 249, 3, 267, 0, 0, 1929) := (congrArg (fun t => List.lookup 67 t) gt316).trans rfl
theorem t316_70 : zT 316 70 = some (.ireturn, 1, 0, 0, 0, 0) := (congrArg (fun t => List.lookup 70 t) gt316).trans rfl
theorem t316_71 : zT 316 71 = some (.aload_n 0, 1, 0, 0, 0, 0) := (congrArg (fun t => List.lookup 71 t) gt316).trans rfl
theorem t316_72 : zT 316 72 = some (.bipush 7, 2, 0, 0, 7, 0) := (congrArg (fun t => List.lookup 72 t) gt316).trans rfl
theorem t316_74 : zT 316 74 = some (.invokevirtual 249, 3, 267, 0, 0, 1929) := (congrArg (fun t => List.lookup 74 t) gt316).trans rfl
theorem t316_77 : zT 316 77 = some (.ireturn, 1, 0, 0, 0, 0) := (congrArg (fun t => List.lookup 77 t) gt316).trans rfl
theorem t316_78 : zT 316 78 = some (.iconst (-1), 1, 0, 0, (-1), 0) := (congrArg (fun t => List.lookup 78 t) gt316).trans rfl
theorem t316_79 : zT 316 79 = some (.ireturn, 1, 0, 0, 0, 0) := (congrArg (fun t => List.lookup 79 t) gt316).trans rfl
theorem t317_0 : zT 317 0 = some (.aload_n 0, 1, 0, 0, 0, 0) := (congrArg (fun t => List.lookup 0 t) gt317).trans rfl
theorem t317_1 : zT 317 1 = some (.invokevirtual 331, 3, 268, 0, 0, 1933) := (congrArg (fun t => List.lookup 1 t) gt317).trans rfl
theorem t317_4 : zT 317 4 = some (.aload_n 0, 1, 0, 0, 0, 0) := (congrArg (fun t => List.lookup 4 t) gt317).trans rfl
theorem t317_5 : zT 317 5 = some (.iload_n 1, 1, 1, 0, 0, 0) := (congrArg (fun t => List.lookup 5 t) gt317).trans rfl
theorem t317_6 : zT 317 6 = some (.invokevirtual 334, 3, 297, 0, 0, 2045) := (congrArg (fun t => List.lookup 6 t) gt317).trans rfl
theorem t317_9 : zT 317 9 = some (.ifCond .ne 7, 3, 16, 0, 0, 0) := (congrArg (fun t => List.lookup 9 t) gt317).trans rfl
theorem t317_12 : zT 317 12 = some (.ldc_w 353, 3, 0, 0, (-100000), 2066) := (congrArg (fun t => List.lookup 12 t) gt317).trans rfl
theorem t317_15 : zT 317 15 = some (.ireturn, 1, 0, 0, 0, 0) := (congrArg (fun t => List.lookup 15 t) gt317).trans rfl
theorem t317_16 : zT 317 16 = some (.iload_n 2, 1, 2, 0, 0, 0) := (congrArg (fun t => List.lookup 16 t) gt317).trans rfl
theorem t317_17 : zT 317 17 = some (.tableswitch 111 0 8 #[51, 58, 65, 72, 78, 85, 91, 97, 104], 51, 0, 0, 0, 0) := (congrArg (fun t => List.lookup 17 t) gt317).trans rfl
theorem t317_68 : zT 317 68 = some (.aload_n 0, 1, 0, 0, 0, 0) := (congrArg (fun t => List.lookup 68 t) gt317).trans rfl
theorem t317_69 : zT 317 69 = some (.getfield 40, 3, 12, 23, 0, 1630) := (congrArg (fun t => List.lookup 69 t) gt317).trans rfl
theorem t317_72 : zT 317 72 = some (.iload_n 1, 1, 1, 0, 0, 0) := (congrArg (fun t => List.lookup 72 t) gt317).trans rfl
theorem t317_73 : zT 317 73 = some (.iaload, 1, 0, 0, 0, 0) := (congrArg (fun t => List.lookup 73 t) gt317).trans rfl
theorem t317_74 : zT 317 74 = some (.ireturn, 1, 0, 0, 0, 0) := (congrArg (fun t => List.lookup 74 t) gt317).trans rfl
theorem t317_75 : zT 317 75 = some (.aload_n 0, 1, 0, 0, 0, 0) := (congrArg (fun t => List.lookup 75 t) gt317).trans rfl
theorem t317_76 : zT 317 76 = some (.getfield 43, 3, 12, 24, 0, 1631) := (congrArg (fun t => List.lookup 76 t) gt317).trans rfl
theorem t317_79 : zT 317 79 = some (.iload_n 1, 1, 1, 0, 0, 0) := (congrArg (fun t => List.lookup 79 t) gt317).trans rfl
theorem t317_80 : zT 317 80 = some (.iaload, 1, 0, 0, 0, 0) := (congrArg (fun t => List.lookup 80 t) gt317).trans rfl
theorem t317_81 : zT 317 81 = some (.ireturn, 1, 0, 0, 0, 0) := (congrArg (fun t => List.lookup 81 t) gt317).trans rfl
theorem t317_82 : zT 317 82 = some (.aload_n 0, 1, 0, 0, 0, 0) := (congrArg (fun t => List.lookup 82 t) gt317).trans rfl
theorem t317_83 : zT 317 83 = some (.getfield 46, 3, 12, 25, 0, 1632) := (congrArg (fun t => List.lookup 83 t) gt317).trans rfl
theorem t317_86 : zT 317 86 = some (.iload_n 1, 1, 1, 0, 0, 0) := (congrArg (fun t => List.lookup 86 t) gt317).trans rfl
theorem t317_87 : zT 317 87 = some (.iaload, 1, 0, 0, 0, 0) := (congrArg (fun t => List.lookup 87 t) gt317).trans rfl
theorem t317_88 : zT 317 88 = some (.ireturn, 1, 0, 0, 0, 0) := (congrArg (fun t => List.lookup 88 t) gt317).trans rfl
theorem t317_89 : zT 317 89 = some (.aload_n 0, 1, 0, 0, 0, 0) := (congrArg (fun t => List.lookup 89 t) gt317).trans rfl
theorem t317_90 : zT 317 90 = some (.iload_n 1, 1, 1, 0, 0, 0) := (congrArg (fun t => List.lookup 90 t) gt317).trans rfl
theorem t317_91 : zT 317 91 = some (.invokevirtual 408, 3, 318, 0, 0, 2135) := (congrArg (fun t => List.lookup 91 t) gt317).trans rfl
theorem t317_94 : zT 317 94 = some (.ireturn, 1, 0, 0, 0, 0) := (congrArg (fun t => List.lookup 94 t) gt317).trans rfl
theorem t317_95 : zT 317 95 = some (.aload_n 0, 1, 0, 0, 0, 0) := (congrArg (fun t => List.lookup 95 t) gt317).trans rfl
theorem t317_96 : zT 317 96 = some (.getfield 71, 3, 12, 33, 0, 1640) := (congrArg (fun t => List.lookup 96 t) gt317).trans rfl
theorem t317_99 : zT 317 99 = some (.iload_n 1, 1, 1, 0, 0, 0) := (congrArg (fun t => List.lookup 99 t) gt317).trans rfl
theorem t317_100 : zT 317 100 = some (.iaload, 1, 0, 0, 0, 0) := (congrArg (fun t => List.lookup 100 t) gt317).trans rfl
theorem t317_101 : zT 317 101 = some (.ireturn, 1, 0, 0, 0, 0) := (congrArg (fun t => List.lookup 101 t) gt317).trans rfl
theorem t317_102 : zT 317 102 = some (.aload_n 0, 1, 0, 0, 0, 0) := (congrArg (fun t => List.lookup 102 t) gt317).trans rfl
theorem t317_103 : zT 317 103 = some (.iload_n 1, 1, 1, 0, 0, 0) := (congrArg (fun t => List.lookup 103 t) gt317).trans rfl
theorem t317_104 : zT 317 104 = some (.invokevirtual 347, 3, 285, 0, 0, 1999) := (congrArg (fun t => List.lookup 104 t) gt317).trans rfl
theorem t317_107 : zT 317 107 = some (.ireturn, 1, 0, 0, 0, 0) := (congrArg (fun t => List.lookup 107 t) gt317).trans rfl
theorem t317_108 : zT 317 108 = some (.aload_n 0, 1, 0, 0, 0, 0) := (congrArg (fun t => List.lookup 108 t) gt317).trans rfl
theorem t317_109 : zT 317 109 = some (.iload_n 1, 1, 1, 0, 0, 0) := (congrArg (fun t => List.lookup 109 t) gt317).trans rfl
theorem t317_110 : zT 317 110 = some (.invokevirtual 411, 3, 319, 0, 0, 2139) := (congrArg (fun t => List.lookup 110 t) gt317).trans rfl
theorem t317_113 : zT 317 113 = some (.ireturn, 1, 0, 0, 0, 0) := (congrArg (fun t => List.lookup 113 t) gt317).trans rfl
theorem t317_114 : zT 317 114 = some (.aload_n 0, 1, 0, 0, 0, 0) := (congrArg (fun t => List.lookup 114 t) gt317).trans rfl
theorem t317_115 : zT 317 115 = some (.iload_n 1, 1, 1, 0, 0, 0) := (congrArg (fun t => List.lookup 115 t) gt317).trans rfl
theorem t317_116 : zT 317 116 = some (.iconst 0, 1, 0, 0, 0, 0) := (congrArg (fun t => List.lookup 116 t) gt317).trans rfl
theorem t317_117 : zT 317 117 = some (.invokevirtual 414, 3, 320, 0, 0, 2143) := (congrArg (fun t => List.lookup 117 t) gt317).trans rfl
theorem t317_120 : zT 317 120 = some (.ireturn, 1, 0, 0, 0, 0) := (congrArg (fun t => List.lookup 120 t) gt317).trans rfl
theorem t317_121 : zT 317 121 = some (.aload_n 0, 1, 0, 0, 0, 0) := (congrArg (fun t => List.lookup 121 t) gt317).trans rfl
theorem t317_122 : zT 317 122 = some (.iload_n 1, 1, 1, 0, 0, 0) := (congrArg (fun t => List.lookup 122 t) gt317).trans rfl
theorem t317_123 : zT 317 123 = some (.iconst 1, 1, 0, 0, 1, 0) := (congrArg (fun t => List.lookup 123 t) gt317).trans rfl
theorem t317_124 : zT 317 124 = some (.invokevirtual 414, 3, 320, 0, 0, 2143) := (congrArg (fun t => List.lookup 124 t) gt317).trans rfl
theorem t317_127 : zT 317 127 = some (.ireturn, 1, 0, 0, 0, 0) := (congrArg (fun t => List.lookup 127 t) gt317).trans rfl
theorem t317_128 : zT 317 128 = some (.ldc_w 353, 3, 0, 0, (-100000), 2066) := (congrArg (fun t => List.lookup 128 t) gt317).trans rfl
theorem t317_131 : zT 317 131 = some (.ireturn, 1, 0, 0, 0, 0) := (congrArg (fun t => List.lookup 131 t) gt317).trans rfl
theorem t318_0 : zT 318 0 = some (.iconst 0, 1, 0, 0, 0, 0) := (congrArg (fun t => List.lookup 0 t) gt318).trans rfl
theorem t318_1 : zT 318 1 = some (.istore_n 2, 1, 2, 0, 0, 0) := (congrArg (fun t => List.lookup 1 t) gt318).trans rfl
theorem t318_2 : zT 318 2 = some (.iconst 0, 1, 0, 0, 0, 0) := (congrArg (fun t => List.lookup 2 t) gt318).trans rfl
theorem t318_3 : zT 318 3 = some (.istore_n 3, 1, 3, 0, 0, 0) := (congrArg (fun t => List.lookup 3 t) gt318).trans rfl
theorem t318_4 : zT 318 4 = some (.iload_n 3, 1, 3, 0, 0, 0) := (congrArg (fun t => List.lookup 4 t) gt318).trans rfl
theorem t318_5 : zT 318 5 = some (.aload_n 0, 1, 0, 0, 0, 0) := (congrArg (fun t => List.lookup 5 t) gt318).trans rfl
theorem t318_6 : zT 318 6 = some (.getfield 3, 3, 12, 0, 0, 1607) := (congrArg (fun t => List.lookup 6 t) gt318).trans rfl
theorem t318_9 : zT 318 9 = some (.iconst 0, 1, 0, 0, 0, 0) := (congrArg (fun t => List.lookup 9 t) gt318).trans rfl
theorem t318_10 : zT 318 10 = some (.iaload, 1, 0, 0, 0, 0) := (congrArg (fun t => List.lookup 10 t) gt318).trans rfl
theorem t318_11 : zT 318 11 = some (.if_icmp .ge 33, 3, 44, 0, 0, 0) := (congrArg (fun t => List.lookup 11 t) gt318).trans rfl
theorem t318_14 : zT 318 14 = some (.iload_n 2, 1, 2, 0, 0, 0) := (congrArg (fun t => List.lookup 14 t) gt318).trans rfl
theorem t318_15 : zT 318 15 = some (.aload_n 0, 1, 0, 0, 0, 0) := (congrArg (fun t => List.lookup 15 t) gt318).trans rfl
theorem t318_16 : zT 318 16 = some (.getfield 52, 3, 12, 27, 0, 1634) := (congrArg (fun t => List.lookup 16 t) gt318).trans rfl
theorem t318_19 : zT 318 19 = some (.bipush 8, 2, 0, 0, 8, 0) := (congrArg (fun t => List.lookup 19 t) gt318).trans rfl
theorem t318_21 : zT 318 21 = some (.iload_n 1, 1, 1, 0, 0, 0) := (congrArg (fun t => List.lookup 21 t) gt318).trans rfl
theorem t318_22 : zT 318 22 = some (.imul, 1, 0, 0, 0, 0) := (congrArg (fun t => List.lookup 22 t) gt318).trans rfl
theorem t318_23 : zT 318 23 = some (.iload_n 3, 1, 3, 0, 0, 0) := (congrArg (fun t => List.lookup 23 t) gt318).trans rfl
theorem t318_24 : zT 318 24 = some (.iadd, 1, 0, 0, 0, 0) := (congrArg (fun t => List.lookup 24 t) gt318).trans rfl
theorem t318_25 : zT 318 25 = some (.iaload, 1, 0, 0, 0, 0) := (congrArg (fun t => List.lookup 25 t) gt318).trans rfl
theorem t318_26 : zT 318 26 = some (.bipush (-2), 2, 0, 0, (-2), 0) := (congrArg (fun t => List.lookup 26 t) gt318).trans rfl
theorem t318_28 : zT 318 28 = some (.if_icmp .ne 7, 3, 35, 0, 0, 0) := (congrArg (fun t => List.lookup 28 t) gt318).trans rfl
theorem t318_31 : zT 318 31 = some (.iconst 0, 1, 0, 0, 0, 0) := (congrArg (fun t => List.lookup 31 t) gt318).trans rfl
theorem t318_32 : zT 318 32 = some (.goto 4, 3, 36, 0, 0, 0) := (congrArg (fun t => List.lookup 32 t) gt318).trans rfl
theorem t318_35 : zT 318 35 = some (.iconst 1, 1, 0, 0, 1, 0) := (congrArg (fun t => List.lookup 35 t) gt318).trans rfl
theorem t318_36 : zT 318 36 = some (.iadd, 1, 0, 0, 0, 0) := (congrArg (fun t => List.lookup 36 t) gt318).trans rfl
theorem t318_37 : zT 318 37 = some (.istore_n 2, 1, 2, 0, 0, 0) := (congrArg (fun t => List.lookup 37 t) gt318).trans rfl
theorem t318_38 : zT 318 38 = some (.iinc 3 1, 3, 0, 0, 0, 0) := (congrArg (fun t => List.lookup 38 t) gt318).trans rfl
theorem t318_41 : zT 318 41 = some (.goto (-37), 3, 4, 0, 0, 0) := (congrArg (fun t => List.lookup 41 t) gt318).trans rfl
theorem t318_44 : zT 318 44 = some (.iload_n 2, 1, 2, 0, 0, 0) := (congrArg (fun t => List.lookup 44 t) gt318).trans rfl
theorem t318_45 : zT 318 45 = some (.ireturn, 1, 0, 0, 0, 0) := (congrArg (fun t => List.lookup 45 t) gt318).trans rfl
theorem t319_0 : zT 319 0 = some (.lconst 0, 1, 0, 0, 0, 0) := (congrArg (fun t => List.lookup 0 t) gt319).trans rfl
theorem t319_1 : zT 319 1 = some (.lstore_n 2, 1, 2, 0, 0, 0) := (congrArg (fun t => List.lookup 1 t) gt319).trans rfl
theorem t319_2 : zT 319 2 = some (.iconst 0, 1, 0, 0, 0, 0) := (congrArg (fun t => List.lookup 2 t) gt319).trans rfl
theorem t319_3 : zT 319 3 = some (.istore 4, 2, 0, 0, 0, 0) := (congrArg (fun t => List.lookup 3 t) gt319).trans rfl
theorem t319_5 : zT 319 5 = some (.iload 4, 2, 0, 0, 0, 0) := (congrArg (fun t => List.lookup 5 t) gt319).trans rfl
theorem t319_7 : zT 319 7 = some (.aload_n 0, 1, 0, 0, 0, 0) := (congrArg (fun t => List.lookup 7 t) gt319).trans rfl
theorem t319_8 : zT 319 8 = some (.getfield 3, 3, 12, 0, 0, 1607) := (congrArg (fun t => List.lookup 8 t) gt319).trans rfl
theorem t319_11 : zT 319 11 = some (.iconst 0, 1, 0, 0, 0, 0) := (congrArg (fun t => List.lookup 11 t) gt319).trans rfl
theorem t319_12 : zT 319 12 = some (.iaload, 1, 0, 0, 0, 0) := (congrArg (fun t => List.lookup 12 t) gt319).trans rfl
theorem t319_13 : zT 319 13 = some (.if_icmp .ge 99, 3, 112, 0, 0, 0) := (congrArg (fun t => List.lookup 13 t) gt319).trans rfl
theorem t319_16 : zT 319 16 = some (.aload_n 0, 1, 0, 0, 0, 0) := (congrArg (fun t => List.lookup 16 t) gt319).trans rfl
theorem t319_17 : zT 319 17 = some (.getfield 52, 3, 12, 27, 0, 1634) := (congrArg (fun t => List.lookup 17 t) gt319).trans rfl
theorem t319_20 : zT 319 20 = some (.bipush 8, 2, 0, 0, 8, 0) := (congrArg (fun t => List.lookup 20 t) gt319).trans rfl
theorem t319_22 : zT 319 22 = some (.iload_n 1, 1, 1, 0, 0, 0) := (congrArg (fun t => List.lookup 22 t) gt319).trans rfl
theorem t319_23 : zT 319 23 = some (.imul, 1, 0, 0, 0, 0) := (congrArg (fun t => List.lookup 23 t) gt319).trans rfl
theorem t319_24 : zT 319 24 = some (.iload 4, 2, 0, 0, 0, 0) := (congrArg (fun t => List.lookup 24 t) gt319).trans rfl
theorem t319_26 : zT 319 26 = some (.iadd, 1, 0, 0, 0, 0) := (congrArg (fun t => List.lookup 26 t) gt319).trans rfl
theorem t319_27 : zT 319 27 = some (.iaload, 1, 0, 0, 0, 0) := (congrArg (fun t => List.lookup 27 t) gt319).trans rfl
theorem t319_28 : zT 319 28 = some (.bipush (-2), 2, 0, 0, (-2), 0) := (congrArg (fun t => List.lookup 28 t) gt319).trans rfl
theorem t319_30 : zT 319 30 = some (.if_icmp .ne 6, 3, 36, 0, 0, 0) := (congrArg (fun t => List.lookup 30 t) gt319).trans rfl
theorem t319_33 : zT 319 33 = some (.goto 73, 3, 106, 0, 0, 0) := (congrArg (fun t => List.lookup 33 t) gt319).trans rfl
theorem t319_36 : zT 319 36 = some (.aload_n 0, 1, 0, 0, 0, 0) := (congrArg (fun t => List.lookup 36 t) gt319).trans rfl
theorem t319_37 : zT 319 37 = some (.iload_n 1, 1, 1, 0, 0, 0) := (congrArg (fun t => List.lookup 37 t) gt319).trans rfl
theorem t319_38 : zT 319 38 = some (.iload 4, 2, 0, 0, 0, 0) := (congrArg (fun t => List.lookup 38 t) gt319).trans rfl
theorem t319_40 : zT 319 40 = some (.invokevirtual 319, 3, 283, 0, 0, 1990) := (congrArg (fun t => List.lookup 40 t) gt319).trans rfl
theorem t319_43 : zT 319 43 = some (.i2l, 1, 0, 0, 0, 0) := (congrArg (fun t => List.lookup 43 t) gt319).trans rfl
theorem t319_44 : zT 319 44 = some (.aload_n 0, 1, 0, 0, 0, 0) := (congrArg (fun t => List.lookup 44 t) gt319).trans rfl
theorem t319_45 : zT 319 45 = some (.getfield 58, 3, 12, 29, 0, 1636) := (congrArg (fun t => List.lookup 45 t) gt319).trans rfl
theorem t319_48 : zT 319 48 = some (.iload_n 1, 1, 1, 0, 0, 0) := (congrArg (fun t => List.lookup 48 t) gt319).trans rfl
theorem t319_49 : zT 319 49 = some (.laload, 1, 0, 0, 0, 0) := (congrArg (fun t => List.lookup 49 t) gt319).trans rfl
theorem t319_50 : zT 319 50 = some (.lmul, 1, 0, 0, 0, 0) := (congrArg (fun t => List.lookup 50 t) gt319).trans rfl
theorem t319_51 : zT 319 51 = some (.aload_n 0, 1, 0, 0, 0, 0) := (congrArg (fun t => List.lookup 51 t) gt319).trans rfl
theorem t319_52 : zT 319 52 = some (.getfield 62, 3, 12, 30, 0, 1637) := (congrArg (fun t => List.lookup 52 t) gt319).trans rfl
theorem t319_55 : zT 319 55 = some (.iload_n 1, 1, 1, 0, 0, 0) := (congrArg (fun t => List.lookup 55 t) gt319).trans rfl
theorem t319_56 : zT 319 56 = some (.laload, 1, 0, 0, 0, 0) := (congrArg (fun t => List.lookup 56 t) gt319).trans rfl
theorem t319_57 : zT 319 57 = some (.lsub, 1, 0, 0, 0, 0) := (congrArg (fun t => List.lookup 57 t) gt319).trans rfl
theorem t319_58 : zT 319 58 = some (.aload_n 0, 1, 0, 0, 0, 0) := (congrArg (fun t => List.lookup 58 t) gt319).trans rfl
theorem t319_59 : zT 319 59 = some (.getfield 65, 3, 12, 31, 0, 1638) := (congrArg (fun t => List.lookup 59 t) gt319).trans rfl
theorem t319_62 : zT 319 62 = some (.iload_n 1, 1, 1, 0, 0, 0) := (congrArg (fun t => List.lookup 62 t) gt319).trans rfl
theorem t319_63 : zT 319 63 = some (.laload, 1, 0, 0, 0, 0) := (congrArg (fun t => List.lookup 63 t) gt319).trans rfl
theorem t319_64 : zT 319 64 = some (.aload_n 0, 1, 0, 0, 0, 0) := (congrArg (fun t => List.lookup 64 t) gt319).trans rfl
theorem t319_65 : zT 319 65 = some (.iload 4, 2, 0, 0, 0, 0) := (congrArg (fun t => List.lookup 65 t) gt319).trans rfl
theorem t319_67 : zT 319 67 = some (.invokevirtual 154, 3, 241, 0, 0, 1825) := (congrArg (fun t => List.lookup 67 t) gt319).trans rfl
theorem t319_70 : zT 319 70 = some (.i2l, 1, 0, 0, 0, 0) := (congrArg (fun t => List.lookup 70 t) gt319).trans rfl
theorem t319_71 : zT 319 71 = some (.lmul, 1, 0, 0, 0, 0) := (congrArg (fun t => List.lookup 71 t) gt319).trans rfl
theorem t319_72 : zT 319 72 = some (.lsub, 1, 0, 0, 0, 0) := (congrArg (fun t => List.lookup 72 t) gt319).trans rfl
theorem t319_73 : zT 319 73 = some (.lstore 5, 2, 0, 0, 0, 0) := (congrArg (fun t => List.lookup 73 t) gt319).trans rfl
theorem t319_75 : zT 319 75 = some (.lload 5, 2, 0, 0, 0, 0) := (congrArg (fun t => List.lookup 75 t) gt319).trans rfl
theorem t319_77 : zT 319 77 = some (.lconst 0, 1, 0, 0, 0, 0) := (congrArg (fun t => List.lookup 77 t) gt319).trans rfl
theorem t319_78 : zT 319 78 = some (.lcmp, 1, 0, 0, 0, 0) := (congrArg (fun t => List.lookup 78 t) gt319).trans rfl
theorem t319_79 : zT 319 79 = some (.ifCond .ge 9, 3, 88, 0, 0, 0) := (congrArg (fun t => List.lookup 79 t) gt319).trans rfl
theorem t319_82 : zT 319 82 = some (.lload 5, 2, 0, 0, 0, 0) := (congrArg (fun t => List.lookup 82 t) gt319).trans rfl
theorem t319_84 : zT 319 84 = some (.lneg, 1, 0, 0, 0, 0) := (congrArg (fun t => List.lookup 84 t) gt319).trans rfl
theorem t319_85 : zT 319 85 = some (.goto 5, 3, 90, 0, 0, 0) := (congrArg (fun t => List.lookup 85 t) gt319).trans rfl
theorem t319_88 : zT 319 88 = some (.lload 5, 2, 0, 0, 0, 0) := (congrArg (fun t => List.lookup 88 t) gt319).trans rfl
theorem t319_90 : zT 319 90 = some (.lstore 5, 2, 0, 0, 0, 0) := (congrArg (fun t => List.lookup 90 t) gt319).trans rfl
theorem t319_92 : zT 319 92 = some (.lload 5, 2, 0, 0, 0, 0) := (congrArg (fun t => List.lookup 92 t) gt319).trans rfl
theorem t319_94 : zT 319 94 = some (.lload_n 2, 1, 2, 0, 0, 0) := (congrArg (fun t => List.lookup 94 t) gt319).trans rfl
theorem t319_95 : zT 319 95 = some (.lcmp, 1, 0, 0, 0, 0) := (congrArg (fun t => List.lookup 95 t) gt319).trans rfl
theorem t319_96 : zT 319 96 = some (.ifCond .le 8, 3, 104, 0, 0, 0) := (congrArg (fun t => List.lookup 96 t) gt319).trans rfl
theorem t319_99 : zT 319 99 = some (.lload 5, 2, 0, 0, 0, 0) := (congrArg (fun t => List.lookup 99 t) gt319).trans rfl
theorem t319_101 : zT 319 101 = some (.goto 4, 3, 105, 0, 0, 0) := (congrArg (fun t => List.lookup 101 t) gt319).trans rfl
theorem t319_104 : zT 319 104 = some (.lload_n 2, 1, 2, 0, 0, 0) := (congrArg (fun t => List.lookup 104 t) gt319).trans rfl
theorem t319_105 : zT 319 105 = some (.lstore_n 2, 1, 2, 0, 0, 0) := (congrArg (fun t => List.lookup 105 t) gt319).trans rfl
theorem t319_106 : zT 319 106 = some (.iinc 4 1, 3, 0, 0, 0, 0) := (congrArg (fun t => List.lookup 106 t) gt319).trans rfl
theorem t319_109 : zT 319 109 = some (.goto (-104), 3, 5, 0, 0, 0) := (congrArg (fun t => List.lookup 109 t) gt319).trans rfl
theorem t319_112 : zT 319 112 = some (.lload_n 2, 1, 2, 0, 0, 0) := (congrArg (fun t => List.lookup 112 t) gt319).trans rfl
theorem t319_113 : zT 319 113 = some (.aload_n 0, 1, 0, 0, 0, 0) := (congrArg (fun t => List.lookup 113 t) gt319).trans rfl
theorem t319_114 : zT 319 114 = some (.getfield 58, 3, 12, 29, 0, 1636) := (congrArg (fun t => List.lookup 114 t) gt319).trans rfl
theorem t319_117 : zT 319 117 = some (.iload_n 1, 1, 1, 0, 0, 0) := (congrArg (fun t => List.lookup 117 t) gt319).trans rfl
theorem t319_118 : zT 319 118 = some (.laload, 1, 0, 0, 0, 0) := (congrArg (fun t => List.lookup 118 t) gt319).trans (by decide +kernel)
theorem t319_119 : zT 319 119 = some (.ldiv, 1, 0, 0, 0, 0) := (congrArg (fun t => List.lookup 119 t) gt319).trans (by decide +kernel)
theorem t319_120 : zT 319 120 = some (.l2i, 1, 0, 0, 0, 0) := (congrArg (fun t => List.lookup 120 t) gt319).trans (by decide +kernel)
theorem t319_121 : zT 319 121 = some (.ireturn, 1, 0, 0, 0, 0) := (congrArg (fun t => List.lookup 121 t) gt319).trans (by decide +kernel)
theorem t320_0 : zT 320 0 = some (.bipush (-2), 2, 0, 0, (-2), 0) := (congrArg (fun t => List.lookup 0 t) gt320).trans rfl
theorem t320_2 : zT 320 2 = some (.istore_n 3, 1, 3, 0, 0, 0) := (congrArg (fun t => List.lookup 2 t) gt320).trans rfl
theorem t320_3 : zT 320 3 = some (.iconst 0, 1, 0, 0, 0, 0) := (congrArg (fun t => List.lookup 3 t) gt320).trans rfl
theorem t320_4 : zT 320 4 = some (.istore 4, 2, 0, 0, 0, 0) := (congrArg (fun t => List.lookup 4 t) gt320).trans rfl
theorem t320_6 : zT 320 6 = some (.iconst 0, 1, 0, 0, 0, 0) := (congrArg (fun t => List.lookup 6 t) gt320).trans rfl
theorem t320_7 : zT 320 7 = some (.istore 5, 2, 0, 0, 0, 0) := (congrArg (fun t => List.lookup 7 t) gt320).trans rfl
theorem t320_9 : zT 320 9 = some (.iload 5, 2, 0, 0, 0, 0) := (congrArg (fun t => List.lookup 9 t) gt320).trans rfl
theorem t320_11 : zT 320 11 = some (.aload_n 0, 1, 0, 0, 0, 0) := (congrArg (fun t => List.lookup 11 t) gt320).trans rfl
theorem t320_12 : zT 320 12 = some (.getfield 3, 3, 12, 0, 0, 1607) := (congrArg (fun t => List.lookup 12 t) gt320).trans rfl
theorem t320_15 : zT 320 15 = some (.iconst 2, 1, 0, 0, 2, 0) := (congrArg (fun t => List.lookup 15 t) gt320).trans rfl
theorem t320_16 : zT 320 16 = some (.iaload, 1, 0, 0, 0, 0) := (congrArg (fun t => List.lookup 16 t) gt320).trans rfl
theorem t320_17 : zT 320 17 = some (.if_icmp .ge 36, 3, 53, 0, 0, 0) := (congrArg (fun t => List.lookup 17 t) gt320).trans rfl
theorem t320_20 : zT 320 20 = some (.aload_n 0, 1, 0, 0, 0, 0) := (congrArg (fun t => List.lookup 20 t) gt320).trans rfl
theorem t320_21 : zT 320 21 = some (.iload_n 1, 1, 1, 0, 0, 0) := (congrArg (fun t => List.lookup 21 t) gt320).trans rfl
theorem t320_22 : zT 320 22 = some (.iload 5, 2, 0, 0, 0, 0) := (congrArg (fun t => List.lookup 22 t) gt320).trans rfl
theorem t320_24 : zT 320 24 = some (.invokevirtual 383, 3, 313, 0, 0, 2113) := (congrArg (fun t => List.lookup 24 t) gt320).trans rfl
theorem t320_27 : zT 320 27 = some (.iload 4, 2, 0, 0, 0, 0) := (congrArg (fun t => List.lookup 27 t) gt320).trans rfl
theorem t320_29 : zT 320 29 = some (.if_icmp .gt 6, 3, 35, 0, 0, 0) := (congrArg (fun t => List.lookup 29 t) gt320).trans rfl
theorem t320_32 : zT 320 32 = some (.goto 15, 3, 47, 0, 0, 0) := (congrArg (fun t => List.lookup 32 t) gt320).trans rfl
theorem t320_35 : zT 320 35 = some (.iload 5, 2, 0, 0, 0, 0) := (congrArg (fun t => List.lookup 35 t) gt320).trans rfl
theorem t320_37 : zT 320 37 = some (.istore_n 3, 1, 3, 0, 0, 0) := (congrArg (fun t => List.lookup 37 t) gt320).trans rfl
theorem t320_38 : zT 320 38 = some (.aload_n 0, 1, 0, 0, 0, 0) := (congrArg (fun t => List.lookup 38 t) gt320).trans rfl
theorem t320_39 : zT 320 39 = some (.iload_n 1, 1, 1, 0, 0, 0) := (congrArg (fun t => List.lookup 39 t) gt320).trans rfl
theorem t320_40 : zT 320 40 = some (.iload 5, 2, 0, 0, 0, 0) := (congrArg (fun t => List.lookup 40 t) gt320).trans rfl
theorem t320_42 : zT 320 42 = some (.invokevirtual 383, 3, 313, 0, 0, 2113) := (congrArg (fun t => List.lookup 42 t) gt320).trans rfl
theorem t320_45 : zT 320 45 = some (.istore 4, 2, 0, 0, 0, 0) := (congrArg (fun t => List.lookup 45 t) gt320).trans rfl
theorem t320_47 : zT 320 47 = some (.iinc 5 1, 3, 0, 0, 0, 0) := (congrArg (fun t => List.lookup 47 t) gt320).trans rfl
theorem t320_50 : zT 320 50 = some (.goto (-41), 3, 9, 0, 0, 0) := (congrArg (fun t => List.lookup 50 t) gt320).trans rfl
theorem t320_53 : zT 320 53 = some (.iload_n 2, 1, 2, 0, 0, 0) := (congrArg (fun t => List.lookup 53 t) gt320).trans rfl
theorem t320_54 : zT 320 54 = some (.ifCond .eq 7, 3, 61, 0, 0, 0) := (congrArg (fun t => List.lookup 54 t) gt320).trans rfl
theorem t320_57 : zT 320 57 = some (.iload_n 3, 1, 3, 0, 0, 0) := (congrArg (fun t => List.lookup 57 t) gt320).trans rfl
theorem t320_58 : zT 320 58 = some (.goto 5, 3, 63, 0, 0, 0) := (congrArg (fun t => List.lookup 58 t) gt320).trans rfl
theorem t320_61 : zT 320 61 = some (.iload 4, 2, 0, 0, 0, 0) := (congrArg (fun t => List.lookup 61 t) gt320).trans rfl
theorem t320_63 : zT 320 63 = some (.ireturn, 1, 0, 0, 0, 0) := (congrArg (fun t => List.lookup 63 t) gt320).trans rfl
theorem t321_0 : zT 321 0 = some (.aload_n 0, 1, 0, 0, 0, 0) := (congrArg (fun t => List.lookup 0 t) gt321).trans rfl
theorem t321_1 : zT 321 1 = some (.invokevirtual 331, 3, 268, 0, 0, 1933) := (congrArg (fun t => List.lookup 1 t) gt321).trans rfl
theorem t321_4 : zT 321 4 = some (.aload_n 0, 1, 0, 0, 0, 0) := (congrArg (fun t => List.lookup 4 t) gt321).trans rfl
theorem t321_5 : zT 321 5 = some (.iload_n 1, 1, 1, 0, 0, 0) := (congrArg (fun t => List.lookup 5 t) gt321).trans rfl
theorem t321_6 : zT 321 6 = some (.invokevirtual 334, 3, 297, 0, 0, 2045) := (congrArg (fun t => List.lookup 6 t) gt321).trans rfl
theorem t321_9 : zT 321 9 = some (.ifCond .eq 25, 3, 34, 0, 0, 0) := (congrArg (fun t => List.lookup 9 t) gt321).trans rfl
theorem t321_12 : zT 321 12 = some (.aload_n 0, 1, 0, 0, 0, 0) := (congrArg (fun t => List.lookup 12 t) gt321).trans rfl
theorem t321_13 : zT 321 13 = some (.iload_n 2, 1, 2, 0, 0, 0) := (congrArg (fun t => List.lookup 13 t) gt321).trans rfl
theorem t321_14 : zT 321 14 = some (.invokevirtual 377, 3, 306, 0, 0, 2084) := (congrArg (fun t => List.lookup 14 t) gt321).trans rfl
theorem t321_17 : zT 321 17 = some (.ifCond .eq 17, 3, 34, 0, 0, 0) := (congrArg (fun t => List.lookup 17 t) gt321).trans rfl
theorem t321_20 : zT 321 20 = some (.aload_n 0, 1, 0, 0, 0, 0) := (congrArg (fun t => List.lookup 20 t) gt321).trans rfl
theorem t321_21 : zT 321 21 = some (.getfield 52, 3, 12, 27, 0, 1634) := (congrArg (fun t => List.lookup 21 t) gt321).trans rfl
theorem t321_24 : zT 321 24 = some (.bipush 8, 2, 0, 0, 8, 0) := (congrArg (fun t => List.lookup 24 t) gt321).trans rfl
theorem t321_26 : zT 321 26 = some (.iload_n 1, 1, 1, 0, 0, 0) := (congrArg (fun t => List.lookup 26 t) gt321).trans rfl
theorem t321_27 : zT 321 27 = some (.imul, 1, 0, 0, 0, 0) := (congrArg (fun t => List.lookup 27 t) gt321).trans rfl
theorem t321_28 : zT 321 28 = some (.iload_n 2, 1, 2, 0, 0, 0) := (congrArg (fun t => List.lookup 28 t) gt321).trans rfl
theorem t321_29 : zT 321 29 = some (.iadd, 1, 0, 0, 0, 0) := (congrArg (fun t => List.lookup 29 t) gt321).trans rfl
theorem t321_30 : zT 321 30 = some (.iaload, 1, 0, 0, 0, 0) := (congrArg (fun t => List.lookup 30 t) gt321).trans rfl
theorem t321_31 : zT 321 31 = some (.goto 4, 3, 35, 0, 0, 0) := (congrArg (fun t => List.lookup 31 t) gt321).trans rfl
theorem t321_34 : zT 321 34 = some (.iconst (-1), 1, 0, 0, (-1), 0) := (congrArg (fun t => List.lookup 34 t) gt321).trans rfl
theorem t321_35 : zT 321 35 = some (.ireturn, 1, 0, 0, 0, 0) := (congrArg (fun t => List.lookup 35 t) gt321).trans rfl
theorem t322_0 : zT 322 0 = some (.aload_n 0, 1, 0, 0, 0, 0) := (congrArg (fun t => List.lookup 0 t) gt322).trans rfl
theorem t322_1 : zT 322 1 = some (.invokevirtual 331, 3, 268, 0, 0, 1933) := (congrArg (fun t => List.lookup 1 t) gt322).trans rfl
theorem t322_4 : zT 322 4 = some (.aload_n 0, 1, 0, 0, 0, 0) := (congrArg (fun t => List.lookup 4 t) gt322).trans rfl
theorem t322_5 : zT 322 5 = some (.iconst (-1), 1, 0, 0, (-1), 0) := (congrArg (fun t => List.lookup 5 t) gt322).trans rfl
theorem t322_6 : zT 322 6 = some (.invokevirtual 372, 3, 290, 0, 0, 2018) := (congrArg (fun t => List.lookup 6 t) gt322).trans rfl
theorem t322_9 : zT 322 9 = some (.iconst 2, 1, 0, 0, 2, 0) := (congrArg (fun t => List.lookup 9 t) gt322).trans rfl
theorem t322_10 : zT 322 10 = some (.aload_n 0, 1, 0, 0, 0, 0) := (congrArg (fun t => List.lookup 10 t) gt322).trans rfl
theorem t322_11 : zT 322 11 = some (.getfield 3, 3, 12, 0, 0, 1607) := (congrArg (fun t => List.lookup 11 t) gt322).trans rfl
theorem t322_14 : zT 322 14 = some (.iconst 5, 1, 0, 0, 5, 0) := (congrArg (fun t => List.lookup 14 t) gt322).trans rfl
theorem t322_15 : zT 322 15 = some (.iaload, 1, 0, 0, 0, 0) := (congrArg (fun t => List.lookup 15 t) gt322).trans rfl
theorem t322_16 : zT 322 16 = some (.imul, 1, 0, 0, 0, 0) := (congrArg (fun t => List.lookup 16 t) gt322).trans rfl
theorem t322_17 : zT 322 17 = some (.iconst 1, 1, 0, 0, 1, 0) := (congrArg (fun t => List.lookup 17 t) gt322).trans rfl
theorem t322_18 : zT 322 18 = some (.iadd, 1, 0, 0, 0, 0) := (congrArg (fun t => List.lookup 18 t) gt322).trans rfl
theorem t322_19 : zT 322 19 = some (.imul, 1, 0, 0, 0, 0) := (congrArg (fun t => List.lookup 19 t) gt322).trans rfl
theorem t322_20 : zT 322 20 = some (.iconst 2, 1, 0, 0, 2, 0) := (congrArg (fun t => List.lookup 20 t) gt322).trans rfl
theorem t322_21 : zT 322 21 = some (.aload_n 0, 1, 0, 0, 0, 0) := (congrArg (fun t => List.lookup 21 t) gt322).trans rfl
theorem t322_22 : zT 322 22 = some (.getfield 3, 3, 12, 0, 0, 1607) := (congrArg (fun t => List.lookup 22 t) gt322).trans rfl
theorem t322_25 : zT 322 25 = some (.bipush 6, 2, 0, 0, 6, 0) := (congrArg (fun t => List.lookup 25 t) gt322).trans rfl
theorem t322_27 : zT 322 27 = some (.iaload, 1, 0, 0, 0, 0) := (congrArg (fun t => List.lookup 27 t) gt322).trans rfl
theorem t322_28 : zT 322 28 = some (.imul, 1, 0, 0, 0, 0) := (congrArg (fun t => List.lookup 28 t) gt322).trans rfl
theorem t322_29 : zT 322 29 = some (.iconst 1, 1, 0, 0, 1, 0) := (congrArg (fun t => List.lookup 29 t) gt322).trans rfl
theorem t322_30 : zT 322 30 = some (.iadd, 1, 0, 0, 0, 0) := (congrArg (fun t => List.lookup 30 t) gt322).trans rfl
theorem t322_31 : zT 322 31 = some (.imul, 1, 0, 0, 0, 0) := (congrArg (fun t => List.lookup 31 t) gt322).trans rfl
theorem t322_32 : zT 322 32 = some (.bipush 10, 2, 0, 0, 10, 0) := (congrArg (fun t => List.lookup 32 t) gt322).trans rfl
theorem t322_34 : zT 322 34 = some (.aload_n 0, 1, 0, 0, 0, 0) := (congrArg (fun t => List.lookup 34 t) gt322).trans rfl
theorem t322_35 : zT 322 35 = some (.getfield 261, 3, 12, 22, 0, 1629) := (congrArg (fun t => List.lookup 35 t) gt322).trans rfl
theorem t322_38 : zT 322 38 = some (.imul, 1, 0, 0, 0, 0) := (congrArg (fun t => List.lookup 38 t) gt322).trans rfl
theorem t322_39 : zT 322 39 = some (.iadd, 1, 0, 0, 0, 0) := (congrArg (fun t => List.lookup 39 t) gt322).trans rfl
theorem t322_40 : zT 322 40 = some (.ireturn, 1, 0, 0, 0, 0) := (congrArg (fun t => List.lookup 40 t) gt322).trans rfl
theorem t323_0 : zT 323 0 = some (.iload_n 1, 1, 1, 0, 0, 0) := (congrArg (fun t => List.lookup 0 t) gt323).trans rfl
theorem t323_1 : zT 323 1 = some (.iload_n 2, 1, 2, 0, 0, 0) := (congrArg (fun t => List.lookup 1 t) gt323).trans rfl
theorem t323_2 : zT 323 2 = some (.iload_n 3, 1, 3, 0, 0, 0) := (congrArg (fun t => List.lookup 2 t) gt323).trans rfl
theorem t323_3 : zT 323 3 = some (.iload 4, 2, 0, 0, 0, 0) := (congrArg (fun t => List.lookup 3 t) gt323).trans rfl
theorem t323_5 : zT 323 5 = some (.invokestatic 441, 3, 324, 1, 0, 2159) := (congrArg (fun t => List.lookup 5 t) gt323).trans rfl
theorem t323_8 : zT 323 8 = some (.ifCond .eq 16, 3, 24, 0, 0, 0) := (congrArg (fun t => List.lookup 8 t) gt323).trans rfl
theorem t323_11 : zT 323 11 = some (.iload 5, 2, 0, 0, 0, 0) := (congrArg (fun t => List.lookup 11 t) gt323).trans rfl
theorem t323_13 : zT 323 13 = some (.i2l, 1, 0, 0, 0, 0) := (congrArg (fun t => List.lookup 13 t) gt323).trans rfl
theorem t323_14 : zT 323 14 = some (.lconst 0, 1, 0, 0, 0, 0) := (congrArg (fun t => List.lookup 14 t) gt323).trans rfl
theorem t323_15 : zT 323 15 = some (.ldc2_w 367, 3, 1, 0, 3, 2074) := (congrArg (fun t => List.lookup 15 t) gt323).trans rfl
theorem t323_18 : zT 323 18 = some (.invokestatic 112, 3, 228, 1, 0, 1774) := (congrArg (fun t => List.lookup 18 t) gt323).trans rfl
theorem t323_21 : zT 323 21 = some (.ifCond .ne 5, 3, 26, 0, 0, 0) := (congrArg (fun t => List.lookup 21 t) gt323).trans rfl
theorem t323_24 : zT 323 24 = some (.iconst (-1), 1, 0, 0, (-1), 0) := (congrArg (fun t => List.lookup 24 t) gt323).trans rfl
theorem t323_25 : zT 323 25 = some (.ireturn, 1, 0, 0, 0, 0) := (congrArg (fun t => List.lookup 25 t) gt323).trans rfl
theorem t323_26 : zT 323 26 = some (.aload_n 0, 1, 0, 0, 0, 0) := (congrArg (fun t => List.lookup 26 t) gt323).trans rfl
theorem t323_27 : zT 323 27 = some (.iload_n 1, 1, 1, 0, 0, 0) := (congrArg (fun t => List.lookup 27 t) gt323).trans rfl
theorem t323_28 : zT 323 28 = some (.iload_n 2, 1, 2, 0, 0, 0) := (congrArg (fun t => List.lookup 28 t) gt323).trans rfl
theorem t323_29 : zT 323 29 = some (.iload_n 3, 1, 3, 0, 0, 0) := (congrArg (fun t => List.lookup 29 t) gt323).trans rfl
theorem t323_30 : zT 323 30 = some (.iload 4, 2, 0, 0, 0, 0) := (congrArg (fun t => List.lookup 30 t) gt323).trans rfl
theorem t323_32 : zT 323 32 = some (.invokevirtual 444, 3, 325, 0, 0, 2166) := (congrArg (fun t => List.lookup 32 t) gt323).trans rfl
theorem t323_35 : zT 323 35 = some (.iload 5, 2, 0, 0, 0, 0) := (congrArg (fun t => List.lookup 35 t) gt323).trans rfl
theorem t323_37 : zT 323 37 = some (.ifCond .ne 10, 3, 47, 0, 0, 0) := (congrArg (fun t => List.lookup 37 t) gt323).trans rfl
theorem t323_40 : zT 323 40 = some (.aload_n 0, 1, 0, 0, 0, 0) := (congrArg (fun t => List.lookup 40 t) gt323).trans rfl
