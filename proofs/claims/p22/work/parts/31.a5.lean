theorem t323_41 : zT 323 41 = some (.getfield 421, 3, 12, 42, 0, 1649) := (congrArg (fun t => List.lookup 41 t) gt323).trans rfl
theorem t323_44 : zT 323 44 = some (.goto 33, 3, 77, 0, 0, 0) := (congrArg (fun t => List.lookup 44 t) gt323).trans rfl
theorem t323_47 : zT 323 47 = some (.iload 5, 2, 0, 0, 0, 0) := (congrArg (fun t => List.lookup 47 t) gt323).trans rfl
theorem t323_49 : zT 323 49 = some (.iconst 1, 1, 0, 0, 1, 0) := (congrArg (fun t => List.lookup 49 t) gt323).trans rfl
theorem t323_50 : zT 323 50 = some (.if_icmp .ne 10, 3, 60, 0, 0, 0) := (congrArg (fun t => List.lookup 50 t) gt323).trans rfl
theorem t323_53 : zT 323 53 = some (.aload_n 0, 1, 0, 0, 0, 0) := (congrArg (fun t => List.lookup 53 t) gt323).trans rfl
theorem t323_54 : zT 323 54 = some (.getfield 424, 3, 12, 43, 0, 1650) := (congrArg (fun t => List.lookup 54 t) gt323).trans rfl
theorem t323_57 : zT 323 57 = some (.goto 20, 3, 77, 0, 0, 0) := (congrArg (fun t => List.lookup 57 t) gt323).trans rfl
theorem t323_60 : zT 323 60 = some (.iload 5, 2, 0, 0, 0, 0) := (congrArg (fun t => List.lookup 60 t) gt323).trans rfl
theorem t323_62 : zT 323 62 = some (.iconst 2, 1, 0, 0, 2, 0) := (congrArg (fun t => List.lookup 62 t) gt323).trans rfl
theorem t323_63 : zT 323 63 = some (.if_icmp .ne 10, 3, 73, 0, 0, 0) := (congrArg (fun t => List.lookup 63 t) gt323).trans rfl
theorem t323_66 : zT 323 66 = some (.aload_n 0, 1, 0, 0, 0, 0) := (congrArg (fun t => List.lookup 66 t) gt323).trans rfl
theorem t323_67 : zT 323 67 = some (.getfield 427, 3, 12, 44, 0, 1651) := (congrArg (fun t => List.lookup 67 t) gt323).trans rfl
theorem t323_70 : zT 323 70 = some (.goto 7, 3, 77, 0, 0, 0) := (congrArg (fun t => List.lookup 70 t) gt323).trans rfl
theorem t323_73 : zT 323 73 = some (.aload_n 0, 1, 0, 0, 0, 0) := (congrArg (fun t => List.lookup 73 t) gt323).trans rfl
theorem t323_74 : zT 323 74 = some (.getfield 430, 3, 12, 45, 0, 1652) := (congrArg (fun t => List.lookup 74 t) gt323).trans rfl
theorem t323_77 : zT 323 77 = some (.ireturn, 1, 0, 0, 0, 0) := (congrArg (fun t => List.lookup 77 t) gt323).trans rfl
theorem t324_0 : zT 324 0 = some (.iload_n 0, 1, 0, 0, 0, 0) := (congrArg (fun t => List.lookup 0 t) gt324).trans rfl
theorem t324_1 : zT 324 1 = some (.i2l, 1, 0, 0, 0, 0) := (congrArg (fun t => List.lookup 1 t) gt324).trans rfl
theorem t324_2 : zT 324 2 = some (.lconst 1, 1, 0, 0, 1, 0) := (congrArg (fun t => List.lookup 2 t) gt324).trans rfl
theorem t324_3 : zT 324 3 = some (.ldc2_w 433, 3, 1, 0, 200, 2162) := (congrArg (fun t => List.lookup 3 t) gt324).trans rfl
theorem t324_6 : zT 324 6 = some (.invokestatic 112, 3, 228, 1, 0, 1774) := (congrArg (fun t => List.lookup 6 t) gt324).trans rfl
theorem t324_9 : zT 324 9 = some (.ifCond .eq 43, 3, 52, 0, 0, 0) := (congrArg (fun t => List.lookup 9 t) gt324).trans rfl
theorem t324_12 : zT 324 12 = some (.iload_n 1, 1, 1, 0, 0, 0) := (congrArg (fun t => List.lookup 12 t) gt324).trans rfl
theorem t324_13 : zT 324 13 = some (.i2l, 1, 0, 0, 0, 0) := (congrArg (fun t => List.lookup 13 t) gt324).trans rfl
theorem t324_14 : zT 324 14 = some (.lconst 1, 1, 0, 0, 1, 0) := (congrArg (fun t => List.lookup 14 t) gt324).trans rfl
theorem t324_15 : zT 324 15 = some (.ldc2_w 435, 3, 1, 0, 999, 2163) := (congrArg (fun t => List.lookup 15 t) gt324).trans rfl
theorem t324_18 : zT 324 18 = some (.invokestatic 112, 3, 228, 1, 0, 1774) := (congrArg (fun t => List.lookup 18 t) gt324).trans rfl
theorem t324_21 : zT 324 21 = some (.ifCond .eq 31, 3, 52, 0, 0, 0) := (congrArg (fun t => List.lookup 21 t) gt324).trans rfl
theorem t324_24 : zT 324 24 = some (.iload_n 2, 1, 2, 0, 0, 0) := (congrArg (fun t => List.lookup 24 t) gt324).trans rfl
theorem t324_25 : zT 324 25 = some (.i2l, 1, 0, 0, 0, 0) := (congrArg (fun t => List.lookup 25 t) gt324).trans rfl
theorem t324_26 : zT 324 26 = some (.lconst 1, 1, 0, 0, 1, 0) := (congrArg (fun t => List.lookup 26 t) gt324).trans rfl
theorem t324_27 : zT 324 27 = some (.ldc2_w 437, 3, 1, 0, 8, 2164) := (congrArg (fun t => List.lookup 27 t) gt324).trans rfl
theorem t324_30 : zT 324 30 = some (.invokestatic 112, 3, 228, 1, 0, 1774) := (congrArg (fun t => List.lookup 30 t) gt324).trans rfl
theorem t324_33 : zT 324 33 = some (.ifCond .eq 19, 3, 52, 0, 0, 0) := (congrArg (fun t => List.lookup 33 t) gt324).trans rfl
theorem t324_36 : zT 324 36 = some (.iload_n 3, 1, 3, 0, 0, 0) := (congrArg (fun t => List.lookup 36 t) gt324).trans rfl
theorem t324_37 : zT 324 37 = some (.i2l, 1, 0, 0, 0, 0) := (congrArg (fun t => List.lookup 37 t) gt324).trans rfl
theorem t324_38 : zT 324 38 = some (.lconst 0, 1, 0, 0, 0, 0) := (congrArg (fun t => List.lookup 38 t) gt324).trans rfl
theorem t324_39 : zT 324 39 = some (.ldc2_w 439, 3, 1, 0, 50, 2165) := (congrArg (fun t => List.lookup 39 t) gt324).trans rfl
theorem t324_42 : zT 324 42 = some (.invokestatic 112, 3, 228, 1, 0, 1774) := (congrArg (fun t => List.lookup 42 t) gt324).trans rfl
theorem t324_45 : zT 324 45 = some (.ifCond .eq 7, 3, 52, 0, 0, 0) := (congrArg (fun t => List.lookup 45 t) gt324).trans rfl
theorem t324_48 : zT 324 48 = some (.iconst 1, 1, 0, 0, 1, 0) := (congrArg (fun t => List.lookup 48 t) gt324).trans rfl
theorem t324_49 : zT 324 49 = some (.goto 4, 3, 53, 0, 0, 0) := (congrArg (fun t => List.lookup 49 t) gt324).trans rfl
theorem t324_52 : zT 324 52 = some (.iconst 0, 1, 0, 0, 0, 0) := (congrArg (fun t => List.lookup 52 t) gt324).trans rfl
theorem t324_53 : zT 324 53 = some (.ireturn, 1, 0, 0, 0, 0) := (congrArg (fun t => List.lookup 53 t) gt324).trans rfl
theorem t325_0 : zT 325 0 = some (.aload_n 0, 1, 0, 0, 0, 0) := (congrArg (fun t => List.lookup 0 t) gt325).trans (by decide +kernel)
theorem t325_1 : zT 325 1 = some (.invokevirtual 418, 3, 322, 0, 0, 2170) := (congrArg (fun t => List.lookup 1 t) gt325).trans (by decide +kernel)
theorem t325_4 : zT 325 4 = some (.aload_n 0, 1, 0, 0, 0, 0) := (congrArg (fun t => List.lookup 4 t) gt325).trans (by decide +kernel)
theorem t325_5 : zT 325 5 = some (.getfield 3, 3, 12, 0, 0, 1607) := (congrArg (fun t => List.lookup 5 t) gt325).trans (by decide +kernel)
theorem t325_8 : zT 325 8 = some (.bipush 12, 2, 0, 0, 12, 0) := (congrArg (fun t => List.lookup 8 t) gt325).trans (by decide +kernel)
theorem t325_10 : zT 325 10 = some (.iaload, 1, 0, 0, 0, 0) := (congrArg (fun t => List.lookup 10 t) gt325).trans (by decide +kernel)
theorem t325_11 : zT 325 11 = some (.iadd, 1, 0, 0, 0, 0) := (congrArg (fun t => List.lookup 11 t) gt325).trans (by decide +kernel)
theorem t325_12 : zT 325 12 = some (.iconst 1, 1, 0, 0, 1, 0) := (congrArg (fun t => List.lookup 12 t) gt325).trans (by decide +kernel)
theorem t325_13 : zT 325 13 = some (.isub, 1, 0, 0, 0, 0) := (congrArg (fun t => List.lookup 13 t) gt325).trans (by decide +kernel)
theorem t325_14 : zT 325 14 = some (.aload_n 0, 1, 0, 0, 0, 0) := (congrArg (fun t => List.lookup 14 t) gt325).trans (by decide +kernel)
theorem t325_15 : zT 325 15 = some (.getfield 3, 3, 12, 0, 0, 1607) := (congrArg (fun t => List.lookup 15 t) gt325).trans (by decide +kernel)
theorem t325_18 : zT 325 18 = some (.bipush 12, 2, 0, 0, 12, 0) := (congrArg (fun t => List.lookup 18 t) gt325).trans (by decide +kernel)
theorem t325_20 : zT 325 20 = some (.iaload, 1, 0, 0, 0, 0) := (congrArg (fun t => List.lookup 20 t) gt325).trans (by decide +kernel)
theorem t325_21 : zT 325 21 = some (.idiv, 1, 0, 0, 0, 0) := (congrArg (fun t => List.lookup 21 t) gt325).trans (by decide +kernel)
theorem t325_22 : zT 325 22 = some (.istore 5, 2, 0, 0, 0, 0) := (congrArg (fun t => List.lookup 22 t) gt325).trans (by decide +kernel)
theorem t325_24 : zT 325 24 = some (.iload 5, 2, 0, 0, 0, 0) := (congrArg (fun t => List.lookup 24 t) gt325).trans (by decide +kernel)
theorem t325_26 : zT 325 26 = some (.iconst 1, 1, 0, 0, 1, 0) := (congrArg (fun t => List.lookup 26 t) gt325).trans (by decide +kernel)
theorem t325_27 : zT 325 27 = some (.if_icmp .ge 7, 3, 34, 0, 0, 0) := (congrArg (fun t => List.lookup 27 t) gt325).trans (by decide +kernel)
theorem t325_30 : zT 325 30 = some (.iconst 1, 1, 0, 0, 1, 0) := (congrArg (fun t => List.lookup 30 t) gt325).trans (by decide +kernel)
theorem t325_31 : zT 325 31 = some (.goto 5, 3, 36, 0, 0, 0) := (congrArg (fun t => List.lookup 31 t) gt325).trans (by decide +kernel)
theorem t325_34 : zT 325 34 = some (.iload 5, 2, 0, 0, 0, 0) := (congrArg (fun t => List.lookup 34 t) gt325).trans (by decide +kernel)
theorem t325_36 : zT 325 36 = some (.istore 5, 2, 0, 0, 0, 0) := (congrArg (fun t => List.lookup 36 t) gt325).trans (by decide +kernel)
theorem t325_38 : zT 325 38 = some (.iconst 0, 1, 0, 0, 0, 0) := (congrArg (fun t => List.lookup 38 t) gt325).trans (by decide +kernel)
theorem t325_39 : zT 325 39 = some (.istore 6, 2, 0, 0, 0, 0) := (congrArg (fun t => List.lookup 39 t) gt325).trans (by decide +kernel)
theorem t325_41 : zT 325 41 = some (.iload 6, 2, 0, 0, 0, 0) := (congrArg (fun t => List.lookup 41 t) gt325).trans (by decide +kernel)
theorem t325_43 : zT 325 43 = some (.iload_n 3, 1, 3, 0, 0, 0) := (congrArg (fun t => List.lookup 43 t) gt325).trans (by decide +kernel)
theorem t325_44 : zT 325 44 = some (.if_icmp .ge 17, 3, 61, 0, 0, 0) := (congrArg (fun t => List.lookup 44 t) gt325).trans (by decide +kernel)
theorem t325_47 : zT 325 47 = some (.aload_n 0, 1, 0, 0, 0, 0) := (congrArg (fun t => List.lookup 47 t) gt325).trans (by decide +kernel)
theorem t325_48 : zT 325 48 = some (.getfield 86, 3, 12, 40, 0, 1647) := (congrArg (fun t => List.lookup 48 t) gt325).trans (by decide +kernel)
theorem t325_51 : zT 325 51 = some (.iload 6, 2, 0, 0, 0, 0) := (congrArg (fun t => List.lookup 51 t) gt325).trans (by decide +kernel)
theorem t325_53 : zT 325 53 = some (.iconst 0, 1, 0, 0, 0, 0) := (congrArg (fun t => List.lookup 53 t) gt325).trans (by decide +kernel)
theorem t325_54 : zT 325 54 = some (.iastore, 1, 0, 0, 0, 0) := (congrArg (fun t => List.lookup 54 t) gt325).trans (by decide +kernel)
theorem t325_55 : zT 325 55 = some (.iinc 6 1, 3, 0, 0, 0, 0) := (congrArg (fun t => List.lookup 55 t) gt325).trans (by decide +kernel)
theorem t325_58 : zT 325 58 = some (.goto (-17), 3, 41, 0, 0, 0) := (congrArg (fun t => List.lookup 58 t) gt325).trans (by decide +kernel)
theorem t325_61 : zT 325 61 = some (.aload_n 0, 1, 0, 0, 0, 0) := (congrArg (fun t => List.lookup 61 t) gt325).trans (by decide +kernel)
theorem t325_62 : zT 325 62 = some (.iconst 0, 1, 0, 0, 0, 0) := (congrArg (fun t => List.lookup 62 t) gt325).trans (by decide +kernel)
theorem t325_63 : zT 325 63 = some (.putfield 421, 3, 12, 42, 0, 1649) := (congrArg (fun t => List.lookup 63 t) gt325).trans (by decide +kernel)
theorem t325_66 : zT 325 66 = some (.aload_n 0, 1, 0, 0, 0, 0) := (congrArg (fun t => List.lookup 66 t) gt325).trans (by decide +kernel)
theorem t325_67 : zT 325 67 = some (.iconst 0, 1, 0, 0, 0, 0) := (congrArg (fun t => List.lookup 67 t) gt325).trans (by decide +kernel)
theorem t325_68 : zT 325 68 = some (.putfield 424, 3, 12, 43, 0, 1650) := (congrArg (fun t => List.lookup 68 t) gt325).trans (by decide +kernel)
theorem t325_71 : zT 325 71 = some (.aload_n 0, 1, 0, 0, 0, 0) := (congrArg (fun t => List.lookup 71 t) gt325).trans (by decide +kernel)
theorem t325_72 : zT 325 72 = some (.iconst 0, 1, 0, 0, 0, 0) := (congrArg (fun t => List.lookup 72 t) gt325).trans (by decide +kernel)
theorem t325_73 : zT 325 73 = some (.putfield 427, 3, 12, 44, 0, 1651) := (congrArg (fun t => List.lookup 73 t) gt325).trans (by decide +kernel)
theorem t325_76 : zT 325 76 = some (.aload_n 0, 1, 0, 0, 0, 0) := (congrArg (fun t => List.lookup 76 t) gt325).trans (by decide +kernel)
theorem t325_77 : zT 325 77 = some (.iconst 0, 1, 0, 0, 0, 0) := (congrArg (fun t => List.lookup 77 t) gt325).trans (by decide +kernel)
theorem t325_78 : zT 325 78 = some (.putfield 430, 3, 12, 45, 0, 1652) := (congrArg (fun t => List.lookup 78 t) gt325).trans (by decide +kernel)
theorem t325_81 : zT 325 81 = some (.iconst 0, 1, 0, 0, 0, 0) := (congrArg (fun t => List.lookup 81 t) gt325).trans (by decide +kernel)
theorem t325_82 : zT 325 82 = some (.istore 6, 2, 0, 0, 0, 0) := (congrArg (fun t => List.lookup 82 t) gt325).trans (by decide +kernel)
theorem t325_84 : zT 325 84 = some (.iconst 0, 1, 0, 0, 0, 0) := (congrArg (fun t => List.lookup 84 t) gt325).trans (by decide +kernel)
theorem t325_85 : zT 325 85 = some (.istore 7, 2, 0, 0, 0, 0) := (congrArg (fun t => List.lookup 85 t) gt325).trans (by decide +kernel)
theorem t325_87 : zT 325 87 = some (.iload 7, 2, 0, 0, 0, 0) := (congrArg (fun t => List.lookup 87 t) gt325).trans (by decide +kernel)
theorem t325_89 : zT 325 89 = some (.iload_n 1, 1, 1, 0, 0, 0) := (congrArg (fun t => List.lookup 89 t) gt325).trans (by decide +kernel)
theorem t325_90 : zT 325 90 = some (.if_icmp .ge 278, 3, 368, 0, 0, 0) := (congrArg (fun t => List.lookup 90 t) gt325).trans (by decide +kernel)
theorem t325_93 : zT 325 93 = some (.iload 7, 2, 0, 0, 0, 0) := (congrArg (fun t => List.lookup 93 t) gt325).trans (by decide +kernel)
theorem t325_95 : zT 325 95 = some (.iload_n 2, 1, 2, 0, 0, 0) := (congrArg (fun t => List.lookup 95 t) gt325).trans (by decide +kernel)
theorem t325_96 : zT 325 96 = some (.imul, 1, 0, 0, 0, 0) := (congrArg (fun t => List.lookup 96 t) gt325).trans (by decide +kernel)
theorem t325_97 : zT 325 97 = some (.istore 8, 2, 0, 0, 0, 0) := (congrArg (fun t => List.lookup 97 t) gt325).trans (by decide +kernel)
theorem t325_99 : zT 325 99 = some (.iconst 0, 1, 0, 0, 0, 0) := (congrArg (fun t => List.lookup 99 t) gt325).trans (by decide +kernel)
theorem t325_100 : zT 325 100 = some (.istore 9, 2, 0, 0, 0, 0) := (congrArg (fun t => List.lookup 100 t) gt325).trans (by decide +kernel)
theorem t325_102 : zT 325 102 = some (.iconst 0, 1, 0, 0, 0, 0) := (congrArg (fun t => List.lookup 102 t) gt325).trans (by decide +kernel)
theorem t325_103 : zT 325 103 = some (.istore 10, 2, 0, 0, 0, 0) := (congrArg (fun t => List.lookup 103 t) gt325).trans (by decide +kernel)
theorem t325_105 : zT 325 105 = some (.iload 10, 2, 0, 0, 0, 0) := (congrArg (fun t => List.lookup 105 t) gt325).trans (by decide +kernel)
theorem t325_107 : zT 325 107 = some (.iload 6, 2, 0, 0, 0, 0) := (congrArg (fun t => List.lookup 107 t) gt325).trans (by decide +kernel)
theorem t325_109 : zT 325 109 = some (.if_icmp .ge 31, 3, 140, 0, 0, 0) := (congrArg (fun t => List.lookup 109 t) gt325).trans (by decide +kernel)
theorem t325_112 : zT 325 112 = some (.iload 9, 2, 0, 0, 0, 0) := (congrArg (fun t => List.lookup 112 t) gt325).trans (by decide +kernel)
theorem t325_114 : zT 325 114 = some (.aload_n 0, 1, 0, 0, 0, 0) := (congrArg (fun t => List.lookup 114 t) gt325).trans (by decide +kernel)
theorem t325_115 : zT 325 115 = some (.getfield 89, 3, 12, 41, 0, 1648) := (congrArg (fun t => List.lookup 115 t) gt325).trans (by decide +kernel)
theorem t325_118 : zT 325 118 = some (.iload 10, 2, 0, 0, 0, 0) := (congrArg (fun t => List.lookup 118 t) gt325).trans (by decide +kernel)
theorem t325_120 : zT 325 120 = some (.iaload, 1, 0, 0, 0, 0) := (congrArg (fun t => List.lookup 120 t) gt325).trans (by decide +kernel)
theorem t325_121 : zT 325 121 = some (.iload 8, 2, 0, 0, 0, 0) := (congrArg (fun t => List.lookup 121 t) gt325).trans (by decide +kernel)
theorem t325_123 : zT 325 123 = some (.if_icmp .le 7, 3, 130, 0, 0, 0) := (congrArg (fun t => List.lookup 123 t) gt325).trans (by decide +kernel)
theorem t325_126 : zT 325 126 = some (.iconst 1, 1, 0, 0, 1, 0) := (congrArg (fun t => List.lookup 126 t) gt325).trans (by decide +kernel)
theorem t325_127 : zT 325 127 = some (.goto 4, 3, 131, 0, 0, 0) := (congrArg (fun t => List.lookup 127 t) gt325).trans (by decide +kernel)
theorem t325_130 : zT 325 130 = some (.iconst 0, 1, 0, 0, 0, 0) := (congrArg (fun t => List.lookup 130 t) gt325).trans (by decide +kernel)
theorem t325_131 : zT 325 131 = some (.iadd, 1, 0, 0, 0, 0) := (congrArg (fun t => List.lookup 131 t) gt325).trans (by decide +kernel)
theorem t325_132 : zT 325 132 = some (.istore 9, 2, 0, 0, 0, 0) := (congrArg (fun t => List.lookup 132 t) gt325).trans (by decide +kernel)
theorem t325_134 : zT 325 134 = some (.iinc 10 1, 3, 0, 0, 0, 0) := (congrArg (fun t => List.lookup 134 t) gt325).trans (by decide +kernel)
theorem t325_137 : zT 325 137 = some (.goto (-32), 3, 105, 0, 0, 0) := (congrArg (fun t => List.lookup 137 t) gt325).trans (by decide +kernel)
theorem t325_140 : zT 325 140 = some (.iconst 0, 1, 0, 0, 0, 0) := (congrArg (fun t => List.lookup 140 t) gt325).trans (by decide +kernel)
theorem t325_141 : zT 325 141 = some (.istore 10, 2, 0, 0, 0, 0) := (congrArg (fun t => List.lookup 141 t) gt325).trans (by decide +kernel)
theorem t325_143 : zT 325 143 = some (.iconst 1, 1, 0, 0, 1, 0) := (congrArg (fun t => List.lookup 143 t) gt325).trans (by decide +kernel)
theorem t325_144 : zT 325 144 = some (.istore 11, 2, 0, 0, 0, 0) := (congrArg (fun t => List.lookup 144 t) gt325).trans (by decide +kernel)
theorem t325_146 : zT 325 146 = some (.iload 11, 2, 0, 0, 0, 0) := (congrArg (fun t => List.lookup 146 t) gt325).trans (by decide +kernel)
theorem t325_148 : zT 325 148 = some (.iload_n 3, 1, 3, 0, 0, 0) := (congrArg (fun t => List.lookup 148 t) gt325).trans (by decide +kernel)
theorem t325_149 : zT 325 149 = some (.if_icmp .ge 35, 3, 184, 0, 0, 0) := (congrArg (fun t => List.lookup 149 t) gt325).trans (by decide +kernel)
theorem t325_152 : zT 325 152 = some (.aload_n 0, 1, 0, 0, 0, 0) := (congrArg (fun t => List.lookup 152 t) gt325).trans (by decide +kernel)
theorem t325_153 : zT 325 153 = some (.getfield 86, 3, 12, 40, 0, 1647) := (congrArg (fun t => List.lookup 153 t) gt325).trans (by decide +kernel)
theorem t325_156 : zT 325 156 = some (.iload 11, 2, 0, 0, 0, 0) := (congrArg (fun t => List.lookup 156 t) gt325).trans (by decide +kernel)
theorem t325_158 : zT 325 158 = some (.iaload, 1, 0, 0, 0, 0) := (congrArg (fun t => List.lookup 158 t) gt325).trans (by decide +kernel)
theorem t325_159 : zT 325 159 = some (.aload_n 0, 1, 0, 0, 0, 0) := (congrArg (fun t => List.lookup 159 t) gt325).trans (by decide +kernel)
theorem t325_160 : zT 325 160 = some (.getfield 86, 3, 12, 40, 0, 1647) := (congrArg (fun t => List.lookup 160 t) gt325).trans (by decide +kernel)
theorem t325_163 : zT 325 163 = some (.iload 10, 2, 0, 0, 0, 0) := (congrArg (fun t => List.lookup 163 t) gt325).trans (by decide +kernel)
theorem t325_165 : zT 325 165 = some (.iaload, 1, 0, 0, 0, 0) := (congrArg (fun t => List.lookup 165 t) gt325).trans (by decide +kernel)
theorem t325_166 : zT 325 166 = some (.if_icmp .ge 8, 3, 174, 0, 0, 0) := (congrArg (fun t => List.lookup 166 t) gt325).trans (by decide +kernel)
theorem t325_169 : zT 325 169 = some (.iload 11, 2, 0, 0, 0, 0) := (congrArg (fun t => List.lookup 169 t) gt325).trans (by decide +kernel)
theorem t325_171 : zT 325 171 = some (.goto 5, 3, 176, 0, 0, 0) := (congrArg (fun t => List.lookup 171 t) gt325).trans (by decide +kernel)
theorem t325_174 : zT 325 174 = some (.iload 10, 2, 0, 0, 0, 0) := (congrArg (fun t => List.lookup 174 t) gt325).trans (by decide +kernel)
theorem t325_176 : zT 325 176 = some (.istore 10, 2, 0, 0, 0, 0) := (congrArg (fun t => List.lookup 176 t) gt325).trans (by decide +kernel)
theorem t325_178 : zT 325 178 = some (.iinc 11 1, 3, 0, 0, 0, 0) := (congrArg (fun t => List.lookup 178 t) gt325).trans (by decide +kernel)
theorem t325_181 : zT 325 181 = some (.goto (-35), 3, 146, 0, 0, 0) := (congrArg (fun t => List.lookup 181 t) gt325).trans (by decide +kernel)
theorem t325_184 : zT 325 184 = some (.aload_n 0, 1, 0, 0, 0, 0) := (congrArg (fun t => List.lookup 184 t) gt325).trans (by decide +kernel)
theorem t325_185 : zT 325 185 = some (.getfield 86, 3, 12, 40, 0, 1647) := (congrArg (fun t => List.lookup 185 t) gt325).trans (by decide +kernel)
theorem t325_188 : zT 325 188 = some (.iload 10, 2, 0, 0, 0, 0) := (congrArg (fun t => List.lookup 188 t) gt325).trans (by decide +kernel)
theorem t325_190 : zT 325 190 = some (.iaload, 1, 0, 0, 0, 0) := (congrArg (fun t => List.lookup 190 t) gt325).trans (by decide +kernel)
theorem t325_191 : zT 325 191 = some (.iload 8, 2, 0, 0, 0, 0) := (congrArg (fun t => List.lookup 191 t) gt325).trans (by decide +kernel)
theorem t325_193 : zT 325 193 = some (.if_icmp .gt 7, 3, 200, 0, 0, 0) := (congrArg (fun t => List.lookup 193 t) gt325).trans (by decide +kernel)
theorem t325_196 : zT 325 196 = some (.iconst 1, 1, 0, 0, 1, 0) := (congrArg (fun t => List.lookup 196 t) gt325).trans (by decide +kernel)
theorem t325_197 : zT 325 197 = some (.goto 4, 3, 201, 0, 0, 0) := (congrArg (fun t => List.lookup 197 t) gt325).trans (by decide +kernel)
theorem t325_200 : zT 325 200 = some (.iconst 0, 1, 0, 0, 0, 0) := (congrArg (fun t => List.lookup 200 t) gt325).trans (by decide +kernel)
theorem t325_201 : zT 325 201 = some (.istore 11, 2, 0, 0, 0, 0) := (congrArg (fun t => List.lookup 201 t) gt325).trans (by decide +kernel)
theorem t325_203 : zT 325 203 = some (.iload 11, 2, 0, 0, 0, 0) := (congrArg (fun t => List.lookup 203 t) gt325).trans (by decide +kernel)
theorem t325_205 : zT 325 205 = some (.ifCond .ne 23, 3, 228, 0, 0, 0) := (congrArg (fun t => List.lookup 205 t) gt325).trans (by decide +kernel)
theorem t325_208 : zT 325 208 = some (.iload 9, 2, 0, 0, 0, 0) := (congrArg (fun t => List.lookup 208 t) gt325).trans (by decide +kernel)
theorem t325_210 : zT 325 210 = some (.iload 4, 2, 0, 0, 0, 0) := (congrArg (fun t => List.lookup 210 t) gt325).trans (by decide +kernel)
theorem t325_212 : zT 325 212 = some (.if_icmp .ne 16, 3, 228, 0, 0, 0) := (congrArg (fun t => List.lookup 212 t) gt325).trans (by decide +kernel)
theorem t325_215 : zT 325 215 = some (.aload_n 0, 1, 0, 0, 0, 0) := (congrArg (fun t => List.lookup 215 t) gt325).trans (by decide +kernel)
theorem t325_216 : zT 325 216 = some (.dup, 1, 0, 0, 0, 0) := (congrArg (fun t => List.lookup 216 t) gt325).trans (by decide +kernel)
theorem t325_217 : zT 325 217 = some (.getfield 421, 3, 12, 42, 0, 1649) := (congrArg (fun t => List.lookup 217 t) gt325).trans (by decide +kernel)
theorem t325_220 : zT 325 220 = some (.iconst 1, 1, 0, 0, 1, 0) := (congrArg (fun t => List.lookup 220 t) gt325).trans (by decide +kernel)
theorem t325_221 : zT 325 221 = some (.iadd, 1, 0, 0, 0, 0) := (congrArg (fun t => List.lookup 221 t) gt325).trans (by decide +kernel)
theorem t325_222 : zT 325 222 = some (.putfield 421, 3, 12, 42, 0, 1649) := (congrArg (fun t => List.lookup 222 t) gt325).trans (by decide +kernel)
theorem t325_225 : zT 325 225 = some (.goto 137, 3, 362, 0, 0, 0) := (congrArg (fun t => List.lookup 225 t) gt325).trans (by decide +kernel)
theorem t325_228 : zT 325 228 = some (.iload 11, 2, 0, 0, 0, 0) := (congrArg (fun t => List.lookup 228 t) gt325).trans (by decide +kernel)
theorem t325_230 : zT 325 230 = some (.ifCond .ne 22, 3, 252, 0, 0, 0) := (congrArg (fun t => List.lookup 230 t) gt325).trans (by decide +kernel)
theorem t325_233 : zT 325 233 = some (.iload 9, 2, 0, 0, 0, 0) := (congrArg (fun t => List.lookup 233 t) gt325).trans (by decide +kernel)
theorem t325_235 : zT 325 235 = some (.iconst 1, 1, 0, 0, 1, 0) := (congrArg (fun t => List.lookup 235 t) gt325).trans (by decide +kernel)
theorem t325_236 : zT 325 236 = some (.iadd, 1, 0, 0, 0, 0) := (congrArg (fun t => List.lookup 236 t) gt325).trans (by decide +kernel)
theorem t325_237 : zT 325 237 = some (.aload_n 0, 1, 0, 0, 0, 0) := (congrArg (fun t => List.lookup 237 t) gt325).trans (by decide +kernel)
theorem t325_238 : zT 325 238 = some (.getfield 427, 3, 12, 44, 0, 1651) := (congrArg (fun t => List.lookup 238 t) gt325).trans (by decide +kernel)
theorem t325_241 : zT 325 241 = some (.if_icmp .le 11, 3, 252, 0, 0, 0) := (congrArg (fun t => List.lookup 241 t) gt325).trans (by decide +kernel)
theorem t325_244 : zT 325 244 = some (.aload_n 0, 1, 0, 0, 0, 0) := (congrArg (fun t => List.lookup 244 t) gt325).trans (by decide +kernel)
theorem t325_245 : zT 325 245 = some (.iload 9, 2, 0, 0, 0, 0) := (congrArg (fun t => List.lookup 245 t) gt325).trans (by decide +kernel)
theorem t325_247 : zT 325 247 = some (.iconst 1, 1, 0, 0, 1, 0) := (congrArg (fun t => List.lookup 247 t) gt325).trans (by decide +kernel)
theorem t325_248 : zT 325 248 = some (.iadd, 1, 0, 0, 0, 0) := (congrArg (fun t => List.lookup 248 t) gt325).trans (by decide +kernel)
theorem t325_249 : zT 325 249 = some (.putfield 427, 3, 12, 44, 0, 1651) := (congrArg (fun t => List.lookup 249 t) gt325).trans (by decide +kernel)
theorem t325_252 : zT 325 252 = some (.aload_n 0, 1, 0, 0, 0, 0) := (congrArg (fun t => List.lookup 252 t) gt325).trans (by decide +kernel)
theorem t325_253 : zT 325 253 = some (.getfield 89, 3, 12, 41, 0, 1648) := (congrArg (fun t => List.lookup 253 t) gt325).trans (by decide +kernel)
theorem t325_256 : zT 325 256 = some (.iload 6, 2, 0, 0, 0, 0) := (congrArg (fun t => List.lookup 256 t) gt325).trans (by decide +kernel)
theorem t325_258 : zT 325 258 = some (.iload 11, 2, 0, 0, 0, 0) := (congrArg (fun t => List.lookup 258 t) gt325).trans (by decide +kernel)
theorem t325_260 : zT 325 260 = some (.ifCond .eq 8, 3, 268, 0, 0, 0) := (congrArg (fun t => List.lookup 260 t) gt325).trans (by decide +kernel)
theorem t325_263 : zT 325 263 = some (.iload 8, 2, 0, 0, 0, 0) := (congrArg (fun t => List.lookup 263 t) gt325).trans (by decide +kernel)
theorem t325_265 : zT 325 265 = some (.goto 10, 3, 275, 0, 0, 0) := (congrArg (fun t => List.lookup 265 t) gt325).trans (by decide +kernel)
theorem t325_268 : zT 325 268 = some (.aload_n 0, 1, 0, 0, 0, 0) := (congrArg (fun t => List.lookup 268 t) gt325).trans (by decide +kernel)
theorem t325_269 : zT 325 269 = some (.getfield 86, 3, 12, 40, 0, 1647) := (congrArg (fun t => List.lookup 269 t) gt325).trans (by decide +kernel)
theorem t325_272 : zT 325 272 = some (.iload 10, 2, 0, 0, 0, 0) := (congrArg (fun t => List.lookup 272 t) gt325).trans (by decide +kernel)
theorem t325_274 : zT 325 274 = some (.iaload, 1, 0, 0, 0, 0) := (congrArg (fun t => List.lookup 274 t) gt325).trans (by decide +kernel)
theorem t325_275 : zT 325 275 = some (.iastore, 1, 0, 0, 0, 0) := (congrArg (fun t => List.lookup 275 t) gt325).trans (by decide +kernel)
theorem t325_276 : zT 325 276 = some (.aload_n 0, 1, 0, 0, 0, 0) := (congrArg (fun t => List.lookup 276 t) gt325).trans (by decide +kernel)
theorem t325_277 : zT 325 277 = some (.getfield 86, 3, 12, 40, 0, 1647) := (congrArg (fun t => List.lookup 277 t) gt325).trans (by decide +kernel)
theorem t325_280 : zT 325 280 = some (.iload 10, 2, 0, 0, 0, 0) := (congrArg (fun t => List.lookup 280 t) gt325).trans (by decide +kernel)
theorem t325_282 : zT 325 282 = some (.aload_n 0, 1, 0, 0, 0, 0) := (congrArg (fun t => List.lookup 282 t) gt325).trans (by decide +kernel)
theorem t325_283 : zT 325 283 = some (.getfield 89, 3, 12, 41, 0, 1648) := (congrArg (fun t => List.lookup 283 t) gt325).trans (by decide +kernel)
theorem t325_286 : zT 325 286 = some (.iload 6, 2, 0, 0, 0, 0) := (congrArg (fun t => List.lookup 286 t) gt325).trans (by decide +kernel)
theorem t325_288 : zT 325 288 = some (.iaload, 1, 0, 0, 0, 0) := (congrArg (fun t => List.lookup 288 t) gt325).trans (by decide +kernel)
theorem t325_289 : zT 325 289 = some (.iload 5, 2, 0, 0, 0, 0) := (congrArg (fun t => List.lookup 289 t) gt325).trans (by decide +kernel)
theorem t325_291 : zT 325 291 = some (.iadd, 1, 0, 0, 0, 0) := (congrArg (fun t => List.lookup 291 t) gt325).trans (by decide +kernel)
theorem t325_292 : zT 325 292 = some (.iastore, 1, 0, 0, 0, 0) := (congrArg (fun t => List.lookup 292 t) gt325).trans (by decide +kernel)
theorem t325_293 : zT 325 293 = some (.aload_n 0, 1, 0, 0, 0, 0) := (congrArg (fun t => List.lookup 293 t) gt325).trans (by decide +kernel)
theorem t325_294 : zT 325 294 = some (.dup, 1, 0, 0, 0, 0) := (congrArg (fun t => List.lookup 294 t) gt325).trans (by decide +kernel)
theorem t325_295 : zT 325 295 = some (.getfield 424, 3, 12, 43, 0, 1650) := (congrArg (fun t => List.lookup 295 t) gt325).trans (by decide +kernel)
theorem t325_298 : zT 325 298 = some (.aload_n 0, 1, 0, 0, 0, 0) := (congrArg (fun t => List.lookup 298 t) gt325).trans (by decide +kernel)
theorem t325_299 : zT 325 299 = some (.getfield 86, 3, 12, 40, 0, 1647) := (congrArg (fun t => List.lookup 299 t) gt325).trans (by decide +kernel)
theorem t325_302 : zT 325 302 = some (.iload 10, 2, 0, 0, 0, 0) := (congrArg (fun t => List.lookup 302 t) gt325).trans (by decide +kernel)
theorem t325_304 : zT 325 304 = some (.iaload, 1, 0, 0, 0, 0) := (congrArg (fun t => List.lookup 304 t) gt325).trans (by decide +kernel)
theorem t325_305 : zT 325 305 = some (.iload 8, 2, 0, 0, 0, 0) := (congrArg (fun t => List.lookup 305 t) gt325).trans (by decide +kernel)
theorem t325_307 : zT 325 307 = some (.isub, 1, 0, 0, 0, 0) := (congrArg (fun t => List.lookup 307 t) gt325).trans (by decide +kernel)
theorem t325_308 : zT 325 308 = some (.aload_n 0, 1, 0, 0, 0, 0) := (congrArg (fun t => List.lookup 308 t) gt325).trans (by decide +kernel)
theorem t325_309 : zT 325 309 = some (.getfield 3, 3, 12, 0, 0, 1607) := (congrArg (fun t => List.lookup 309 t) gt325).trans (by decide +kernel)
theorem t325_312 : zT 325 312 = some (.bipush 13, 2, 0, 0, 13, 0) := (congrArg (fun t => List.lookup 312 t) gt325).trans (by decide +kernel)
theorem t325_314 : zT 325 314 = some (.iaload, 1, 0, 0, 0, 0) := (congrArg (fun t => List.lookup 314 t) gt325).trans (by decide +kernel)
theorem t325_315 : zT 325 315 = some (.if_icmp .le 7, 3, 322, 0, 0, 0) := (congrArg (fun t => List.lookup 315 t) gt325).trans (by decide +kernel)
theorem t325_318 : zT 325 318 = some (.iconst 1, 1, 0, 0, 1, 0) := (congrArg (fun t => List.lookup 318 t) gt325).trans (by decide +kernel)
theorem t325_319 : zT 325 319 = some (.goto 4, 3, 323, 0, 0, 0) := (congrArg (fun t => List.lookup 319 t) gt325).trans (by decide +kernel)
theorem t325_322 : zT 325 322 = some (.iconst 0, 1, 0, 0, 0, 0) := (congrArg (fun t => List.lookup 322 t) gt325).trans (by decide +kernel)
theorem t325_323 : zT 325 323 = some (.iadd, 1, 0, 0, 0, 0) := (congrArg (fun t => List.lookup 323 t) gt325).trans (by decide +kernel)
theorem t325_324 : zT 325 324 = some (.putfield 424, 3, 12, 43, 0, 1650) := (congrArg (fun t => List.lookup 324 t) gt325).trans (by decide +kernel)
theorem t325_327 : zT 325 327 = some (.aload_n 0, 1, 0, 0, 0, 0) := (congrArg (fun t => List.lookup 327 t) gt325).trans (by decide +kernel)
theorem t325_328 : zT 325 328 = some (.aload_n 0, 1, 0, 0, 0, 0) := (congrArg (fun t => List.lookup 328 t) gt325).trans (by decide +kernel)
theorem t325_329 : zT 325 329 = some (.getfield 86, 3, 12, 40, 0, 1647) := (congrArg (fun t => List.lookup 329 t) gt325).trans (by decide +kernel)
theorem t325_332 : zT 325 332 = some (.iload 10, 2, 0, 0, 0, 0) := (congrArg (fun t => List.lookup 332 t) gt325).trans (by decide +kernel)
theorem t325_334 : zT 325 334 = some (.iaload, 1, 0, 0, 0, 0) := (congrArg (fun t => List.lookup 334 t) gt325).trans (by decide +kernel)
theorem t325_335 : zT 325 335 = some (.aload_n 0, 1, 0, 0, 0, 0) := (congrArg (fun t => List.lookup 335 t) gt325).trans (by decide +kernel)
theorem t325_336 : zT 325 336 = some (.getfield 430, 3, 12, 45, 0, 1652) := (congrArg (fun t => List.lookup 336 t) gt325).trans (by decide +kernel)
theorem t325_339 : zT 325 339 = some (.if_icmp .le 13, 3, 352, 0, 0, 0) := (congrArg (fun t => List.lookup 339 t) gt325).trans (by decide +kernel)
theorem t325_342 : zT 325 342 = some (.aload_n 0, 1, 0, 0, 0, 0) := (congrArg (fun t => List.lookup 342 t) gt325).trans (by decide +kernel)
theorem t325_343 : zT 325 343 = some (.getfield 86, 3, 12, 40, 0, 1647) := (congrArg (fun t => List.lookup 343 t) gt325).trans (by decide +kernel)
theorem t325_346 : zT 325 346 = some (.iload 10, 2, 0, 0, 0, 0) := (congrArg (fun t => List.lookup 346 t) gt325).trans (by decide +kernel)
theorem t325_348 : zT 325 348 = some (.iaload, 1, 0, 0, 0, 0) := (congrArg (fun t => List.lookup 348 t) gt325).trans (by decide +kernel)
theorem t325_349 : zT 325 349 = some (.goto 7, 3, 356, 0, 0, 0) := (congrArg (fun t => List.lookup 349 t) gt325).trans (by decide +kernel)
theorem t325_352 : zT 325 352 = some (.aload_n 0, 1, 0, 0, 0, 0) := (congrArg (fun t => List.lookup 352 t) gt325).trans (by decide +kernel)
theorem t325_353 : zT 325 353 = some (.getfield 430, 3, 12, 45, 0, 1652) := (congrArg (fun t => List.lookup 353 t) gt325).trans (by decide +kernel)
theorem t325_356 : zT 325 356 = some (.putfield 430, 3, 12, 45, 0, 1652) := (congrArg (fun t => List.lookup 356 t) gt325).trans (by decide +kernel)
theorem t325_359 : zT 325 359 = some (.iinc 6 1, 3, 0, 0, 0, 0) := (congrArg (fun t => List.lookup 359 t) gt325).trans (by decide +kernel)
theorem t325_362 : zT 325 362 = some (.iinc 7 1, 3, 0, 0, 0, 0) := (congrArg (fun t => List.lookup 362 t) gt325).trans (by decide +kernel)
theorem t325_365 : zT 325 365 = some (.goto (-278), 3, 87, 0, 0, 0) := (congrArg (fun t => List.lookup 365 t) gt325).trans (by decide +kernel)
theorem t325_368 : zT 325 368 = some (.return_, 1, 0, 0, 0, 0) := (congrArg (fun t => List.lookup 368 t) gt325).trans (by decide +kernel)
theorem t326_0 : zT 326 0 = some (.iload_n 1, 1, 1, 0, 0, 0) := (congrArg (fun t => List.lookup 0 t) gt326).trans rfl
theorem t326_1 : zT 326 1 = some (.iload_n 2, 1, 2, 0, 0, 0) := (congrArg (fun t => List.lookup 1 t) gt326).trans rfl
theorem t326_2 : zT 326 2 = some (.iconst 1, 1, 0, 0, 1, 0) := (congrArg (fun t => List.lookup 2 t) gt326).trans rfl
theorem t326_3 : zT 326 3 = some (.iload_n 3, 1, 3, 0, 0, 0) := (congrArg (fun t => List.lookup 3 t) gt326).trans rfl
theorem t326_4 : zT 326 4 = some (.invokestatic 441, 3, 324, 1, 0, 2159) := (congrArg (fun t => List.lookup 4 t) gt326).trans rfl
theorem t326_7 : zT 326 7 = some (.ifCond .ne 5, 3, 12, 0, 0, 0) := (congrArg (fun t => List.lookup 7 t) gt326).trans rfl
theorem t326_10 : zT 326 10 = some (.iconst (-1), 1, 0, 0, (-1), 0) := (congrArg (fun t => List.lookup 10 t) gt326).trans rfl
theorem t326_11 : zT 326 11 = some (.ireturn, 1, 0, 0, 0, 0) := (congrArg (fun t => List.lookup 11 t) gt326).trans rfl
theorem t326_12 : zT 326 12 = some (.iconst 1, 1, 0, 0, 1, 0) := (congrArg (fun t => List.lookup 12 t) gt326).trans rfl
theorem t326_13 : zT 326 13 = some (.istore 4, 2, 0, 0, 0, 0) := (congrArg (fun t => List.lookup 13 t) gt326).trans rfl
theorem t326_15 : zT 326 15 = some (.iload 4, 2, 0, 0, 0, 0) := (congrArg (fun t => List.lookup 15 t) gt326).trans rfl
theorem t326_17 : zT 326 17 = some (.bipush 8, 2, 0, 0, 8, 0) := (congrArg (fun t => List.lookup 17 t) gt326).trans rfl
theorem t326_19 : zT 326 19 = some (.if_icmp .gt 33, 3, 52, 0, 0, 0) := (congrArg (fun t => List.lookup 19 t) gt326).trans rfl
theorem t326_22 : zT 326 22 = some (.aload_n 0, 1, 0, 0, 0, 0) := (congrArg (fun t => List.lookup 22 t) gt326).trans rfl
theorem t326_23 : zT 326 23 = some (.iload_n 1, 1, 1, 0, 0, 0) := (congrArg (fun t => List.lookup 23 t) gt326).trans rfl
theorem t326_24 : zT 326 24 = some (.iload_n 2, 1, 2, 0, 0, 0) := (congrArg (fun t => List.lookup 24 t) gt326).trans rfl
theorem t326_25 : zT 326 25 = some (.iload 4, 2, 0, 0, 0, 0) := (congrArg (fun t => List.lookup 25 t) gt326).trans rfl
theorem t326_27 : zT 326 27 = some (.iload_n 3, 1, 3, 0, 0, 0) := (congrArg (fun t => List.lookup 27 t) gt326).trans rfl
theorem t326_28 : zT 326 28 = some (.invokevirtual 444, 3, 325, 0, 0, 2166) := (congrArg (fun t => List.lookup 28 t) gt326).trans rfl
theorem t326_31 : zT 326 31 = some (.aload_n 0, 1, 0, 0, 0, 0) := (congrArg (fun t => List.lookup 31 t) gt326).trans rfl
theorem t326_32 : zT 326 32 = some (.getfield 421, 3, 12, 42, 0, 1649) := (congrArg (fun t => List.lookup 32 t) gt326).trans rfl
theorem t326_35 : zT 326 35 = some (.aload_n 0, 1, 0, 0, 0, 0) := (congrArg (fun t => List.lookup 35 t) gt326).trans rfl
theorem t326_36 : zT 326 36 = some (.getfield 424, 3, 12, 43, 0, 1650) := (congrArg (fun t => List.lookup 36 t) gt326).trans rfl
theorem t326_39 : zT 326 39 = some (.iadd, 1, 0, 0, 0, 0) := (congrArg (fun t => List.lookup 39 t) gt326).trans rfl
theorem t326_40 : zT 326 40 = some (.ifCond .ne 6, 3, 46, 0, 0, 0) := (congrArg (fun t => List.lookup 40 t) gt326).trans rfl
theorem t326_43 : zT 326 43 = some (.iload 4, 2, 0, 0, 0, 0) := (congrArg (fun t => List.lookup 43 t) gt326).trans rfl
theorem t326_45 : zT 326 45 = some (.ireturn, 1, 0, 0, 0, 0) := (congrArg (fun t => List.lookup 45 t) gt326).trans rfl
theorem t326_46 : zT 326 46 = some (.iinc 4 1, 3, 0, 0, 0, 0) := (congrArg (fun t => List.lookup 46 t) gt326).trans rfl
theorem t326_49 : zT 326 49 = some (.goto (-34), 3, 15, 0, 0, 0) := (congrArg (fun t => List.lookup 49 t) gt326).trans rfl
theorem t326_52 : zT 326 52 = some (.bipush (-2), 2, 0, 0, (-2), 0) := (congrArg (fun t => List.lookup 52 t) gt326).trans rfl
theorem t326_54 : zT 326 54 = some (.ireturn, 1, 0, 0, 0, 0) := (congrArg (fun t => List.lookup 54 t) gt326).trans rfl
theorem t327_0 : zT 327 0 = some (.aload_n 0, 1, 0, 0, 0, 0) := (congrArg (fun t => List.lookup 0 t) gt327).trans rfl
theorem t327_1 : zT 327 1 = some (.iload_n 1, 1, 1, 0, 0, 0) := (congrArg (fun t => List.lookup 1 t) gt327).trans rfl
theorem t327_2 : zT 327 2 = some (.invokevirtual 377, 3, 306, 0, 0, 2084) := (congrArg (fun t => List.lookup 2 t) gt327).trans rfl
theorem t327_5 : zT 327 5 = some (.ifCond .ne 7, 3, 12, 0, 0, 0) := (congrArg (fun t => List.lookup 5 t) gt327).trans rfl
theorem t327_8 : zT 327 8 = some (.ldc_w 353, 3, 0, 0, (-100000), 2066) := (congrArg (fun t => List.lookup 8 t) gt327).trans rfl
theorem t327_11 : zT 327 11 = some (.ireturn, 1, 0, 0, 0, 0) := (congrArg (fun t => List.lookup 11 t) gt327).trans rfl
theorem t327_12 : zT 327 12 = some (.aload_n 0, 1, 0, 0, 0, 0) := (congrArg (fun t => List.lookup 12 t) gt327).trans rfl
theorem t327_13 : zT 327 13 = some (.invokevirtual 331, 3, 268, 0, 0, 1933) := (congrArg (fun t => List.lookup 13 t) gt327).trans rfl
theorem t327_16 : zT 327 16 = some (.aload_n 0, 1, 0, 0, 0, 0) := (congrArg (fun t => List.lookup 16 t) gt327).trans rfl
theorem t327_17 : zT 327 17 = some (.getfield 261, 3, 12, 22, 0, 1629) := (congrArg (fun t => List.lookup 17 t) gt327).trans rfl
theorem t327_20 : zT 327 20 = some (.istore_n 2, 1, 2, 0, 0, 0) := (congrArg (fun t => List.lookup 20 t) gt327).trans rfl
theorem t327_21 : zT 327 21 = some (.aload_n 0, 1, 0, 0, 0, 0) := (congrArg (fun t => List.lookup 21 t) gt327).trans rfl
theorem t327_22 : zT 327 22 = some (.aload_n 0, 1, 0, 0, 0, 0) := (congrArg (fun t => List.lookup 22 t) gt327).trans rfl
theorem t327_23 : zT 327 23 = some (.getfield 3, 3, 12, 0, 0, 1607) := (congrArg (fun t => List.lookup 23 t) gt327).trans rfl
theorem t327_26 : zT 327 26 = some (.bipush 8, 2, 0, 0, 8, 0) := (congrArg (fun t => List.lookup 26 t) gt327).trans rfl
theorem t327_28 : zT 327 28 = some (.iaload, 1, 0, 0, 0, 0) := (congrArg (fun t => List.lookup 28 t) gt327).trans rfl
theorem t327_29 : zT 327 29 = some (.iload_n 1, 1, 1, 0, 0, 0) := (congrArg (fun t => List.lookup 29 t) gt327).trans rfl
theorem t327_30 : zT 327 30 = some (.invokevirtual 307, 3, 269, 0, 0, 1937) := (congrArg (fun t => List.lookup 30 t) gt327).trans rfl
theorem t327_33 : zT 327 33 = some (.aload_n 0, 1, 0, 0, 0, 0) := (congrArg (fun t => List.lookup 33 t) gt327).trans rfl
theorem t327_34 : zT 327 34 = some (.iconst 0, 1, 0, 0, 0, 0) := (congrArg (fun t => List.lookup 34 t) gt327).trans rfl
theorem t327_35 : zT 327 35 = some (.putfield 108, 3, 12, 3, 0, 1610) := (congrArg (fun t => List.lookup 35 t) gt327).trans rfl
theorem t327_38 : zT 327 38 = some (.iload_n 2, 1, 2, 0, 0, 0) := (congrArg (fun t => List.lookup 38 t) gt327).trans rfl
theorem t327_39 : zT 327 39 = some (.aload_n 0, 1, 0, 0, 0, 0) := (congrArg (fun t => List.lookup 39 t) gt327).trans rfl
theorem t327_40 : zT 327 40 = some (.getfield 261, 3, 12, 22, 0, 1629) := (congrArg (fun t => List.lookup 40 t) gt327).trans rfl
theorem t327_43 : zT 327 43 = some (.isub, 1, 0, 0, 0, 0) := (congrArg (fun t => List.lookup 43 t) gt327).trans rfl
theorem t327_44 : zT 327 44 = some (.ireturn, 1, 0, 0, 0, 0) := (congrArg (fun t => List.lookup 44 t) gt327).trans rfl
theorem t328_0 : zT 328 0 = some (.iload_n 1, 1, 1, 0, 0, 0) := (congrArg (fun t => List.lookup 0 t) gt328).trans rfl
theorem t328_1 : zT 328 1 = some (.i2l, 1, 0, 0, 0, 0) := (congrArg (fun t => List.lookup 1 t) gt328).trans rfl
theorem t328_2 : zT 328 2 = some (.lconst 0, 1, 0, 0, 0, 0) := (congrArg (fun t => List.lookup 2 t) gt328).trans rfl
theorem t328_3 : zT 328 3 = some (.ldc2_w 322, 3, 1, 0, 2, 1994) := (congrArg (fun t => List.lookup 3 t) gt328).trans rfl
theorem t328_6 : zT 328 6 = some (.invokestatic 112, 3, 228, 1, 0, 1774) := (congrArg (fun t => List.lookup 6 t) gt328).trans rfl
theorem t328_9 : zT 328 9 = some (.ifCond .ne 5, 3, 14, 0, 0, 0) := (congrArg (fun t => List.lookup 9 t) gt328).trans rfl
theorem t328_12 : zT 328 12 = some (.iconst (-1), 1, 0, 0, (-1), 0) := (congrArg (fun t => List.lookup 12 t) gt328).trans rfl
theorem t328_13 : zT 328 13 = some (.ireturn, 1, 0, 0, 0, 0) := (congrArg (fun t => List.lookup 13 t) gt328).trans rfl
theorem t328_14 : zT 328 14 = some (.iconst (-1), 1, 0, 0, (-1), 0) := (congrArg (fun t => List.lookup 14 t) gt328).trans rfl
theorem t328_15 : zT 328 15 = some (.istore_n 2, 1, 2, 0, 0, 0) := (congrArg (fun t => List.lookup 15 t) gt328).trans rfl
theorem t328_16 : zT 328 16 = some (.iconst 0, 1, 0, 0, 0, 0) := (congrArg (fun t => List.lookup 16 t) gt328).trans rfl
theorem t328_17 : zT 328 17 = some (.istore_n 3, 1, 3, 0, 0, 0) := (congrArg (fun t => List.lookup 17 t) gt328).trans rfl
theorem t328_18 : zT 328 18 = some (.iconst 0, 1, 0, 0, 0, 0) := (congrArg (fun t => List.lookup 18 t) gt328).trans rfl
theorem t328_19 : zT 328 19 = some (.istore 4, 2, 0, 0, 0, 0) := (congrArg (fun t => List.lookup 19 t) gt328).trans rfl
theorem t328_21 : zT 328 21 = some (.iconst 2, 1, 0, 0, 2, 0) := (congrArg (fun t => List.lookup 21 t) gt328).trans rfl
theorem t328_22 : zT 328 22 = some (.istore 5, 2, 0, 0, 0, 0) := (congrArg (fun t => List.lookup 22 t) gt328).trans rfl
theorem t328_24 : zT 328 24 = some (.iload 5, 2, 0, 0, 0, 0) := (congrArg (fun t => List.lookup 24 t) gt328).trans rfl
theorem t328_26 : zT 328 26 = some (.bipush 8, 2, 0, 0, 8, 0) := (congrArg (fun t => List.lookup 26 t) gt328).trans rfl
theorem t328_28 : zT 328 28 = some (.if_icmp .gt 58, 3, 86, 0, 0, 0) := (congrArg (fun t => List.lookup 28 t) gt328).trans rfl
theorem t328_31 : zT 328 31 = some (.aload_n 0, 1, 0, 0, 0, 0) := (congrArg (fun t => List.lookup 31 t) gt328).trans rfl
theorem t328_32 : zT 328 32 = some (.iload 5, 2, 0, 0, 0, 0) := (congrArg (fun t => List.lookup 32 t) gt328).trans rfl
theorem t328_34 : zT 328 34 = some (.iconst (-1), 1, 0, 0, (-1), 0) := (congrArg (fun t => List.lookup 34 t) gt328).trans rfl
theorem t328_35 : zT 328 35 = some (.invokevirtual 307, 3, 269, 0, 0, 1937) := (congrArg (fun t => List.lookup 35 t) gt328).trans rfl
theorem t328_38 : zT 328 38 = some (.aload_n 0, 1, 0, 0, 0, 0) := (congrArg (fun t => List.lookup 38 t) gt328).trans rfl
theorem t328_39 : zT 328 39 = some (.invokevirtual 447, 3, 329, 0, 0, 2183) := (congrArg (fun t => List.lookup 39 t) gt328).trans rfl
theorem t328_42 : zT 328 42 = some (.istore 6, 2, 0, 0, 0, 0) := (congrArg (fun t => List.lookup 42 t) gt328).trans rfl
theorem t328_44 : zT 328 44 = some (.aload_n 0, 1, 0, 0, 0, 0) := (congrArg (fun t => List.lookup 44 t) gt328).trans rfl
theorem t328_45 : zT 328 45 = some (.invokevirtual 450, 3, 330, 0, 0, 2187) := (congrArg (fun t => List.lookup 45 t) gt328).trans rfl
theorem t328_48 : zT 328 48 = some (.istore 7, 2, 0, 0, 0, 0) := (congrArg (fun t => List.lookup 48 t) gt328).trans rfl
theorem t328_50 : zT 328 50 = some (.iload_n 2, 1, 2, 0, 0, 0) := (congrArg (fun t => List.lookup 50 t) gt328).trans rfl
theorem t328_51 : zT 328 51 = some (.iconst (-1), 1, 0, 0, (-1), 0) := (congrArg (fun t => List.lookup 51 t) gt328).trans rfl
theorem t328_52 : zT 328 52 = some (.if_icmp .eq 18, 3, 70, 0, 0, 0) := (congrArg (fun t => List.lookup 52 t) gt328).trans rfl
theorem t328_55 : zT 328 55 = some (.iload 6, 2, 0, 0, 0, 0) := (congrArg (fun t => List.lookup 55 t) gt328).trans rfl
theorem t328_57 : zT 328 57 = some (.iload 7, 2, 0, 0, 0, 0) := (congrArg (fun t => List.lookup 57 t) gt328).trans rfl
theorem t328_59 : zT 328 59 = some (.isub, 1, 0, 0, 0, 0) := (congrArg (fun t => List.lookup 59 t) gt328).trans rfl
theorem t328_60 : zT 328 60 = some (.iload_n 3, 1, 3, 0, 0, 0) := (congrArg (fun t => List.lookup 60 t) gt328).trans rfl
theorem t328_61 : zT 328 61 = some (.iload 4, 2, 0, 0, 0, 0) := (congrArg (fun t => List.lookup 61 t) gt328).trans rfl
theorem t328_63 : zT 328 63 = some (.isub, 1, 0, 0, 0, 0) := (congrArg (fun t => List.lookup 63 t) gt328).trans rfl
theorem t328_64 : zT 328 64 = some (.if_icmp .gt 6, 3, 70, 0, 0, 0) := (congrArg (fun t => List.lookup 64 t) gt328).trans rfl
theorem t328_67 : zT 328 67 = some (.goto 13, 3, 80, 0, 0, 0) := (congrArg (fun t => List.lookup 67 t) gt328).trans rfl
theorem t328_70 : zT 328 70 = some (.iload 5, 2, 0, 0, 0, 0) := (congrArg (fun t => List.lookup 70 t) gt328).trans rfl
theorem t328_72 : zT 328 72 = some (.istore_n 2, 1, 2, 0, 0, 0) := (congrArg (fun t => List.lookup 72 t) gt328).trans rfl
theorem t328_73 : zT 328 73 = some (.iload 6, 2, 0, 0, 0, 0) := (congrArg (fun t => List.lookup 73 t) gt328).trans rfl
theorem t328_75 : zT 328 75 = some (.istore_n 3, 1, 3, 0, 0, 0) := (congrArg (fun t => List.lookup 75 t) gt328).trans rfl
theorem t328_76 : zT 328 76 = some (.iload 7, 2, 0, 0, 0, 0) := (congrArg (fun t => List.lookup 76 t) gt328).trans rfl
theorem t328_78 : zT 328 78 = some (.istore 4, 2, 0, 0, 0, 0) := (congrArg (fun t => List.lookup 78 t) gt328).trans rfl
theorem t328_80 : zT 328 80 = some (.iinc 5 1, 3, 0, 0, 0, 0) := (congrArg (fun t => List.lookup 80 t) gt328).trans rfl
theorem t328_83 : zT 328 83 = some (.goto (-59), 3, 24, 0, 0, 0) := (congrArg (fun t => List.lookup 83 t) gt328).trans rfl
theorem t328_86 : zT 328 86 = some (.aload_n 0, 1, 0, 0, 0, 0) := (congrArg (fun t => List.lookup 86 t) gt328).trans rfl
theorem t328_87 : zT 328 87 = some (.iconst 0, 1, 0, 0, 0, 0) := (congrArg (fun t => List.lookup 87 t) gt328).trans rfl
theorem t328_88 : zT 328 88 = some (.putfield 108, 3, 12, 3, 0, 1610) := (congrArg (fun t => List.lookup 88 t) gt328).trans rfl
theorem t328_91 : zT 328 91 = some (.iload_n 1, 1, 1, 0, 0, 0) := (congrArg (fun t => List.lookup 91 t) gt328).trans rfl
theorem t328_92 : zT 328 92 = some (.ifCond .ne 7, 3, 99, 0, 0, 0) := (congrArg (fun t => List.lookup 92 t) gt328).trans rfl
theorem t328_95 : zT 328 95 = some (.iload_n 2, 1, 2, 0, 0, 0) := (congrArg (fun t => List.lookup 95 t) gt328).trans rfl
theorem t328_96 : zT 328 96 = some (.goto 14, 3, 110, 0, 0, 0) := (congrArg (fun t => List.lookup 96 t) gt328).trans rfl
theorem t328_99 : zT 328 99 = some (.iload_n 1, 1, 1, 0, 0, 0) := (congrArg (fun t => List.lookup 99 t) gt328).trans rfl
theorem t328_100 : zT 328 100 = some (.iconst 1, 1, 0, 0, 1, 0) := (congrArg (fun t => List.lookup 100 t) gt328).trans rfl
theorem t328_101 : zT 328 101 = some (.if_icmp .ne 7, 3, 108, 0, 0, 0) := (congrArg (fun t => List.lookup 101 t) gt328).trans rfl
theorem t328_104 : zT 328 104 = some (.iload_n 3, 1, 3, 0, 0, 0) := (congrArg (fun t => List.lookup 104 t) gt328).trans rfl
theorem t328_105 : zT 328 105 = some (.goto 5, 3, 110, 0, 0, 0) := (congrArg (fun t => List.lookup 105 t) gt328).trans rfl
theorem t328_108 : zT 328 108 = some (.iload 4, 2, 0, 0, 0, 0) := (congrArg (fun t => List.lookup 108 t) gt328).trans rfl
theorem t328_110 : zT 328 110 = some (.ireturn, 1, 0, 0, 0, 0) := (congrArg (fun t => List.lookup 110 t) gt328).trans rfl
theorem t329_0 : zT 329 0 = some (.iconst 0, 1, 0, 0, 0, 0) := (congrArg (fun t => List.lookup 0 t) gt329).trans rfl
theorem t329_1 : zT 329 1 = some (.istore_n 1, 1, 1, 0, 0, 0) := (congrArg (fun t => List.lookup 1 t) gt329).trans rfl
theorem t329_2 : zT 329 2 = some (.iconst 0, 1, 0, 0, 0, 0) := (congrArg (fun t => List.lookup 2 t) gt329).trans rfl
theorem t329_3 : zT 329 3 = some (.istore_n 2, 1, 2, 0, 0, 0) := (congrArg (fun t => List.lookup 3 t) gt329).trans rfl
theorem t329_4 : zT 329 4 = some (.iload_n 2, 1, 2, 0, 0, 0) := (congrArg (fun t => List.lookup 4 t) gt329).trans rfl
theorem t329_5 : zT 329 5 = some (.aload_n 0, 1, 0, 0, 0, 0) := (congrArg (fun t => List.lookup 5 t) gt329).trans rfl
theorem t329_6 : zT 329 6 = some (.getfield 3, 3, 12, 0, 0, 1607) := (congrArg (fun t => List.lookup 6 t) gt329).trans rfl
theorem t329_9 : zT 329 9 = some (.iconst 2, 1, 0, 0, 2, 0) := (congrArg (fun t => List.lookup 9 t) gt329).trans rfl
theorem t329_10 : zT 329 10 = some (.iaload, 1, 0, 0, 0, 0) := (congrArg (fun t => List.lookup 10 t) gt329).trans rfl
theorem t329_11 : zT 329 11 = some (.if_icmp .ge 27, 3, 38, 0, 0, 0) := (congrArg (fun t => List.lookup 11 t) gt329).trans rfl
theorem t329_14 : zT 329 14 = some (.iload_n 1, 1, 1, 0, 0, 0) := (congrArg (fun t => List.lookup 14 t) gt329).trans rfl
theorem t329_15 : zT 329 15 = some (.aload_n 0, 1, 0, 0, 0, 0) := (congrArg (fun t => List.lookup 15 t) gt329).trans rfl
theorem t329_16 : zT 329 16 = some (.iload_n 2, 1, 2, 0, 0, 0) := (congrArg (fun t => List.lookup 16 t) gt329).trans rfl
theorem t329_17 : zT 329 17 = some (.invokevirtual 394, 3, 312, 0, 0, 2109) := (congrArg (fun t => List.lookup 17 t) gt329).trans rfl
theorem t329_20 : zT 329 20 = some (.bipush (-2), 2, 0, 0, (-2), 0) := (congrArg (fun t => List.lookup 20 t) gt329).trans rfl
theorem t329_22 : zT 329 22 = some (.if_icmp .ne 7, 3, 29, 0, 0, 0) := (congrArg (fun t => List.lookup 22 t) gt329).trans rfl
theorem t329_25 : zT 329 25 = some (.iconst 0, 1, 0, 0, 0, 0) := (congrArg (fun t => List.lookup 25 t) gt329).trans rfl
theorem t329_26 : zT 329 26 = some (.goto 4, 3, 30, 0, 0, 0) := (congrArg (fun t => List.lookup 26 t) gt329).trans rfl
theorem t329_29 : zT 329 29 = some (.iconst 1, 1, 0, 0, 1, 0) := (congrArg (fun t => List.lookup 29 t) gt329).trans rfl
theorem t329_30 : zT 329 30 = some (.iadd, 1, 0, 0, 0, 0) := (congrArg (fun t => List.lookup 30 t) gt329).trans rfl
theorem t329_31 : zT 329 31 = some (.istore_n 1, 1, 1, 0, 0, 0) := (congrArg (fun t => List.lookup 31 t) gt329).trans rfl
theorem t329_32 : zT 329 32 = some (.iinc 2 1, 3, 0, 0, 0, 0) := (congrArg (fun t => List.lookup 32 t) gt329).trans rfl
theorem t329_35 : zT 329 35 = some (.goto (-31), 3, 4, 0, 0, 0) := (congrArg (fun t => List.lookup 35 t) gt329).trans rfl
theorem t329_38 : zT 329 38 = some (.iload_n 1, 1, 1, 0, 0, 0) := (congrArg (fun t => List.lookup 38 t) gt329).trans rfl
theorem t329_39 : zT 329 39 = some (.ireturn, 1, 0, 0, 0, 0) := (congrArg (fun t => List.lookup 39 t) gt329).trans rfl
theorem t330_0 : zT 330 0 = some (.iconst 0, 1, 0, 0, 0, 0) := (congrArg (fun t => List.lookup 0 t) gt330).trans rfl
theorem t330_1 : zT 330 1 = some (.istore_n 1, 1, 1, 0, 0, 0) := (congrArg (fun t => List.lookup 1 t) gt330).trans rfl
theorem t330_2 : zT 330 2 = some (.iconst 0, 1, 0, 0, 0, 0) := (congrArg (fun t => List.lookup 2 t) gt330).trans rfl
theorem t330_3 : zT 330 3 = some (.istore_n 2, 1, 2, 0, 0, 0) := (congrArg (fun t => List.lookup 3 t) gt330).trans rfl
theorem t330_4 : zT 330 4 = some (.iload_n 2, 1, 2, 0, 0, 0) := (congrArg (fun t => List.lookup 4 t) gt330).trans rfl
theorem t330_5 : zT 330 5 = some (.aload_n 0, 1, 0, 0, 0, 0) := (congrArg (fun t => List.lookup 5 t) gt330).trans rfl
theorem t330_6 : zT 330 6 = some (.getfield 3, 3, 12, 0, 0, 1607) := (congrArg (fun t => List.lookup 6 t) gt330).trans rfl
theorem t330_9 : zT 330 9 = some (.iconst 2, 1, 0, 0, 2, 0) := (congrArg (fun t => List.lookup 9 t) gt330).trans rfl
theorem t330_10 : zT 330 10 = some (.iaload, 1, 0, 0, 0, 0) := (congrArg (fun t => List.lookup 10 t) gt330).trans rfl
theorem t330_11 : zT 330 11 = some (.if_icmp .ge 33, 3, 44, 0, 0, 0) := (congrArg (fun t => List.lookup 11 t) gt330).trans rfl
theorem t330_14 : zT 330 14 = some (.iload_n 1, 1, 1, 0, 0, 0) := (congrArg (fun t => List.lookup 14 t) gt330).trans rfl
theorem t330_15 : zT 330 15 = some (.aload_n 0, 1, 0, 0, 0, 0) := (congrArg (fun t => List.lookup 15 t) gt330).trans rfl
theorem t330_16 : zT 330 16 = some (.iload_n 2, 1, 2, 0, 0, 0) := (congrArg (fun t => List.lookup 16 t) gt330).trans rfl
theorem t330_17 : zT 330 17 = some (.invokevirtual 394, 3, 312, 0, 0, 2109) := (congrArg (fun t => List.lookup 17 t) gt330).trans rfl
theorem t330_20 : zT 330 20 = some (.bipush (-2), 2, 0, 0, (-2), 0) := (congrArg (fun t => List.lookup 20 t) gt330).trans rfl
theorem t330_22 : zT 330 22 = some (.if_icmp .ne 7, 3, 29, 0, 0, 0) := (congrArg (fun t => List.lookup 22 t) gt330).trans rfl
theorem t330_25 : zT 330 25 = some (.iconst 0, 1, 0, 0, 0, 0) := (congrArg (fun t => List.lookup 25 t) gt330).trans rfl
theorem t330_26 : zT 330 26 = some (.goto 10, 3, 36, 0, 0, 0) := (congrArg (fun t => List.lookup 26 t) gt330).trans rfl
theorem t330_29 : zT 330 29 = some (.iconst 1, 1, 0, 0, 1, 0) := (congrArg (fun t => List.lookup 29 t) gt330).trans rfl
theorem t330_30 : zT 330 30 = some (.aload_n 0, 1, 0, 0, 0, 0) := (congrArg (fun t => List.lookup 30 t) gt330).trans rfl
theorem t330_31 : zT 330 31 = some (.iload_n 2, 1, 2, 0, 0, 0) := (congrArg (fun t => List.lookup 31 t) gt330).trans rfl
theorem t330_32 : zT 330 32 = some (.invokevirtual 394, 3, 312, 0, 0, 2109) := (congrArg (fun t => List.lookup 32 t) gt330).trans rfl
theorem t330_35 : zT 330 35 = some (.ishl, 1, 0, 0, 0, 0) := (congrArg (fun t => List.lookup 35 t) gt330).trans rfl
theorem t330_36 : zT 330 36 = some (.ior, 1, 0, 0, 0, 0) := (congrArg (fun t => List.lookup 36 t) gt330).trans rfl
theorem t330_37 : zT 330 37 = some (.istore_n 1, 1, 1, 0, 0, 0) := (congrArg (fun t => List.lookup 37 t) gt330).trans rfl
theorem t330_38 : zT 330 38 = some (.iinc 2 1, 3, 0, 0, 0, 0) := (congrArg (fun t => List.lookup 38 t) gt330).trans rfl
theorem t330_41 : zT 330 41 = some (.goto (-37), 3, 4, 0, 0, 0) := (congrArg (fun t => List.lookup 41 t) gt330).trans rfl
theorem t330_44 : zT 330 44 = some (.iconst 0, 1, 0, 0, 0, 0) := (congrArg (fun t => List.lookup 44 t) gt330).trans rfl
theorem t330_45 : zT 330 45 = some (.istore_n 2, 1, 2, 0, 0, 0) := (congrArg (fun t => List.lookup 45 t) gt330).trans rfl
theorem t330_46 : zT 330 46 = some (.iconst 0, 1, 0, 0, 0, 0) := (congrArg (fun t => List.lookup 46 t) gt330).trans rfl
theorem t330_47 : zT 330 47 = some (.istore_n 3, 1, 3, 0, 0, 0) := (congrArg (fun t => List.lookup 47 t) gt330).trans rfl
theorem t330_48 : zT 330 48 = some (.iload_n 3, 1, 3, 0, 0, 0) := (congrArg (fun t => List.lookup 48 t) gt330).trans rfl
theorem t330_49 : zT 330 49 = some (.aload_n 0, 1, 0, 0, 0, 0) := (congrArg (fun t => List.lookup 49 t) gt330).trans rfl
theorem t330_50 : zT 330 50 = some (.getfield 261, 3, 12, 22, 0, 1629) := (congrArg (fun t => List.lookup 50 t) gt330).trans rfl
theorem t330_53 : zT 330 53 = some (.if_icmp .ge 19, 3, 72, 0, 0, 0) := (congrArg (fun t => List.lookup 53 t) gt330).trans rfl
theorem t330_56 : zT 330 56 = some (.iload_n 2, 1, 2, 0, 0, 0) := (congrArg (fun t => List.lookup 56 t) gt330).trans rfl
theorem t330_57 : zT 330 57 = some (.iconst 1, 1, 0, 0, 1, 0) := (congrArg (fun t => List.lookup 57 t) gt330).trans rfl
theorem t330_58 : zT 330 58 = some (.iload_n 1, 1, 1, 0, 0, 0) := (congrArg (fun t => List.lookup 58 t) gt330).trans rfl
theorem t330_59 : zT 330 59 = some (.iload_n 3, 1, 3, 0, 0, 0) := (congrArg (fun t => List.lookup 59 t) gt330).trans rfl
theorem t330_60 : zT 330 60 = some (.ishr, 1, 0, 0, 0, 0) := (congrArg (fun t => List.lookup 60 t) gt330).trans rfl
theorem t330_61 : zT 330 61 = some (.iconst 1, 1, 0, 0, 1, 0) := (congrArg (fun t => List.lookup 61 t) gt330).trans rfl
theorem t330_62 : zT 330 62 = some (.iand, 1, 0, 0, 0, 0) := (congrArg (fun t => List.lookup 62 t) gt330).trans rfl
theorem t330_63 : zT 330 63 = some (.isub, 1, 0, 0, 0, 0) := (congrArg (fun t => List.lookup 63 t) gt330).trans rfl
theorem t330_64 : zT 330 64 = some (.iadd, 1, 0, 0, 0, 0) := (congrArg (fun t => List.lookup 64 t) gt330).trans rfl
theorem t330_65 : zT 330 65 = some (.istore_n 2, 1, 2, 0, 0, 0) := (congrArg (fun t => List.lookup 65 t) gt330).trans rfl
theorem t330_66 : zT 330 66 = some (.iinc 3 1, 3, 0, 0, 0, 0) := (congrArg (fun t => List.lookup 66 t) gt330).trans rfl
theorem t330_69 : zT 330 69 = some (.goto (-21), 3, 48, 0, 0, 0) := (congrArg (fun t => List.lookup 69 t) gt330).trans rfl
theorem t330_72 : zT 330 72 = some (.iload_n 2, 1, 2, 0, 0, 0) := (congrArg (fun t => List.lookup 72 t) gt330).trans rfl
theorem t330_73 : zT 330 73 = some (.ireturn, 1, 0, 0, 0, 0) := (congrArg (fun t => List.lookup 73 t) gt330).trans rfl
theorem t331_0 : zT 331 0 = some (.aload_n 0, 1, 0, 0, 0, 0) := (congrArg (fun t => List.lookup 0 t) gt331).trans rfl
theorem t331_1 : zT 331 1 = some (.iload_n 1, 1, 1, 0, 0, 0) := (congrArg (fun t => List.lookup 1 t) gt331).trans rfl
theorem t331_2 : zT 331 2 = some (.invokevirtual 377, 3, 306, 0, 0, 2084) := (congrArg (fun t => List.lookup 2 t) gt331).trans rfl
theorem t331_5 : zT 331 5 = some (.ifCond .eq 40, 3, 45, 0, 0, 0) := (congrArg (fun t => List.lookup 5 t) gt331).trans rfl
theorem t331_8 : zT 331 8 = some (.iload_n 2, 1, 2, 0, 0, 0) := (congrArg (fun t => List.lookup 8 t) gt331).trans rfl
theorem t331_9 : zT 331 9 = some (.i2l, 1, 0, 0, 0, 0) := (congrArg (fun t => List.lookup 9 t) gt331).trans rfl
theorem t331_10 : zT 331 10 = some (.ldc2_w 177, 3, 1, 0, (-9999), 1869) := (congrArg (fun t => List.lookup 10 t) gt331).trans rfl
theorem t331_13 : zT 331 13 = some (.ldc2_w 179, 3, 1, 0, 9999, 1870) := (congrArg (fun t => List.lookup 13 t) gt331).trans rfl
theorem t331_16 : zT 331 16 = some (.invokestatic 112, 3, 228, 1, 0, 1774) := (congrArg (fun t => List.lookup 16 t) gt331).trans rfl
theorem t331_19 : zT 331 19 = some (.ifCond .eq 26, 3, 45, 0, 0, 0) := (congrArg (fun t => List.lookup 19 t) gt331).trans rfl
theorem t331_22 : zT 331 22 = some (.iload_n 3, 1, 3, 0, 0, 0) := (congrArg (fun t => List.lookup 22 t) gt331).trans rfl
theorem t331_23 : zT 331 23 = some (.i2l, 1, 0, 0, 0, 0) := (congrArg (fun t => List.lookup 23 t) gt331).trans rfl
theorem t331_24 : zT 331 24 = some (.lconst 0, 1, 0, 0, 0, 0) := (congrArg (fun t => List.lookup 24 t) gt331).trans rfl
theorem t331_25 : zT 331 25 = some (.ldc2_w 435, 3, 1, 0, 999, 2163) := (congrArg (fun t => List.lookup 25 t) gt331).trans rfl
theorem t331_28 : zT 331 28 = some (.invokestatic 112, 3, 228, 1, 0, 1774) := (congrArg (fun t => List.lookup 28 t) gt331).trans rfl
theorem t331_31 : zT 331 31 = some (.ifCond .eq 14, 3, 45, 0, 0, 0) := (congrArg (fun t => List.lookup 31 t) gt331).trans rfl
theorem t331_34 : zT 331 34 = some (.aload_n 0, 1, 0, 0, 0, 0) := (congrArg (fun t => List.lookup 34 t) gt331).trans rfl
theorem t331_35 : zT 331 35 = some (.getfield 3, 3, 12, 0, 0, 1607) := (congrArg (fun t => List.lookup 35 t) gt331).trans rfl
theorem t331_38 : zT 331 38 = some (.iconst 1, 1, 0, 0, 1, 0) := (congrArg (fun t => List.lookup 38 t) gt331).trans rfl
theorem t331_39 : zT 331 39 = some (.iaload, 1, 0, 0, 0, 0) := (congrArg (fun t => List.lookup 39 t) gt331).trans rfl
theorem t331_40 : zT 331 40 = some (.bipush 60, 2, 0, 0, 60, 0) := (congrArg (fun t => List.lookup 40 t) gt331).trans rfl
theorem t331_42 : zT 331 42 = some (.if_icmp .ne 5, 3, 47, 0, 0, 0) := (congrArg (fun t => List.lookup 42 t) gt331).trans rfl
theorem t331_45 : zT 331 45 = some (.iconst (-1), 1, 0, 0, (-1), 0) := (congrArg (fun t => List.lookup 45 t) gt331).trans rfl
theorem t331_46 : zT 331 46 = some (.ireturn, 1, 0, 0, 0, 0) := (congrArg (fun t => List.lookup 46 t) gt331).trans rfl
theorem t331_47 : zT 331 47 = some (.aload_n 0, 1, 0, 0, 0, 0) := (congrArg (fun t => List.lookup 47 t) gt331).trans rfl
theorem t331_48 : zT 331 48 = some (.iconst 0, 1, 0, 0, 0, 0) := (congrArg (fun t => List.lookup 48 t) gt331).trans rfl
theorem t331_49 : zT 331 49 = some (.invokevirtual 116, 3, 230, 0, 0, 1781) := (congrArg (fun t => List.lookup 49 t) gt331).trans rfl
theorem t331_52 : zT 331 52 = some (.aload_n 0, 1, 0, 0, 0, 0) := (congrArg (fun t => List.lookup 52 t) gt331).trans rfl
theorem t331_53 : zT 331 53 = some (.iload_n 1, 1, 1, 0, 0, 0) := (congrArg (fun t => List.lookup 53 t) gt331).trans rfl
theorem t331_54 : zT 331 54 = some (.iload_n 2, 1, 2, 0, 0, 0) := (congrArg (fun t => List.lookup 54 t) gt331).trans rfl
theorem t331_55 : zT 331 55 = some (.iload_n 3, 1, 3, 0, 0, 0) := (congrArg (fun t => List.lookup 55 t) gt331).trans rfl
theorem t331_56 : zT 331 56 = some (.bipush (-2), 2, 0, 0, (-2), 0) := (congrArg (fun t => List.lookup 56 t) gt331).trans rfl
theorem t331_58 : zT 331 58 = some (.invokevirtual 181, 3, 252, 0, 0, 1871) := (congrArg (fun t => List.lookup 58 t) gt331).trans rfl
theorem t331_61 : zT 331 61 = some (.aload_n 0, 1, 0, 0, 0, 0) := (congrArg (fun t => List.lookup 61 t) gt331).trans rfl
theorem t331_62 : zT 331 62 = some (.getfield 3, 3, 12, 0, 0, 1607) := (congrArg (fun t => List.lookup 62 t) gt331).trans rfl
theorem t331_65 : zT 331 65 = some (.iconst 1, 1, 0, 0, 1, 0) := (congrArg (fun t => List.lookup 65 t) gt331).trans rfl
theorem t331_66 : zT 331 66 = some (.iaload, 1, 0, 0, 0, 0) := (congrArg (fun t => List.lookup 66 t) gt331).trans rfl
theorem t331_67 : zT 331 67 = some (.iconst 1, 1, 0, 0, 1, 0) := (congrArg (fun t => List.lookup 67 t) gt331).trans rfl
theorem t331_68 : zT 331 68 = some (.isub, 1, 0, 0, 0, 0) := (congrArg (fun t => List.lookup 68 t) gt331).trans rfl
theorem t331_69 : zT 331 69 = some (.ireturn, 1, 0, 0, 0, 0) := (congrArg (fun t => List.lookup 69 t) gt331).trans rfl
theorem t332_0 : zT 332 0 = some (.aload_n 0, 1, 0, 0, 0, 0) := (congrArg (fun t => List.lookup 0 t) gt332).trans rfl
theorem t332_1 : zT 332 1 = some (.iload_n 1, 1, 1, 0, 0, 0) := (congrArg (fun t => List.lookup 1 t) gt332).trans rfl
theorem t332_2 : zT 332 2 = some (.invokevirtual 380, 3, 308, 0, 0, 2092) := (congrArg (fun t => List.lookup 2 t) gt332).trans rfl
theorem t332_5 : zT 332 5 = some (.ifCond .eq 13, 3, 18, 0, 0, 0) := (congrArg (fun t => List.lookup 5 t) gt332).trans rfl
theorem t332_8 : zT 332 8 = some (.aload_n 0, 1, 0, 0, 0, 0) := (congrArg (fun t => List.lookup 8 t) gt332).trans rfl
theorem t332_9 : zT 332 9 = some (.iload_n 1, 1, 1, 0, 0, 0) := (congrArg (fun t => List.lookup 9 t) gt332).trans rfl
theorem t332_10 : zT 332 10 = some (.iconst 2, 1, 0, 0, 2, 0) := (congrArg (fun t => List.lookup 10 t) gt332).trans rfl
theorem t332_11 : zT 332 11 = some (.invokevirtual 255, 3, 272, 0, 0, 1949) := (congrArg (fun t => List.lookup 11 t) gt332).trans rfl
theorem t332_14 : zT 332 14 = some (.iconst (-1), 1, 0, 0, (-1), 0) := (congrArg (fun t => List.lookup 14 t) gt332).trans rfl
theorem t332_15 : zT 332 15 = some (.if_icmp .ne 5, 3, 20, 0, 0, 0) := (congrArg (fun t => List.lookup 15 t) gt332).trans rfl
theorem t332_18 : zT 332 18 = some (.iconst (-1), 1, 0, 0, (-1), 0) := (congrArg (fun t => List.lookup 18 t) gt332).trans rfl
theorem t332_19 : zT 332 19 = some (.ireturn, 1, 0, 0, 0, 0) := (congrArg (fun t => List.lookup 19 t) gt332).trans rfl
theorem t332_20 : zT 332 20 = some (.aload_n 0, 1, 0, 0, 0, 0) := (congrArg (fun t => List.lookup 20 t) gt332).trans rfl
theorem t332_21 : zT 332 21 = some (.iconst 0, 1, 0, 0, 0, 0) := (congrArg (fun t => List.lookup 21 t) gt332).trans rfl
theorem t332_22 : zT 332 22 = some (.invokevirtual 116, 3, 230, 0, 0, 1781) := (congrArg (fun t => List.lookup 22 t) gt332).trans rfl
theorem t332_25 : zT 332 25 = some (.aload_n 0, 1, 0, 0, 0, 0) := (congrArg (fun t => List.lookup 25 t) gt332).trans rfl
theorem t332_26 : zT 332 26 = some (.getfield 3, 3, 12, 0, 0, 1607) := (congrArg (fun t => List.lookup 26 t) gt332).trans rfl
theorem t332_29 : zT 332 29 = some (.bipush 30, 2, 0, 0, 30, 0) := (congrArg (fun t => List.lookup 29 t) gt332).trans rfl
theorem t332_31 : zT 332 31 = some (.iconst 4, 1, 0, 0, 4, 0) := (congrArg (fun t => List.lookup 31 t) gt332).trans rfl
theorem t332_32 : zT 332 32 = some (.iload_n 1, 1, 1, 0, 0, 0) := (congrArg (fun t => List.lookup 32 t) gt332).trans rfl
theorem t332_33 : zT 332 33 = some (.imul, 1, 0, 0, 0, 0) := (congrArg (fun t => List.lookup 33 t) gt332).trans rfl
theorem t332_34 : zT 332 34 = some (.iadd, 1, 0, 0, 0, 0) := (congrArg (fun t => List.lookup 34 t) gt332).trans rfl
theorem t332_35 : zT 332 35 = some (.iconst 2, 1, 0, 0, 2, 0) := (congrArg (fun t => List.lookup 35 t) gt332).trans rfl
theorem t332_36 : zT 332 36 = some (.iadd, 1, 0, 0, 0, 0) := (congrArg (fun t => List.lookup 36 t) gt332).trans rfl
theorem t332_37 : zT 332 37 = some (.iconst (-1), 1, 0, 0, (-1), 0) := (congrArg (fun t => List.lookup 37 t) gt332).trans rfl
theorem t332_38 : zT 332 38 = some (.iastore, 1, 0, 0, 0, 0) := (congrArg (fun t => List.lookup 38 t) gt332).trans rfl
theorem t332_39 : zT 332 39 = some (.aload_n 0, 1, 0, 0, 0, 0) := (congrArg (fun t => List.lookup 39 t) gt332).trans rfl
theorem t332_40 : zT 332 40 = some (.iconst (-1), 1, 0, 0, (-1), 0) := (congrArg (fun t => List.lookup 40 t) gt332).trans rfl
theorem t332_41 : zT 332 41 = some (.invokevirtual 372, 3, 290, 0, 0, 2018) := (congrArg (fun t => List.lookup 41 t) gt332).trans rfl
theorem t332_44 : zT 332 44 = some (.ireturn, 1, 0, 0, 0, 0) := (congrArg (fun t => List.lookup 44 t) gt332).trans rfl
theorem t333_0 : zT 333 0 = some (.aload_n 0, 1, 0, 0, 0, 0) := (congrArg (fun t => List.lookup 0 t) gt333).trans rfl
theorem t333_1 : zT 333 1 = some (.iload_n 1, 1, 1, 0, 0, 0) := (congrArg (fun t => List.lookup 1 t) gt333).trans rfl
theorem t333_2 : zT 333 2 = some (.invokevirtual 377, 3, 306, 0, 0, 2084) := (congrArg (fun t => List.lookup 2 t) gt333).trans rfl
theorem t333_5 : zT 333 5 = some (.ifCond .ne 5, 3, 10, 0, 0, 0) := (congrArg (fun t => List.lookup 5 t) gt333).trans rfl
theorem t333_8 : zT 333 8 = some (.iconst (-1), 1, 0, 0, (-1), 0) := (congrArg (fun t => List.lookup 8 t) gt333).trans rfl
theorem t333_9 : zT 333 9 = some (.ireturn, 1, 0, 0, 0, 0) := (congrArg (fun t => List.lookup 9 t) gt333).trans rfl
theorem t333_10 : zT 333 10 = some (.aload_n 0, 1, 0, 0, 0, 0) := (congrArg (fun t => List.lookup 10 t) gt333).trans rfl
theorem t333_11 : zT 333 11 = some (.iconst 0, 1, 0, 0, 0, 0) := (congrArg (fun t => List.lookup 11 t) gt333).trans rfl
theorem t333_12 : zT 333 12 = some (.invokevirtual 116, 3, 230, 0, 0, 1781) := (congrArg (fun t => List.lookup 12 t) gt333).trans rfl
theorem t333_15 : zT 333 15 = some (.aload_n 0, 1, 0, 0, 0, 0) := (congrArg (fun t => List.lookup 15 t) gt333).trans rfl
theorem t333_16 : zT 333 16 = some (.getfield 3, 3, 12, 0, 0, 1607) := (congrArg (fun t => List.lookup 16 t) gt333).trans rfl
theorem t333_19 : zT 333 19 = some (.bipush 14, 2, 0, 0, 14, 0) := (congrArg (fun t => List.lookup 19 t) gt333).trans rfl
theorem t333_21 : zT 333 21 = some (.iconst 2, 1, 0, 0, 2, 0) := (congrArg (fun t => List.lookup 21 t) gt333).trans rfl
theorem t333_22 : zT 333 22 = some (.iload_n 1, 1, 1, 0, 0, 0) := (congrArg (fun t => List.lookup 22 t) gt333).trans rfl
theorem t333_23 : zT 333 23 = some (.imul, 1, 0, 0, 0, 0) := (congrArg (fun t => List.lookup 23 t) gt333).trans rfl
theorem t333_24 : zT 333 24 = some (.iadd, 1, 0, 0, 0, 0) := (congrArg (fun t => List.lookup 24 t) gt333).trans rfl
theorem t333_25 : zT 333 25 = some (.iconst 1, 1, 0, 0, 1, 0) := (congrArg (fun t => List.lookup 25 t) gt333).trans rfl
theorem t333_26 : zT 333 26 = some (.iadd, 1, 0, 0, 0, 0) := (congrArg (fun t => List.lookup 26 t) gt333).trans rfl
theorem t333_27 : zT 333 27 = some (.dup2, 1, 0, 0, 0, 0) := (congrArg (fun t => List.lookup 27 t) gt333).trans rfl
theorem t333_28 : zT 333 28 = some (.iaload, 1, 0, 0, 0, 0) := (congrArg (fun t => List.lookup 28 t) gt333).trans rfl
theorem t333_29 : zT 333 29 = some (.iconst 1, 1, 0, 0, 1, 0) := (congrArg (fun t => List.lookup 29 t) gt333).trans rfl
theorem t333_30 : zT 333 30 = some (.ixor, 1, 0, 0, 0, 0) := (congrArg (fun t => List.lookup 30 t) gt333).trans rfl
theorem t333_31 : zT 333 31 = some (.iastore, 1, 0, 0, 0, 0) := (congrArg (fun t => List.lookup 31 t) gt333).trans rfl
theorem t333_32 : zT 333 32 = some (.aload_n 0, 1, 0, 0, 0, 0) := (congrArg (fun t => List.lookup 32 t) gt333).trans rfl
theorem t333_33 : zT 333 33 = some (.getfield 3, 3, 12, 0, 0, 1607) := (congrArg (fun t => List.lookup 33 t) gt333).trans rfl
theorem t333_36 : zT 333 36 = some (.bipush 14, 2, 0, 0, 14, 0) := (congrArg (fun t => List.lookup 36 t) gt333).trans rfl
theorem t333_38 : zT 333 38 = some (.iconst 2, 1, 0, 0, 2, 0) := (congrArg (fun t => List.lookup 38 t) gt333).trans rfl
theorem t333_39 : zT 333 39 = some (.iload_n 1, 1, 1, 0, 0, 0) := (congrArg (fun t => List.lookup 39 t) gt333).trans rfl
theorem t333_40 : zT 333 40 = some (.imul, 1, 0, 0, 0, 0) := (congrArg (fun t => List.lookup 40 t) gt333).trans rfl
theorem t333_41 : zT 333 41 = some (.iadd, 1, 0, 0, 0, 0) := (congrArg (fun t => List.lookup 41 t) gt333).trans rfl
theorem t333_42 : zT 333 42 = some (.iconst 1, 1, 0, 0, 1, 0) := (congrArg (fun t => List.lookup 42 t) gt333).trans rfl
theorem t333_43 : zT 333 43 = some (.iadd, 1, 0, 0, 0, 0) := (congrArg (fun t => List.lookup 43 t) gt333).trans rfl
theorem t333_44 : zT 333 44 = some (.iaload, 1, 0, 0, 0, 0) := (congrArg (fun t => List.lookup 44 t) gt333).trans rfl
theorem t333_45 : zT 333 45 = some (.ireturn, 1, 0, 0, 0, 0) := (congrArg (fun t => List.lookup 45 t) gt333).trans rfl
theorem t334_0 : zT 334 0 = some (.iload_n 1, 1, 1, 0, 0, 0) := (congrArg (fun t => List.lookup 0 t) gt334).trans rfl
theorem t334_1 : zT 334 1 = some (.i2l, 1, 0, 0, 0, 0) := (congrArg (fun t => List.lookup 1 t) gt334).trans rfl
theorem t334_2 : zT 334 2 = some (.ldc2_w 322, 3, 1, 0, 2, 1994) := (congrArg (fun t => List.lookup 2 t) gt334).trans rfl
theorem t334_5 : zT 334 5 = some (.ldc2_w 437, 3, 1, 0, 8, 2164) := (congrArg (fun t => List.lookup 5 t) gt334).trans rfl
theorem t334_8 : zT 334 8 = some (.invokestatic 112, 3, 228, 1, 0, 1774) := (congrArg (fun t => List.lookup 8 t) gt334).trans rfl
theorem t334_11 : zT 334 11 = some (.ifCond .ne 5, 3, 16, 0, 0, 0) := (congrArg (fun t => List.lookup 11 t) gt334).trans rfl
theorem t334_14 : zT 334 14 = some (.iconst (-1), 1, 0, 0, (-1), 0) := (congrArg (fun t => List.lookup 14 t) gt334).trans rfl
theorem t334_15 : zT 334 15 = some (.ireturn, 1, 0, 0, 0, 0) := (congrArg (fun t => List.lookup 15 t) gt334).trans rfl
theorem t334_16 : zT 334 16 = some (.aload_n 0, 1, 0, 0, 0, 0) := (congrArg (fun t => List.lookup 16 t) gt334).trans rfl
theorem t334_17 : zT 334 17 = some (.iconst 0, 1, 0, 0, 0, 0) := (congrArg (fun t => List.lookup 17 t) gt334).trans rfl
theorem t334_18 : zT 334 18 = some (.invokevirtual 116, 3, 230, 0, 0, 1781) := (congrArg (fun t => List.lookup 18 t) gt334).trans rfl
theorem t334_21 : zT 334 21 = some (.aload_n 0, 1, 0, 0, 0, 0) := (congrArg (fun t => List.lookup 21 t) gt334).trans rfl
theorem t334_22 : zT 334 22 = some (.getfield 3, 3, 12, 0, 0, 1607) := (congrArg (fun t => List.lookup 22 t) gt334).trans rfl
theorem t334_25 : zT 334 25 = some (.bipush 8, 2, 0, 0, 8, 0) := (congrArg (fun t => List.lookup 25 t) gt334).trans rfl
theorem t334_27 : zT 334 27 = some (.iaload, 1, 0, 0, 0, 0) := (congrArg (fun t => List.lookup 27 t) gt334).trans rfl
theorem t334_28 : zT 334 28 = some (.istore_n 2, 1, 2, 0, 0, 0) := (congrArg (fun t => List.lookup 28 t) gt334).trans rfl
theorem t334_29 : zT 334 29 = some (.aload_n 0, 1, 0, 0, 0, 0) := (congrArg (fun t => List.lookup 29 t) gt334).trans rfl
theorem t334_30 : zT 334 30 = some (.getfield 3, 3, 12, 0, 0, 1607) := (congrArg (fun t => List.lookup 30 t) gt334).trans rfl
theorem t334_33 : zT 334 33 = some (.bipush 8, 2, 0, 0, 8, 0) := (congrArg (fun t => List.lookup 33 t) gt334).trans rfl
theorem t334_35 : zT 334 35 = some (.iload_n 1, 1, 1, 0, 0, 0) := (congrArg (fun t => List.lookup 35 t) gt334).trans rfl
theorem t334_36 : zT 334 36 = some (.iastore, 1, 0, 0, 0, 0) := (congrArg (fun t => List.lookup 36 t) gt334).trans rfl
theorem t334_37 : zT 334 37 = some (.iload_n 2, 1, 2, 0, 0, 0) := (congrArg (fun t => List.lookup 37 t) gt334).trans rfl
theorem t334_38 : zT 334 38 = some (.ireturn, 1, 0, 0, 0, 0) := (congrArg (fun t => List.lookup 38 t) gt334).trans rfl
theorem t335_0 : zT 335 0 = some (.aload_n 0, 1, 0, 0, 0, 0) := (congrArg (fun t => List.lookup 0 t) gt335).trans rfl
theorem t335_1 : zT 335 1 = some (.iload_n 1, 1, 1, 0, 0, 0) := (congrArg (fun t => List.lookup 1 t) gt335).trans rfl
theorem t335_2 : zT 335 2 = some (.invokevirtual 377, 3, 306, 0, 0, 2084) := (congrArg (fun t => List.lookup 2 t) gt335).trans rfl
theorem t335_5 : zT 335 5 = some (.ifCond .eq 17, 3, 22, 0, 0, 0) := (congrArg (fun t => List.lookup 5 t) gt335).trans rfl
theorem t335_8 : zT 335 8 = some (.iload_n 2, 1, 2, 0, 0, 0) := (congrArg (fun t => List.lookup 8 t) gt335).trans rfl
theorem t335_9 : zT 335 9 = some (.i2l, 1, 0, 0, 0, 0) := (congrArg (fun t => List.lookup 9 t) gt335).trans rfl
theorem t335_10 : zT 335 10 = some (.ldc2_w 453, 3, 1, 0, (-999), 2211) := (congrArg (fun t => List.lookup 10 t) gt335).trans rfl
theorem t335_13 : zT 335 13 = some (.ldc2_w 435, 3, 1, 0, 999, 2163) := (congrArg (fun t => List.lookup 13 t) gt335).trans rfl
theorem t335_16 : zT 335 16 = some (.invokestatic 112, 3, 228, 1, 0, 1774) := (congrArg (fun t => List.lookup 16 t) gt335).trans rfl
theorem t335_19 : zT 335 19 = some (.ifCond .ne 5, 3, 24, 0, 0, 0) := (congrArg (fun t => List.lookup 19 t) gt335).trans rfl
theorem t335_22 : zT 335 22 = some (.iconst (-1), 1, 0, 0, (-1), 0) := (congrArg (fun t => List.lookup 22 t) gt335).trans rfl
theorem t335_23 : zT 335 23 = some (.ireturn, 1, 0, 0, 0, 0) := (congrArg (fun t => List.lookup 23 t) gt335).trans rfl
theorem t335_24 : zT 335 24 = some (.aload_n 0, 1, 0, 0, 0, 0) := (congrArg (fun t => List.lookup 24 t) gt335).trans rfl
theorem t335_25 : zT 335 25 = some (.iconst 0, 1, 0, 0, 0, 0) := (congrArg (fun t => List.lookup 25 t) gt335).trans rfl
theorem t335_26 : zT 335 26 = some (.invokevirtual 116, 3, 230, 0, 0, 1781) := (congrArg (fun t => List.lookup 26 t) gt335).trans rfl
theorem t335_29 : zT 335 29 = some (.iconst 0, 1, 0, 0, 0, 0) := (congrArg (fun t => List.lookup 29 t) gt335).trans rfl
theorem t335_30 : zT 335 30 = some (.istore_n 3, 1, 3, 0, 0, 0) := (congrArg (fun t => List.lookup 30 t) gt335).trans rfl
theorem t335_31 : zT 335 31 = some (.iconst 0, 1, 0, 0, 0, 0) := (congrArg (fun t => List.lookup 31 t) gt335).trans rfl
theorem t335_32 : zT 335 32 = some (.istore 4, 2, 0, 0, 0, 0) := (congrArg (fun t => List.lookup 32 t) gt335).trans rfl
theorem t335_34 : zT 335 34 = some (.iload 4, 2, 0, 0, 0, 0) := (congrArg (fun t => List.lookup 34 t) gt335).trans rfl
theorem t335_36 : zT 335 36 = some (.aload_n 0, 1, 0, 0, 0, 0) := (congrArg (fun t => List.lookup 36 t) gt335).trans rfl
theorem t335_37 : zT 335 37 = some (.getfield 3, 3, 12, 0, 0, 1607) := (congrArg (fun t => List.lookup 37 t) gt335).trans rfl
theorem t335_40 : zT 335 40 = some (.iconst 1, 1, 0, 0, 1, 0) := (congrArg (fun t => List.lookup 40 t) gt335).trans rfl
theorem t335_41 : zT 335 41 = some (.iaload, 1, 0, 0, 0, 0) := (congrArg (fun t => List.lookup 41 t) gt335).trans rfl
theorem t335_42 : zT 335 42 = some (.if_icmp .ge 66, 3, 108, 0, 0, 0) := (congrArg (fun t => List.lookup 42 t) gt335).trans rfl
theorem t335_45 : zT 335 45 = some (.aload_n 0, 1, 0, 0, 0, 0) := (congrArg (fun t => List.lookup 45 t) gt335).trans rfl
theorem t335_46 : zT 335 46 = some (.iload 4, 2, 0, 0, 0, 0) := (congrArg (fun t => List.lookup 46 t) gt335).trans rfl
theorem t335_48 : zT 335 48 = some (.iconst 0, 1, 0, 0, 0, 0) := (congrArg (fun t => List.lookup 48 t) gt335).trans rfl
theorem t335_49 : zT 335 49 = some (.invokevirtual 255, 3, 272, 0, 0, 1949) := (congrArg (fun t => List.lookup 49 t) gt335).trans rfl
theorem t335_52 : zT 335 52 = some (.iload_n 1, 1, 1, 0, 0, 0) := (congrArg (fun t => List.lookup 52 t) gt335).trans rfl
theorem t335_53 : zT 335 53 = some (.if_icmp .ne 49, 3, 102, 0, 0, 0) := (congrArg (fun t => List.lookup 53 t) gt335).trans rfl
theorem t335_56 : zT 335 56 = some (.aload_n 0, 1, 0, 0, 0, 0) := (congrArg (fun t => List.lookup 56 t) gt335).trans rfl
theorem t335_57 : zT 335 57 = some (.iload 4, 2, 0, 0, 0, 0) := (congrArg (fun t => List.lookup 57 t) gt335).trans rfl
theorem t335_59 : zT 335 59 = some (.iconst 1, 1, 0, 0, 1, 0) := (congrArg (fun t => List.lookup 59 t) gt335).trans rfl
theorem t335_60 : zT 335 60 = some (.invokevirtual 255, 3, 272, 0, 0, 1949) := (congrArg (fun t => List.lookup 60 t) gt335).trans rfl
theorem t335_63 : zT 335 63 = some (.iload_n 2, 1, 2, 0, 0, 0) := (congrArg (fun t => List.lookup 63 t) gt335).trans rfl
theorem t335_64 : zT 335 64 = some (.iadd, 1, 0, 0, 0, 0) := (congrArg (fun t => List.lookup 64 t) gt335).trans rfl
theorem t335_65 : zT 335 65 = some (.i2l, 1, 0, 0, 0, 0) := (congrArg (fun t => List.lookup 65 t) gt335).trans rfl
theorem t335_66 : zT 335 66 = some (.ldc2_w 177, 3, 1, 0, (-9999), 1869) := (congrArg (fun t => List.lookup 66 t) gt335).trans rfl
theorem t335_69 : zT 335 69 = some (.ldc2_w 179, 3, 1, 0, 9999, 1870) := (congrArg (fun t => List.lookup 69 t) gt335).trans rfl
theorem t335_72 : zT 335 72 = some (.invokestatic 112, 3, 228, 1, 0, 1774) := (congrArg (fun t => List.lookup 72 t) gt335).trans rfl
theorem t335_75 : zT 335 75 = some (.ifCond .ne 6, 3, 81, 0, 0, 0) := (congrArg (fun t => List.lookup 75 t) gt335).trans rfl
theorem t335_78 : zT 335 78 = some (.goto 24, 3, 102, 0, 0, 0) := (congrArg (fun t => List.lookup 78 t) gt335).trans rfl
theorem t335_81 : zT 335 81 = some (.aload_n 0, 1, 0, 0, 0, 0) := (congrArg (fun t => List.lookup 81 t) gt335).trans rfl
theorem t335_82 : zT 335 82 = some (.getfield 3, 3, 12, 0, 0, 1607) := (congrArg (fun t => List.lookup 82 t) gt335).trans rfl
theorem t335_85 : zT 335 85 = some (.bipush 30, 2, 0, 0, 30, 0) := (congrArg (fun t => List.lookup 85 t) gt335).trans rfl
theorem t335_87 : zT 335 87 = some (.iconst 4, 1, 0, 0, 4, 0) := (congrArg (fun t => List.lookup 87 t) gt335).trans rfl
theorem t335_88 : zT 335 88 = some (.iload 4, 2, 0, 0, 0, 0) := (congrArg (fun t => List.lookup 88 t) gt335).trans rfl
theorem t335_90 : zT 335 90 = some (.imul, 1, 0, 0, 0, 0) := (congrArg (fun t => List.lookup 90 t) gt335).trans rfl
theorem t335_91 : zT 335 91 = some (.iadd, 1, 0, 0, 0, 0) := (congrArg (fun t => List.lookup 91 t) gt335).trans rfl
theorem t335_92 : zT 335 92 = some (.iconst 1, 1, 0, 0, 1, 0) := (congrArg (fun t => List.lookup 92 t) gt335).trans rfl
theorem t335_93 : zT 335 93 = some (.iadd, 1, 0, 0, 0, 0) := (congrArg (fun t => List.lookup 93 t) gt335).trans rfl
theorem t335_94 : zT 335 94 = some (.dup2, 1, 0, 0, 0, 0) := (congrArg (fun t => List.lookup 94 t) gt335).trans rfl
theorem t335_95 : zT 335 95 = some (.iaload, 1, 0, 0, 0, 0) := (congrArg (fun t => List.lookup 95 t) gt335).trans rfl
theorem t335_96 : zT 335 96 = some (.iload_n 2, 1, 2, 0, 0, 0) := (congrArg (fun t => List.lookup 96 t) gt335).trans rfl
theorem t335_97 : zT 335 97 = some (.iadd, 1, 0, 0, 0, 0) := (congrArg (fun t => List.lookup 97 t) gt335).trans rfl
theorem t335_98 : zT 335 98 = some (.iastore, 1, 0, 0, 0, 0) := (congrArg (fun t => List.lookup 98 t) gt335).trans rfl
theorem t335_99 : zT 335 99 = some (.iinc 3 1, 3, 0, 0, 0, 0) := (congrArg (fun t => List.lookup 99 t) gt335).trans rfl
theorem t335_102 : zT 335 102 = some (.iinc 4 1, 3, 0, 0, 0, 0) := (congrArg (fun t => List.lookup 102 t) gt335).trans rfl
theorem t335_105 : zT 335 105 = some (.goto (-71), 3, 34, 0, 0, 0) := (congrArg (fun t => List.lookup 105 t) gt335).trans rfl
theorem t335_108 : zT 335 108 = some (.iload_n 3, 1, 3, 0, 0, 0) := (congrArg (fun t => List.lookup 108 t) gt335).trans rfl
theorem t335_109 : zT 335 109 = some (.ireturn, 1, 0, 0, 0, 0) := (congrArg (fun t => List.lookup 109 t) gt335).trans rfl
theorem t336_0 : zT 336 0 = some (.aload_n 0, 1, 0, 0, 0, 0) := (congrArg (fun t => List.lookup 0 t) gt336).trans rfl
theorem t336_1 : zT 336 1 = some (.invokevirtual 331, 3, 268, 0, 0, 1933) := (congrArg (fun t => List.lookup 1 t) gt336).trans rfl
theorem t336_4 : zT 336 4 = some (.aload_n 0, 1, 0, 0, 0, 0) := (congrArg (fun t => List.lookup 4 t) gt336).trans rfl
theorem t336_5 : zT 336 5 = some (.iload_n 1, 1, 1, 0, 0, 0) := (congrArg (fun t => List.lookup 5 t) gt336).trans rfl
theorem t336_6 : zT 336 6 = some (.invokevirtual 334, 3, 297, 0, 0, 2045) := (congrArg (fun t => List.lookup 6 t) gt336).trans rfl
theorem t336_9 : zT 336 9 = some (.ifCond .eq 20, 3, 29, 0, 0, 0) := (congrArg (fun t => List.lookup 9 t) gt336).trans rfl
theorem t336_12 : zT 336 12 = some (.aload_n 0, 1, 0, 0, 0, 0) := (congrArg (fun t => List.lookup 12 t) gt336).trans rfl
theorem t336_13 : zT 336 13 = some (.iload_n 2, 1, 2, 0, 0, 0) := (congrArg (fun t => List.lookup 13 t) gt336).trans rfl
theorem t336_14 : zT 336 14 = some (.invokevirtual 377, 3, 306, 0, 0, 2084) := (congrArg (fun t => List.lookup 14 t) gt336).trans rfl
theorem t336_17 : zT 336 17 = some (.ifCond .eq 12, 3, 29, 0, 0, 0) := (congrArg (fun t => List.lookup 17 t) gt336).trans rfl
theorem t336_20 : zT 336 20 = some (.aload_n 0, 1, 0, 0, 0, 0) := (congrArg (fun t => List.lookup 20 t) gt336).trans rfl
theorem t336_21 : zT 336 21 = some (.iload_n 1, 1, 1, 0, 0, 0) := (congrArg (fun t => List.lookup 21 t) gt336).trans rfl
theorem t336_22 : zT 336 22 = some (.iload_n 2, 1, 2, 0, 0, 0) := (congrArg (fun t => List.lookup 22 t) gt336).trans rfl
theorem t336_23 : zT 336 23 = some (.invokevirtual 455, 3, 337, 0, 0, 2216) := (congrArg (fun t => List.lookup 23 t) gt336).trans rfl
theorem t336_26 : zT 336 26 = some (.goto 6, 3, 32, 0, 0, 0) := (congrArg (fun t => List.lookup 26 t) gt336).trans rfl
theorem t336_29 : zT 336 29 = some (.ldc_w 353, 3, 0, 0, (-100000), 2066) := (congrArg (fun t => List.lookup 29 t) gt336).trans rfl
theorem t336_32 : zT 336 32 = some (.ireturn, 1, 0, 0, 0, 0) := (congrArg (fun t => List.lookup 32 t) gt336).trans rfl
theorem t337_0 : zT 337 0 = some (.aload_n 0, 1, 0, 0, 0, 0) := (congrArg (fun t => List.lookup 0 t) gt337).trans rfl
theorem t337_1 : zT 337 1 = some (.getfield 62, 3, 12, 30, 0, 1637) := (congrArg (fun t => List.lookup 1 t) gt337).trans rfl
theorem t337_4 : zT 337 4 = some (.iload_n 1, 1, 1, 0, 0, 0) := (congrArg (fun t => List.lookup 4 t) gt337).trans rfl
theorem t337_5 : zT 337 5 = some (.laload, 1, 0, 0, 0, 0) := (congrArg (fun t => List.lookup 5 t) gt337).trans rfl
theorem t337_6 : zT 337 6 = some (.aload_n 0, 1, 0, 0, 0, 0) := (congrArg (fun t => List.lookup 6 t) gt337).trans rfl
theorem t337_7 : zT 337 7 = some (.getfield 65, 3, 12, 31, 0, 1638) := (congrArg (fun t => List.lookup 7 t) gt337).trans rfl
theorem t337_10 : zT 337 10 = some (.iload_n 1, 1, 1, 0, 0, 0) := (congrArg (fun t => List.lookup 10 t) gt337).trans rfl
theorem t337_11 : zT 337 11 = some (.laload, 1, 0, 0, 0, 0) := (congrArg (fun t => List.lookup 11 t) gt337).trans rfl
theorem t337_12 : zT 337 12 = some (.aload_n 0, 1, 0, 0, 0, 0) := (congrArg (fun t => List.lookup 12 t) gt337).trans rfl
theorem t337_13 : zT 337 13 = some (.iload_n 2, 1, 2, 0, 0, 0) := (congrArg (fun t => List.lookup 13 t) gt337).trans rfl
theorem t337_14 : zT 337 14 = some (.invokevirtual 154, 3, 241, 0, 0, 1825) := (congrArg (fun t => List.lookup 14 t) gt337).trans rfl
theorem t337_17 : zT 337 17 = some (.i2l, 1, 0, 0, 0, 0) := (congrArg (fun t => List.lookup 17 t) gt337).trans rfl
theorem t337_18 : zT 337 18 = some (.lmul, 1, 0, 0, 0, 0) := (congrArg (fun t => List.lookup 18 t) gt337).trans rfl
theorem t337_19 : zT 337 19 = some (.ladd, 1, 0, 0, 0, 0) := (congrArg (fun t => List.lookup 19 t) gt337).trans rfl
theorem t337_20 : zT 337 20 = some (.aload_n 0, 1, 0, 0, 0, 0) := (congrArg (fun t => List.lookup 20 t) gt337).trans rfl
theorem t337_21 : zT 337 21 = some (.getfield 58, 3, 12, 29, 0, 1636) := (congrArg (fun t => List.lookup 21 t) gt337).trans rfl
theorem t337_24 : zT 337 24 = some (.iload_n 1, 1, 1, 0, 0, 0) := (congrArg (fun t => List.lookup 24 t) gt337).trans rfl
theorem t337_25 : zT 337 25 = some (.laload, 1, 0, 0, 0, 0) := (congrArg (fun t => List.lookup 25 t) gt337).trans rfl
theorem t337_26 : zT 337 26 = some (.invokestatic 324, 3, 286, 1, 0, 2003) := (congrArg (fun t => List.lookup 26 t) gt337).trans rfl
theorem t337_29 : zT 337 29 = some (.l2i, 1, 0, 0, 0, 0) := (congrArg (fun t => List.lookup 29 t) gt337).trans rfl
theorem t337_30 : zT 337 30 = some (.aload_n 0, 1, 0, 0, 0, 0) := (congrArg (fun t => List.lookup 30 t) gt337).trans rfl
theorem t337_31 : zT 337 31 = some (.iload_n 2, 1, 2, 0, 0, 0) := (congrArg (fun t => List.lookup 31 t) gt337).trans rfl
theorem t337_32 : zT 337 32 = some (.aload_n 0, 1, 0, 0, 0, 0) := (congrArg (fun t => List.lookup 32 t) gt337).trans rfl
theorem t337_33 : zT 337 33 = some (.getfield 40, 3, 12, 23, 0, 1630) := (congrArg (fun t => List.lookup 33 t) gt337).trans rfl
theorem t337_36 : zT 337 36 = some (.iload_n 1, 1, 1, 0, 0, 0) := (congrArg (fun t => List.lookup 36 t) gt337).trans rfl
theorem t337_37 : zT 337 37 = some (.iaload, 1, 0, 0, 0, 0) := (congrArg (fun t => List.lookup 37 t) gt337).trans rfl
theorem t337_38 : zT 337 38 = some (.invokevirtual 166, 3, 251, 0, 0, 1864) := (congrArg (fun t => List.lookup 38 t) gt337).trans rfl
theorem t337_41 : zT 337 41 = some (.iadd, 1, 0, 0, 0, 0) := (congrArg (fun t => List.lookup 41 t) gt337).trans rfl
theorem t337_42 : zT 337 42 = some (.ireturn, 1, 0, 0, 0, 0) := (congrArg (fun t => List.lookup 42 t) gt337).trans rfl
theorem t338_0 : zT 338 0 = some (.aload_n 0, 1, 0, 0, 0, 0) := (congrArg (fun t => List.lookup 0 t) gt338).trans rfl
theorem t338_1 : zT 338 1 = some (.invokevirtual 331, 3, 268, 0, 0, 1933) := (congrArg (fun t => List.lookup 1 t) gt338).trans rfl
theorem t338_4 : zT 338 4 = some (.aload_n 0, 1, 0, 0, 0, 0) := (congrArg (fun t => List.lookup 4 t) gt338).trans rfl
theorem t338_5 : zT 338 5 = some (.iload_n 1, 1, 1, 0, 0, 0) := (congrArg (fun t => List.lookup 5 t) gt338).trans rfl
theorem t338_6 : zT 338 6 = some (.invokevirtual 334, 3, 297, 0, 0, 2045) := (congrArg (fun t => List.lookup 6 t) gt338).trans rfl
theorem t338_9 : zT 338 9 = some (.ifCond .ne 5, 3, 14, 0, 0, 0) := (congrArg (fun t => List.lookup 9 t) gt338).trans rfl
theorem t338_12 : zT 338 12 = some (.iconst (-1), 1, 0, 0, (-1), 0) := (congrArg (fun t => List.lookup 12 t) gt338).trans rfl
theorem t338_13 : zT 338 13 = some (.ireturn, 1, 0, 0, 0, 0) := (congrArg (fun t => List.lookup 13 t) gt338).trans rfl
theorem t338_14 : zT 338 14 = some (.iconst 0, 1, 0, 0, 0, 0) := (congrArg (fun t => List.lookup 14 t) gt338).trans rfl
theorem t338_15 : zT 338 15 = some (.istore_n 2, 1, 2, 0, 0, 0) := (congrArg (fun t => List.lookup 15 t) gt338).trans rfl
theorem t338_16 : zT 338 16 = some (.iconst 0, 1, 0, 0, 0, 0) := (congrArg (fun t => List.lookup 16 t) gt338).trans rfl
theorem t338_17 : zT 338 17 = some (.istore_n 3, 1, 3, 0, 0, 0) := (congrArg (fun t => List.lookup 17 t) gt338).trans rfl
theorem t338_18 : zT 338 18 = some (.iload_n 3, 1, 3, 0, 0, 0) := (congrArg (fun t => List.lookup 18 t) gt338).trans rfl
theorem t338_19 : zT 338 19 = some (.aload_n 0, 1, 0, 0, 0, 0) := (congrArg (fun t => List.lookup 19 t) gt338).trans rfl
theorem t338_20 : zT 338 20 = some (.getfield 3, 3, 12, 0, 0, 1607) := (congrArg (fun t => List.lookup 20 t) gt338).trans rfl
theorem t338_23 : zT 338 23 = some (.iconst 0, 1, 0, 0, 0, 0) := (congrArg (fun t => List.lookup 23 t) gt338).trans rfl
theorem t338_24 : zT 338 24 = some (.iaload, 1, 0, 0, 0, 0) := (congrArg (fun t => List.lookup 24 t) gt338).trans rfl
theorem t338_25 : zT 338 25 = some (.if_icmp .ge 43, 3, 68, 0, 0, 0) := (congrArg (fun t => List.lookup 25 t) gt338).trans rfl
theorem t338_28 : zT 338 28 = some (.iload_n 2, 1, 2, 0, 0, 0) := (congrArg (fun t => List.lookup 28 t) gt338).trans rfl
theorem t338_29 : zT 338 29 = some (.aload_n 0, 1, 0, 0, 0, 0) := (congrArg (fun t => List.lookup 29 t) gt338).trans rfl
theorem t338_30 : zT 338 30 = some (.iload_n 3, 1, 3, 0, 0, 0) := (congrArg (fun t => List.lookup 30 t) gt338).trans rfl
theorem t338_31 : zT 338 31 = some (.invokevirtual 258, 3, 273, 0, 0, 1953) := (congrArg (fun t => List.lookup 31 t) gt338).trans rfl
theorem t338_34 : zT 338 34 = some (.ifCond .eq 25, 3, 59, 0, 0, 0) := (congrArg (fun t => List.lookup 34 t) gt338).trans rfl
theorem t338_37 : zT 338 37 = some (.aload_n 0, 1, 0, 0, 0, 0) := (congrArg (fun t => List.lookup 37 t) gt338).trans rfl
theorem t338_38 : zT 338 38 = some (.getfield 52, 3, 12, 27, 0, 1634) := (congrArg (fun t => List.lookup 38 t) gt338).trans rfl
theorem t338_41 : zT 338 41 = some (.bipush 8, 2, 0, 0, 8, 0) := (congrArg (fun t => List.lookup 41 t) gt338).trans rfl
theorem t338_43 : zT 338 43 = some (.iload_n 1, 1, 1, 0, 0, 0) := (congrArg (fun t => List.lookup 43 t) gt338).trans rfl
theorem t338_44 : zT 338 44 = some (.imul, 1, 0, 0, 0, 0) := (congrArg (fun t => List.lookup 44 t) gt338).trans rfl
theorem t338_45 : zT 338 45 = some (.iload_n 3, 1, 3, 0, 0, 0) := (congrArg (fun t => List.lookup 45 t) gt338).trans rfl
theorem t338_46 : zT 338 46 = some (.iadd, 1, 0, 0, 0, 0) := (congrArg (fun t => List.lookup 46 t) gt338).trans rfl
theorem t338_47 : zT 338 47 = some (.iaload, 1, 0, 0, 0, 0) := (congrArg (fun t => List.lookup 47 t) gt338).trans rfl
