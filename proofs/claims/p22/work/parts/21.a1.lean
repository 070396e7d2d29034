theorem t24_12 : zT 24 12 = some (.putfield 61, 3, 6, 13, 0, 191) := (congrArg (fun t => List.lookup 12 t) gt24).trans rfl
theorem t24_15 : zT 24 15 = some (.aload_n 1, 1, 1, 0, 0, 0) := (congrArg (fun t => List.lookup 15 t) gt24).trans rfl
theorem t24_16 : zT 24 16 = some (.iconst 0, 1, 0, 0, 0, 0) := (congrArg (fun t => List.lookup 16 t) gt24).trans rfl
theorem t24_17 : zT 24 17 = some (.aload_n 0, 1, 0, 0, 0, 0) := (congrArg (fun t => List.lookup 17 t) gt24).trans rfl
theorem t24_18 : zT 24 18 = some (.getfield 64, 3, 6, 14, 0, 193) := (congrArg (fun t => List.lookup 18 t) gt24).trans rfl
theorem t24_21 : zT 24 21 = some (.iconst 0, 1, 0, 0, 0, 0) := (congrArg (fun t => List.lookup 21 t) gt24).trans rfl
theorem t24_22 : zT 24 22 = some (.aload_n 0, 1, 0, 0, 0, 0) := (congrArg (fun t => List.lookup 22 t) gt24).trans rfl
theorem t24_23 : zT 24 23 = some (.getfield 61, 3, 6, 13, 0, 191) := (congrArg (fun t => List.lookup 23 t) gt24).trans rfl
theorem t24_26 : zT 24 26 = some (.invokestatic 68, 3, 0, 6, 0, 676) := (congrArg (fun t => List.lookup 26 t) gt24).trans rfl
theorem t24_29 : zT 24 29 = some (.return_, 1, 0, 0, 0, 0) := (congrArg (fun t => List.lookup 29 t) gt24).trans rfl
theorem t25_0 : zT 25 0 = some (.aload_n 1, 1, 1, 0, 0, 0) := (congrArg (fun t => List.lookup 0 t) gt25).trans rfl
theorem t25_1 : zT 25 1 = some (.invokevirtual 21, 3, 26, 0, 0, 689) := (congrArg (fun t => List.lookup 1 t) gt25).trans rfl
theorem t25_4 : zT 25 4 = some (.iconst 0, 1, 0, 0, 0, 0) := (congrArg (fun t => List.lookup 4 t) gt25).trans rfl
theorem t25_5 : zT 25 5 = some (.istore_n 3, 1, 3, 0, 0, 0) := (congrArg (fun t => List.lookup 5 t) gt25).trans rfl
theorem t25_6 : zT 25 6 = some (.iload_n 3, 1, 3, 0, 0, 0) := (congrArg (fun t => List.lookup 6 t) gt25).trans rfl
theorem t25_7 : zT 25 7 = some (.sipush 500, 3, 0, 0, 500, 0) := (congrArg (fun t => List.lookup 7 t) gt25).trans rfl
theorem t25_10 : zT 25 10 = some (.if_icmp .ge 27, 3, 37, 0, 0, 0) := (congrArg (fun t => List.lookup 10 t) gt25).trans rfl
theorem t25_13 : zT 25 13 = some (.aload_n 1, 1, 1, 0, 0, 0) := (congrArg (fun t => List.lookup 13 t) gt25).trans rfl
theorem t25_14 : zT 25 14 = some (.invokevirtual 26, 3, 27, 0, 0, 693) := (congrArg (fun t => List.lookup 14 t) gt25).trans rfl
theorem t25_17 : zT 25 17 = some (.ifCond .ne 20, 3, 37, 0, 0, 0) := (congrArg (fun t => List.lookup 17 t) gt25).trans rfl
theorem t25_20 : zT 25 20 = some (.aload_n 0, 1, 0, 0, 0, 0) := (congrArg (fun t => List.lookup 20 t) gt25).trans rfl
theorem t25_21 : zT 25 21 = some (.aload_n 1, 1, 1, 0, 0, 0) := (congrArg (fun t => List.lookup 21 t) gt25).trans rfl
theorem t25_22 : zT 25 22 = some (.aload_n 2, 1, 2, 0, 0, 0) := (congrArg (fun t => List.lookup 22 t) gt25).trans rfl
theorem t25_23 : zT 25 23 = some (.invokevirtual 30, 3, 28, 0, 0, 697) := (congrArg (fun t => List.lookup 23 t) gt25).trans rfl
theorem t25_26 : zT 25 26 = some (.ifCond .ne 5, 3, 31, 0, 0, 0) := (congrArg (fun t => List.lookup 26 t) gt25).trans rfl
theorem t25_29 : zT 25 29 = some (.iconst (-1), 1, 0, 0, (-1), 0) := (congrArg (fun t => List.lookup 29 t) gt25).trans rfl
theorem t25_30 : zT 25 30 = some (.ireturn, 1, 0, 0, 0, 0) := (congrArg (fun t => List.lookup 30 t) gt25).trans rfl
theorem t25_31 : zT 25 31 = some (.iinc 3 1, 3, 0, 0, 0, 0) := (congrArg (fun t => List.lookup 31 t) gt25).trans rfl
theorem t25_34 : zT 25 34 = some (.goto (-28), 3, 6, 0, 0, 0) := (congrArg (fun t => List.lookup 34 t) gt25).trans rfl
theorem t25_37 : zT 25 37 = some (.iload_n 3, 1, 3, 0, 0, 0) := (congrArg (fun t => List.lookup 37 t) gt25).trans rfl
theorem t25_38 : zT 25 38 = some (.ireturn, 1, 0, 0, 0, 0) := (congrArg (fun t => List.lookup 38 t) gt25).trans rfl
theorem t26_0 : zT 26 0 = some (.aload_n 0, 1, 0, 0, 0, 0) := (congrArg (fun t => List.lookup 0 t) gt26).trans rfl
theorem t26_1 : zT 26 1 = some (.iconst 0, 1, 0, 0, 0, 0) := (congrArg (fun t => List.lookup 1 t) gt26).trans rfl
theorem t26_2 : zT 26 2 = some (.putfield 19, 3, 7, 2, 0, 262) := (congrArg (fun t => List.lookup 2 t) gt26).trans rfl
theorem t26_5 : zT 26 5 = some (.aload_n 0, 1, 0, 0, 0, 0) := (congrArg (fun t => List.lookup 5 t) gt26).trans rfl
theorem t26_6 : zT 26 6 = some (.iconst (-1), 1, 0, 0, (-1), 0) := (congrArg (fun t => List.lookup 6 t) gt26).trans rfl
theorem t26_7 : zT 26 7 = some (.putfield 22, 3, 7, 3, 0, 263) := (congrArg (fun t => List.lookup 7 t) gt26).trans rfl
theorem t26_10 : zT 26 10 = some (.return_, 1, 0, 0, 0, 0) := (congrArg (fun t => List.lookup 10 t) gt26).trans rfl
theorem t27_0 : zT 27 0 = some (.aload_n 0, 1, 0, 0, 0, 0) := (congrArg (fun t => List.lookup 0 t) gt27).trans rfl
theorem t27_1 : zT 27 1 = some (.getfield 19, 3, 7, 2, 0, 262) := (congrArg (fun t => List.lookup 1 t) gt27).trans rfl
theorem t27_4 : zT 27 4 = some (.aload_n 0, 1, 0, 0, 0, 0) := (congrArg (fun t => List.lookup 4 t) gt27).trans rfl
theorem t27_5 : zT 27 5 = some (.getfield 15, 3, 7, 1, 0, 261) := (congrArg (fun t => List.lookup 5 t) gt27).trans rfl
theorem t27_8 : zT 27 8 = some (.if_icmp .lt 7, 3, 15, 0, 0, 0) := (congrArg (fun t => List.lookup 8 t) gt27).trans rfl
theorem t27_11 : zT 27 11 = some (.iconst 1, 1, 0, 0, 1, 0) := (congrArg (fun t => List.lookup 11 t) gt27).trans rfl
theorem t27_12 : zT 27 12 = some (.goto 4, 3, 16, 0, 0, 0) := (congrArg (fun t => List.lookup 12 t) gt27).trans rfl
theorem t27_15 : zT 27 15 = some (.iconst 0, 1, 0, 0, 0, 0) := (congrArg (fun t => List.lookup 15 t) gt27).trans rfl
theorem t27_16 : zT 27 16 = some (.ireturn, 1, 0, 0, 0, 0) := (congrArg (fun t => List.lookup 16 t) gt27).trans rfl
theorem t28_0 : zT 28 0 = some (.aload_n 1, 1, 1, 0, 0, 0) := (congrArg (fun t => List.lookup 0 t) gt28).trans rfl
theorem t28_1 : zT 28 1 = some (.invokevirtual 34, 3, 29, 0, 0, 701) := (congrArg (fun t => List.lookup 1 t) gt28).trans rfl
theorem t28_4 : zT 28 4 = some (.istore_n 3, 1, 3, 0, 0, 0) := (congrArg (fun t => List.lookup 4 t) gt28).trans rfl
theorem t28_5 : zT 28 5 = some (.aload_n 1, 1, 1, 0, 0, 0) := (congrArg (fun t => List.lookup 5 t) gt28).trans rfl
theorem t28_6 : zT 28 6 = some (.invokevirtual 38, 3, 30, 0, 0, 705) := (congrArg (fun t => List.lookup 6 t) gt28).trans rfl
theorem t28_9 : zT 28 9 = some (.istore 4, 2, 0, 0, 0, 0) := (congrArg (fun t => List.lookup 9 t) gt28).trans rfl
theorem t28_11 : zT 28 11 = some (.iload 4, 2, 0, 0, 0, 0) := (congrArg (fun t => List.lookup 11 t) gt28).trans rfl
theorem t28_13 : zT 28 13 = some (.invokestatic 41, 3, 32, 1, 0, 713) := (congrArg (fun t => List.lookup 13 t) gt28).trans rfl
theorem t28_16 : zT 28 16 = some (.istore 5, 2, 0, 0, 0, 0) := (congrArg (fun t => List.lookup 16 t) gt28).trans rfl
theorem t28_18 : zT 28 18 = some (.iload 5, 2, 0, 0, 0, 0) := (congrArg (fun t => List.lookup 18 t) gt28).trans rfl
theorem t28_20 : zT 28 20 = some (.ifCond .eq 12, 3, 32, 0, 0, 0) := (congrArg (fun t => List.lookup 20 t) gt28).trans rfl
theorem t28_23 : zT 28 23 = some (.iload 4, 2, 0, 0, 0, 0) := (congrArg (fun t => List.lookup 23 t) gt28).trans rfl
theorem t28_25 : zT 28 25 = some (.aload_n 2, 1, 2, 0, 0, 0) := (congrArg (fun t => List.lookup 25 t) gt28).trans rfl
theorem t28_26 : zT 28 26 = some (.invokestatic 45, 3, 33, 1, 0, 716) := (congrArg (fun t => List.lookup 26 t) gt28).trans rfl
theorem t28_29 : zT 28 29 = some (.ifCond .eq 9, 3, 38, 0, 0, 0) := (congrArg (fun t => List.lookup 29 t) gt28).trans rfl
theorem t28_32 : zT 28 32 = some (.aload_n 1, 1, 1, 0, 0, 0) := (congrArg (fun t => List.lookup 32 t) gt28).trans rfl
theorem t28_33 : zT 28 33 = some (.iload_n 3, 1, 3, 0, 0, 0) := (congrArg (fun t => List.lookup 33 t) gt28).trans rfl
theorem t28_34 : zT 28 34 = some (.invokevirtual 49, 3, 34, 0, 0, 719) := (congrArg (fun t => List.lookup 34 t) gt28).trans rfl
theorem t28_37 : zT 28 37 = some (.ireturn, 1, 0, 0, 0, 0) := (congrArg (fun t => List.lookup 37 t) gt28).trans rfl
theorem t28_38 : zT 28 38 = some (.iconst 0, 1, 0, 0, 0, 0) := (congrArg (fun t => List.lookup 38 t) gt28).trans rfl
theorem t28_39 : zT 28 39 = some (.istore 6, 2, 0, 0, 0, 0) := (congrArg (fun t => List.lookup 39 t) gt28).trans rfl
theorem t28_41 : zT 28 41 = some (.iload 6, 2, 0, 0, 0, 0) := (congrArg (fun t => List.lookup 41 t) gt28).trans rfl
theorem t28_43 : zT 28 43 = some (.iload 5, 2, 0, 0, 0, 0) := (congrArg (fun t => List.lookup 43 t) gt28).trans rfl
theorem t28_45 : zT 28 45 = some (.if_icmp .ge 79, 3, 124, 0, 0, 0) := (congrArg (fun t => List.lookup 45 t) gt28).trans rfl
theorem t28_48 : zT 28 48 = some (.aload_n 1, 1, 1, 0, 0, 0) := (congrArg (fun t => List.lookup 48 t) gt28).trans rfl
theorem t28_49 : zT 28 49 = some (.invokevirtual 53, 3, 35, 0, 0, 723) := (congrArg (fun t => List.lookup 49 t) gt28).trans rfl
theorem t28_52 : zT 28 52 = some (.ifCond .ne 5, 3, 57, 0, 0, 0) := (congrArg (fun t => List.lookup 52 t) gt28).trans rfl
theorem t28_55 : zT 28 55 = some (.iconst 0, 1, 0, 0, 0, 0) := (congrArg (fun t => List.lookup 55 t) gt28).trans rfl
theorem t28_56 : zT 28 56 = some (.ireturn, 1, 0, 0, 0, 0) := (congrArg (fun t => List.lookup 56 t) gt28).trans rfl
theorem t28_57 : zT 28 57 = some (.aload_n 0, 1, 0, 0, 0, 0) := (congrArg (fun t => List.lookup 57 t) gt28).trans rfl
theorem t28_58 : zT 28 58 = some (.iload 4, 2, 0, 0, 0, 0) := (congrArg (fun t => List.lookup 58 t) gt28).trans rfl
theorem t28_60 : zT 28 60 = some (.iload 6, 2, 0, 0, 0, 0) := (congrArg (fun t => List.lookup 60 t) gt28).trans rfl
theorem t28_62 : zT 28 62 = some (.aload_n 1, 1, 1, 0, 0, 0) := (congrArg (fun t => List.lookup 62 t) gt28).trans rfl
theorem t28_63 : zT 28 63 = some (.invokevirtual 56, 3, 37, 0, 0, 732) := (congrArg (fun t => List.lookup 63 t) gt28).trans rfl
theorem t28_66 : zT 28 66 = some (.aload_n 2, 1, 2, 0, 0, 0) := (congrArg (fun t => List.lookup 66 t) gt28).trans rfl
theorem t28_67 : zT 28 67 = some (.invokevirtual 59, 3, 38, 0, 0, 736) := (congrArg (fun t => List.lookup 67 t) gt28).trans rfl
theorem t28_70 : zT 28 70 = some (.ifCond .ne 12, 3, 82, 0, 0, 0) := (congrArg (fun t => List.lookup 70 t) gt28).trans rfl
theorem t28_73 : zT 28 73 = some (.aload_n 1, 1, 1, 0, 0, 0) := (congrArg (fun t => List.lookup 73 t) gt28).trans rfl
theorem t28_74 : zT 28 74 = some (.aload_n 1, 1, 1, 0, 0, 0) := (congrArg (fun t => List.lookup 74 t) gt28).trans rfl
theorem t28_75 : zT 28 75 = some (.invokevirtual 63, 3, 46, 0, 0, 766) := (congrArg (fun t => List.lookup 75 t) gt28).trans rfl
theorem t28_78 : zT 28 78 = some (.invokevirtual 49, 3, 34, 0, 0, 719) := (congrArg (fun t => List.lookup 78 t) gt28).trans rfl
theorem t28_81 : zT 28 81 = some (.ireturn, 1, 0, 0, 0, 0) := (congrArg (fun t => List.lookup 81 t) gt28).trans rfl
theorem t28_82 : zT 28 82 = some (.aload_n 0, 1, 0, 0, 0, 0) := (congrArg (fun t => List.lookup 82 t) gt28).trans rfl
theorem t28_83 : zT 28 83 = some (.getfield 11, 3, 3, 0, 0, 285) := (congrArg (fun t => List.lookup 83 t) gt28).trans rfl
theorem t28_86 : zT 28 86 = some (.iload 6, 2, 0, 0, 0, 0) := (congrArg (fun t => List.lookup 86 t) gt28).trans rfl
theorem t28_88 : zT 28 88 = some (.aload_n 1, 1, 1, 0, 0, 0) := (congrArg (fun t => List.lookup 88 t) gt28).trans rfl
theorem t28_89 : zT 28 89 = some (.invokevirtual 56, 3, 37, 0, 0, 732) := (congrArg (fun t => List.lookup 89 t) gt28).trans rfl
theorem t28_92 : zT 28 92 = some (.iastore, 1, 0, 0, 0, 0) := (congrArg (fun t => List.lookup 92 t) gt28).trans rfl
theorem t28_93 : zT 28 93 = some (.aload_n 1, 1, 1, 0, 0, 0) := (congrArg (fun t => List.lookup 93 t) gt28).trans rfl
theorem t28_94 : zT 28 94 = some (.iload 6, 2, 0, 0, 0, 0) := (congrArg (fun t => List.lookup 94 t) gt28).trans rfl
theorem t28_96 : zT 28 96 = some (.iconst 1, 1, 0, 0, 1, 0) := (congrArg (fun t => List.lookup 96 t) gt28).trans rfl
theorem t28_97 : zT 28 97 = some (.iadd, 1, 0, 0, 0, 0) := (congrArg (fun t => List.lookup 97 t) gt28).trans rfl
theorem t28_98 : zT 28 98 = some (.iload 5, 2, 0, 0, 0, 0) := (congrArg (fun t => List.lookup 98 t) gt28).trans rfl
theorem t28_100 : zT 28 100 = some (.if_icmp .ge 8, 3, 108, 0, 0, 0) := (congrArg (fun t => List.lookup 100 t) gt28).trans rfl
theorem t28_103 : zT 28 103 = some (.bipush 44, 2, 0, 0, 44, 0) := (congrArg (fun t => List.lookup 103 t) gt28).trans rfl
theorem t28_105 : zT 28 105 = some (.goto 5, 3, 110, 0, 0, 0) := (congrArg (fun t => List.lookup 105 t) gt28).trans rfl
theorem t28_108 : zT 28 108 = some (.bipush 59, 2, 0, 0, 59, 0) := (congrArg (fun t => List.lookup 108 t) gt28).trans rfl
theorem t28_110 : zT 28 110 = some (.invokevirtual 66, 3, 47, 0, 0, 770) := (congrArg (fun t => List.lookup 110 t) gt28).trans rfl
theorem t28_113 : zT 28 113 = some (.ifCond .ne 5, 3, 118, 0, 0, 0) := (congrArg (fun t => List.lookup 113 t) gt28).trans rfl
theorem t28_116 : zT 28 116 = some (.iconst 0, 1, 0, 0, 0, 0) := (congrArg (fun t => List.lookup 116 t) gt28).trans rfl
theorem t28_117 : zT 28 117 = some (.ireturn, 1, 0, 0, 0, 0) := (congrArg (fun t => List.lookup 117 t) gt28).trans rfl
theorem t28_118 : zT 28 118 = some (.iinc 6 1, 3, 0, 0, 0, 0) := (congrArg (fun t => List.lookup 118 t) gt28).trans rfl
theorem t28_121 : zT 28 121 = some (.goto (-80), 3, 41, 0, 0, 0) := (congrArg (fun t => List.lookup 121 t) gt28).trans rfl
theorem t28_124 : zT 28 124 = some (.aload_n 0, 1, 0, 0, 0, 0) := (congrArg (fun t => List.lookup 124 t) gt28).trans rfl
theorem t28_125 : zT 28 125 = some (.iload 4, 2, 0, 0, 0, 0) := (congrArg (fun t => List.lookup 125 t) gt28).trans rfl
theorem t28_127 : zT 28 127 = some (.aload_n 2, 1, 2, 0, 0, 0) := (congrArg (fun t => List.lookup 127 t) gt28).trans rfl
theorem t28_128 : zT 28 128 = some (.invokevirtual 70, 3, 48, 0, 0, 774) := (congrArg (fun t => List.lookup 128 t) gt28).trans rfl
theorem t28_131 : zT 28 131 = some (.ifCond .ne 11, 3, 142, 0, 0, 0) := (congrArg (fun t => List.lookup 131 t) gt28).trans rfl
theorem t28_134 : zT 28 134 = some (.aload_n 1, 1, 1, 0, 0, 0) := (congrArg (fun t => List.lookup 134 t) gt28).trans rfl
theorem t28_135 : zT 28 135 = some (.iload_n 3, 1, 3, 0, 0, 0) := (congrArg (fun t => List.lookup 135 t) gt28).trans rfl
theorem t28_136 : zT 28 136 = some (.invokevirtual 49, 3, 34, 0, 0, 719) := (congrArg (fun t => List.lookup 136 t) gt28).trans (by decide +kernel)
theorem t28_139 : zT 28 139 = some (.ifCond .eq 7, 3, 146, 0, 0, 0) := (congrArg (fun t => List.lookup 139 t) gt28).trans (by decide +kernel)
theorem t28_142 : zT 28 142 = some (.iconst 1, 1, 0, 0, 1, 0) := (congrArg (fun t => List.lookup 142 t) gt28).trans (by decide +kernel)
theorem t28_143 : zT 28 143 = some (.goto 4, 3, 147, 0, 0, 0) := (congrArg (fun t => List.lookup 143 t) gt28).trans (by decide +kernel)
theorem t28_146 : zT 28 146 = some (.iconst 0, 1, 0, 0, 0, 0) := (congrArg (fun t => List.lookup 146 t) gt28).trans (by decide +kernel)
theorem t28_147 : zT 28 147 = some (.ireturn, 1, 0, 0, 0, 0) := (congrArg (fun t => List.lookup 147 t) gt28).trans (by decide +kernel)
theorem t29_0 : zT 29 0 = some (.aload_n 0, 1, 0, 0, 0, 0) := (congrArg (fun t => List.lookup 0 t) gt29).trans rfl
theorem t29_1 : zT 29 1 = some (.getfield 19, 3, 7, 2, 0, 262) := (congrArg (fun t => List.lookup 1 t) gt29).trans rfl
theorem t29_4 : zT 29 4 = some (.ireturn, 1, 0, 0, 0, 0) := (congrArg (fun t => List.lookup 4 t) gt29).trans rfl
theorem t30_0 : zT 30 0 = some (.aload_n 0, 1, 0, 0, 0, 0) := (congrArg (fun t => List.lookup 0 t) gt30).trans rfl
theorem t30_1 : zT 30 1 = some (.invokevirtual 40, 3, 31, 0, 0, 709) := (congrArg (fun t => List.lookup 1 t) gt30).trans rfl
theorem t30_4 : zT 30 4 = some (.istore_n 1, 1, 1, 0, 0, 0) := (congrArg (fun t => List.lookup 4 t) gt30).trans rfl
theorem t30_5 : zT 30 5 = some (.iload_n 1, 1, 1, 0, 0, 0) := (congrArg (fun t => List.lookup 5 t) gt30).trans rfl
theorem t30_6 : zT 30 6 = some (.iconst (-1), 1, 0, 0, (-1), 0) := (congrArg (fun t => List.lookup 6 t) gt30).trans rfl
theorem t30_7 : zT 30 7 = some (.if_icmp .eq 13, 3, 20, 0, 0, 0) := (congrArg (fun t => List.lookup 7 t) gt30).trans rfl
theorem t30_10 : zT 30 10 = some (.aload_n 0, 1, 0, 0, 0, 0) := (congrArg (fun t => List.lookup 10 t) gt30).trans rfl
theorem t30_11 : zT 30 11 = some (.dup, 1, 0, 0, 0, 0) := (congrArg (fun t => List.lookup 11 t) gt30).trans rfl
theorem t30_12 : zT 30 12 = some (.getfield 19, 3, 7, 2, 0, 262) := (congrArg (fun t => List.lookup 12 t) gt30).trans rfl
theorem t30_15 : zT 30 15 = some (.iconst 1, 1, 0, 0, 1, 0) := (congrArg (fun t => List.lookup 15 t) gt30).trans rfl
theorem t30_16 : zT 30 16 = some (.iadd, 1, 0, 0, 0, 0) := (congrArg (fun t => List.lookup 16 t) gt30).trans rfl
theorem t30_17 : zT 30 17 = some (.putfield 19, 3, 7, 2, 0, 262) := (congrArg (fun t => List.lookup 17 t) gt30).trans rfl
theorem t30_20 : zT 30 20 = some (.iload_n 1, 1, 1, 0, 0, 0) := (congrArg (fun t => List.lookup 20 t) gt30).trans rfl
theorem t30_21 : zT 30 21 = some (.ireturn, 1, 0, 0, 0, 0) := (congrArg (fun t => List.lookup 21 t) gt30).trans rfl
theorem t31_0 : zT 31 0 = some (.aload_n 0, 1, 0, 0, 0, 0) := (congrArg (fun t => List.lookup 0 t) gt31).trans rfl
theorem t31_1 : zT 31 1 = some (.getfield 19, 3, 7, 2, 0, 262) := (congrArg (fun t => List.lookup 1 t) gt31).trans rfl
theorem t31_4 : zT 31 4 = some (.ifCond .lt 30, 3, 34, 0, 0, 0) := (congrArg (fun t => List.lookup 4 t) gt31).trans rfl
theorem t31_7 : zT 31 7 = some (.aload_n 0, 1, 0, 0, 0, 0) := (congrArg (fun t => List.lookup 7 t) gt31).trans rfl
theorem t31_8 : zT 31 8 = some (.getfield 19, 3, 7, 2, 0, 262) := (congrArg (fun t => List.lookup 8 t) gt31).trans rfl
theorem t31_11 : zT 31 11 = some (.aload_n 0, 1, 0, 0, 0, 0) := (congrArg (fun t => List.lookup 11 t) gt31).trans rfl
theorem t31_12 : zT 31 12 = some (.getfield 15, 3, 7, 1, 0, 261) := (congrArg (fun t => List.lookup 12 t) gt31).trans rfl
theorem t31_15 : zT 31 15 = some (.if_icmp .ge 19, 3, 34, 0, 0, 0) := (congrArg (fun t => List.lookup 15 t) gt31).trans rfl
theorem t31_18 : zT 31 18 = some (.aload_n 0, 1, 0, 0, 0, 0) := (congrArg (fun t => List.lookup 18 t) gt31).trans rfl
theorem t31_19 : zT 31 19 = some (.getfield 9, 3, 7, 0, 0, 260) := (congrArg (fun t => List.lookup 19 t) gt31).trans rfl
theorem t31_22 : zT 31 22 = some (.aload_n 0, 1, 0, 0, 0, 0) := (congrArg (fun t => List.lookup 22 t) gt31).trans rfl
theorem t31_23 : zT 31 23 = some (.getfield 19, 3, 7, 2, 0, 262) := (congrArg (fun t => List.lookup 23 t) gt31).trans rfl
theorem t31_26 : zT 31 26 = some (.baload, 1, 0, 0, 0, 0) := (congrArg (fun t => List.lookup 26 t) gt31).trans rfl
theorem t31_27 : zT 31 27 = some (.sipush 255, 3, 0, 0, 255, 0) := (congrArg (fun t => List.lookup 27 t) gt31).trans rfl
theorem t31_30 : zT 31 30 = some (.iand, 1, 0, 0, 0, 0) := (congrArg (fun t => List.lookup 30 t) gt31).trans rfl
theorem t31_31 : zT 31 31 = some (.goto 4, 3, 35, 0, 0, 0) := (congrArg (fun t => List.lookup 31 t) gt31).trans rfl
theorem t31_34 : zT 31 34 = some (.iconst (-1), 1, 0, 0, (-1), 0) := (congrArg (fun t => List.lookup 34 t) gt31).trans rfl
theorem t31_35 : zT 31 35 = some (.ireturn, 1, 0, 0, 0, 0) := (congrArg (fun t => List.lookup 35 t) gt31).trans rfl
theorem t32_0 : zT 32 0 = some (.iload_n 0, 1, 0, 0, 0, 0) := (congrArg (fun t => List.lookup 0 t) gt32).trans rfl
theorem t32_1 : zT 32 1 = some (.tableswitch 91 103 119 #[83, 87, 91, 91, 91, 91, 91, 91, 91, 87, 85, 83, 89, 91, 91, 91, 85], 83, 0, 0, 0, 0) := (congrArg (fun t => List.lookup 1 t) gt32).trans rfl
theorem t32_84 : zT 32 84 = some (.iconst 1, 1, 0, 0, 1, 0) := (congrArg (fun t => List.lookup 84 t) gt32).trans rfl
theorem t32_85 : zT 32 85 = some (.ireturn, 1, 0, 0, 0, 0) := (congrArg (fun t => List.lookup 85 t) gt32).trans rfl
theorem t32_86 : zT 32 86 = some (.iconst 2, 1, 0, 0, 2, 0) := (congrArg (fun t => List.lookup 86 t) gt32).trans rfl
theorem t32_87 : zT 32 87 = some (.ireturn, 1, 0, 0, 0, 0) := (congrArg (fun t => List.lookup 87 t) gt32).trans rfl
theorem t32_88 : zT 32 88 = some (.iconst 3, 1, 0, 0, 3, 0) := (congrArg (fun t => List.lookup 88 t) gt32).trans rfl
theorem t32_89 : zT 32 89 = some (.ireturn, 1, 0, 0, 0, 0) := (congrArg (fun t => List.lookup 89 t) gt32).trans rfl
theorem t32_90 : zT 32 90 = some (.iconst 4, 1, 0, 0, 4, 0) := (congrArg (fun t => List.lookup 90 t) gt32).trans rfl
theorem t32_91 : zT 32 91 = some (.ireturn, 1, 0, 0, 0, 0) := (congrArg (fun t => List.lookup 91 t) gt32).trans rfl
theorem t32_92 : zT 32 92 = some (.iconst 0, 1, 0, 0, 0, 0) := (congrArg (fun t => List.lookup 92 t) gt32).trans rfl
theorem t32_93 : zT 32 93 = some (.ireturn, 1, 0, 0, 0, 0) := (congrArg (fun t => List.lookup 93 t) gt32).trans rfl
theorem t33_0 : zT 33 0 = some (.iload_n 0, 1, 0, 0, 0, 0) := (congrArg (fun t => List.lookup 0 t) gt33).trans rfl
theorem t33_1 : zT 33 1 = some (.lookupswitch 80 #[(104, 50), (112, 65), (114, 35)], 35, 0, 0, 0, 0) := (congrArg (fun t => List.lookup 1 t) gt33).trans rfl
theorem t33_36 : zT 33 36 = some (.aload_n 1, 1, 1, 0, 0, 0) := (congrArg (fun t => List.lookup 36 t) gt33).trans rfl
theorem t33_37 : zT 33 37 = some (.getfield 73, 3, 6, 0, 0, 154) := (congrArg (fun t => List.lookup 37 t) gt33).trans rfl
theorem t33_40 : zT 33 40 = some (.bipush 8, 2, 0, 0, 8, 0) := (congrArg (fun t => List.lookup 40 t) gt33).trans rfl
theorem t33_42 : zT 33 42 = some (.if_icmp .lt 7, 3, 49, 0, 0, 0) := (congrArg (fun t => List.lookup 42 t) gt33).trans rfl
theorem t33_45 : zT 33 45 = some (.iconst 1, 1, 0, 0, 1, 0) := (congrArg (fun t => List.lookup 45 t) gt33).trans rfl
theorem t33_46 : zT 33 46 = some (.goto 4, 3, 50, 0, 0, 0) := (congrArg (fun t => List.lookup 46 t) gt33).trans rfl
theorem t33_49 : zT 33 49 = some (.iconst 0, 1, 0, 0, 0, 0) := (congrArg (fun t => List.lookup 49 t) gt33).trans rfl
theorem t33_50 : zT 33 50 = some (.ireturn, 1, 0, 0, 0, 0) := (congrArg (fun t => List.lookup 50 t) gt33).trans rfl
theorem t33_51 : zT 33 51 = some (.aload_n 1, 1, 1, 0, 0, 0) := (congrArg (fun t => List.lookup 51 t) gt33).trans rfl
theorem t33_52 : zT 33 52 = some (.getfield 79, 3, 6, 3, 0, 166) := (congrArg (fun t => List.lookup 52 t) gt33).trans rfl
theorem t33_55 : zT 33 55 = some (.bipush 60, 2, 0, 0, 60, 0) := (congrArg (fun t => List.lookup 55 t) gt33).trans rfl
theorem t33_57 : zT 33 57 = some (.if_icmp .lt 7, 3, 64, 0, 0, 0) := (congrArg (fun t => List.lookup 57 t) gt33).trans rfl
theorem t33_60 : zT 33 60 = some (.iconst 1, 1, 0, 0, 1, 0) := (congrArg (fun t => List.lookup 60 t) gt33).trans rfl
theorem t33_61 : zT 33 61 = some (.goto 4, 3, 65, 0, 0, 0) := (congrArg (fun t => List.lookup 61 t) gt33).trans rfl
theorem t33_64 : zT 33 64 = some (.iconst 0, 1, 0, 0, 0, 0) := (congrArg (fun t => List.lookup 64 t) gt33).trans rfl
theorem t33_65 : zT 33 65 = some (.ireturn, 1, 0, 0, 0, 0) := (congrArg (fun t => List.lookup 65 t) gt33).trans rfl
theorem t33_66 : zT 33 66 = some (.aload_n 1, 1, 1, 0, 0, 0) := (congrArg (fun t => List.lookup 66 t) gt33).trans rfl
theorem t33_67 : zT 33 67 = some (.getfield 82, 3, 6, 8, 0, 182) := (congrArg (fun t => List.lookup 67 t) gt33).trans rfl
theorem t33_70 : zT 33 70 = some (.bipush 12, 2, 0, 0, 12, 0) := (congrArg (fun t => List.lookup 70 t) gt33).trans rfl
theorem t33_72 : zT 33 72 = some (.if_icmp .lt 7, 3, 79, 0, 0, 0) := (congrArg (fun t => List.lookup 72 t) gt33).trans rfl
theorem t33_75 : zT 33 75 = some (.iconst 1, 1, 0, 0, 1, 0) := (congrArg (fun t => List.lookup 75 t) gt33).trans rfl
theorem t33_76 : zT 33 76 = some (.goto 4, 3, 80, 0, 0, 0) := (congrArg (fun t => List.lookup 76 t) gt33).trans rfl
theorem t33_79 : zT 33 79 = some (.iconst 0, 1, 0, 0, 0, 0) := (congrArg (fun t => List.lookup 79 t) gt33).trans rfl
theorem t33_80 : zT 33 80 = some (.ireturn, 1, 0, 0, 0, 0) := (congrArg (fun t => List.lookup 80 t) gt33).trans rfl
theorem t33_81 : zT 33 81 = some (.iconst 0, 1, 0, 0, 0, 0) := (congrArg (fun t => List.lookup 81 t) gt33).trans rfl
theorem t33_82 : zT 33 82 = some (.ireturn, 1, 0, 0, 0, 0) := (congrArg (fun t => List.lookup 82 t) gt33).trans rfl
theorem t34_0 : zT 34 0 = some (.aload_n 0, 1, 0, 0, 0, 0) := (congrArg (fun t => List.lookup 0 t) gt34).trans rfl
theorem t34_1 : zT 34 1 = some (.iload_n 1, 1, 1, 0, 0, 0) := (congrArg (fun t => List.lookup 1 t) gt34).trans rfl
theorem t34_2 : zT 34 2 = some (.putfield 22, 3, 7, 3, 0, 263) := (congrArg (fun t => List.lookup 2 t) gt34).trans rfl
theorem t34_5 : zT 34 5 = some (.iconst 0, 1, 0, 0, 0, 0) := (congrArg (fun t => List.lookup 5 t) gt34).trans rfl
theorem t34_6 : zT 34 6 = some (.ireturn, 1, 0, 0, 0, 0) := (congrArg (fun t => List.lookup 6 t) gt34).trans rfl
theorem t35_0 : zT 35 0 = some (.aload_n 0, 1, 0, 0, 0, 0) := (congrArg (fun t => List.lookup 0 t) gt35).trans rfl
theorem t35_1 : zT 35 1 = some (.aload_n 0, 1, 0, 0, 0, 0) := (congrArg (fun t => List.lookup 1 t) gt35).trans rfl
theorem t35_2 : zT 35 2 = some (.getfield 19, 3, 7, 2, 0, 262) := (congrArg (fun t => List.lookup 2 t) gt35).trans rfl
theorem t35_5 : zT 35 5 = some (.putfield 28, 3, 7, 5, 0, 265) := (congrArg (fun t => List.lookup 5 t) gt35).trans rfl
theorem t35_8 : zT 35 8 = some (.aload_n 0, 1, 0, 0, 0, 0) := (congrArg (fun t => List.lookup 8 t) gt35).trans rfl
theorem t35_9 : zT 35 9 = some (.invokevirtual 40, 3, 31, 0, 0, 709) := (congrArg (fun t => List.lookup 9 t) gt35).trans rfl
theorem t35_12 : zT 35 12 = some (.bipush 45, 2, 0, 0, 45, 0) := (congrArg (fun t => List.lookup 12 t) gt35).trans rfl
theorem t35_14 : zT 35 14 = some (.if_icmp .ne 7, 3, 21, 0, 0, 0) := (congrArg (fun t => List.lookup 14 t) gt35).trans rfl
theorem t35_17 : zT 35 17 = some (.iconst 1, 1, 0, 0, 1, 0) := (congrArg (fun t => List.lookup 17 t) gt35).trans rfl
theorem t35_18 : zT 35 18 = some (.goto 4, 3, 22, 0, 0, 0) := (congrArg (fun t => List.lookup 18 t) gt35).trans rfl
theorem t35_21 : zT 35 21 = some (.iconst 0, 1, 0, 0, 0, 0) := (congrArg (fun t => List.lookup 21 t) gt35).trans rfl
theorem t35_22 : zT 35 22 = some (.istore_n 1, 1, 1, 0, 0, 0) := (congrArg (fun t => List.lookup 22 t) gt35).trans rfl
theorem t35_23 : zT 35 23 = some (.iload_n 1, 1, 1, 0, 0, 0) := (congrArg (fun t => List.lookup 23 t) gt35).trans rfl
theorem t35_24 : zT 35 24 = some (.ifCond .eq 13, 3, 37, 0, 0, 0) := (congrArg (fun t => List.lookup 24 t) gt35).trans rfl
theorem t35_27 : zT 35 27 = some (.aload_n 0, 1, 0, 0, 0, 0) := (congrArg (fun t => List.lookup 27 t) gt35).trans rfl
theorem t35_28 : zT 35 28 = some (.dup, 1, 0, 0, 0, 0) := (congrArg (fun t => List.lookup 28 t) gt35).trans rfl
theorem t35_29 : zT 35 29 = some (.getfield 19, 3, 7, 2, 0, 262) := (congrArg (fun t => List.lookup 29 t) gt35).trans rfl
theorem t35_32 : zT 35 32 = some (.iconst 1, 1, 0, 0, 1, 0) := (congrArg (fun t => List.lookup 32 t) gt35).trans rfl
theorem t35_33 : zT 35 33 = some (.iadd, 1, 0, 0, 0, 0) := (congrArg (fun t => List.lookup 33 t) gt35).trans rfl
theorem t35_34 : zT 35 34 = some (.putfield 19, 3, 7, 2, 0, 262) := (congrArg (fun t => List.lookup 34 t) gt35).trans rfl
theorem t35_37 : zT 35 37 = some (.iconst 0, 1, 0, 0, 0, 0) := (congrArg (fun t => List.lookup 37 t) gt35).trans rfl
theorem t35_38 : zT 35 38 = some (.istore_n 2, 1, 2, 0, 0, 0) := (congrArg (fun t => List.lookup 38 t) gt35).trans rfl
theorem t35_39 : zT 35 39 = some (.iconst 0, 1, 0, 0, 0, 0) := (congrArg (fun t => List.lookup 39 t) gt35).trans rfl
theorem t35_40 : zT 35 40 = some (.istore_n 3, 1, 3, 0, 0, 0) := (congrArg (fun t => List.lookup 40 t) gt35).trans rfl
theorem t35_41 : zT 35 41 = some (.iload_n 3, 1, 3, 0, 0, 0) := (congrArg (fun t => List.lookup 41 t) gt35).trans rfl
theorem t35_42 : zT 35 42 = some (.iconst 4, 1, 0, 0, 4, 0) := (congrArg (fun t => List.lookup 42 t) gt35).trans rfl
theorem t35_43 : zT 35 43 = some (.if_icmp .ge 32, 3, 75, 0, 0, 0) := (congrArg (fun t => List.lookup 43 t) gt35).trans rfl
theorem t35_46 : zT 35 46 = some (.aload_n 0, 1, 0, 0, 0, 0) := (congrArg (fun t => List.lookup 46 t) gt35).trans rfl
theorem t35_47 : zT 35 47 = some (.invokevirtual 40, 3, 31, 0, 0, 709) := (congrArg (fun t => List.lookup 47 t) gt35).trans rfl
theorem t35_50 : zT 35 50 = some (.invokestatic 48, 3, 36, 2, 0, 727) := (congrArg (fun t => List.lookup 50 t) gt35).trans rfl
theorem t35_53 : zT 35 53 = some (.ifCond .eq 22, 3, 75, 0, 0, 0) := (congrArg (fun t => List.lookup 53 t) gt35).trans rfl
theorem t35_56 : zT 35 56 = some (.iload_n 2, 1, 2, 0, 0, 0) := (congrArg (fun t => List.lookup 56 t) gt35).trans rfl
theorem t35_57 : zT 35 57 = some (.bipush 10, 2, 0, 0, 10, 0) := (congrArg (fun t => List.lookup 57 t) gt35).trans rfl
theorem t35_59 : zT 35 59 = some (.imul, 1, 0, 0, 0, 0) := (congrArg (fun t => List.lookup 59 t) gt35).trans rfl
theorem t35_60 : zT 35 60 = some (.aload_n 0, 1, 0, 0, 0, 0) := (congrArg (fun t => List.lookup 60 t) gt35).trans rfl
theorem t35_61 : zT 35 61 = some (.invokevirtual 51, 3, 30, 0, 0, 730) := (congrArg (fun t => List.lookup 61 t) gt35).trans rfl
theorem t35_64 : zT 35 64 = some (.iadd, 1, 0, 0, 0, 0) := (congrArg (fun t => List.lookup 64 t) gt35).trans rfl
theorem t35_65 : zT 35 65 = some (.bipush 48, 2, 0, 0, 48, 0) := (congrArg (fun t => List.lookup 65 t) gt35).trans rfl
theorem t35_67 : zT 35 67 = some (.isub, 1, 0, 0, 0, 0) := (congrArg (fun t => List.lookup 67 t) gt35).trans rfl
theorem t35_68 : zT 35 68 = some (.istore_n 2, 1, 2, 0, 0, 0) := (congrArg (fun t => List.lookup 68 t) gt35).trans rfl
theorem t35_69 : zT 35 69 = some (.iinc 3 1, 3, 0, 0, 0, 0) := (congrArg (fun t => List.lookup 69 t) gt35).trans rfl
theorem t35_72 : zT 35 72 = some (.goto (-31), 3, 41, 0, 0, 0) := (congrArg (fun t => List.lookup 72 t) gt35).trans rfl
theorem t35_75 : zT 35 75 = some (.iload_n 3, 1, 3, 0, 0, 0) := (congrArg (fun t => List.lookup 75 t) gt35).trans rfl
theorem t35_76 : zT 35 76 = some (.ifCond .eq 13, 3, 89, 0, 0, 0) := (congrArg (fun t => List.lookup 76 t) gt35).trans rfl
theorem t35_79 : zT 35 79 = some (.aload_n 0, 1, 0, 0, 0, 0) := (congrArg (fun t => List.lookup 79 t) gt35).trans rfl
theorem t35_80 : zT 35 80 = some (.invokevirtual 40, 3, 31, 0, 0, 709) := (congrArg (fun t => List.lookup 80 t) gt35).trans rfl
theorem t35_83 : zT 35 83 = some (.invokestatic 48, 3, 36, 2, 0, 727) := (congrArg (fun t => List.lookup 83 t) gt35).trans rfl
theorem t35_86 : zT 35 86 = some (.ifCond .eq 12, 3, 98, 0, 0, 0) := (congrArg (fun t => List.lookup 86 t) gt35).trans rfl
theorem t35_89 : zT 35 89 = some (.aload_n 0, 1, 0, 0, 0, 0) := (congrArg (fun t => List.lookup 89 t) gt35).trans rfl
theorem t35_90 : zT 35 90 = some (.aload_n 0, 1, 0, 0, 0, 0) := (congrArg (fun t => List.lookup 90 t) gt35).trans rfl
theorem t35_91 : zT 35 91 = some (.getfield 19, 3, 7, 2, 0, 262) := (congrArg (fun t => List.lookup 91 t) gt35).trans rfl
theorem t35_94 : zT 35 94 = some (.invokevirtual 44, 3, 34, 0, 0, 731) := (congrArg (fun t => List.lookup 94 t) gt35).trans rfl
theorem t35_97 : zT 35 97 = some (.ireturn, 1, 0, 0, 0, 0) := (congrArg (fun t => List.lookup 97 t) gt35).trans rfl
theorem t35_98 : zT 35 98 = some (.aload_n 0, 1, 0, 0, 0, 0) := (congrArg (fun t => List.lookup 98 t) gt35).trans rfl
theorem t35_99 : zT 35 99 = some (.iload_n 1, 1, 1, 0, 0, 0) := (congrArg (fun t => List.lookup 99 t) gt35).trans rfl
theorem t35_100 : zT 35 100 = some (.ifCond .eq 8, 3, 108, 0, 0, 0) := (congrArg (fun t => List.lookup 100 t) gt35).trans rfl
theorem t35_103 : zT 35 103 = some (.iload_n 2, 1, 2, 0, 0, 0) := (congrArg (fun t => List.lookup 103 t) gt35).trans rfl
theorem t35_104 : zT 35 104 = some (.ineg, 1, 0, 0, 0, 0) := (congrArg (fun t => List.lookup 104 t) gt35).trans rfl
theorem t35_105 : zT 35 105 = some (.goto 4, 3, 109, 0, 0, 0) := (congrArg (fun t => List.lookup 105 t) gt35).trans rfl
theorem t35_108 : zT 35 108 = some (.iload_n 2, 1, 2, 0, 0, 0) := (congrArg (fun t => List.lookup 108 t) gt35).trans rfl
theorem t35_109 : zT 35 109 = some (.putfield 25, 3, 7, 4, 0, 264) := (congrArg (fun t => List.lookup 109 t) gt35).trans rfl
theorem t35_112 : zT 35 112 = some (.iconst 1, 1, 0, 0, 1, 0) := (congrArg (fun t => List.lookup 112 t) gt35).trans rfl
theorem t35_113 : zT 35 113 = some (.ireturn, 1, 0, 0, 0, 0) := (congrArg (fun t => List.lookup 113 t) gt35).trans rfl
theorem t36_0 : zT 36 0 = some (.iload_n 0, 1, 0, 0, 0, 0) := (congrArg (fun t => List.lookup 0 t) gt36).trans rfl
theorem t36_1 : zT 36 1 = some (.bipush 48, 2, 0, 0, 48, 0) := (congrArg (fun t => List.lookup 1 t) gt36).trans rfl
theorem t36_3 : zT 36 3 = some (.if_icmp .lt 13, 3, 16, 0, 0, 0) := (congrArg (fun t => List.lookup 3 t) gt36).trans rfl
theorem t36_6 : zT 36 6 = some (.iload_n 0, 1, 0, 0, 0, 0) := (congrArg (fun t => List.lookup 6 t) gt36).trans rfl
theorem t36_7 : zT 36 7 = some (.bipush 57, 2, 0, 0, 57, 0) := (congrArg (fun t => List.lookup 7 t) gt36).trans rfl
theorem t36_9 : zT 36 9 = some (.if_icmp .gt 7, 3, 16, 0, 0, 0) := (congrArg (fun t => List.lookup 9 t) gt36).trans rfl
theorem t36_12 : zT 36 12 = some (.iconst 1, 1, 0, 0, 1, 0) := (congrArg (fun t => List.lookup 12 t) gt36).trans rfl
theorem t36_13 : zT 36 13 = some (.goto 4, 3, 17, 0, 0, 0) := (congrArg (fun t => List.lookup 13 t) gt36).trans rfl
theorem t36_16 : zT 36 16 = some (.iconst 0, 1, 0, 0, 0, 0) := (congrArg (fun t => List.lookup 16 t) gt36).trans rfl
theorem t36_17 : zT 36 17 = some (.ireturn, 1, 0, 0, 0, 0) := (congrArg (fun t => List.lookup 17 t) gt36).trans rfl
theorem t37_0 : zT 37 0 = some (.aload_n 0, 1, 0, 0, 0, 0) := (congrArg (fun t => List.lookup 0 t) gt37).trans rfl
theorem t37_1 : zT 37 1 = some (.getfield 25, 3, 7, 4, 0, 264) := (congrArg (fun t => List.lookup 1 t) gt37).trans rfl
theorem t37_4 : zT 37 4 = some (.ireturn, 1, 0, 0, 0, 0) := (congrArg (fun t => List.lookup 4 t) gt37).trans rfl
theorem t38_0 : zT 38 0 = some (.iload_n 1, 1, 1, 0, 0, 0) := (congrArg (fun t => List.lookup 0 t) gt38).trans rfl
theorem t38_1 : zT 38 1 = some (.lookupswitch 122 #[(104, 78), (112, 86), (114, 43), (119, 92)], 43, 0, 0, 0, 0) := (congrArg (fun t => List.lookup 1 t) gt38).trans rfl
theorem t38_44 : zT 38 44 = some (.iload_n 3, 1, 3, 0, 0, 0) := (congrArg (fun t => List.lookup 44 t) gt38).trans rfl
theorem t38_45 : zT 38 45 = some (.aload 4, 2, 0, 0, 0, 0) := (congrArg (fun t => List.lookup 45 t) gt38).trans rfl
theorem t38_47 : zT 38 47 = some (.getfield 73, 3, 6, 0, 0, 154) := (congrArg (fun t => List.lookup 47 t) gt38).trans rfl
theorem t38_50 : zT 38 50 = some (.ifCond .ne 7, 3, 57, 0, 0, 0) := (congrArg (fun t => List.lookup 50 t) gt38).trans rfl
theorem t38_53 : zT 38 53 = some (.iconst 1, 1, 0, 0, 1, 0) := (congrArg (fun t => List.lookup 53 t) gt38).trans rfl
theorem t38_54 : zT 38 54 = some (.goto 18, 3, 72, 0, 0, 0) := (congrArg (fun t => List.lookup 54 t) gt38).trans rfl
theorem t38_57 : zT 38 57 = some (.aload 4, 2, 0, 0, 0, 0) := (congrArg (fun t => List.lookup 57 t) gt38).trans rfl
theorem t38_59 : zT 38 59 = some (.getfield 85, 3, 6, 1, 0, 159) := (congrArg (fun t => List.lookup 59 t) gt38).trans rfl
theorem t38_62 : zT 38 62 = some (.aload 4, 2, 0, 0, 0, 0) := (congrArg (fun t => List.lookup 62 t) gt38).trans rfl
theorem t38_64 : zT 38 64 = some (.getfield 73, 3, 6, 0, 0, 154) := (congrArg (fun t => List.lookup 64 t) gt38).trans rfl
theorem t38_67 : zT 38 67 = some (.iconst 1, 1, 0, 0, 1, 0) := (congrArg (fun t => List.lookup 67 t) gt38).trans rfl
theorem t38_68 : zT 38 68 = some (.isub, 1, 0, 0, 0, 0) := (congrArg (fun t => List.lookup 68 t) gt38).trans rfl
theorem t38_69 : zT 38 69 = some (.iaload, 1, 0, 0, 0, 0) := (congrArg (fun t => List.lookup 69 t) gt38).trans rfl
theorem t38_70 : zT 38 70 = some (.iconst 1, 1, 0, 0, 1, 0) := (congrArg (fun t => List.lookup 70 t) gt38).trans rfl
theorem t38_71 : zT 38 71 = some (.iadd, 1, 0, 0, 0, 0) := (congrArg (fun t => List.lookup 71 t) gt38).trans rfl
theorem t38_72 : zT 38 72 = some (.sipush 999, 3, 0, 0, 999, 0) := (congrArg (fun t => List.lookup 72 t) gt38).trans rfl
theorem t38_75 : zT 38 75 = some (.invokestatic 88, 3, 39, 2, 0, 740) := (congrArg (fun t => List.lookup 75 t) gt38).trans rfl
theorem t38_78 : zT 38 78 = some (.ireturn, 1, 0, 0, 0, 0) := (congrArg (fun t => List.lookup 78 t) gt38).trans rfl
theorem t38_79 : zT 38 79 = some (.iload_n 2, 1, 2, 0, 0, 0) := (congrArg (fun t => List.lookup 79 t) gt38).trans rfl
theorem t38_80 : zT 38 80 = some (.iload_n 3, 1, 3, 0, 0, 0) := (congrArg (fun t => List.lookup 80 t) gt38).trans rfl
theorem t38_81 : zT 38 81 = some (.aload 4, 2, 0, 0, 0, 0) := (congrArg (fun t => List.lookup 81 t) gt38).trans rfl
theorem t38_83 : zT 38 83 = some (.invokestatic 92, 3, 40, 1, 0, 743) := (congrArg (fun t => List.lookup 83 t) gt38).trans rfl
theorem t38_86 : zT 38 86 = some (.ireturn, 1, 0, 0, 0, 0) := (congrArg (fun t => List.lookup 86 t) gt38).trans rfl
theorem t38_87 : zT 38 87 = some (.iload_n 2, 1, 2, 0, 0, 0) := (congrArg (fun t => List.lookup 87 t) gt38).trans rfl
theorem t38_88 : zT 38 88 = some (.iload_n 3, 1, 3, 0, 0, 0) := (congrArg (fun t => List.lookup 88 t) gt38).trans rfl
theorem t38_89 : zT 38 89 = some (.invokestatic 96, 3, 43, 1, 0, 753) := (congrArg (fun t => List.lookup 89 t) gt38).trans rfl
theorem t38_92 : zT 38 92 = some (.ireturn, 1, 0, 0, 0, 0) := (congrArg (fun t => List.lookup 92 t) gt38).trans rfl
theorem t38_93 : zT 38 93 = some (.iconst 5, 1, 0, 0, 5, 0) := (congrArg (fun t => List.lookup 93 t) gt38).trans rfl
theorem t38_94 : zT 38 94 = some (.iload_n 2, 1, 2, 0, 0, 0) := (congrArg (fun t => List.lookup 94 t) gt38).trans rfl
theorem t38_95 : zT 38 95 = some (.iadd, 1, 0, 0, 0, 0) := (congrArg (fun t => List.lookup 95 t) gt38).trans rfl
theorem t38_96 : zT 38 96 = some (.iload_n 3, 1, 3, 0, 0, 0) := (congrArg (fun t => List.lookup 96 t) gt38).trans rfl
theorem t38_97 : zT 38 97 = some (.invokestatic 100, 3, 44, 1, 0, 756) := (congrArg (fun t => List.lookup 97 t) gt38).trans rfl
theorem t38_100 : zT 38 100 = some (.ifCond .eq 21, 3, 121, 0, 0, 0) := (congrArg (fun t => List.lookup 100 t) gt38).trans rfl
theorem t38_103 : zT 38 103 = some (.iload_n 2, 1, 2, 0, 0, 0) := (congrArg (fun t => List.lookup 103 t) gt38).trans rfl
theorem t38_104 : zT 38 104 = some (.ifCond .eq 13, 3, 117, 0, 0, 0) := (congrArg (fun t => List.lookup 104 t) gt38).trans rfl
theorem t38_107 : zT 38 107 = some (.iload_n 3, 1, 3, 0, 0, 0) := (congrArg (fun t => List.lookup 107 t) gt38).trans rfl
theorem t38_108 : zT 38 108 = some (.aload_n 0, 1, 0, 0, 0, 0) := (congrArg (fun t => List.lookup 108 t) gt38).trans rfl
theorem t38_109 : zT 38 109 = some (.getfield 11, 3, 3, 0, 0, 285) := (congrArg (fun t => List.lookup 109 t) gt38).trans rfl
theorem t38_112 : zT 38 112 = some (.iconst 0, 1, 0, 0, 0, 0) := (congrArg (fun t => List.lookup 112 t) gt38).trans rfl
theorem t38_113 : zT 38 113 = some (.iaload, 1, 0, 0, 0, 0) := (congrArg (fun t => List.lookup 113 t) gt38).trans rfl
theorem t38_114 : zT 38 114 = some (.if_icmp .lt 7, 3, 121, 0, 0, 0) := (congrArg (fun t => List.lookup 114 t) gt38).trans rfl
theorem t38_117 : zT 38 117 = some (.iconst 1, 1, 0, 0, 1, 0) := (congrArg (fun t => List.lookup 117 t) gt38).trans rfl
theorem t38_118 : zT 38 118 = some (.goto 4, 3, 122, 0, 0, 0) := (congrArg (fun t => List.lookup 118 t) gt38).trans rfl
theorem t38_121 : zT 38 121 = some (.iconst 0, 1, 0, 0, 0, 0) := (congrArg (fun t => List.lookup 121 t) gt38).trans rfl
theorem t38_122 : zT 38 122 = some (.ireturn, 1, 0, 0, 0, 0) := (congrArg (fun t => List.lookup 122 t) gt38).trans rfl
theorem t38_123 : zT 38 123 = some (.iload_n 1, 1, 1, 0, 0, 0) := (congrArg (fun t => List.lookup 123 t) gt38).trans rfl
theorem t38_124 : zT 38 124 = some (.invokestatic 103, 3, 45, 1, 0, 763) := (congrArg (fun t => List.lookup 124 t) gt38).trans rfl
theorem t38_127 : zT 38 127 = some (.iload_n 2, 1, 2, 0, 0, 0) := (congrArg (fun t => List.lookup 127 t) gt38).trans rfl
theorem t38_128 : zT 38 128 = some (.iadd, 1, 0, 0, 0, 0) := (congrArg (fun t => List.lookup 128 t) gt38).trans rfl
theorem t38_129 : zT 38 129 = some (.iload_n 3, 1, 3, 0, 0, 0) := (congrArg (fun t => List.lookup 129 t) gt38).trans rfl
theorem t38_130 : zT 38 130 = some (.invokestatic 100, 3, 44, 1, 0, 756) := (congrArg (fun t => List.lookup 130 t) gt38).trans rfl
theorem t38_133 : zT 38 133 = some (.ireturn, 1, 0, 0, 0, 0) := (congrArg (fun t => List.lookup 133 t) gt38).trans rfl
theorem t39_0 : zT 39 0 = some (.iload_n 0, 1, 0, 0, 0, 0) := (congrArg (fun t => List.lookup 0 t) gt39).trans rfl
theorem t39_1 : zT 39 1 = some (.iload_n 1, 1, 1, 0, 0, 0) := (congrArg (fun t => List.lookup 1 t) gt39).trans rfl
theorem t39_2 : zT 39 2 = some (.if_icmp .lt 12, 3, 14, 0, 0, 0) := (congrArg (fun t => List.lookup 2 t) gt39).trans rfl
theorem t39_5 : zT 39 5 = some (.iload_n 0, 1, 0, 0, 0, 0) := (congrArg (fun t => List.lookup 5 t) gt39).trans rfl
theorem t39_6 : zT 39 6 = some (.iload_n 2, 1, 2, 0, 0, 0) := (congrArg (fun t => List.lookup 6 t) gt39).trans rfl
theorem t39_7 : zT 39 7 = some (.if_icmp .gt 7, 3, 14, 0, 0, 0) := (congrArg (fun t => List.lookup 7 t) gt39).trans rfl
theorem t39_10 : zT 39 10 = some (.iconst 1, 1, 0, 0, 1, 0) := (congrArg (fun t => List.lookup 10 t) gt39).trans rfl
theorem t39_11 : zT 39 11 = some (.goto 4, 3, 15, 0, 0, 0) := (congrArg (fun t => List.lookup 11 t) gt39).trans rfl
theorem t39_14 : zT 39 14 = some (.iconst 0, 1, 0, 0, 0, 0) := (congrArg (fun t => List.lookup 14 t) gt39).trans rfl
theorem t39_15 : zT 39 15 = some (.ireturn, 1, 0, 0, 0, 0) := (congrArg (fun t => List.lookup 15 t) gt39).trans rfl
theorem t40_0 : zT 40 0 = some (.iload_n 0, 1, 0, 0, 0, 0) := (congrArg (fun t => List.lookup 0 t) gt40).trans rfl
theorem t40_1 : zT 40 1 = some (.ifCond .ne 9, 3, 10, 0, 0, 0) := (congrArg (fun t => List.lookup 1 t) gt40).trans rfl
theorem t40_4 : zT 40 4 = some (.aload_n 2, 1, 2, 0, 0, 0) := (congrArg (fun t => List.lookup 4 t) gt40).trans rfl
theorem t40_5 : zT 40 5 = some (.iload_n 1, 1, 1, 0, 0, 0) := (congrArg (fun t => List.lookup 5 t) gt40).trans rfl
theorem t40_6 : zT 40 6 = some (.invokevirtual 106, 3, 41, 0, 0, 746) := (congrArg (fun t => List.lookup 6 t) gt40).trans rfl
theorem t40_9 : zT 40 9 = some (.ireturn, 1, 0, 0, 0, 0) := (congrArg (fun t => List.lookup 9 t) gt40).trans rfl
theorem t40_10 : zT 40 10 = some (.iload_n 0, 1, 0, 0, 0, 0) := (congrArg (fun t => List.lookup 10 t) gt40).trans rfl
theorem t40_11 : zT 40 11 = some (.iconst 1, 1, 0, 0, 1, 0) := (congrArg (fun t => List.lookup 11 t) gt40).trans rfl
theorem t40_12 : zT 40 12 = some (.if_icmp .ne 10, 3, 22, 0, 0, 0) := (congrArg (fun t => List.lookup 12 t) gt40).trans rfl
theorem t40_15 : zT 40 15 = some (.iload_n 1, 1, 1, 0, 0, 0) := (congrArg (fun t => List.lookup 15 t) gt40).trans rfl
theorem t40_16 : zT 40 16 = some (.invokestatic 109, 3, 42, 2, 0, 750) := (congrArg (fun t => List.lookup 16 t) gt40).trans rfl
theorem t40_19 : zT 40 19 = some (.goto 11, 3, 30, 0, 0, 0) := (congrArg (fun t => List.lookup 19 t) gt40).trans rfl
theorem t40_22 : zT 40 22 = some (.iload_n 1, 1, 1, 0, 0, 0) := (congrArg (fun t => List.lookup 22 t) gt40).trans rfl
theorem t40_23 : zT 40 23 = some (.iconst 0, 1, 0, 0, 0, 0) := (congrArg (fun t => List.lookup 23 t) gt40).trans rfl
theorem t40_24 : zT 40 24 = some (.sipush 999, 3, 0, 0, 999, 0) := (congrArg (fun t => List.lookup 24 t) gt40).trans rfl
theorem t40_27 : zT 40 27 = some (.invokestatic 88, 3, 39, 2, 0, 740) := (congrArg (fun t => List.lookup 27 t) gt40).trans rfl
theorem t40_30 : zT 40 30 = some (.ireturn, 1, 0, 0, 0, 0) := (congrArg (fun t => List.lookup 30 t) gt40).trans rfl
theorem t41_0 : zT 41 0 = some (.iload_n 1, 1, 1, 0, 0, 0) := (congrArg (fun t => List.lookup 0 t) gt41).trans rfl
theorem t41_1 : zT 41 1 = some (.ifCond .lt 15, 3, 16, 0, 0, 0) := (congrArg (fun t => List.lookup 1 t) gt41).trans rfl
theorem t41_4 : zT 41 4 = some (.iload_n 1, 1, 1, 0, 0, 0) := (congrArg (fun t => List.lookup 4 t) gt41).trans rfl
theorem t41_5 : zT 41 5 = some (.aload_n 0, 1, 0, 0, 0, 0) := (congrArg (fun t => List.lookup 5 t) gt41).trans rfl
theorem t41_6 : zT 41 6 = some (.getfield 9, 3, 6, 0, 0, 151) := (congrArg (fun t => List.lookup 6 t) gt41).trans rfl
theorem t41_9 : zT 41 9 = some (.if_icmp .ge 7, 3, 16, 0, 0, 0) := (congrArg (fun t => List.lookup 9 t) gt41).trans rfl
theorem t41_12 : zT 41 12 = some (.iconst 1, 1, 0, 0, 1, 0) := (congrArg (fun t => List.lookup 12 t) gt41).trans rfl
theorem t41_13 : zT 41 13 = some (.goto 4, 3, 17, 0, 0, 0) := (congrArg (fun t => List.lookup 13 t) gt41).trans rfl
theorem t41_16 : zT 41 16 = some (.iconst 0, 1, 0, 0, 0, 0) := (congrArg (fun t => List.lookup 16 t) gt41).trans rfl
theorem t41_17 : zT 41 17 = some (.ireturn, 1, 0, 0, 0, 0) := (congrArg (fun t => List.lookup 17 t) gt41).trans rfl
theorem t42_0 : zT 42 0 = some (.iload_n 0, 1, 0, 0, 0, 0) := (congrArg (fun t => List.lookup 0 t) gt42).trans rfl
theorem t42_1 : zT 42 1 = some (.sipush (-9999), 3, 0, 0, (-9999), 0) := (congrArg (fun t => List.lookup 1 t) gt42).trans rfl
theorem t42_4 : zT 42 4 = some (.if_icmp .lt 14, 3, 18, 0, 0, 0) := (congrArg (fun t => List.lookup 4 t) gt42).trans rfl
theorem t42_7 : zT 42 7 = some (.iload_n 0, 1, 0, 0, 0, 0) := (congrArg (fun t => List.lookup 7 t) gt42).trans rfl
theorem t42_8 : zT 42 8 = some (.sipush 9999, 3, 0, 0, 9999, 0) := (congrArg (fun t => List.lookup 8 t) gt42).trans rfl
theorem t42_11 : zT 42 11 = some (.if_icmp .gt 7, 3, 18, 0, 0, 0) := (congrArg (fun t => List.lookup 11 t) gt42).trans rfl
theorem t42_14 : zT 42 14 = some (.iconst 1, 1, 0, 0, 1, 0) := (congrArg (fun t => List.lookup 14 t) gt42).trans rfl
theorem t42_15 : zT 42 15 = some (.goto 4, 3, 19, 0, 0, 0) := (congrArg (fun t => List.lookup 15 t) gt42).trans rfl
theorem t42_18 : zT 42 18 = some (.iconst 0, 1, 0, 0, 0, 0) := (congrArg (fun t => List.lookup 18 t) gt42).trans rfl
theorem t42_19 : zT 42 19 = some (.ireturn, 1, 0, 0, 0, 0) := (congrArg (fun t => List.lookup 19 t) gt42).trans rfl
theorem t43_0 : zT 43 0 = some (.iload_n 0, 1, 0, 0, 0, 0) := (congrArg (fun t => List.lookup 0 t) gt43).trans rfl
theorem t43_1 : zT 43 1 = some (.ifCond .ne 8, 3, 9, 0, 0, 0) := (congrArg (fun t => List.lookup 1 t) gt43).trans rfl
theorem t43_4 : zT 43 4 = some (.iload_n 1, 1, 1, 0, 0, 0) := (congrArg (fun t => List.lookup 4 t) gt43).trans rfl
theorem t43_5 : zT 43 5 = some (.invokestatic 109, 3, 42, 2, 0, 750) := (congrArg (fun t => List.lookup 5 t) gt43).trans rfl
theorem t43_8 : zT 43 8 = some (.ireturn, 1, 0, 0, 0, 0) := (congrArg (fun t => List.lookup 8 t) gt43).trans rfl
theorem t43_9 : zT 43 9 = some (.iload_n 0, 1, 0, 0, 0, 0) := (congrArg (fun t => List.lookup 9 t) gt43).trans rfl
theorem t43_10 : zT 43 10 = some (.iconst 1, 1, 0, 0, 1, 0) := (congrArg (fun t => List.lookup 10 t) gt43).trans rfl
theorem t43_11 : zT 43 11 = some (.if_icmp .ne 14, 3, 25, 0, 0, 0) := (congrArg (fun t => List.lookup 11 t) gt43).trans rfl
theorem t43_14 : zT 43 14 = some (.iload_n 1, 1, 1, 0, 0, 0) := (congrArg (fun t => List.lookup 14 t) gt43).trans rfl
theorem t43_15 : zT 43 15 = some (.bipush (-50), 2, 0, 0, (-50), 0) := (congrArg (fun t => List.lookup 15 t) gt43).trans rfl
theorem t43_17 : zT 43 17 = some (.bipush 50, 2, 0, 0, 50, 0) := (congrArg (fun t => List.lookup 17 t) gt43).trans rfl
theorem t43_19 : zT 43 19 = some (.invokestatic 88, 3, 39, 2, 0, 740) := (congrArg (fun t => List.lookup 19 t) gt43).trans rfl
theorem t43_22 : zT 43 22 = some (.goto 10, 3, 32, 0, 0, 0) := (congrArg (fun t => List.lookup 22 t) gt43).trans rfl
theorem t43_25 : zT 43 25 = some (.iload_n 1, 1, 1, 0, 0, 0) := (congrArg (fun t => List.lookup 25 t) gt43).trans rfl
theorem t43_26 : zT 43 26 = some (.bipush (-5), 2, 0, 0, (-5), 0) := (congrArg (fun t => List.lookup 26 t) gt43).trans rfl
theorem t43_28 : zT 43 28 = some (.iconst 5, 1, 0, 0, 5, 0) := (congrArg (fun t => List.lookup 28 t) gt43).trans rfl
theorem t43_29 : zT 43 29 = some (.invokestatic 88, 3, 39, 2, 0, 740) := (congrArg (fun t => List.lookup 29 t) gt43).trans rfl
theorem t43_32 : zT 43 32 = some (.ireturn, 1, 0, 0, 0, 0) := (congrArg (fun t => List.lookup 32 t) gt43).trans rfl
theorem t44_0 : zT 44 0 = some (.iload_n 0, 1, 0, 0, 0, 0) := (congrArg (fun t => List.lookup 0 t) gt44).trans rfl
theorem t44_1 : zT 44 1 = some (.ifCond .lt 30, 3, 31, 0, 0, 0) := (congrArg (fun t => List.lookup 1 t) gt44).trans rfl
theorem t44_4 : zT 44 4 = some (.iload_n 0, 1, 0, 0, 0, 0) := (congrArg (fun t => List.lookup 4 t) gt44).trans rfl
theorem t44_5 : zT 44 5 = some (.bipush 9, 2, 0, 0, 9, 0) := (congrArg (fun t => List.lookup 5 t) gt44).trans rfl
theorem t44_7 : zT 44 7 = some (.if_icmp .ge 24, 3, 31, 0, 0, 0) := (congrArg (fun t => List.lookup 7 t) gt44).trans rfl
theorem t44_10 : zT 44 10 = some (.iload_n 1, 1, 1, 0, 0, 0) := (congrArg (fun t => List.lookup 10 t) gt44).trans rfl
theorem t44_11 : zT 44 11 = some (.getstatic 112, 3, 1, 1, 0, 759) := (congrArg (fun t => List.lookup 11 t) gt44).trans rfl
theorem t44_14 : zT 44 14 = some (.iload_n 0, 1, 0, 0, 0, 0) := (congrArg (fun t => List.lookup 14 t) gt44).trans rfl
theorem t44_15 : zT 44 15 = some (.iaload, 1, 0, 0, 0, 0) := (congrArg (fun t => List.lookup 15 t) gt44).trans rfl
theorem t44_16 : zT 44 16 = some (.getstatic 115, 3, 2, 1, 0, 761) := (congrArg (fun t => List.lookup 16 t) gt44).trans rfl
theorem t44_19 : zT 44 19 = some (.iload_n 0, 1, 0, 0, 0, 0) := (congrArg (fun t => List.lookup 19 t) gt44).trans rfl
theorem t44_20 : zT 44 20 = some (.iaload, 1, 0, 0, 0, 0) := (congrArg (fun t => List.lookup 20 t) gt44).trans rfl
theorem t44_21 : zT 44 21 = some (.invokestatic 88, 3, 39, 2, 0, 740) := (congrArg (fun t => List.lookup 21 t) gt44).trans rfl
theorem t44_24 : zT 44 24 = some (.ifCond .eq 7, 3, 31, 0, 0, 0) := (congrArg (fun t => List.lookup 24 t) gt44).trans rfl
theorem t44_27 : zT 44 27 = some (.iconst 1, 1, 0, 0, 1, 0) := (congrArg (fun t => List.lookup 27 t) gt44).trans rfl
theorem t44_28 : zT 44 28 = some (.goto 4, 3, 32, 0, 0, 0) := (congrArg (fun t => List.lookup 28 t) gt44).trans rfl
theorem t44_31 : zT 44 31 = some (.iconst 0, 1, 0, 0, 0, 0) := (congrArg (fun t => List.lookup 31 t) gt44).trans rfl
theorem t44_32 : zT 44 32 = some (.ireturn, 1, 0, 0, 0, 0) := (congrArg (fun t => List.lookup 32 t) gt44).trans rfl
theorem t45_0 : zT 45 0 = some (.iload_n 0, 1, 0, 0, 0, 0) := (congrArg (fun t => List.lookup 0 t) gt45).trans rfl
theorem t45_1 : zT 45 1 = some (.lookupswitch 52 #[(103, 45), (113, 49), (115, 43), (119, 47)], 43, 0, 0, 0, 0) := (congrArg (fun t => List.lookup 1 t) gt45).trans rfl
theorem t45_44 : zT 45 44 = some (.iconst 0, 1, 0, 0, 0, 0) := (congrArg (fun t => List.lookup 44 t) gt45).trans rfl
theorem t45_45 : zT 45 45 = some (.ireturn, 1, 0, 0, 0, 0) := (congrArg (fun t => List.lookup 45 t) gt45).trans rfl
theorem t45_46 : zT 45 46 = some (.iconst 4, 1, 0, 0, 4, 0) := (congrArg (fun t => List.lookup 46 t) gt45).trans rfl
theorem t45_47 : zT 45 47 = some (.ireturn, 1, 0, 0, 0, 0) := (congrArg (fun t => List.lookup 47 t) gt45).trans rfl
theorem t45_48 : zT 45 48 = some (.iconst 5, 1, 0, 0, 5, 0) := (congrArg (fun t => List.lookup 48 t) gt45).trans rfl
theorem t45_49 : zT 45 49 = some (.ireturn, 1, 0, 0, 0, 0) := (congrArg (fun t => List.lookup 49 t) gt45).trans rfl
theorem t45_50 : zT 45 50 = some (.bipush 7, 2, 0, 0, 7, 0) := (congrArg (fun t => List.lookup 50 t) gt45).trans rfl
theorem t45_52 : zT 45 52 = some (.ireturn, 1, 0, 0, 0, 0) := (congrArg (fun t => List.lookup 52 t) gt45).trans rfl
theorem t46_0 : zT 46 0 = some (.aload_n 0, 1, 0, 0, 0, 0) := (congrArg (fun t => List.lookup 0 t) gt46).trans rfl
theorem t46_1 : zT 46 1 = some (.getfield 28, 3, 7, 5, 0, 265) := (congrArg (fun t => List.lookup 1 t) gt46).trans rfl
theorem t46_4 : zT 46 4 = some (.ireturn, 1, 0, 0, 0, 0) := (congrArg (fun t => List.lookup 4 t) gt46).trans rfl
theorem t47_0 : zT 47 0 = some (.aload_n 0, 1, 0, 0, 0, 0) := (congrArg (fun t => List.lookup 0 t) gt47).trans rfl
theorem t47_1 : zT 47 1 = some (.invokevirtual 40, 3, 31, 0, 0, 709) := (congrArg (fun t => List.lookup 1 t) gt47).trans rfl
theorem t47_4 : zT 47 4 = some (.iload_n 1, 1, 1, 0, 0, 0) := (congrArg (fun t => List.lookup 4 t) gt47).trans rfl
theorem t47_5 : zT 47 5 = some (.if_icmp .eq 12, 3, 17, 0, 0, 0) := (congrArg (fun t => List.lookup 5 t) gt47).trans rfl
theorem t47_8 : zT 47 8 = some (.aload_n 0, 1, 0, 0, 0, 0) := (congrArg (fun t => List.lookup 8 t) gt47).trans rfl
theorem t47_9 : zT 47 9 = some (.aload_n 0, 1, 0, 0, 0, 0) := (congrArg (fun t => List.lookup 9 t) gt47).trans rfl
theorem t47_10 : zT 47 10 = some (.getfield 19, 3, 7, 2, 0, 262) := (congrArg (fun t => List.lookup 10 t) gt47).trans rfl
theorem t47_13 : zT 47 13 = some (.invokevirtual 44, 3, 34, 0, 0, 731) := (congrArg (fun t => List.lookup 13 t) gt47).trans rfl
theorem t47_16 : zT 47 16 = some (.ireturn, 1, 0, 0, 0, 0) := (congrArg (fun t => List.lookup 16 t) gt47).trans rfl
theorem t47_17 : zT 47 17 = some (.aload_n 0, 1, 0, 0, 0, 0) := (congrArg (fun t => List.lookup 17 t) gt47).trans rfl
theorem t47_18 : zT 47 18 = some (.dup, 1, 0, 0, 0, 0) := (congrArg (fun t => List.lookup 18 t) gt47).trans rfl
theorem t47_19 : zT 47 19 = some (.getfield 19, 3, 7, 2, 0, 262) := (congrArg (fun t => List.lookup 19 t) gt47).trans rfl
theorem t47_22 : zT 47 22 = some (.iconst 1, 1, 0, 0, 1, 0) := (congrArg (fun t => List.lookup 22 t) gt47).trans rfl
theorem t47_23 : zT 47 23 = some (.iadd, 1, 0, 0, 0, 0) := (congrArg (fun t => List.lookup 23 t) gt47).trans rfl
theorem t47_24 : zT 47 24 = some (.putfield 19, 3, 7, 2, 0, 262) := (congrArg (fun t => List.lookup 24 t) gt47).trans rfl
theorem t47_27 : zT 47 27 = some (.iconst 1, 1, 0, 0, 1, 0) := (congrArg (fun t => List.lookup 27 t) gt47).trans rfl
theorem t47_28 : zT 47 28 = some (.ireturn, 1, 0, 0, 0, 0) := (congrArg (fun t => List.lookup 28 t) gt47).trans rfl
theorem t48_0 : zT 48 0 = some (.iload_n 1, 1, 1, 0, 0, 0) := (congrArg (fun t => List.lookup 0 t) gt48).trans rfl
theorem t48_1 : zT 48 1 = some (.lookupswitch 103 #[(104, 46), (112, 80), (114, 35)], 35, 0, 0, 0, 0) := (congrArg (fun t => List.lookup 1 t) gt48).trans rfl
theorem t48_36 : zT 48 36 = some (.aload_n 2, 1, 2, 0, 0, 0) := (congrArg (fun t => List.lookup 36 t) gt48).trans rfl
theorem t48_37 : zT 48 37 = some (.aload_n 0, 1, 0, 0, 0, 0) := (congrArg (fun t => List.lookup 37 t) gt48).trans rfl
theorem t48_38 : zT 48 38 = some (.getfield 11, 3, 3, 0, 0, 285) := (congrArg (fun t => List.lookup 38 t) gt48).trans rfl
theorem t48_41 : zT 48 41 = some (.iconst 0, 1, 0, 0, 0, 0) := (congrArg (fun t => List.lookup 41 t) gt48).trans rfl
theorem t48_42 : zT 48 42 = some (.iaload, 1, 0, 0, 0, 0) := (congrArg (fun t => List.lookup 42 t) gt48).trans rfl
theorem t48_43 : zT 48 43 = some (.invokevirtual 118, 3, 49, 0, 0, 778) := (congrArg (fun t => List.lookup 43 t) gt48).trans rfl
theorem t48_46 : zT 48 46 = some (.ireturn, 1, 0, 0, 0, 0) := (congrArg (fun t => List.lookup 46 t) gt48).trans rfl
theorem t48_47 : zT 48 47 = some (.aload_n 2, 1, 2, 0, 0, 0) := (congrArg (fun t => List.lookup 47 t) gt48).trans rfl
theorem t48_48 : zT 48 48 = some (.aload_n 0, 1, 0, 0, 0, 0) := (congrArg (fun t => List.lookup 48 t) gt48).trans rfl
theorem t48_49 : zT 48 49 = some (.getfield 11, 3, 3, 0, 0, 285) := (congrArg (fun t => List.lookup 49 t) gt48).trans rfl
theorem t48_52 : zT 48 52 = some (.iconst 0, 1, 0, 0, 0, 0) := (congrArg (fun t => List.lookup 52 t) gt48).trans rfl
theorem t48_53 : zT 48 53 = some (.iaload, 1, 0, 0, 0, 0) := (congrArg (fun t => List.lookup 53 t) gt48).trans rfl
theorem t48_54 : zT 48 54 = some (.aload_n 0, 1, 0, 0, 0, 0) := (congrArg (fun t => List.lookup 54 t) gt48).trans rfl
theorem t48_55 : zT 48 55 = some (.getfield 11, 3, 3, 0, 0, 285) := (congrArg (fun t => List.lookup 55 t) gt48).trans rfl
theorem t48_58 : zT 48 58 = some (.iconst 1, 1, 0, 0, 1, 0) := (congrArg (fun t => List.lookup 58 t) gt48).trans rfl
theorem t48_59 : zT 48 59 = some (.iaload, 1, 0, 0, 0, 0) := (congrArg (fun t => List.lookup 59 t) gt48).trans rfl
theorem t48_60 : zT 48 60 = some (.aload_n 0, 1, 0, 0, 0, 0) := (congrArg (fun t => List.lookup 60 t) gt48).trans rfl
theorem t48_61 : zT 48 61 = some (.getfield 11, 3, 3, 0, 0, 285) := (congrArg (fun t => List.lookup 61 t) gt48).trans rfl
theorem t48_64 : zT 48 64 = some (.iconst 2, 1, 0, 0, 2, 0) := (congrArg (fun t => List.lookup 64 t) gt48).trans rfl
theorem t48_65 : zT 48 65 = some (.iaload, 1, 0, 0, 0, 0) := (congrArg (fun t => List.lookup 65 t) gt48).trans rfl
theorem t48_66 : zT 48 66 = some (.bipush (-2), 2, 0, 0, (-2), 0) := (congrArg (fun t => List.lookup 66 t) gt48).trans rfl
theorem t48_68 : zT 48 68 = some (.invokevirtual 121, 3, 50, 0, 0, 782) := (congrArg (fun t => List.lookup 68 t) gt48).trans rfl
theorem t48_71 : zT 48 71 = some (.iconst (-1), 1, 0, 0, (-1), 0) := (congrArg (fun t => List.lookup 71 t) gt48).trans rfl
theorem t48_72 : zT 48 72 = some (.if_icmp .eq 7, 3, 79, 0, 0, 0) := (congrArg (fun t => List.lookup 72 t) gt48).trans rfl
theorem t48_75 : zT 48 75 = some (.iconst 1, 1, 0, 0, 1, 0) := (congrArg (fun t => List.lookup 75 t) gt48).trans rfl
theorem t48_76 : zT 48 76 = some (.goto 4, 3, 80, 0, 0, 0) := (congrArg (fun t => List.lookup 76 t) gt48).trans rfl
theorem t48_80 : zT 48 80 = some (.ireturn, 1, 0, 0, 0, 0) := (congrArg (fun t => List.lookup 80 t) gt48).trans rfl
theorem t48_81 : zT 48 81 = some (.aload_n 2, 1, 2, 0, 0, 0) := (congrArg (fun t => List.lookup 81 t) gt48).trans rfl
theorem t48_82 : zT 48 82 = some (.aload_n 0, 1, 0, 0, 0, 0) := (congrArg (fun t => List.lookup 82 t) gt48).trans rfl
theorem t48_83 : zT 48 83 = some (.getfield 11, 3, 3, 0, 0, 285) := (congrArg (fun t => List.lookup 83 t) gt48).trans rfl
theorem t48_86 : zT 48 86 = some (.iconst 0, 1, 0, 0, 0, 0) := (congrArg (fun t => List.lookup 86 t) gt48).trans rfl
theorem t48_87 : zT 48 87 = some (.iaload, 1, 0, 0, 0, 0) := (congrArg (fun t => List.lookup 87 t) gt48).trans rfl
theorem t48_88 : zT 48 88 = some (.aload_n 0, 1, 0, 0, 0, 0) := (congrArg (fun t => List.lookup 88 t) gt48).trans rfl
theorem t48_89 : zT 48 89 = some (.getfield 11, 3, 3, 0, 0, 285) := (congrArg (fun t => List.lookup 89 t) gt48).trans rfl
theorem t48_92 : zT 48 92 = some (.iconst 1, 1, 0, 0, 1, 0) := (congrArg (fun t => List.lookup 92 t) gt48).trans rfl
theorem t48_93 : zT 48 93 = some (.iaload, 1, 0, 0, 0, 0) := (congrArg (fun t => List.lookup 93 t) gt48).trans rfl
theorem t48_94 : zT 48 94 = some (.aload_n 0, 1, 0, 0, 0, 0) := (congrArg (fun t => List.lookup 94 t) gt48).trans rfl
theorem t48_95 : zT 48 95 = some (.getfield 11, 3, 3, 0, 0, 285) := (congrArg (fun t => List.lookup 95 t) gt48).trans rfl
theorem t48_98 : zT 48 98 = some (.iconst 2, 1, 0, 0, 2, 0) := (congrArg (fun t => List.lookup 98 t) gt48).trans rfl
theorem t48_99 : zT 48 99 = some (.iaload, 1, 0, 0, 0, 0) := (congrArg (fun t => List.lookup 99 t) gt48).trans rfl
theorem t48_100 : zT 48 100 = some (.invokevirtual 125, 3, 52, 0, 0, 793) := (congrArg (fun t => List.lookup 100 t) gt48).trans rfl
theorem t48_103 : zT 48 103 = some (.ireturn, 1, 0, 0, 0, 0) := (congrArg (fun t => List.lookup 103 t) gt48).trans rfl
theorem t48_104 : zT 48 104 = some (.iconst 0, 1, 0, 0, 0, 0) := (congrArg (fun t => List.lookup 104 t) gt48).trans rfl
theorem t48_105 : zT 48 105 = some (.istore_n 3, 1, 3, 0, 0, 0) := (congrArg (fun t => List.lookup 105 t) gt48).trans rfl
theorem t48_106 : zT 48 106 = some (.iload_n 3, 1, 3, 0, 0, 0) := (congrArg (fun t => List.lookup 106 t) gt48).trans rfl
theorem t48_107 : zT 48 107 = some (.iload_n 1, 1, 1, 0, 0, 0) := (congrArg (fun t => List.lookup 107 t) gt48).trans rfl
theorem t48_108 : zT 48 108 = some (.invokestatic 41, 3, 32, 1, 0, 713) := (congrArg (fun t => List.lookup 108 t) gt48).trans rfl
theorem t48_111 : zT 48 111 = some (.if_icmp .ge 25, 3, 136, 0, 0, 0) := (congrArg (fun t => List.lookup 111 t) gt48).trans rfl
theorem t48_114 : zT 48 114 = some (.aload_n 2, 1, 2, 0, 0, 0) := (congrArg (fun t => List.lookup 114 t) gt48).trans rfl
theorem t48_115 : zT 48 115 = some (.iload_n 1, 1, 1, 0, 0, 0) := (congrArg (fun t => List.lookup 115 t) gt48).trans rfl
theorem t48_116 : zT 48 116 = some (.invokestatic 103, 3, 45, 1, 0, 763) := (congrArg (fun t => List.lookup 116 t) gt48).trans rfl
theorem t48_119 : zT 48 119 = some (.iload_n 3, 1, 3, 0, 0, 0) := (congrArg (fun t => List.lookup 119 t) gt48).trans rfl
theorem t48_120 : zT 48 120 = some (.iadd, 1, 0, 0, 0, 0) := (congrArg (fun t => List.lookup 120 t) gt48).trans rfl
theorem t48_121 : zT 48 121 = some (.aload_n 0, 1, 0, 0, 0, 0) := (congrArg (fun t => List.lookup 121 t) gt48).trans rfl
theorem t48_122 : zT 48 122 = some (.getfield 11, 3, 3, 0, 0, 285) := (congrArg (fun t => List.lookup 122 t) gt48).trans rfl
theorem t48_125 : zT 48 125 = some (.iload_n 3, 1, 3, 0, 0, 0) := (congrArg (fun t => List.lookup 125 t) gt48).trans rfl
theorem t48_126 : zT 48 126 = some (.iaload, 1, 0, 0, 0, 0) := (congrArg (fun t => List.lookup 126 t) gt48).trans rfl
theorem t48_127 : zT 48 127 = some (.invokevirtual 128, 3, 56, 0, 0, 809) := (congrArg (fun t => List.lookup 127 t) gt48).trans rfl
theorem t48_130 : zT 48 130 = some (.iinc 3 1, 3, 0, 0, 0, 0) := (congrArg (fun t => List.lookup 130 t) gt48).trans rfl
theorem t48_133 : zT 48 133 = some (.goto (-27), 3, 106, 0, 0, 0) := (congrArg (fun t => List.lookup 133 t) gt48).trans rfl
theorem t48_136 : zT 48 136 = some (.iconst 1, 1, 0, 0, 1, 0) := (congrArg (fun t => List.lookup 136 t) gt48).trans rfl
theorem t48_137 : zT 48 137 = some (.ireturn, 1, 0, 0, 0, 0) := (congrArg (fun t => List.lookup 137 t) gt48).trans rfl
theorem t49_0 : zT 49 0 = some (.aload_n 0, 1, 0, 0, 0, 0) := (congrArg (fun t => List.lookup 0 t) gt49).trans rfl
theorem t49_1 : zT 49 1 = some (.getfield 9, 3, 6, 0, 0, 151) := (congrArg (fun t => List.lookup 1 t) gt49).trans rfl
theorem t49_4 : zT 49 4 = some (.bipush 8, 2, 0, 0, 8, 0) := (congrArg (fun t => List.lookup 4 t) gt49).trans rfl
theorem t49_6 : zT 49 6 = some (.if_icmp .lt 5, 3, 11, 0, 0, 0) := (congrArg (fun t => List.lookup 6 t) gt49).trans rfl
theorem t49_9 : zT 49 9 = some (.iconst 0, 1, 0, 0, 0, 0) := (congrArg (fun t => List.lookup 9 t) gt49).trans rfl
theorem t49_10 : zT 49 10 = some (.ireturn, 1, 0, 0, 0, 0) := (congrArg (fun t => List.lookup 10 t) gt49).trans rfl
theorem t49_11 : zT 49 11 = some (.aload_n 0, 1, 0, 0, 0, 0) := (congrArg (fun t => List.lookup 11 t) gt49).trans rfl
theorem t49_12 : zT 49 12 = some (.getfield 15, 3, 6, 1, 0, 157) := (congrArg (fun t => List.lookup 12 t) gt49).trans rfl
theorem t49_15 : zT 49 15 = some (.aload_n 0, 1, 0, 0, 0, 0) := (congrArg (fun t => List.lookup 15 t) gt49).trans rfl
theorem t49_16 : zT 49 16 = some (.getfield 9, 3, 6, 0, 0, 151) := (congrArg (fun t => List.lookup 16 t) gt49).trans rfl
theorem t49_19 : zT 49 19 = some (.iload_n 1, 1, 1, 0, 0, 0) := (congrArg (fun t => List.lookup 19 t) gt49).trans rfl
theorem t49_20 : zT 49 20 = some (.iastore, 1, 0, 0, 0, 0) := (congrArg (fun t => List.lookup 20 t) gt49).trans rfl
theorem t49_21 : zT 49 21 = some (.aload_n 0, 1, 0, 0, 0, 0) := (congrArg (fun t => List.lookup 21 t) gt49).trans rfl
theorem t49_22 : zT 49 22 = some (.getfield 19, 3, 6, 2, 0, 161) := (congrArg (fun t => List.lookup 22 t) gt49).trans rfl
theorem t49_25 : zT 49 25 = some (.aload_n 0, 1, 0, 0, 0, 0) := (congrArg (fun t => List.lookup 25 t) gt49).trans rfl
theorem t49_26 : zT 49 26 = some (.getfield 9, 3, 6, 0, 0, 151) := (congrArg (fun t => List.lookup 26 t) gt49).trans rfl
theorem t49_29 : zT 49 29 = some (.iconst 1, 1, 0, 0, 1, 0) := (congrArg (fun t => List.lookup 29 t) gt49).trans rfl
theorem t49_30 : zT 49 30 = some (.bastore, 1, 0, 0, 0, 0) := (congrArg (fun t => List.lookup 30 t) gt49).trans rfl
theorem t49_31 : zT 49 31 = some (.aload_n 0, 1, 0, 0, 0, 0) := (congrArg (fun t => List.lookup 31 t) gt49).trans rfl
theorem t49_32 : zT 49 32 = some (.dup, 1, 0, 0, 0, 0) := (congrArg (fun t => List.lookup 32 t) gt49).trans rfl
theorem t49_33 : zT 49 33 = some (.getfield 9, 3, 6, 0, 0, 151) := (congrArg (fun t => List.lookup 33 t) gt49).trans rfl
theorem t49_36 : zT 49 36 = some (.iconst 1, 1, 0, 0, 1, 0) := (congrArg (fun t => List.lookup 36 t) gt49).trans rfl
theorem t49_37 : zT 49 37 = some (.iadd, 1, 0, 0, 0, 0) := (congrArg (fun t => List.lookup 37 t) gt49).trans rfl
theorem t49_38 : zT 49 38 = some (.putfield 9, 3, 6, 0, 0, 151) := (congrArg (fun t => List.lookup 38 t) gt49).trans rfl
theorem t49_41 : zT 49 41 = some (.iconst 1, 1, 0, 0, 1, 0) := (congrArg (fun t => List.lookup 41 t) gt49).trans rfl
theorem t49_42 : zT 49 42 = some (.ireturn, 1, 0, 0, 0, 0) := (congrArg (fun t => List.lookup 42 t) gt49).trans rfl
theorem t50_0 : zT 50 0 = some (.aload_n 0, 1, 0, 0, 0, 0) := (congrArg (fun t => List.lookup 0 t) gt50).trans rfl
theorem t50_1 : zT 50 1 = some (.iload_n 1, 1, 1, 0, 0, 0) := (congrArg (fun t => List.lookup 1 t) gt50).trans rfl
theorem t50_2 : zT 50 2 = some (.iload_n 2, 1, 2, 0, 0, 0) := (congrArg (fun t => List.lookup 2 t) gt50).trans rfl
theorem t50_3 : zT 50 3 = some (.iload_n 3, 1, 3, 0, 0, 0) := (congrArg (fun t => List.lookup 3 t) gt50).trans rfl
theorem t50_4 : zT 50 4 = some (.invokevirtual 119, 3, 51, 0, 0, 786) := (congrArg (fun t => List.lookup 4 t) gt50).trans rfl
theorem t50_7 : zT 50 7 = some (.ifCond .ne 5, 3, 12, 0, 0, 0) := (congrArg (fun t => List.lookup 7 t) gt50).trans rfl
theorem t50_10 : zT 50 10 = some (.iconst (-1), 1, 0, 0, (-1), 0) := (congrArg (fun t => List.lookup 10 t) gt50).trans rfl
theorem t50_11 : zT 50 11 = some (.ireturn, 1, 0, 0, 0, 0) := (congrArg (fun t => List.lookup 11 t) gt50).trans rfl
theorem t50_12 : zT 50 12 = some (.aload_n 0, 1, 0, 0, 0, 0) := (congrArg (fun t => List.lookup 12 t) gt50).trans rfl
theorem t50_13 : zT 50 13 = some (.getfield 26, 3, 6, 4, 0, 168) := (congrArg (fun t => List.lookup 13 t) gt50).trans rfl
theorem t50_16 : zT 50 16 = some (.aload_n 0, 1, 0, 0, 0, 0) := (congrArg (fun t => List.lookup 16 t) gt50).trans rfl
theorem t50_17 : zT 50 17 = some (.getfield 23, 3, 6, 3, 0, 164) := (congrArg (fun t => List.lookup 17 t) gt50).trans rfl
theorem t50_20 : zT 50 20 = some (.iload_n 1, 1, 1, 0, 0, 0) := (congrArg (fun t => List.lookup 20 t) gt50).trans rfl
theorem t50_21 : zT 50 21 = some (.iastore, 1, 0, 0, 0, 0) := (congrArg (fun t => List.lookup 21 t) gt50).trans rfl
theorem t50_22 : zT 50 22 = some (.aload_n 0, 1, 0, 0, 0, 0) := (congrArg (fun t => List.lookup 22 t) gt50).trans rfl
theorem t50_23 : zT 50 23 = some (.getfield 29, 3, 6, 5, 0, 171) := (congrArg (fun t => List.lookup 23 t) gt50).trans rfl
theorem t50_26 : zT 50 26 = some (.aload_n 0, 1, 0, 0, 0, 0) := (congrArg (fun t => List.lookup 26 t) gt50).trans rfl
theorem t50_27 : zT 50 27 = some (.getfield 23, 3, 6, 3, 0, 164) := (congrArg (fun t => List.lookup 27 t) gt50).trans rfl
theorem t50_30 : zT 50 30 = some (.iload_n 2, 1, 2, 0, 0, 0) := (congrArg (fun t => List.lookup 30 t) gt50).trans rfl
theorem t50_31 : zT 50 31 = some (.iastore, 1, 0, 0, 0, 0) := (congrArg (fun t => List.lookup 31 t) gt50).trans rfl
theorem t50_32 : zT 50 32 = some (.aload_n 0, 1, 0, 0, 0, 0) := (congrArg (fun t => List.lookup 32 t) gt50).trans rfl
theorem t50_33 : zT 50 33 = some (.getfield 32, 3, 6, 6, 0, 175) := (congrArg (fun t => List.lookup 33 t) gt50).trans rfl
theorem t50_36 : zT 50 36 = some (.aload_n 0, 1, 0, 0, 0, 0) := (congrArg (fun t => List.lookup 36 t) gt50).trans rfl
theorem t50_37 : zT 50 37 = some (.getfield 23, 3, 6, 3, 0, 164) := (congrArg (fun t => List.lookup 37 t) gt50).trans rfl
theorem t50_40 : zT 50 40 = some (.iload_n 3, 1, 3, 0, 0, 0) := (congrArg (fun t => List.lookup 40 t) gt50).trans rfl
theorem t50_41 : zT 50 41 = some (.iastore, 1, 0, 0, 0, 0) := (congrArg (fun t => List.lookup 41 t) gt50).trans rfl
theorem t50_42 : zT 50 42 = some (.aload_n 0, 1, 0, 0, 0, 0) := (congrArg (fun t => List.lookup 42 t) gt50).trans rfl
theorem t50_43 : zT 50 43 = some (.getfield 35, 3, 6, 7, 0, 177) := (congrArg (fun t => List.lookup 43 t) gt50).trans rfl
theorem t50_46 : zT 50 46 = some (.aload_n 0, 1, 0, 0, 0, 0) := (congrArg (fun t => List.lookup 46 t) gt50).trans rfl
theorem t50_47 : zT 50 47 = some (.getfield 23, 3, 6, 3, 0, 164) := (congrArg (fun t => List.lookup 47 t) gt50).trans rfl
theorem t50_50 : zT 50 50 = some (.iload 4, 2, 0, 0, 0, 0) := (congrArg (fun t => List.lookup 50 t) gt50).trans rfl
theorem t50_52 : zT 50 52 = some (.iastore, 1, 0, 0, 0, 0) := (congrArg (fun t => List.lookup 52 t) gt50).trans rfl
theorem t50_53 : zT 50 53 = some (.aload_n 0, 1, 0, 0, 0, 0) := (congrArg (fun t => List.lookup 53 t) gt50).trans rfl
theorem t50_54 : zT 50 54 = some (.dup, 1, 0, 0, 0, 0) := (congrArg (fun t => List.lookup 54 t) gt50).trans rfl
theorem t50_55 : zT 50 55 = some (.getfield 23, 3, 6, 3, 0, 164) := (congrArg (fun t => List.lookup 55 t) gt50).trans rfl
theorem t50_58 : zT 50 58 = some (.iconst 1, 1, 0, 0, 1, 0) := (congrArg (fun t => List.lookup 58 t) gt50).trans rfl
theorem t50_59 : zT 50 59 = some (.iadd, 1, 0, 0, 0, 0) := (congrArg (fun t => List.lookup 59 t) gt50).trans rfl
theorem t50_60 : zT 50 60 = some (.putfield 23, 3, 6, 3, 0, 164) := (congrArg (fun t => List.lookup 60 t) gt50).trans rfl
theorem t50_63 : zT 50 63 = some (.aload_n 0, 1, 0, 0, 0, 0) := (congrArg (fun t => List.lookup 63 t) gt50).trans rfl
theorem t50_64 : zT 50 64 = some (.getfield 23, 3, 6, 3, 0, 164) := (congrArg (fun t => List.lookup 64 t) gt50).trans rfl
theorem t50_67 : zT 50 67 = some (.iconst 1, 1, 0, 0, 1, 0) := (congrArg (fun t => List.lookup 67 t) gt50).trans rfl
theorem t50_68 : zT 50 68 = some (.isub, 1, 0, 0, 0, 0) := (congrArg (fun t => List.lookup 68 t) gt50).trans rfl
theorem t50_69 : zT 50 69 = some (.ireturn, 1, 0, 0, 0, 0) := (congrArg (fun t => List.lookup 69 t) gt50).trans rfl
theorem t51_0 : zT 51 0 = some (.aload_n 0, 1, 0, 0, 0, 0) := (congrArg (fun t => List.lookup 0 t) gt51).trans rfl
theorem t51_1 : zT 51 1 = some (.iload_n 1, 1, 1, 0, 0, 0) := (congrArg (fun t => List.lookup 1 t) gt51).trans rfl
theorem t51_2 : zT 51 2 = some (.invokevirtual 98, 3, 41, 0, 0, 790) := (congrArg (fun t => List.lookup 2 t) gt51).trans rfl
theorem t51_5 : zT 51 5 = some (.ifCond .eq 34, 3, 39, 0, 0, 0) := (congrArg (fun t => List.lookup 5 t) gt51).trans rfl
theorem t51_8 : zT 51 8 = some (.iload_n 2, 1, 2, 0, 0, 0) := (congrArg (fun t => List.lookup 8 t) gt51).trans rfl
theorem t51_9 : zT 51 9 = some (.invokestatic 116, 3, 42, 2, 0, 791) := (congrArg (fun t => List.lookup 9 t) gt51).trans rfl
theorem t51_12 : zT 51 12 = some (.ifCond .eq 27, 3, 39, 0, 0, 0) := (congrArg (fun t => List.lookup 12 t) gt51).trans rfl
theorem t51_15 : zT 51 15 = some (.iload_n 3, 1, 3, 0, 0, 0) := (congrArg (fun t => List.lookup 15 t) gt51).trans rfl
theorem t51_16 : zT 51 16 = some (.iconst 0, 1, 0, 0, 0, 0) := (congrArg (fun t => List.lookup 16 t) gt51).trans rfl
theorem t51_17 : zT 51 17 = some (.sipush 999, 3, 0, 0, 999, 0) := (congrArg (fun t => List.lookup 17 t) gt51).trans rfl
theorem t51_20 : zT 51 20 = some (.invokestatic 91, 3, 39, 2, 0, 792) := (congrArg (fun t => List.lookup 20 t) gt51).trans rfl
theorem t51_23 : zT 51 23 = some (.ifCond .eq 16, 3, 39, 0, 0, 0) := (congrArg (fun t => List.lookup 23 t) gt51).trans rfl
theorem t51_26 : zT 51 26 = some (.aload_n 0, 1, 0, 0, 0, 0) := (congrArg (fun t => List.lookup 26 t) gt51).trans rfl
theorem t51_27 : zT 51 27 = some (.getfield 23, 3, 6, 3, 0, 164) := (congrArg (fun t => List.lookup 27 t) gt51).trans rfl
theorem t51_30 : zT 51 30 = some (.bipush 60, 2, 0, 0, 60, 0) := (congrArg (fun t => List.lookup 30 t) gt51).trans rfl
theorem t51_32 : zT 51 32 = some (.if_icmp .ge 7, 3, 39, 0, 0, 0) := (congrArg (fun t => List.lookup 32 t) gt51).trans rfl
theorem t51_35 : zT 51 35 = some (.iconst 1, 1, 0, 0, 1, 0) := (congrArg (fun t => List.lookup 35 t) gt51).trans rfl
theorem t51_36 : zT 51 36 = some (.goto 4, 3, 40, 0, 0, 0) := (congrArg (fun t => List.lookup 36 t) gt51).trans rfl
theorem t51_39 : zT 51 39 = some (.iconst 0, 1, 0, 0, 0, 0) := (congrArg (fun t => List.lookup 39 t) gt51).trans rfl
theorem t51_40 : zT 51 40 = some (.ireturn, 1, 0, 0, 0, 0) := (congrArg (fun t => List.lookup 40 t) gt51).trans rfl
theorem t52_0 : zT 52 0 = some (.aload_n 0, 1, 0, 0, 0, 0) := (congrArg (fun t => List.lookup 0 t) gt52).trans rfl
theorem t52_1 : zT 52 1 = some (.getfield 38, 3, 6, 8, 0, 180) := (congrArg (fun t => List.lookup 1 t) gt52).trans rfl
theorem t52_4 : zT 52 4 = some (.bipush 12, 2, 0, 0, 12, 0) := (congrArg (fun t => List.lookup 4 t) gt52).trans rfl
theorem t52_6 : zT 52 6 = some (.if_icmp .lt 5, 3, 11, 0, 0, 0) := (congrArg (fun t => List.lookup 6 t) gt52).trans rfl
theorem t52_9 : zT 52 9 = some (.iconst 0, 1, 0, 0, 0, 0) := (congrArg (fun t => List.lookup 9 t) gt52).trans rfl
theorem t52_10 : zT 52 10 = some (.ireturn, 1, 0, 0, 0, 0) := (congrArg (fun t => List.lookup 10 t) gt52).trans rfl
theorem t52_11 : zT 52 11 = some (.aload_n 0, 1, 0, 0, 0, 0) := (congrArg (fun t => List.lookup 11 t) gt52).trans rfl
theorem t52_12 : zT 52 12 = some (.getfield 41, 3, 6, 9, 0, 184) := (congrArg (fun t => List.lookup 12 t) gt52).trans rfl
theorem t52_15 : zT 52 15 = some (.aload_n 0, 1, 0, 0, 0, 0) := (congrArg (fun t => List.lookup 15 t) gt52).trans rfl
theorem t52_16 : zT 52 16 = some (.getfield 38, 3, 6, 8, 0, 180) := (congrArg (fun t => List.lookup 16 t) gt52).trans rfl
theorem t52_19 : zT 52 19 = some (.iload_n 1, 1, 1, 0, 0, 0) := (congrArg (fun t => List.lookup 19 t) gt52).trans rfl
theorem t52_20 : zT 52 20 = some (.iastore, 1, 0, 0, 0, 0) := (congrArg (fun t => List.lookup 20 t) gt52).trans rfl
theorem t52_21 : zT 52 21 = some (.aload_n 0, 1, 0, 0, 0, 0) := (congrArg (fun t => List.lookup 21 t) gt52).trans rfl
theorem t52_22 : zT 52 22 = some (.getfield 44, 3, 6, 10, 0, 186) := (congrArg (fun t => List.lookup 22 t) gt52).trans rfl
theorem t52_25 : zT 52 25 = some (.aload_n 0, 1, 0, 0, 0, 0) := (congrArg (fun t => List.lookup 25 t) gt52).trans rfl
theorem t52_26 : zT 52 26 = some (.getfield 38, 3, 6, 8, 0, 180) := (congrArg (fun t => List.lookup 26 t) gt52).trans rfl
theorem t52_29 : zT 52 29 = some (.iload_n 2, 1, 2, 0, 0, 0) := (congrArg (fun t => List.lookup 29 t) gt52).trans rfl
theorem t52_30 : zT 52 30 = some (.iastore, 1, 0, 0, 0, 0) := (congrArg (fun t => List.lookup 30 t) gt52).trans rfl
theorem t52_31 : zT 52 31 = some (.aload_n 0, 1, 0, 0, 0, 0) := (congrArg (fun t => List.lookup 31 t) gt52).trans rfl
theorem t52_32 : zT 52 32 = some (.getfield 47, 3, 6, 11, 0, 188) := (congrArg (fun t => List.lookup 32 t) gt52).trans rfl
theorem t52_35 : zT 52 35 = some (.aload_n 0, 1, 0, 0, 0, 0) := (congrArg (fun t => List.lookup 35 t) gt52).trans rfl
theorem t52_36 : zT 52 36 = some (.getfield 38, 3, 6, 8, 0, 180) := (congrArg (fun t => List.lookup 36 t) gt52).trans rfl
theorem t52_39 : zT 52 39 = some (.iload_n 3, 1, 3, 0, 0, 0) := (congrArg (fun t => List.lookup 39 t) gt52).trans rfl
theorem t52_40 : zT 52 40 = some (.iastore, 1, 0, 0, 0, 0) := (congrArg (fun t => List.lookup 40 t) gt52).trans rfl
theorem t52_41 : zT 52 41 = some (.aload_n 0, 1, 0, 0, 0, 0) := (congrArg (fun t => List.lookup 41 t) gt52).trans rfl
theorem t52_42 : zT 52 42 = some (.dup, 1, 0, 0, 0, 0) := (congrArg (fun t => List.lookup 42 t) gt52).trans rfl
theorem t52_43 : zT 52 43 = some (.getfield 38, 3, 6, 8, 0, 180) := (congrArg (fun t => List.lookup 43 t) gt52).trans rfl
theorem t52_46 : zT 52 46 = some (.iconst 1, 1, 0, 0, 1, 0) := (congrArg (fun t => List.lookup 46 t) gt52).trans rfl
theorem t52_47 : zT 52 47 = some (.iadd, 1, 0, 0, 0, 0) := (congrArg (fun t => List.lookup 47 t) gt52).trans rfl
theorem t52_48 : zT 52 48 = some (.putfield 38, 3, 6, 8, 0, 180) := (congrArg (fun t => List.lookup 48 t) gt52).trans rfl
theorem t52_51 : zT 52 51 = some (.iconst 0, 1, 0, 0, 0, 0) := (congrArg (fun t => List.lookup 51 t) gt52).trans rfl
theorem t52_52 : zT 52 52 = some (.istore 4, 2, 0, 0, 0, 0) := (congrArg (fun t => List.lookup 52 t) gt52).trans rfl
theorem t52_54 : zT 52 54 = some (.iload 4, 2, 0, 0, 0, 0) := (congrArg (fun t => List.lookup 54 t) gt52).trans rfl
theorem t52_56 : zT 52 56 = some (.aload_n 0, 1, 0, 0, 0, 0) := (congrArg (fun t => List.lookup 56 t) gt52).trans rfl
theorem t52_57 : zT 52 57 = some (.getfield 9, 3, 6, 0, 0, 151) := (congrArg (fun t => List.lookup 57 t) gt52).trans rfl
theorem t52_60 : zT 52 60 = some (.if_icmp .ge 66, 3, 126, 0, 0, 0) := (congrArg (fun t => List.lookup 60 t) gt52).trans rfl
theorem t52_63 : zT 52 63 = some (.iload_n 1, 1, 1, 0, 0, 0) := (congrArg (fun t => List.lookup 63 t) gt52).trans rfl
theorem t52_64 : zT 52 64 = some (.aload_n 0, 1, 0, 0, 0, 0) := (congrArg (fun t => List.lookup 64 t) gt52).trans rfl
theorem t52_65 : zT 52 65 = some (.iload 4, 2, 0, 0, 0, 0) := (congrArg (fun t => List.lookup 65 t) gt52).trans rfl
theorem t52_67 : zT 52 67 = some (.iload_n 2, 1, 2, 0, 0, 0) := (congrArg (fun t => List.lookup 67 t) gt52).trans rfl
theorem t52_68 : zT 52 68 = some (.invokevirtual 104, 3, 53, 0, 0, 797) := (congrArg (fun t => List.lookup 68 t) gt52).trans rfl
theorem t52_71 : zT 52 71 = some (.iadd, 1, 0, 0, 0, 0) := (congrArg (fun t => List.lookup 71 t) gt52).trans rfl
theorem t52_72 : zT 52 72 = some (.aload_n 0, 1, 0, 0, 0, 0) := (congrArg (fun t => List.lookup 72 t) gt52).trans rfl
theorem t52_73 : zT 52 73 = some (.iload 4, 2, 0, 0, 0, 0) := (congrArg (fun t => List.lookup 73 t) gt52).trans rfl
theorem t52_75 : zT 52 75 = some (.iload_n 3, 1, 3, 0, 0, 0) := (congrArg (fun t => List.lookup 75 t) gt52).trans rfl
theorem t52_76 : zT 52 76 = some (.invokevirtual 107, 3, 55, 0, 0, 804) := (congrArg (fun t => List.lookup 76 t) gt52).trans rfl
theorem t52_79 : zT 52 79 = some (.iadd, 1, 0, 0, 0, 0) := (congrArg (fun t => List.lookup 79 t) gt52).trans rfl
theorem t52_80 : zT 52 80 = some (.istore 5, 2, 0, 0, 0, 0) := (congrArg (fun t => List.lookup 80 t) gt52).trans rfl
theorem t52_82 : zT 52 82 = some (.iload 5, 2, 0, 0, 0, 0) := (congrArg (fun t => List.lookup 82 t) gt52).trans rfl
theorem t52_84 : zT 52 84 = some (.invokestatic 116, 3, 42, 2, 0, 791) := (congrArg (fun t => List.lookup 84 t) gt52).trans rfl
theorem t52_87 : zT 52 87 = some (.ifCond .eq 33, 3, 120, 0, 0, 0) := (congrArg (fun t => List.lookup 87 t) gt52).trans rfl
theorem t52_90 : zT 52 90 = some (.aload_n 0, 1, 0, 0, 0, 0) := (congrArg (fun t => List.lookup 90 t) gt52).trans rfl
theorem t52_91 : zT 52 91 = some (.iload 4, 2, 0, 0, 0, 0) := (congrArg (fun t => List.lookup 91 t) gt52).trans rfl
theorem t52_93 : zT 52 93 = some (.iload 5, 2, 0, 0, 0, 0) := (congrArg (fun t => List.lookup 93 t) gt52).trans rfl
theorem t52_95 : zT 52 95 = some (.aload_n 0, 1, 0, 0, 0, 0) := (congrArg (fun t => List.lookup 95 t) gt52).trans rfl
theorem t52_96 : zT 52 96 = some (.getfield 15, 3, 6, 1, 0, 157) := (congrArg (fun t => List.lookup 96 t) gt52).trans rfl
theorem t52_99 : zT 52 99 = some (.iload 4, 2, 0, 0, 0, 0) := (congrArg (fun t => List.lookup 99 t) gt52).trans rfl
theorem t52_101 : zT 52 101 = some (.iaload, 1, 0, 0, 0, 0) := (congrArg (fun t => List.lookup 101 t) gt52).trans rfl
theorem t52_102 : zT 52 102 = some (.bipush 10, 2, 0, 0, 10, 0) := (congrArg (fun t => List.lookup 102 t) gt52).trans rfl
theorem t52_104 : zT 52 104 = some (.idiv, 1, 0, 0, 0, 0) := (congrArg (fun t => List.lookup 104 t) gt52).trans rfl
theorem t52_105 : zT 52 105 = some (.aload_n 0, 1, 0, 0, 0, 0) := (congrArg (fun t => List.lookup 105 t) gt52).trans rfl
theorem t52_106 : zT 52 106 = some (.getfield 38, 3, 6, 8, 0, 180) := (congrArg (fun t => List.lookup 106 t) gt52).trans rfl
theorem t52_109 : zT 52 109 = some (.iconst 1, 1, 0, 0, 1, 0) := (congrArg (fun t => List.lookup 109 t) gt52).trans rfl
theorem t52_110 : zT 52 110 = some (.isub, 1, 0, 0, 0, 0) := (congrArg (fun t => List.lookup 110 t) gt52).trans rfl
theorem t52_111 : zT 52 111 = some (.invokevirtual 122, 3, 50, 0, 0, 808) := (congrArg (fun t => List.lookup 111 t) gt52).trans rfl
theorem t52_114 : zT 52 114 = some (.iconst (-1), 1, 0, 0, (-1), 0) := (congrArg (fun t => List.lookup 114 t) gt52).trans rfl
theorem t52_115 : zT 52 115 = some (.if_icmp .ne 5, 3, 120, 0, 0, 0) := (congrArg (fun t => List.lookup 115 t) gt52).trans rfl
theorem t52_118 : zT 52 118 = some (.iconst 0, 1, 0, 0, 0, 0) := (congrArg (fun t => List.lookup 118 t) gt52).trans rfl
theorem t52_119 : zT 52 119 = some (.ireturn, 1, 0, 0, 0, 0) := (congrArg (fun t => List.lookup 119 t) gt52).trans rfl
theorem t52_120 : zT 52 120 = some (.iinc 4 1, 3, 0, 0, 0, 0) := (congrArg (fun t => List.lookup 120 t) gt52).trans rfl
theorem t52_123 : zT 52 123 = some (.goto (-69), 3, 54, 0, 0, 0) := (congrArg (fun t => List.lookup 123 t) gt52).trans (by decide +kernel)
theorem t52_126 : zT 52 126 = some (.iconst 1, 1, 0, 0, 1, 0) := (congrArg (fun t => List.lookup 126 t) gt52).trans (by decide +kernel)
theorem t52_127 : zT 52 127 = some (.ireturn, 1, 0, 0, 0, 0) := (congrArg (fun t => List.lookup 127 t) gt52).trans (by decide +kernel)
theorem t53_0 : zT 53 0 = some (.aload_n 0, 1, 0, 0, 0, 0) := (congrArg (fun t => List.lookup 0 t) gt53).trans rfl
theorem t53_1 : zT 53 1 = some (.iload_n 1, 1, 1, 0, 0, 0) := (congrArg (fun t => List.lookup 1 t) gt53).trans rfl
theorem t53_2 : zT 53 2 = some (.invokevirtual 98, 3, 41, 0, 0, 790) := (congrArg (fun t => List.lookup 2 t) gt53).trans rfl
theorem t53_5 : zT 53 5 = some (.ifCond .eq 19, 3, 24, 0, 0, 0) := (congrArg (fun t => List.lookup 5 t) gt53).trans rfl
theorem t53_8 : zT 53 8 = some (.iload_n 2, 1, 2, 0, 0, 0) := (congrArg (fun t => List.lookup 8 t) gt53).trans rfl
theorem t53_9 : zT 53 9 = some (.aload_n 0, 1, 0, 0, 0, 0) := (congrArg (fun t => List.lookup 9 t) gt53).trans rfl
theorem t53_10 : zT 53 10 = some (.getfield 15, 3, 6, 1, 0, 157) := (congrArg (fun t => List.lookup 10 t) gt53).trans rfl
theorem t53_13 : zT 53 13 = some (.iload_n 1, 1, 1, 0, 0, 0) := (congrArg (fun t => List.lookup 13 t) gt53).trans rfl
theorem t53_14 : zT 53 14 = some (.iaload, 1, 0, 0, 0, 0) := (congrArg (fun t => List.lookup 14 t) gt53).trans rfl
theorem t53_15 : zT 53 15 = some (.imul, 1, 0, 0, 0, 0) := (congrArg (fun t => List.lookup 15 t) gt53).trans rfl
theorem t53_16 : zT 53 16 = some (.bipush 100, 2, 0, 0, 100, 0) := (congrArg (fun t => List.lookup 16 t) gt53).trans rfl
theorem t53_18 : zT 53 18 = some (.invokestatic 101, 3, 54, 1, 0, 801) := (congrArg (fun t => List.lookup 18 t) gt53).trans rfl
theorem t53_21 : zT 53 21 = some (.goto 4, 3, 25, 0, 0, 0) := (congrArg (fun t => List.lookup 21 t) gt53).trans rfl
theorem t53_24 : zT 53 24 = some (.iconst 0, 1, 0, 0, 0, 0) := (congrArg (fun t => List.lookup 24 t) gt53).trans rfl
theorem t53_25 : zT 53 25 = some (.ireturn, 1, 0, 0, 0, 0) := (congrArg (fun t => List.lookup 25 t) gt53).trans rfl
theorem t54_0 : zT 54 0 = some (.iload_n 0, 1, 0, 0, 0, 0) := (congrArg (fun t => List.lookup 0 t) gt54).trans rfl
theorem t54_1 : zT 54 1 = some (.iload_n 1, 1, 1, 0, 0, 0) := (congrArg (fun t => List.lookup 1 t) gt54).trans rfl
theorem t54_2 : zT 54 2 = some (.idiv, 1, 0, 0, 0, 0) := (congrArg (fun t => List.lookup 2 t) gt54).trans rfl
theorem t54_3 : zT 54 3 = some (.istore_n 2, 1, 2, 0, 0, 0) := (congrArg (fun t => List.lookup 3 t) gt54).trans rfl
theorem t54_4 : zT 54 4 = some (.iload_n 0, 1, 0, 0, 0, 0) := (congrArg (fun t => List.lookup 4 t) gt54).trans rfl
theorem t54_5 : zT 54 5 = some (.iload_n 1, 1, 1, 0, 0, 0) := (congrArg (fun t => List.lookup 5 t) gt54).trans rfl
theorem t54_6 : zT 54 6 = some (.ixor, 1, 0, 0, 0, 0) := (congrArg (fun t => List.lookup 6 t) gt54).trans rfl
theorem t54_7 : zT 54 7 = some (.ifCond .ge 14, 3, 21, 0, 0, 0) := (congrArg (fun t => List.lookup 7 t) gt54).trans rfl
theorem t54_10 : zT 54 10 = some (.iload_n 2, 1, 2, 0, 0, 0) := (congrArg (fun t => List.lookup 10 t) gt54).trans rfl
theorem t54_11 : zT 54 11 = some (.iload_n 1, 1, 1, 0, 0, 0) := (congrArg (fun t => List.lookup 11 t) gt54).trans rfl
