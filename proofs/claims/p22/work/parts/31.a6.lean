theorem t338_48 : zT 338 48 = some (.bipush (-2), 2, 0, 0, (-2), 0) := (congrArg (fun t => List.lookup 48 t) gt338).trans rfl
theorem t338_50 : zT 338 50 = some (.if_icmp .ne 9, 3, 59, 0, 0, 0) := (congrArg (fun t => List.lookup 50 t) gt338).trans rfl
theorem t338_53 : zT 338 53 = some (.iconst 1, 1, 0, 0, 1, 0) := (congrArg (fun t => List.lookup 53 t) gt338).trans rfl
theorem t338_54 : zT 338 54 = some (.iload_n 3, 1, 3, 0, 0, 0) := (congrArg (fun t => List.lookup 54 t) gt338).trans rfl
theorem t338_55 : zT 338 55 = some (.ishl, 1, 0, 0, 0, 0) := (congrArg (fun t => List.lookup 55 t) gt338).trans rfl
theorem t338_56 : zT 338 56 = some (.goto 4, 3, 60, 0, 0, 0) := (congrArg (fun t => List.lookup 56 t) gt338).trans rfl
theorem t338_59 : zT 338 59 = some (.iconst 0, 1, 0, 0, 0, 0) := (congrArg (fun t => List.lookup 59 t) gt338).trans rfl
theorem t338_60 : zT 338 60 = some (.ior, 1, 0, 0, 0, 0) := (congrArg (fun t => List.lookup 60 t) gt338).trans rfl
theorem t338_61 : zT 338 61 = some (.istore_n 2, 1, 2, 0, 0, 0) := (congrArg (fun t => List.lookup 61 t) gt338).trans rfl
theorem t338_62 : zT 338 62 = some (.iinc 3 1, 3, 0, 0, 0, 0) := (congrArg (fun t => List.lookup 62 t) gt338).trans rfl
theorem t338_65 : zT 338 65 = some (.goto (-47), 3, 18, 0, 0, 0) := (congrArg (fun t => List.lookup 65 t) gt338).trans rfl
theorem t338_68 : zT 338 68 = some (.iload_n 2, 1, 2, 0, 0, 0) := (congrArg (fun t => List.lookup 68 t) gt338).trans rfl
theorem t338_69 : zT 338 69 = some (.ireturn, 1, 0, 0, 0, 0) := (congrArg (fun t => List.lookup 69 t) gt338).trans rfl
theorem t339_0 : zT 339 0 = some (.aload_n 0, 1, 0, 0, 0, 0) := (congrArg (fun t => List.lookup 0 t) gt339).trans rfl
theorem t339_1 : zT 339 1 = some (.invokevirtual 331, 3, 268, 0, 0, 1933) := (congrArg (fun t => List.lookup 1 t) gt339).trans rfl
theorem t339_4 : zT 339 4 = some (.aload_n 0, 1, 0, 0, 0, 0) := (congrArg (fun t => List.lookup 4 t) gt339).trans rfl
theorem t339_5 : zT 339 5 = some (.iload_n 1, 1, 1, 0, 0, 0) := (congrArg (fun t => List.lookup 5 t) gt339).trans rfl
theorem t339_6 : zT 339 6 = some (.invokevirtual 334, 3, 297, 0, 0, 2045) := (congrArg (fun t => List.lookup 6 t) gt339).trans rfl
theorem t339_9 : zT 339 9 = some (.ifCond .eq 11, 3, 20, 0, 0, 0) := (congrArg (fun t => List.lookup 9 t) gt339).trans rfl
theorem t339_12 : zT 339 12 = some (.aload_n 0, 1, 0, 0, 0, 0) := (congrArg (fun t => List.lookup 12 t) gt339).trans rfl
theorem t339_13 : zT 339 13 = some (.iload_n 2, 1, 2, 0, 0, 0) := (congrArg (fun t => List.lookup 13 t) gt339).trans rfl
theorem t339_14 : zT 339 14 = some (.invokevirtual 377, 3, 306, 0, 0, 2084) := (congrArg (fun t => List.lookup 14 t) gt339).trans rfl
theorem t339_17 : zT 339 17 = some (.ifCond .ne 5, 3, 22, 0, 0, 0) := (congrArg (fun t => List.lookup 17 t) gt339).trans rfl
theorem t339_20 : zT 339 20 = some (.iconst (-1), 1, 0, 0, (-1), 0) := (congrArg (fun t => List.lookup 20 t) gt339).trans rfl
theorem t339_21 : zT 339 21 = some (.ireturn, 1, 0, 0, 0, 0) := (congrArg (fun t => List.lookup 21 t) gt339).trans rfl
theorem t339_22 : zT 339 22 = some (.bipush (-2), 2, 0, 0, (-2), 0) := (congrArg (fun t => List.lookup 22 t) gt339).trans rfl
theorem t339_24 : zT 339 24 = some (.istore_n 3, 1, 3, 0, 0, 0) := (congrArg (fun t => List.lookup 24 t) gt339).trans rfl
theorem t339_25 : zT 339 25 = some (.iconst 0, 1, 0, 0, 0, 0) := (congrArg (fun t => List.lookup 25 t) gt339).trans rfl
theorem t339_26 : zT 339 26 = some (.istore 4, 2, 0, 0, 0, 0) := (congrArg (fun t => List.lookup 26 t) gt339).trans rfl
theorem t339_28 : zT 339 28 = some (.iconst 0, 1, 0, 0, 0, 0) := (congrArg (fun t => List.lookup 28 t) gt339).trans rfl
theorem t339_29 : zT 339 29 = some (.istore 5, 2, 0, 0, 0, 0) := (congrArg (fun t => List.lookup 29 t) gt339).trans rfl
theorem t339_31 : zT 339 31 = some (.iload 5, 2, 0, 0, 0, 0) := (congrArg (fun t => List.lookup 31 t) gt339).trans rfl
theorem t339_33 : zT 339 33 = some (.aload_n 0, 1, 0, 0, 0, 0) := (congrArg (fun t => List.lookup 33 t) gt339).trans rfl
theorem t339_34 : zT 339 34 = some (.getfield 3, 3, 12, 0, 0, 1607) := (congrArg (fun t => List.lookup 34 t) gt339).trans rfl
theorem t339_37 : zT 339 37 = some (.iconst 1, 1, 0, 0, 1, 0) := (congrArg (fun t => List.lookup 37 t) gt339).trans rfl
theorem t339_38 : zT 339 38 = some (.iaload, 1, 0, 0, 0, 0) := (congrArg (fun t => List.lookup 38 t) gt339).trans rfl
theorem t339_39 : zT 339 39 = some (.if_icmp .ge 87, 3, 126, 0, 0, 0) := (congrArg (fun t => List.lookup 39 t) gt339).trans rfl
theorem t339_42 : zT 339 42 = some (.aload_n 0, 1, 0, 0, 0, 0) := (congrArg (fun t => List.lookup 42 t) gt339).trans rfl
theorem t339_43 : zT 339 43 = some (.iload 5, 2, 0, 0, 0, 0) := (congrArg (fun t => List.lookup 43 t) gt339).trans rfl
theorem t339_45 : zT 339 45 = some (.iconst 0, 1, 0, 0, 0, 0) := (congrArg (fun t => List.lookup 45 t) gt339).trans rfl
theorem t339_46 : zT 339 46 = some (.invokevirtual 255, 3, 272, 0, 0, 1949) := (congrArg (fun t => List.lookup 46 t) gt339).trans rfl
theorem t339_49 : zT 339 49 = some (.iload_n 2, 1, 2, 0, 0, 0) := (congrArg (fun t => List.lookup 49 t) gt339).trans rfl
theorem t339_50 : zT 339 50 = some (.if_icmp .ne 70, 3, 120, 0, 0, 0) := (congrArg (fun t => List.lookup 50 t) gt339).trans rfl
theorem t339_53 : zT 339 53 = some (.aload_n 0, 1, 0, 0, 0, 0) := (congrArg (fun t => List.lookup 53 t) gt339).trans rfl
theorem t339_54 : zT 339 54 = some (.iload 5, 2, 0, 0, 0, 0) := (congrArg (fun t => List.lookup 54 t) gt339).trans rfl
theorem t339_56 : zT 339 56 = some (.iconst (-1), 1, 0, 0, (-1), 0) := (congrArg (fun t => List.lookup 56 t) gt339).trans rfl
theorem t339_57 : zT 339 57 = some (.invokevirtual 295, 3, 271, 0, 0, 1945) := (congrArg (fun t => List.lookup 57 t) gt339).trans rfl
theorem t339_60 : zT 339 60 = some (.ifCond .eq 60, 3, 120, 0, 0, 0) := (congrArg (fun t => List.lookup 60 t) gt339).trans rfl
theorem t339_63 : zT 339 63 = some (.aload_n 0, 1, 0, 0, 0, 0) := (congrArg (fun t => List.lookup 63 t) gt339).trans rfl
theorem t339_64 : zT 339 64 = some (.getfield 55, 3, 12, 28, 0, 1635) := (congrArg (fun t => List.lookup 64 t) gt339).trans rfl
theorem t339_67 : zT 339 67 = some (.iload 5, 2, 0, 0, 0, 0) := (congrArg (fun t => List.lookup 67 t) gt339).trans rfl
theorem t339_69 : zT 339 69 = some (.iaload, 1, 0, 0, 0, 0) := (congrArg (fun t => List.lookup 69 t) gt339).trans rfl
theorem t339_70 : zT 339 70 = some (.bipush (-2), 2, 0, 0, (-2), 0) := (congrArg (fun t => List.lookup 70 t) gt339).trans rfl
theorem t339_72 : zT 339 72 = some (.if_icmp .eq 6, 3, 78, 0, 0, 0) := (congrArg (fun t => List.lookup 72 t) gt339).trans rfl
theorem t339_75 : zT 339 75 = some (.goto 45, 3, 120, 0, 0, 0) := (congrArg (fun t => List.lookup 75 t) gt339).trans rfl
theorem t339_78 : zT 339 78 = some (.aload_n 0, 1, 0, 0, 0, 0) := (congrArg (fun t => List.lookup 78 t) gt339).trans rfl
theorem t339_79 : zT 339 79 = some (.iload 5, 2, 0, 0, 0, 0) := (congrArg (fun t => List.lookup 79 t) gt339).trans rfl
theorem t339_81 : zT 339 81 = some (.iconst 1, 1, 0, 0, 1, 0) := (congrArg (fun t => List.lookup 81 t) gt339).trans rfl
theorem t339_82 : zT 339 82 = some (.invokevirtual 255, 3, 272, 0, 0, 1949) := (congrArg (fun t => List.lookup 82 t) gt339).trans rfl
theorem t339_85 : zT 339 85 = some (.aload_n 0, 1, 0, 0, 0, 0) := (congrArg (fun t => List.lookup 85 t) gt339).trans rfl
theorem t339_86 : zT 339 86 = some (.iload_n 1, 1, 1, 0, 0, 0) := (congrArg (fun t => List.lookup 86 t) gt339).trans rfl
theorem t339_87 : zT 339 87 = some (.iload_n 2, 1, 2, 0, 0, 0) := (congrArg (fun t => List.lookup 87 t) gt339).trans rfl
theorem t339_88 : zT 339 88 = some (.invokevirtual 455, 3, 337, 0, 0, 2216) := (congrArg (fun t => List.lookup 88 t) gt339).trans rfl
theorem t339_91 : zT 339 91 = some (.isub, 1, 0, 0, 0, 0) := (congrArg (fun t => List.lookup 91 t) gt339).trans rfl
theorem t339_92 : zT 339 92 = some (.invokestatic 267, 3, 280, 1, 0, 1979) := (congrArg (fun t => List.lookup 92 t) gt339).trans rfl
theorem t339_95 : zT 339 95 = some (.istore 6, 2, 0, 0, 0, 0) := (congrArg (fun t => List.lookup 95 t) gt339).trans rfl
theorem t339_97 : zT 339 97 = some (.iload_n 3, 1, 3, 0, 0, 0) := (congrArg (fun t => List.lookup 97 t) gt339).trans rfl
theorem t339_98 : zT 339 98 = some (.bipush (-2), 2, 0, 0, (-2), 0) := (congrArg (fun t => List.lookup 98 t) gt339).trans rfl
theorem t339_100 : zT 339 100 = some (.if_icmp .eq 13, 3, 113, 0, 0, 0) := (congrArg (fun t => List.lookup 100 t) gt339).trans rfl
theorem t339_103 : zT 339 103 = some (.iload 6, 2, 0, 0, 0, 0) := (congrArg (fun t => List.lookup 103 t) gt339).trans rfl
theorem t339_105 : zT 339 105 = some (.iload 4, 2, 0, 0, 0, 0) := (congrArg (fun t => List.lookup 105 t) gt339).trans rfl
theorem t339_107 : zT 339 107 = some (.if_icmp .lt 6, 3, 113, 0, 0, 0) := (congrArg (fun t => List.lookup 107 t) gt339).trans rfl
theorem t339_110 : zT 339 110 = some (.goto 10, 3, 120, 0, 0, 0) := (congrArg (fun t => List.lookup 110 t) gt339).trans rfl
theorem t339_113 : zT 339 113 = some (.iload 5, 2, 0, 0, 0, 0) := (congrArg (fun t => List.lookup 113 t) gt339).trans rfl
theorem t339_115 : zT 339 115 = some (.istore_n 3, 1, 3, 0, 0, 0) := (congrArg (fun t => List.lookup 115 t) gt339).trans rfl
theorem t339_116 : zT 339 116 = some (.iload 6, 2, 0, 0, 0, 0) := (congrArg (fun t => List.lookup 116 t) gt339).trans rfl
theorem t339_118 : zT 339 118 = some (.istore 4, 2, 0, 0, 0, 0) := (congrArg (fun t => List.lookup 118 t) gt339).trans rfl
theorem t339_120 : zT 339 120 = some (.iinc 5 1, 3, 0, 0, 0, 0) := (congrArg (fun t => List.lookup 120 t) gt339).trans rfl
theorem t339_123 : zT 339 123 = some (.goto (-92), 3, 31, 0, 0, 0) := (congrArg (fun t => List.lookup 123 t) gt339).trans rfl
theorem t339_126 : zT 339 126 = some (.iload_n 3, 1, 3, 0, 0, 0) := (congrArg (fun t => List.lookup 126 t) gt339).trans rfl
theorem t339_127 : zT 339 127 = some (.ireturn, 1, 0, 0, 0, 0) := (congrArg (fun t => List.lookup 127 t) gt339).trans rfl
theorem t340_0 : zT 340 0 = some (.aload_n 0, 1, 0, 0, 0, 0) := (congrArg (fun t => List.lookup 0 t) gt340).trans rfl
theorem t340_1 : zT 340 1 = some (.iload_n 1, 1, 1, 0, 0, 0) := (congrArg (fun t => List.lookup 1 t) gt340).trans rfl
theorem t340_2 : zT 340 2 = some (.invokevirtual 377, 3, 306, 0, 0, 2084) := (congrArg (fun t => List.lookup 2 t) gt340).trans rfl
theorem t340_5 : zT 340 5 = some (.ifCond .eq 13, 3, 18, 0, 0, 0) := (congrArg (fun t => List.lookup 5 t) gt340).trans rfl
theorem t340_8 : zT 340 8 = some (.iload_n 2, 1, 2, 0, 0, 0) := (congrArg (fun t => List.lookup 8 t) gt340).trans rfl
theorem t340_9 : zT 340 9 = some (.i2l, 1, 0, 0, 0, 0) := (congrArg (fun t => List.lookup 9 t) gt340).trans rfl
theorem t340_10 : zT 340 10 = some (.lconst 0, 1, 0, 0, 0, 0) := (congrArg (fun t => List.lookup 10 t) gt340).trans rfl
theorem t340_11 : zT 340 11 = some (.lconst 1, 1, 0, 0, 1, 0) := (congrArg (fun t => List.lookup 11 t) gt340).trans rfl
theorem t340_12 : zT 340 12 = some (.invokestatic 112, 3, 228, 1, 0, 1774) := (congrArg (fun t => List.lookup 12 t) gt340).trans rfl
theorem t340_15 : zT 340 15 = some (.ifCond .ne 7, 3, 22, 0, 0, 0) := (congrArg (fun t => List.lookup 15 t) gt340).trans rfl
theorem t340_18 : zT 340 18 = some (.ldc_w 353, 3, 0, 0, (-100000), 2066) := (congrArg (fun t => List.lookup 18 t) gt340).trans rfl
theorem t340_21 : zT 340 21 = some (.ireturn, 1, 0, 0, 0, 0) := (congrArg (fun t => List.lookup 21 t) gt340).trans rfl
theorem t340_22 : zT 340 22 = some (.aload_n 0, 1, 0, 0, 0, 0) := (congrArg (fun t => List.lookup 22 t) gt340).trans rfl
theorem t340_23 : zT 340 23 = some (.invokevirtual 331, 3, 268, 0, 0, 1933) := (congrArg (fun t => List.lookup 23 t) gt340).trans rfl
theorem t340_26 : zT 340 26 = some (.lconst 0, 1, 0, 0, 0, 0) := (congrArg (fun t => List.lookup 26 t) gt340).trans rfl
theorem t340_27 : zT 340 27 = some (.lstore_n 3, 1, 3, 0, 0, 0) := (congrArg (fun t => List.lookup 27 t) gt340).trans rfl
theorem t340_28 : zT 340 28 = some (.iconst 0, 1, 0, 0, 0, 0) := (congrArg (fun t => List.lookup 28 t) gt340).trans rfl
theorem t340_29 : zT 340 29 = some (.istore 5, 2, 0, 0, 0, 0) := (congrArg (fun t => List.lookup 29 t) gt340).trans rfl
theorem t340_31 : zT 340 31 = some (.iconst 0, 1, 0, 0, 0, 0) := (congrArg (fun t => List.lookup 31 t) gt340).trans rfl
theorem t340_32 : zT 340 32 = some (.istore 6, 2, 0, 0, 0, 0) := (congrArg (fun t => List.lookup 32 t) gt340).trans rfl
theorem t340_34 : zT 340 34 = some (.iload 6, 2, 0, 0, 0, 0) := (congrArg (fun t => List.lookup 34 t) gt340).trans rfl
theorem t340_36 : zT 340 36 = some (.aload_n 0, 1, 0, 0, 0, 0) := (congrArg (fun t => List.lookup 36 t) gt340).trans rfl
theorem t340_37 : zT 340 37 = some (.getfield 261, 3, 12, 22, 0, 1629) := (congrArg (fun t => List.lookup 37 t) gt340).trans rfl
theorem t340_40 : zT 340 40 = some (.if_icmp .ge 55, 3, 95, 0, 0, 0) := (congrArg (fun t => List.lookup 40 t) gt340).trans rfl
theorem t340_43 : zT 340 43 = some (.aload_n 0, 1, 0, 0, 0, 0) := (congrArg (fun t => List.lookup 43 t) gt340).trans rfl
theorem t340_44 : zT 340 44 = some (.getfield 52, 3, 12, 27, 0, 1634) := (congrArg (fun t => List.lookup 44 t) gt340).trans rfl
theorem t340_47 : zT 340 47 = some (.bipush 8, 2, 0, 0, 8, 0) := (congrArg (fun t => List.lookup 47 t) gt340).trans rfl
theorem t340_49 : zT 340 49 = some (.iload 6, 2, 0, 0, 0, 0) := (congrArg (fun t => List.lookup 49 t) gt340).trans rfl
theorem t340_51 : zT 340 51 = some (.imul, 1, 0, 0, 0, 0) := (congrArg (fun t => List.lookup 51 t) gt340).trans rfl
theorem t340_52 : zT 340 52 = some (.iload_n 1, 1, 1, 0, 0, 0) := (congrArg (fun t => List.lookup 52 t) gt340).trans rfl
theorem t340_53 : zT 340 53 = some (.iadd, 1, 0, 0, 0, 0) := (congrArg (fun t => List.lookup 53 t) gt340).trans rfl
theorem t340_54 : zT 340 54 = some (.iaload, 1, 0, 0, 0, 0) := (congrArg (fun t => List.lookup 54 t) gt340).trans rfl
theorem t340_55 : zT 340 55 = some (.istore 7, 2, 0, 0, 0, 0) := (congrArg (fun t => List.lookup 55 t) gt340).trans rfl
theorem t340_57 : zT 340 57 = some (.iload 7, 2, 0, 0, 0, 0) := (congrArg (fun t => List.lookup 57 t) gt340).trans rfl
theorem t340_59 : zT 340 59 = some (.bipush (-2), 2, 0, 0, (-2), 0) := (congrArg (fun t => List.lookup 59 t) gt340).trans rfl
theorem t340_61 : zT 340 61 = some (.if_icmp .ne 6, 3, 67, 0, 0, 0) := (congrArg (fun t => List.lookup 61 t) gt340).trans rfl
theorem t340_64 : zT 340 64 = some (.goto 25, 3, 89, 0, 0, 0) := (congrArg (fun t => List.lookup 64 t) gt340).trans rfl
theorem t340_67 : zT 340 67 = some (.lload_n 3, 1, 3, 0, 0, 0) := (congrArg (fun t => List.lookup 67 t) gt340).trans rfl
theorem t340_68 : zT 340 68 = some (.aload_n 0, 1, 0, 0, 0, 0) := (congrArg (fun t => List.lookup 68 t) gt340).trans rfl
theorem t340_69 : zT 340 69 = some (.iload 7, 2, 0, 0, 0, 0) := (congrArg (fun t => List.lookup 69 t) gt340).trans rfl
theorem t340_71 : zT 340 71 = some (.iconst 1, 1, 0, 0, 1, 0) := (congrArg (fun t => List.lookup 71 t) gt340).trans rfl
theorem t340_72 : zT 340 72 = some (.invokevirtual 255, 3, 272, 0, 0, 1949) := (congrArg (fun t => List.lookup 72 t) gt340).trans rfl
theorem t340_75 : zT 340 75 = some (.aload_n 0, 1, 0, 0, 0, 0) := (congrArg (fun t => List.lookup 75 t) gt340).trans rfl
theorem t340_76 : zT 340 76 = some (.iload 6, 2, 0, 0, 0, 0) := (congrArg (fun t => List.lookup 76 t) gt340).trans rfl
theorem t340_78 : zT 340 78 = some (.iload_n 1, 1, 1, 0, 0, 0) := (congrArg (fun t => List.lookup 78 t) gt340).trans rfl
theorem t340_79 : zT 340 79 = some (.invokevirtual 455, 3, 337, 0, 0, 2216) := (congrArg (fun t => List.lookup 79 t) gt340).trans rfl
theorem t340_82 : zT 340 82 = some (.isub, 1, 0, 0, 0, 0) := (congrArg (fun t => List.lookup 82 t) gt340).trans rfl
theorem t340_83 : zT 340 83 = some (.i2l, 1, 0, 0, 0, 0) := (congrArg (fun t => List.lookup 83 t) gt340).trans rfl
theorem t340_84 : zT 340 84 = some (.ladd, 1, 0, 0, 0, 0) := (congrArg (fun t => List.lookup 84 t) gt340).trans rfl
theorem t340_85 : zT 340 85 = some (.lstore_n 3, 1, 3, 0, 0, 0) := (congrArg (fun t => List.lookup 85 t) gt340).trans rfl
theorem t340_86 : zT 340 86 = some (.iinc 5 1, 3, 0, 0, 0, 0) := (congrArg (fun t => List.lookup 86 t) gt340).trans rfl
theorem t340_89 : zT 340 89 = some (.iinc 6 1, 3, 0, 0, 0, 0) := (congrArg (fun t => List.lookup 89 t) gt340).trans rfl
theorem t340_92 : zT 340 92 = some (.goto (-58), 3, 34, 0, 0, 0) := (congrArg (fun t => List.lookup 92 t) gt340).trans rfl
theorem t340_95 : zT 340 95 = some (.iload_n 2, 1, 2, 0, 0, 0) := (congrArg (fun t => List.lookup 95 t) gt340).trans rfl
theorem t340_96 : zT 340 96 = some (.iconst 1, 1, 0, 0, 1, 0) := (congrArg (fun t => List.lookup 96 t) gt340).trans rfl
theorem t340_97 : zT 340 97 = some (.if_icmp .ne 8, 3, 105, 0, 0, 0) := (congrArg (fun t => List.lookup 97 t) gt340).trans rfl
theorem t340_100 : zT 340 100 = some (.iload 5, 2, 0, 0, 0, 0) := (congrArg (fun t => List.lookup 100 t) gt340).trans rfl
theorem t340_102 : zT 340 102 = some (.goto 20, 3, 122, 0, 0, 0) := (congrArg (fun t => List.lookup 102 t) gt340).trans rfl
theorem t340_105 : zT 340 105 = some (.iload 5, 2, 0, 0, 0, 0) := (congrArg (fun t => List.lookup 105 t) gt340).trans rfl
theorem t340_107 : zT 340 107 = some (.ifCond .ne 7, 3, 114, 0, 0, 0) := (congrArg (fun t => List.lookup 107 t) gt340).trans rfl
theorem t340_110 : zT 340 110 = some (.iconst 0, 1, 0, 0, 0, 0) := (congrArg (fun t => List.lookup 110 t) gt340).trans rfl
theorem t340_111 : zT 340 111 = some (.goto 11, 3, 122, 0, 0, 0) := (congrArg (fun t => List.lookup 111 t) gt340).trans rfl
theorem t340_114 : zT 340 114 = some (.lload_n 3, 1, 3, 0, 0, 0) := (congrArg (fun t => List.lookup 114 t) gt340).trans rfl
theorem t340_115 : zT 340 115 = some (.iload 5, 2, 0, 0, 0, 0) := (congrArg (fun t => List.lookup 115 t) gt340).trans rfl
theorem t340_117 : zT 340 117 = some (.i2l, 1, 0, 0, 0, 0) := (congrArg (fun t => List.lookup 117 t) gt340).trans rfl
theorem t340_118 : zT 340 118 = some (.invokestatic 324, 3, 286, 1, 0, 2003) := (congrArg (fun t => List.lookup 118 t) gt340).trans rfl
theorem t340_121 : zT 340 121 = some (.l2i, 1, 0, 0, 0, 0) := (congrArg (fun t => List.lookup 121 t) gt340).trans rfl
theorem t340_122 : zT 340 122 = some (.ireturn, 1, 0, 0, 0, 0) := (congrArg (fun t => List.lookup 122 t) gt340).trans rfl
theorem t341_0 : zT 341 0 = some (.iload_n 1, 1, 1, 0, 0, 0) := (congrArg (fun t => List.lookup 0 t) gt341).trans rfl
theorem t341_1 : zT 341 1 = some (.i2l, 1, 0, 0, 0, 0) := (congrArg (fun t => List.lookup 1 t) gt341).trans rfl
theorem t341_2 : zT 341 2 = some (.lconst 1, 1, 0, 0, 1, 0) := (congrArg (fun t => List.lookup 2 t) gt341).trans rfl
theorem t341_3 : zT 341 3 = some (.ldc2_w 458, 3, 1, 0, 1000, 2236) := (congrArg (fun t => List.lookup 3 t) gt341).trans rfl
theorem t341_6 : zT 341 6 = some (.invokestatic 112, 3, 228, 1, 0, 1774) := (congrArg (fun t => List.lookup 6 t) gt341).trans rfl
theorem t341_9 : zT 341 9 = some (.ifCond .eq 13, 3, 22, 0, 0, 0) := (congrArg (fun t => List.lookup 9 t) gt341).trans rfl
theorem t341_12 : zT 341 12 = some (.iload_n 2, 1, 2, 0, 0, 0) := (congrArg (fun t => List.lookup 12 t) gt341).trans rfl
theorem t341_13 : zT 341 13 = some (.i2l, 1, 0, 0, 0, 0) := (congrArg (fun t => List.lookup 13 t) gt341).trans rfl
theorem t341_14 : zT 341 14 = some (.lconst 0, 1, 0, 0, 0, 0) := (congrArg (fun t => List.lookup 14 t) gt341).trans rfl
theorem t341_15 : zT 341 15 = some (.lconst 1, 1, 0, 0, 1, 0) := (congrArg (fun t => List.lookup 15 t) gt341).trans rfl
theorem t341_16 : zT 341 16 = some (.invokestatic 112, 3, 228, 1, 0, 1774) := (congrArg (fun t => List.lookup 16 t) gt341).trans rfl
theorem t341_19 : zT 341 19 = some (.ifCond .ne 5, 3, 24, 0, 0, 0) := (congrArg (fun t => List.lookup 19 t) gt341).trans rfl
theorem t341_22 : zT 341 22 = some (.iconst (-1), 1, 0, 0, (-1), 0) := (congrArg (fun t => List.lookup 22 t) gt341).trans rfl
theorem t341_23 : zT 341 23 = some (.ireturn, 1, 0, 0, 0, 0) := (congrArg (fun t => List.lookup 23 t) gt341).trans rfl
theorem t341_24 : zT 341 24 = some (.iconst 0, 1, 0, 0, 0, 0) := (congrArg (fun t => List.lookup 24 t) gt341).trans rfl
theorem t341_25 : zT 341 25 = some (.istore_n 3, 1, 3, 0, 0, 0) := (congrArg (fun t => List.lookup 25 t) gt341).trans rfl
theorem t341_26 : zT 341 26 = some (.iconst (-1), 1, 0, 0, (-1), 0) := (congrArg (fun t => List.lookup 26 t) gt341).trans rfl
theorem t341_27 : zT 341 27 = some (.istore 4, 2, 0, 0, 0, 0) := (congrArg (fun t => List.lookup 27 t) gt341).trans rfl
theorem t341_29 : zT 341 29 = some (.iconst 0, 1, 0, 0, 0, 0) := (congrArg (fun t => List.lookup 29 t) gt341).trans rfl
theorem t341_30 : zT 341 30 = some (.istore 5, 2, 0, 0, 0, 0) := (congrArg (fun t => List.lookup 30 t) gt341).trans rfl
theorem t341_32 : zT 341 32 = some (.iload 5, 2, 0, 0, 0, 0) := (congrArg (fun t => List.lookup 32 t) gt341).trans rfl
theorem t341_34 : zT 341 34 = some (.iload_n 1, 1, 1, 0, 0, 0) := (congrArg (fun t => List.lookup 34 t) gt341).trans rfl
theorem t341_35 : zT 341 35 = some (.iadd, 1, 0, 0, 0, 0) := (congrArg (fun t => List.lookup 35 t) gt341).trans rfl
theorem t341_36 : zT 341 36 = some (.sipush 1000, 3, 0, 0, 1000, 0) := (congrArg (fun t => List.lookup 36 t) gt341).trans rfl
theorem t341_39 : zT 341 39 = some (.if_icmp .gt 97, 3, 136, 0, 0, 0) := (congrArg (fun t => List.lookup 39 t) gt341).trans rfl
theorem t341_42 : zT 341 42 = some (.iconst 0, 1, 0, 0, 0, 0) := (congrArg (fun t => List.lookup 42 t) gt341).trans rfl
theorem t341_43 : zT 341 43 = some (.istore 6, 2, 0, 0, 0, 0) := (congrArg (fun t => List.lookup 43 t) gt341).trans rfl
theorem t341_45 : zT 341 45 = some (.iconst 0, 1, 0, 0, 0, 0) := (congrArg (fun t => List.lookup 45 t) gt341).trans rfl
theorem t341_46 : zT 341 46 = some (.istore 7, 2, 0, 0, 0, 0) := (congrArg (fun t => List.lookup 46 t) gt341).trans rfl
theorem t341_48 : zT 341 48 = some (.iload 7, 2, 0, 0, 0, 0) := (congrArg (fun t => List.lookup 48 t) gt341).trans rfl
theorem t341_50 : zT 341 50 = some (.aload_n 0, 1, 0, 0, 0, 0) := (congrArg (fun t => List.lookup 50 t) gt341).trans rfl
theorem t341_51 : zT 341 51 = some (.getfield 3, 3, 12, 0, 0, 1607) := (congrArg (fun t => List.lookup 51 t) gt341).trans rfl
theorem t341_54 : zT 341 54 = some (.iconst 1, 1, 0, 0, 1, 0) := (congrArg (fun t => List.lookup 54 t) gt341).trans rfl
theorem t341_55 : zT 341 55 = some (.iaload, 1, 0, 0, 0, 0) := (congrArg (fun t => List.lookup 55 t) gt341).trans rfl
theorem t341_56 : zT 341 56 = some (.if_icmp .ge 57, 3, 113, 0, 0, 0) := (congrArg (fun t => List.lookup 56 t) gt341).trans rfl
theorem t341_59 : zT 341 59 = some (.iload 6, 2, 0, 0, 0, 0) := (congrArg (fun t => List.lookup 59 t) gt341).trans rfl
theorem t341_61 : zT 341 61 = some (.aload_n 0, 1, 0, 0, 0, 0) := (congrArg (fun t => List.lookup 61 t) gt341).trans rfl
theorem t341_62 : zT 341 62 = some (.aload_n 0, 1, 0, 0, 0, 0) := (congrArg (fun t => List.lookup 62 t) gt341).trans rfl
theorem t341_63 : zT 341 63 = some (.iload 7, 2, 0, 0, 0, 0) := (congrArg (fun t => List.lookup 63 t) gt341).trans rfl
theorem t341_65 : zT 341 65 = some (.iconst 0, 1, 0, 0, 0, 0) := (congrArg (fun t => List.lookup 65 t) gt341).trans rfl
theorem t341_66 : zT 341 66 = some (.invokevirtual 255, 3, 272, 0, 0, 1949) := (congrArg (fun t => List.lookup 66 t) gt341).trans rfl
theorem t341_69 : zT 341 69 = some (.invokevirtual 258, 3, 273, 0, 0, 1953) := (congrArg (fun t => List.lookup 69 t) gt341).trans rfl
theorem t341_72 : zT 341 72 = some (.ifCond .eq 31, 3, 103, 0, 0, 0) := (congrArg (fun t => List.lookup 72 t) gt341).trans rfl
theorem t341_75 : zT 341 75 = some (.aload_n 0, 1, 0, 0, 0, 0) := (congrArg (fun t => List.lookup 75 t) gt341).trans rfl
theorem t341_76 : zT 341 76 = some (.iload 7, 2, 0, 0, 0, 0) := (congrArg (fun t => List.lookup 76 t) gt341).trans rfl
theorem t341_78 : zT 341 78 = some (.iconst 2, 1, 0, 0, 2, 0) := (congrArg (fun t => List.lookup 78 t) gt341).trans rfl
theorem t341_79 : zT 341 79 = some (.invokevirtual 255, 3, 272, 0, 0, 1949) := (congrArg (fun t => List.lookup 79 t) gt341).trans rfl
theorem t341_82 : zT 341 82 = some (.i2l, 1, 0, 0, 0, 0) := (congrArg (fun t => List.lookup 82 t) gt341).trans rfl
theorem t341_83 : zT 341 83 = some (.iload 5, 2, 0, 0, 0, 0) := (congrArg (fun t => List.lookup 83 t) gt341).trans rfl
theorem t341_85 : zT 341 85 = some (.i2l, 1, 0, 0, 0, 0) := (congrArg (fun t => List.lookup 85 t) gt341).trans rfl
theorem t341_86 : zT 341 86 = some (.iload 5, 2, 0, 0, 0, 0) := (congrArg (fun t => List.lookup 86 t) gt341).trans rfl
theorem t341_88 : zT 341 88 = some (.iload_n 1, 1, 1, 0, 0, 0) := (congrArg (fun t => List.lookup 88 t) gt341).trans rfl
theorem t341_89 : zT 341 89 = some (.iadd, 1, 0, 0, 0, 0) := (congrArg (fun t => List.lookup 89 t) gt341).trans rfl
theorem t341_90 : zT 341 90 = some (.iconst 1, 1, 0, 0, 1, 0) := (congrArg (fun t => List.lookup 90 t) gt341).trans rfl
theorem t341_91 : zT 341 91 = some (.isub, 1, 0, 0, 0, 0) := (congrArg (fun t => List.lookup 91 t) gt341).trans rfl
theorem t341_92 : zT 341 92 = some (.i2l, 1, 0, 0, 0, 0) := (congrArg (fun t => List.lookup 92 t) gt341).trans rfl
theorem t341_93 : zT 341 93 = some (.invokestatic 112, 3, 228, 1, 0, 1774) := (congrArg (fun t => List.lookup 93 t) gt341).trans rfl
theorem t341_96 : zT 341 96 = some (.ifCond .eq 7, 3, 103, 0, 0, 0) := (congrArg (fun t => List.lookup 96 t) gt341).trans rfl
theorem t341_99 : zT 341 99 = some (.iconst 1, 1, 0, 0, 1, 0) := (congrArg (fun t => List.lookup 99 t) gt341).trans rfl
theorem t341_100 : zT 341 100 = some (.goto 4, 3, 104, 0, 0, 0) := (congrArg (fun t => List.lookup 100 t) gt341).trans rfl
theorem t341_103 : zT 341 103 = some (.iconst 0, 1, 0, 0, 0, 0) := (congrArg (fun t => List.lookup 103 t) gt341).trans rfl
theorem t341_104 : zT 341 104 = some (.iadd, 1, 0, 0, 0, 0) := (congrArg (fun t => List.lookup 104 t) gt341).trans rfl
theorem t341_105 : zT 341 105 = some (.istore 6, 2, 0, 0, 0, 0) := (congrArg (fun t => List.lookup 105 t) gt341).trans rfl
theorem t341_107 : zT 341 107 = some (.iinc 7 1, 3, 0, 0, 0, 0) := (congrArg (fun t => List.lookup 107 t) gt341).trans rfl
theorem t341_110 : zT 341 110 = some (.goto (-62), 3, 48, 0, 0, 0) := (congrArg (fun t => List.lookup 110 t) gt341).trans rfl
theorem t341_113 : zT 341 113 = some (.iload 6, 2, 0, 0, 0, 0) := (congrArg (fun t => List.lookup 113 t) gt341).trans rfl
theorem t341_115 : zT 341 115 = some (.iload 4, 2, 0, 0, 0, 0) := (congrArg (fun t => List.lookup 115 t) gt341).trans rfl
theorem t341_117 : zT 341 117 = some (.if_icmp .gt 6, 3, 123, 0, 0, 0) := (congrArg (fun t => List.lookup 117 t) gt341).trans rfl
theorem t341_120 : zT 341 120 = some (.goto 10, 3, 130, 0, 0, 0) := (congrArg (fun t => List.lookup 120 t) gt341).trans rfl
theorem t341_123 : zT 341 123 = some (.iload 5, 2, 0, 0, 0, 0) := (congrArg (fun t => List.lookup 123 t) gt341).trans rfl
theorem t341_125 : zT 341 125 = some (.istore_n 3, 1, 3, 0, 0, 0) := (congrArg (fun t => List.lookup 125 t) gt341).trans (by decide +kernel)
theorem t341_126 : zT 341 126 = some (.iload 6, 2, 0, 0, 0, 0) := (congrArg (fun t => List.lookup 126 t) gt341).trans (by decide +kernel)
theorem t341_128 : zT 341 128 = some (.istore 4, 2, 0, 0, 0, 0) := (congrArg (fun t => List.lookup 128 t) gt341).trans (by decide +kernel)
theorem t341_130 : zT 341 130 = some (.iinc 5 1, 3, 0, 0, 0, 0) := (congrArg (fun t => List.lookup 130 t) gt341).trans (by decide +kernel)
theorem t341_133 : zT 341 133 = some (.goto (-101), 3, 32, 0, 0, 0) := (congrArg (fun t => List.lookup 133 t) gt341).trans (by decide +kernel)
theorem t341_136 : zT 341 136 = some (.iload_n 2, 1, 2, 0, 0, 0) := (congrArg (fun t => List.lookup 136 t) gt341).trans (by decide +kernel)
theorem t341_137 : zT 341 137 = some (.ifCond .ne 7, 3, 144, 0, 0, 0) := (congrArg (fun t => List.lookup 137 t) gt341).trans (by decide +kernel)
theorem t341_140 : zT 341 140 = some (.iload_n 3, 1, 3, 0, 0, 0) := (congrArg (fun t => List.lookup 140 t) gt341).trans (by decide +kernel)
theorem t341_141 : zT 341 141 = some (.goto 5, 3, 146, 0, 0, 0) := (congrArg (fun t => List.lookup 141 t) gt341).trans (by decide +kernel)
theorem t341_144 : zT 341 144 = some (.iload 4, 2, 0, 0, 0, 0) := (congrArg (fun t => List.lookup 144 t) gt341).trans (by decide +kernel)
theorem t341_146 : zT 341 146 = some (.ireturn, 1, 0, 0, 0, 0) := (congrArg (fun t => List.lookup 146 t) gt341).trans (by decide +kernel)
theorem t342_0 : zT 342 0 = some (.aload_n 0, 1, 0, 0, 0, 0) := (congrArg (fun t => List.lookup 0 t) gt342).trans rfl
theorem t342_1 : zT 342 1 = some (.invokevirtual 195, 3, 236, 0, 0, 1805) := (congrArg (fun t => List.lookup 1 t) gt342).trans rfl
theorem t342_4 : zT 342 4 = some (.aload_n 0, 1, 0, 0, 0, 0) := (congrArg (fun t => List.lookup 4 t) gt342).trans rfl
theorem t342_5 : zT 342 5 = some (.iconst 0, 1, 0, 0, 0, 0) := (congrArg (fun t => List.lookup 5 t) gt342).trans rfl
theorem t342_6 : zT 342 6 = some (.putfield 460, 3, 12, 47, 0, 1654) := (congrArg (fun t => List.lookup 6 t) gt342).trans rfl
theorem t342_9 : zT 342 9 = some (.aload_n 0, 1, 0, 0, 0, 0) := (congrArg (fun t => List.lookup 9 t) gt342).trans rfl
theorem t342_10 : zT 342 10 = some (.getfield 21, 3, 12, 7, 0, 1614) := (congrArg (fun t => List.lookup 10 t) gt342).trans rfl
theorem t342_13 : zT 342 13 = some (.iconst (-1), 1, 0, 0, (-1), 0) := (congrArg (fun t => List.lookup 13 t) gt342).trans rfl
theorem t342_14 : zT 342 14 = some (.if_icmp .ne 32, 3, 46, 0, 0, 0) := (congrArg (fun t => List.lookup 14 t) gt342).trans rfl
theorem t342_17 : zT 342 17 = some (.aload_n 0, 1, 0, 0, 0, 0) := (congrArg (fun t => List.lookup 17 t) gt342).trans rfl
theorem t342_18 : zT 342 18 = some (.getfield 126, 3, 12, 6, 0, 1613) := (congrArg (fun t => List.lookup 18 t) gt342).trans rfl
theorem t342_21 : zT 342 21 = some (.aload_n 0, 1, 0, 0, 0, 0) := (congrArg (fun t => List.lookup 21 t) gt342).trans rfl
theorem t342_22 : zT 342 22 = some (.getfield 120, 3, 12, 5, 0, 1612) := (congrArg (fun t => List.lookup 22 t) gt342).trans rfl
theorem t342_25 : zT 342 25 = some (.if_icmp .ge 21, 3, 46, 0, 0, 0) := (congrArg (fun t => List.lookup 25 t) gt342).trans rfl
theorem t342_28 : zT 342 28 = some (.aload_n 0, 1, 0, 0, 0, 0) := (congrArg (fun t => List.lookup 28 t) gt342).trans rfl
theorem t342_29 : zT 342 29 = some (.invokevirtual 475, 3, 343, 0, 0, 2241) := (congrArg (fun t => List.lookup 29 t) gt342).trans rfl
theorem t342_32 : zT 342 32 = some (.ifCond .ne (-23), 3, 9, 0, 0, 0) := (congrArg (fun t => List.lookup 32 t) gt342).trans rfl
theorem t342_35 : zT 342 35 = some (.aload_n 0, 1, 0, 0, 0, 0) := (congrArg (fun t => List.lookup 35 t) gt342).trans rfl
theorem t342_36 : zT 342 36 = some (.aload_n 0, 1, 0, 0, 0, 0) := (congrArg (fun t => List.lookup 36 t) gt342).trans rfl
theorem t342_37 : zT 342 37 = some (.getfield 120, 3, 12, 5, 0, 1612) := (congrArg (fun t => List.lookup 37 t) gt342).trans rfl
theorem t342_40 : zT 342 40 = some (.putfield 126, 3, 12, 6, 0, 1613) := (congrArg (fun t => List.lookup 40 t) gt342).trans rfl
theorem t342_43 : zT 342 43 = some (.goto (-34), 3, 9, 0, 0, 0) := (congrArg (fun t => List.lookup 43 t) gt342).trans rfl
theorem t342_46 : zT 342 46 = some (.aload_n 0, 1, 0, 0, 0, 0) := (congrArg (fun t => List.lookup 46 t) gt342).trans rfl
theorem t342_47 : zT 342 47 = some (.invokevirtual 201, 3, 253, 0, 0, 1875) := (congrArg (fun t => List.lookup 47 t) gt342).trans rfl
theorem t342_50 : zT 342 50 = some (.ifCond .ne 5, 3, 55, 0, 0, 0) := (congrArg (fun t => List.lookup 50 t) gt342).trans rfl
theorem t342_53 : zT 342 53 = some (.iconst (-1), 1, 0, 0, (-1), 0) := (congrArg (fun t => List.lookup 53 t) gt342).trans rfl
theorem t342_54 : zT 342 54 = some (.ireturn, 1, 0, 0, 0, 0) := (congrArg (fun t => List.lookup 54 t) gt342).trans rfl
theorem t342_55 : zT 342 55 = some (.iconst 0, 1, 0, 0, 0, 0) := (congrArg (fun t => List.lookup 55 t) gt342).trans rfl
theorem t342_56 : zT 342 56 = some (.istore_n 1, 1, 1, 0, 0, 0) := (congrArg (fun t => List.lookup 56 t) gt342).trans rfl
theorem t342_57 : zT 342 57 = some (.iload_n 1, 1, 1, 0, 0, 0) := (congrArg (fun t => List.lookup 57 t) gt342).trans rfl
theorem t342_58 : zT 342 58 = some (.aload_n 0, 1, 0, 0, 0, 0) := (congrArg (fun t => List.lookup 58 t) gt342).trans rfl
theorem t342_59 : zT 342 59 = some (.getfield 460, 3, 12, 47, 0, 1654) := (congrArg (fun t => List.lookup 59 t) gt342).trans rfl
theorem t342_62 : zT 342 62 = some (.if_icmp .ge 20, 3, 82, 0, 0, 0) := (congrArg (fun t => List.lookup 62 t) gt342).trans rfl
theorem t342_65 : zT 342 65 = some (.aload_n 0, 1, 0, 0, 0, 0) := (congrArg (fun t => List.lookup 65 t) gt342).trans rfl
theorem t342_66 : zT 342 66 = some (.iconst 4, 1, 0, 0, 4, 0) := (congrArg (fun t => List.lookup 66 t) gt342).trans rfl
theorem t342_67 : zT 342 67 = some (.iload_n 1, 1, 1, 0, 0, 0) := (congrArg (fun t => List.lookup 67 t) gt342).trans rfl
theorem t342_68 : zT 342 68 = some (.imul, 1, 0, 0, 0, 0) := (congrArg (fun t => List.lookup 68 t) gt342).trans rfl
theorem t342_69 : zT 342 69 = some (.invokevirtual 478, 3, 344, 0, 0, 2245) := (congrArg (fun t => List.lookup 69 t) gt342).trans rfl
theorem t342_72 : zT 342 72 = some (.iconst (-1), 1, 0, 0, (-1), 0) := (congrArg (fun t => List.lookup 72 t) gt342).trans rfl
theorem t342_73 : zT 342 73 = some (.if_icmp .eq 9, 3, 82, 0, 0, 0) := (congrArg (fun t => List.lookup 73 t) gt342).trans rfl
theorem t342_76 : zT 342 76 = some (.iinc 1 1, 3, 0, 0, 0, 0) := (congrArg (fun t => List.lookup 76 t) gt342).trans rfl
theorem t342_79 : zT 342 79 = some (.goto (-22), 3, 57, 0, 0, 0) := (congrArg (fun t => List.lookup 79 t) gt342).trans rfl
theorem t342_82 : zT 342 82 = some (.aload_n 0, 1, 0, 0, 0, 0) := (congrArg (fun t => List.lookup 82 t) gt342).trans rfl
theorem t342_83 : zT 342 83 = some (.iload_n 1, 1, 1, 0, 0, 0) := (congrArg (fun t => List.lookup 83 t) gt342).trans rfl
theorem t342_84 : zT 342 84 = some (.aload_n 0, 1, 0, 0, 0, 0) := (congrArg (fun t => List.lookup 84 t) gt342).trans rfl
theorem t342_85 : zT 342 85 = some (.getfield 460, 3, 12, 47, 0, 1654) := (congrArg (fun t => List.lookup 85 t) gt342).trans rfl
theorem t342_88 : zT 342 88 = some (.if_icmp .ge 7, 3, 95, 0, 0, 0) := (congrArg (fun t => List.lookup 88 t) gt342).trans rfl
theorem t342_91 : zT 342 91 = some (.iload_n 1, 1, 1, 0, 0, 0) := (congrArg (fun t => List.lookup 91 t) gt342).trans rfl
theorem t342_92 : zT 342 92 = some (.goto 4, 3, 96, 0, 0, 0) := (congrArg (fun t => List.lookup 92 t) gt342).trans rfl
theorem t342_95 : zT 342 95 = some (.iconst (-1), 1, 0, 0, (-1), 0) := (congrArg (fun t => List.lookup 95 t) gt342).trans rfl
theorem t342_96 : zT 342 96 = some (.putfield 95, 3, 12, 48, 0, 1655) := (congrArg (fun t => List.lookup 96 t) gt342).trans rfl
theorem t342_99 : zT 342 99 = some (.iload_n 1, 1, 1, 0, 0, 0) := (congrArg (fun t => List.lookup 99 t) gt342).trans rfl
theorem t342_100 : zT 342 100 = some (.ireturn, 1, 0, 0, 0, 0) := (congrArg (fun t => List.lookup 100 t) gt342).trans rfl
theorem t343_0 : zT 343 0 = some (.aload_n 0, 1, 0, 0, 0, 0) := (congrArg (fun t => List.lookup 0 t) gt343).trans rfl
theorem t343_1 : zT 343 1 = some (.invokevirtual 129, 3, 238, 0, 0, 1813) := (congrArg (fun t => List.lookup 1 t) gt343).trans rfl
theorem t343_4 : zT 343 4 = some (.istore_n 1, 1, 1, 0, 0, 0) := (congrArg (fun t => List.lookup 4 t) gt343).trans rfl
theorem t343_5 : zT 343 5 = some (.iload_n 1, 1, 1, 0, 0, 0) := (congrArg (fun t => List.lookup 5 t) gt343).trans rfl
theorem t343_6 : zT 343 6 = some (.bipush 104, 2, 0, 0, 104, 0) := (congrArg (fun t => List.lookup 6 t) gt343).trans rfl
theorem t343_8 : zT 343 8 = some (.if_icmp .ne 7, 3, 15, 0, 0, 0) := (congrArg (fun t => List.lookup 8 t) gt343).trans rfl
theorem t343_11 : zT 343 11 = some (.iconst 3, 1, 0, 0, 3, 0) := (congrArg (fun t => List.lookup 11 t) gt343).trans rfl
theorem t343_12 : zT 343 12 = some (.goto 26, 3, 38, 0, 0, 0) := (congrArg (fun t => List.lookup 12 t) gt343).trans rfl
theorem t343_15 : zT 343 15 = some (.iload_n 1, 1, 1, 0, 0, 0) := (congrArg (fun t => List.lookup 15 t) gt343).trans rfl
theorem t343_16 : zT 343 16 = some (.bipush 120, 2, 0, 0, 120, 0) := (congrArg (fun t => List.lookup 16 t) gt343).trans rfl
theorem t343_18 : zT 343 18 = some (.if_icmp .eq 15, 3, 33, 0, 0, 0) := (congrArg (fun t => List.lookup 18 t) gt343).trans rfl
theorem t343_21 : zT 343 21 = some (.iload_n 1, 1, 1, 0, 0, 0) := (congrArg (fun t => List.lookup 21 t) gt343).trans rfl
theorem t343_22 : zT 343 22 = some (.bipush 100, 2, 0, 0, 100, 0) := (congrArg (fun t => List.lookup 22 t) gt343).trans rfl
theorem t343_24 : zT 343 24 = some (.if_icmp .eq 9, 3, 33, 0, 0, 0) := (congrArg (fun t => List.lookup 24 t) gt343).trans rfl
theorem t343_27 : zT 343 27 = some (.iload_n 1, 1, 1, 0, 0, 0) := (congrArg (fun t => List.lookup 27 t) gt343).trans rfl
theorem t343_28 : zT 343 28 = some (.bipush 110, 2, 0, 0, 110, 0) := (congrArg (fun t => List.lookup 28 t) gt343).trans rfl
theorem t343_30 : zT 343 30 = some (.if_icmp .ne 7, 3, 37, 0, 0, 0) := (congrArg (fun t => List.lookup 30 t) gt343).trans rfl
theorem t343_33 : zT 343 33 = some (.iconst 1, 1, 0, 0, 1, 0) := (congrArg (fun t => List.lookup 33 t) gt343).trans rfl
theorem t343_34 : zT 343 34 = some (.goto 4, 3, 38, 0, 0, 0) := (congrArg (fun t => List.lookup 34 t) gt343).trans rfl
theorem t343_37 : zT 343 37 = some (.iconst 0, 1, 0, 0, 0, 0) := (congrArg (fun t => List.lookup 37 t) gt343).trans rfl
theorem t343_38 : zT 343 38 = some (.istore_n 2, 1, 2, 0, 0, 0) := (congrArg (fun t => List.lookup 38 t) gt343).trans rfl
theorem t343_39 : zT 343 39 = some (.iload_n 2, 1, 2, 0, 0, 0) := (congrArg (fun t => List.lookup 39 t) gt343).trans rfl
theorem t343_40 : zT 343 40 = some (.ifCond .eq 12, 3, 52, 0, 0, 0) := (congrArg (fun t => List.lookup 40 t) gt343).trans rfl
theorem t343_43 : zT 343 43 = some (.aload_n 0, 1, 0, 0, 0, 0) := (congrArg (fun t => List.lookup 43 t) gt343).trans rfl
theorem t343_44 : zT 343 44 = some (.getfield 460, 3, 12, 47, 0, 1654) := (congrArg (fun t => List.lookup 44 t) gt343).trans rfl
theorem t343_47 : zT 343 47 = some (.bipush 20, 2, 0, 0, 20, 0) := (congrArg (fun t => List.lookup 47 t) gt343).trans rfl
theorem t343_49 : zT 343 49 = some (.if_icmp .ne 12, 3, 61, 0, 0, 0) := (congrArg (fun t => List.lookup 49 t) gt343).trans rfl
theorem t343_52 : zT 343 52 = some (.aload_n 0, 1, 0, 0, 0, 0) := (congrArg (fun t => List.lookup 52 t) gt343).trans rfl
theorem t343_53 : zT 343 53 = some (.aload_n 0, 1, 0, 0, 0, 0) := (congrArg (fun t => List.lookup 53 t) gt343).trans rfl
theorem t343_54 : zT 343 54 = some (.getfield 126, 3, 12, 6, 0, 1613) := (congrArg (fun t => List.lookup 54 t) gt343).trans rfl
theorem t343_57 : zT 343 57 = some (.invokevirtual 133, 3, 239, 0, 0, 1817) := (congrArg (fun t => List.lookup 57 t) gt343).trans rfl
theorem t343_60 : zT 343 60 = some (.ireturn, 1, 0, 0, 0, 0) := (congrArg (fun t => List.lookup 60 t) gt343).trans rfl
theorem t343_61 : zT 343 61 = some (.iconst 4, 1, 0, 0, 4, 0) := (congrArg (fun t => List.lookup 61 t) gt343).trans rfl
theorem t343_62 : zT 343 62 = some (.aload_n 0, 1, 0, 0, 0, 0) := (congrArg (fun t => List.lookup 62 t) gt343).trans rfl
theorem t343_63 : zT 343 63 = some (.getfield 460, 3, 12, 47, 0, 1654) := (congrArg (fun t => List.lookup 63 t) gt343).trans rfl
theorem t343_66 : zT 343 66 = some (.imul, 1, 0, 0, 0, 0) := (congrArg (fun t => List.lookup 66 t) gt343).trans rfl
theorem t343_67 : zT 343 67 = some (.istore_n 3, 1, 3, 0, 0, 0) := (congrArg (fun t => List.lookup 67 t) gt343).trans rfl
theorem t343_68 : zT 343 68 = some (.aload_n 0, 1, 0, 0, 0, 0) := (congrArg (fun t => List.lookup 68 t) gt343).trans rfl
theorem t343_69 : zT 343 69 = some (.getfield 92, 3, 12, 46, 0, 1653) := (congrArg (fun t => List.lookup 69 t) gt343).trans rfl
theorem t343_72 : zT 343 72 = some (.iload_n 3, 1, 3, 0, 0, 0) := (congrArg (fun t => List.lookup 72 t) gt343).trans rfl
theorem t343_73 : zT 343 73 = some (.iload_n 1, 1, 1, 0, 0, 0) := (congrArg (fun t => List.lookup 73 t) gt343).trans rfl
theorem t343_74 : zT 343 74 = some (.iastore, 1, 0, 0, 0, 0) := (congrArg (fun t => List.lookup 74 t) gt343).trans rfl
theorem t343_75 : zT 343 75 = some (.aload_n 0, 1, 0, 0, 0, 0) := (congrArg (fun t => List.lookup 75 t) gt343).trans rfl
theorem t343_76 : zT 343 76 = some (.dup, 1, 0, 0, 0, 0) := (congrArg (fun t => List.lookup 76 t) gt343).trans rfl
theorem t343_77 : zT 343 77 = some (.getfield 126, 3, 12, 6, 0, 1613) := (congrArg (fun t => List.lookup 77 t) gt343).trans rfl
theorem t343_80 : zT 343 80 = some (.iconst 1, 1, 0, 0, 1, 0) := (congrArg (fun t => List.lookup 80 t) gt343).trans rfl
theorem t343_81 : zT 343 81 = some (.iadd, 1, 0, 0, 0, 0) := (congrArg (fun t => List.lookup 81 t) gt343).trans rfl
theorem t343_82 : zT 343 82 = some (.putfield 126, 3, 12, 6, 0, 1613) := (congrArg (fun t => List.lookup 82 t) gt343).trans rfl
theorem t343_85 : zT 343 85 = some (.iconst 1, 1, 0, 0, 1, 0) := (congrArg (fun t => List.lookup 85 t) gt343).trans rfl
theorem t343_86 : zT 343 86 = some (.istore 4, 2, 0, 0, 0, 0) := (congrArg (fun t => List.lookup 86 t) gt343).trans rfl
theorem t343_88 : zT 343 88 = some (.iload 4, 2, 0, 0, 0, 0) := (congrArg (fun t => List.lookup 88 t) gt343).trans rfl
theorem t343_90 : zT 343 90 = some (.iload_n 2, 1, 2, 0, 0, 0) := (congrArg (fun t => List.lookup 90 t) gt343).trans rfl
theorem t343_91 : zT 343 91 = some (.if_icmp .gt 57, 3, 148, 0, 0, 0) := (congrArg (fun t => List.lookup 91 t) gt343).trans rfl
theorem t343_94 : zT 343 94 = some (.aload_n 0, 1, 0, 0, 0, 0) := (congrArg (fun t => List.lookup 94 t) gt343).trans rfl
theorem t343_95 : zT 343 95 = some (.sipush (-9999), 3, 0, 0, (-9999), 0) := (congrArg (fun t => List.lookup 95 t) gt343).trans rfl
theorem t343_98 : zT 343 98 = some (.sipush 9999, 3, 0, 0, 9999, 0) := (congrArg (fun t => List.lookup 98 t) gt343).trans rfl
theorem t343_101 : zT 343 101 = some (.invokevirtual 147, 3, 243, 0, 0, 1833) := (congrArg (fun t => List.lookup 101 t) gt343).trans rfl
theorem t343_104 : zT 343 104 = some (.ifCond .eq 23, 3, 127, 0, 0, 0) := (congrArg (fun t => List.lookup 104 t) gt343).trans rfl
theorem t343_107 : zT 343 107 = some (.aload_n 0, 1, 0, 0, 0, 0) := (congrArg (fun t => List.lookup 107 t) gt343).trans rfl
theorem t343_108 : zT 343 108 = some (.iload 4, 2, 0, 0, 0, 0) := (congrArg (fun t => List.lookup 108 t) gt343).trans rfl
theorem t343_110 : zT 343 110 = some (.iload_n 2, 1, 2, 0, 0, 0) := (congrArg (fun t => List.lookup 110 t) gt343).trans rfl
theorem t343_111 : zT 343 111 = some (.if_icmp .ne 8, 3, 119, 0, 0, 0) := (congrArg (fun t => List.lookup 111 t) gt343).trans rfl
theorem t343_114 : zT 343 114 = some (.bipush 59, 2, 0, 0, 59, 0) := (congrArg (fun t => List.lookup 114 t) gt343).trans rfl
theorem t343_116 : zT 343 116 = some (.goto 5, 3, 121, 0, 0, 0) := (congrArg (fun t => List.lookup 116 t) gt343).trans rfl
theorem t343_119 : zT 343 119 = some (.bipush 44, 2, 0, 0, 44, 0) := (congrArg (fun t => List.lookup 119 t) gt343).trans rfl
theorem t343_121 : zT 343 121 = some (.invokevirtual 151, 3, 246, 0, 0, 1844) := (congrArg (fun t => List.lookup 121 t) gt343).trans rfl
theorem t343_124 : zT 343 124 = some (.ifCond .ne 5, 3, 129, 0, 0, 0) := (congrArg (fun t => List.lookup 124 t) gt343).trans rfl
theorem t343_127 : zT 343 127 = some (.iconst 0, 1, 0, 0, 0, 0) := (congrArg (fun t => List.lookup 127 t) gt343).trans rfl
theorem t343_128 : zT 343 128 = some (.ireturn, 1, 0, 0, 0, 0) := (congrArg (fun t => List.lookup 128 t) gt343).trans rfl
theorem t343_129 : zT 343 129 = some (.aload_n 0, 1, 0, 0, 0, 0) := (congrArg (fun t => List.lookup 129 t) gt343).trans rfl
theorem t343_130 : zT 343 130 = some (.getfield 92, 3, 12, 46, 0, 1653) := (congrArg (fun t => List.lookup 130 t) gt343).trans (by decide +kernel)
theorem t343_133 : zT 343 133 = some (.iload_n 3, 1, 3, 0, 0, 0) := (congrArg (fun t => List.lookup 133 t) gt343).trans (by decide +kernel)
theorem t343_134 : zT 343 134 = some (.iload 4, 2, 0, 0, 0, 0) := (congrArg (fun t => List.lookup 134 t) gt343).trans (by decide +kernel)
theorem t343_136 : zT 343 136 = some (.iadd, 1, 0, 0, 0, 0) := (congrArg (fun t => List.lookup 136 t) gt343).trans (by decide +kernel)
theorem t343_137 : zT 343 137 = some (.aload_n 0, 1, 0, 0, 0, 0) := (congrArg (fun t => List.lookup 137 t) gt343).trans (by decide +kernel)
theorem t343_138 : zT 343 138 = some (.getfield 137, 3, 12, 8, 0, 1615) := (congrArg (fun t => List.lookup 138 t) gt343).trans (by decide +kernel)
theorem t343_141 : zT 343 141 = some (.iastore, 1, 0, 0, 0, 0) := (congrArg (fun t => List.lookup 141 t) gt343).trans (by decide +kernel)
theorem t343_142 : zT 343 142 = some (.iinc 4 1, 3, 0, 0, 0, 0) := (congrArg (fun t => List.lookup 142 t) gt343).trans (by decide +kernel)
theorem t343_145 : zT 343 145 = some (.goto (-57), 3, 88, 0, 0, 0) := (congrArg (fun t => List.lookup 145 t) gt343).trans (by decide +kernel)
theorem t343_148 : zT 343 148 = some (.aload_n 0, 1, 0, 0, 0, 0) := (congrArg (fun t => List.lookup 148 t) gt343).trans (by decide +kernel)
theorem t343_149 : zT 343 149 = some (.dup, 1, 0, 0, 0, 0) := (congrArg (fun t => List.lookup 149 t) gt343).trans (by decide +kernel)
theorem t343_150 : zT 343 150 = some (.getfield 460, 3, 12, 47, 0, 1654) := (congrArg (fun t => List.lookup 150 t) gt343).trans (by decide +kernel)
theorem t343_153 : zT 343 153 = some (.iconst 1, 1, 0, 0, 1, 0) := (congrArg (fun t => List.lookup 153 t) gt343).trans (by decide +kernel)
theorem t343_154 : zT 343 154 = some (.iadd, 1, 0, 0, 0, 0) := (congrArg (fun t => List.lookup 154 t) gt343).trans (by decide +kernel)
theorem t343_155 : zT 343 155 = some (.putfield 460, 3, 12, 47, 0, 1654) := (congrArg (fun t => List.lookup 155 t) gt343).trans (by decide +kernel)
theorem t343_158 : zT 343 158 = some (.iconst 1, 1, 0, 0, 1, 0) := (congrArg (fun t => List.lookup 158 t) gt343).trans (by decide +kernel)
theorem t343_159 : zT 343 159 = some (.ireturn, 1, 0, 0, 0, 0) := (congrArg (fun t => List.lookup 159 t) gt343).trans (by decide +kernel)
theorem t344_0 : zT 344 0 = some (.aload_n 0, 1, 0, 0, 0, 0) := (congrArg (fun t => List.lookup 0 t) gt344).trans rfl
theorem t344_1 : zT 344 1 = some (.getfield 92, 3, 12, 46, 0, 1653) := (congrArg (fun t => List.lookup 1 t) gt344).trans rfl
theorem t344_4 : zT 344 4 = some (.iload_n 1, 1, 1, 0, 0, 0) := (congrArg (fun t => List.lookup 4 t) gt344).trans rfl
theorem t344_5 : zT 344 5 = some (.iaload, 1, 0, 0, 0, 0) := (congrArg (fun t => List.lookup 5 t) gt344).trans rfl
theorem t344_6 : zT 344 6 = some (.lookupswitch 89 #[(100, 76), (104, 34), (120, 63)], 34, 0, 0, 0, 0) := (congrArg (fun t => List.lookup 6 t) gt344).trans rfl
theorem t344_40 : zT 344 40 = some (.aload_n 0, 1, 0, 0, 0, 0) := (congrArg (fun t => List.lookup 40 t) gt344).trans rfl
theorem t344_41 : zT 344 41 = some (.aload_n 0, 1, 0, 0, 0, 0) := (congrArg (fun t => List.lookup 41 t) gt344).trans rfl
theorem t344_42 : zT 344 42 = some (.getfield 92, 3, 12, 46, 0, 1653) := (congrArg (fun t => List.lookup 42 t) gt344).trans rfl
theorem t344_45 : zT 344 45 = some (.iload_n 1, 1, 1, 0, 0, 0) := (congrArg (fun t => List.lookup 45 t) gt344).trans rfl
theorem t344_46 : zT 344 46 = some (.iconst 1, 1, 0, 0, 1, 0) := (congrArg (fun t => List.lookup 46 t) gt344).trans rfl
theorem t344_47 : zT 344 47 = some (.iadd, 1, 0, 0, 0, 0) := (congrArg (fun t => List.lookup 47 t) gt344).trans rfl
theorem t344_48 : zT 344 48 = some (.iaload, 1, 0, 0, 0, 0) := (congrArg (fun t => List.lookup 48 t) gt344).trans rfl
theorem t344_49 : zT 344 49 = some (.aload_n 0, 1, 0, 0, 0, 0) := (congrArg (fun t => List.lookup 49 t) gt344).trans rfl
theorem t344_50 : zT 344 50 = some (.getfield 92, 3, 12, 46, 0, 1653) := (congrArg (fun t => List.lookup 50 t) gt344).trans rfl
theorem t344_53 : zT 344 53 = some (.iload_n 1, 1, 1, 0, 0, 0) := (congrArg (fun t => List.lookup 53 t) gt344).trans rfl
theorem t344_54 : zT 344 54 = some (.iconst 2, 1, 0, 0, 2, 0) := (congrArg (fun t => List.lookup 54 t) gt344).trans rfl
theorem t344_55 : zT 344 55 = some (.iadd, 1, 0, 0, 0, 0) := (congrArg (fun t => List.lookup 55 t) gt344).trans rfl
theorem t344_56 : zT 344 56 = some (.iaload, 1, 0, 0, 0, 0) := (congrArg (fun t => List.lookup 56 t) gt344).trans rfl
theorem t344_57 : zT 344 57 = some (.aload_n 0, 1, 0, 0, 0, 0) := (congrArg (fun t => List.lookup 57 t) gt344).trans rfl
theorem t344_58 : zT 344 58 = some (.getfield 92, 3, 12, 46, 0, 1653) := (congrArg (fun t => List.lookup 58 t) gt344).trans rfl
theorem t344_61 : zT 344 61 = some (.iload_n 1, 1, 1, 0, 0, 0) := (congrArg (fun t => List.lookup 61 t) gt344).trans rfl
theorem t344_62 : zT 344 62 = some (.iconst 3, 1, 0, 0, 3, 0) := (congrArg (fun t => List.lookup 62 t) gt344).trans rfl
theorem t344_63 : zT 344 63 = some (.iadd, 1, 0, 0, 0, 0) := (congrArg (fun t => List.lookup 63 t) gt344).trans rfl
theorem t344_64 : zT 344 64 = some (.iaload, 1, 0, 0, 0, 0) := (congrArg (fun t => List.lookup 64 t) gt344).trans rfl
theorem t344_65 : zT 344 65 = some (.invokevirtual 463, 3, 331, 0, 0, 2249) := (congrArg (fun t => List.lookup 65 t) gt344).trans rfl
theorem t344_68 : zT 344 68 = some (.ireturn, 1, 0, 0, 0, 0) := (congrArg (fun t => List.lookup 68 t) gt344).trans rfl
theorem t344_69 : zT 344 69 = some (.aload_n 0, 1, 0, 0, 0, 0) := (congrArg (fun t => List.lookup 69 t) gt344).trans rfl
theorem t344_70 : zT 344 70 = some (.aload_n 0, 1, 0, 0, 0, 0) := (congrArg (fun t => List.lookup 70 t) gt344).trans rfl
theorem t344_71 : zT 344 71 = some (.getfield 92, 3, 12, 46, 0, 1653) := (congrArg (fun t => List.lookup 71 t) gt344).trans rfl
theorem t344_74 : zT 344 74 = some (.iload_n 1, 1, 1, 0, 0, 0) := (congrArg (fun t => List.lookup 74 t) gt344).trans rfl
theorem t344_75 : zT 344 75 = some (.iconst 1, 1, 0, 0, 1, 0) := (congrArg (fun t => List.lookup 75 t) gt344).trans rfl
theorem t344_76 : zT 344 76 = some (.iadd, 1, 0, 0, 0, 0) := (congrArg (fun t => List.lookup 76 t) gt344).trans rfl
theorem t344_77 : zT 344 77 = some (.iaload, 1, 0, 0, 0, 0) := (congrArg (fun t => List.lookup 77 t) gt344).trans rfl
theorem t344_78 : zT 344 78 = some (.invokevirtual 466, 3, 332, 0, 0, 2250) := (congrArg (fun t => List.lookup 78 t) gt344).trans rfl
theorem t344_81 : zT 344 81 = some (.ireturn, 1, 0, 0, 0, 0) := (congrArg (fun t => List.lookup 81 t) gt344).trans rfl
theorem t344_82 : zT 344 82 = some (.aload_n 0, 1, 0, 0, 0, 0) := (congrArg (fun t => List.lookup 82 t) gt344).trans rfl
theorem t344_83 : zT 344 83 = some (.aload_n 0, 1, 0, 0, 0, 0) := (congrArg (fun t => List.lookup 83 t) gt344).trans rfl
theorem t344_84 : zT 344 84 = some (.getfield 92, 3, 12, 46, 0, 1653) := (congrArg (fun t => List.lookup 84 t) gt344).trans rfl
theorem t344_87 : zT 344 87 = some (.iload_n 1, 1, 1, 0, 0, 0) := (congrArg (fun t => List.lookup 87 t) gt344).trans rfl
theorem t344_88 : zT 344 88 = some (.iconst 1, 1, 0, 0, 1, 0) := (congrArg (fun t => List.lookup 88 t) gt344).trans rfl
theorem t344_89 : zT 344 89 = some (.iadd, 1, 0, 0, 0, 0) := (congrArg (fun t => List.lookup 89 t) gt344).trans rfl
theorem t344_90 : zT 344 90 = some (.iaload, 1, 0, 0, 0, 0) := (congrArg (fun t => List.lookup 90 t) gt344).trans rfl
theorem t344_91 : zT 344 91 = some (.invokevirtual 469, 3, 333, 0, 0, 2251) := (congrArg (fun t => List.lookup 91 t) gt344).trans rfl
theorem t344_94 : zT 344 94 = some (.ireturn, 1, 0, 0, 0, 0) := (congrArg (fun t => List.lookup 94 t) gt344).trans rfl
theorem t344_95 : zT 344 95 = some (.aload_n 0, 1, 0, 0, 0, 0) := (congrArg (fun t => List.lookup 95 t) gt344).trans rfl
theorem t344_96 : zT 344 96 = some (.aload_n 0, 1, 0, 0, 0, 0) := (congrArg (fun t => List.lookup 96 t) gt344).trans rfl
theorem t344_97 : zT 344 97 = some (.getfield 92, 3, 12, 46, 0, 1653) := (congrArg (fun t => List.lookup 97 t) gt344).trans rfl
theorem t344_100 : zT 344 100 = some (.iload_n 1, 1, 1, 0, 0, 0) := (congrArg (fun t => List.lookup 100 t) gt344).trans rfl
theorem t344_101 : zT 344 101 = some (.iconst 1, 1, 0, 0, 1, 0) := (congrArg (fun t => List.lookup 101 t) gt344).trans rfl
theorem t344_102 : zT 344 102 = some (.iadd, 1, 0, 0, 0, 0) := (congrArg (fun t => List.lookup 102 t) gt344).trans rfl
theorem t344_103 : zT 344 103 = some (.iaload, 1, 0, 0, 0, 0) := (congrArg (fun t => List.lookup 103 t) gt344).trans rfl
theorem t344_104 : zT 344 104 = some (.invokevirtual 472, 3, 334, 0, 0, 2252) := (congrArg (fun t => List.lookup 104 t) gt344).trans rfl
theorem t344_107 : zT 344 107 = some (.ireturn, 1, 0, 0, 0, 0) := (congrArg (fun t => List.lookup 107 t) gt344).trans rfl
theorem t345_0 : zT 345 0 = some (.aload_n 0, 1, 0, 0, 0, 0) := (congrArg (fun t => List.lookup 0 t) gt345).trans rfl
theorem t345_1 : zT 345 1 = some (.getfield 95, 3, 12, 48, 0, 1655) := (congrArg (fun t => List.lookup 1 t) gt345).trans rfl
theorem t345_4 : zT 345 4 = some (.ireturn, 1, 0, 0, 0, 0) := (congrArg (fun t => List.lookup 4 t) gt345).trans rfl
theorem t346_0 : zT 346 0 = some (.aload_n 0, 1, 0, 0, 0, 0) := (congrArg (fun t => List.lookup 0 t) gt346).trans rfl
theorem t346_1 : zT 346 1 = some (.iconst 0, 1, 0, 0, 0, 0) := (congrArg (fun t => List.lookup 1 t) gt346).trans rfl
theorem t346_2 : zT 346 2 = some (.putfield 481, 3, 12, 50, 0, 1657) := (congrArg (fun t => List.lookup 2 t) gt346).trans rfl
theorem t346_5 : zT 346 5 = some (.iconst 0, 1, 0, 0, 0, 0) := (congrArg (fun t => List.lookup 5 t) gt346).trans rfl
theorem t346_6 : zT 346 6 = some (.istore_n 1, 1, 1, 0, 0, 0) := (congrArg (fun t => List.lookup 6 t) gt346).trans rfl
theorem t346_7 : zT 346 7 = some (.iload_n 1, 1, 1, 0, 0, 0) := (congrArg (fun t => List.lookup 7 t) gt346).trans rfl
theorem t346_8 : zT 346 8 = some (.aload_n 0, 1, 0, 0, 0, 0) := (congrArg (fun t => List.lookup 8 t) gt346).trans rfl
theorem t346_9 : zT 346 9 = some (.getfield 3, 3, 12, 0, 0, 1607) := (congrArg (fun t => List.lookup 9 t) gt346).trans rfl
theorem t346_12 : zT 346 12 = some (.iconst 0, 1, 0, 0, 0, 0) := (congrArg (fun t => List.lookup 12 t) gt346).trans rfl
theorem t346_13 : zT 346 13 = some (.iaload, 1, 0, 0, 0, 0) := (congrArg (fun t => List.lookup 13 t) gt346).trans rfl
theorem t346_14 : zT 346 14 = some (.if_icmp .ge 26, 3, 40, 0, 0, 0) := (congrArg (fun t => List.lookup 14 t) gt346).trans rfl
theorem t346_17 : zT 346 17 = some (.aload_n 0, 1, 0, 0, 0, 0) := (congrArg (fun t => List.lookup 17 t) gt346).trans rfl
theorem t346_18 : zT 346 18 = some (.bipush 114, 2, 0, 0, 114, 0) := (congrArg (fun t => List.lookup 18 t) gt346).trans rfl
theorem t346_20 : zT 346 20 = some (.invokevirtual 484, 3, 347, 0, 0, 2261) := (congrArg (fun t => List.lookup 20 t) gt346).trans rfl
theorem t346_23 : zT 346 23 = some (.aload_n 0, 1, 0, 0, 0, 0) := (congrArg (fun t => List.lookup 23 t) gt346).trans rfl
theorem t346_24 : zT 346 24 = some (.aload_n 0, 1, 0, 0, 0, 0) := (congrArg (fun t => List.lookup 24 t) gt346).trans rfl
theorem t346_25 : zT 346 25 = some (.iload_n 1, 1, 1, 0, 0, 0) := (congrArg (fun t => List.lookup 25 t) gt346).trans rfl
theorem t346_26 : zT 346 26 = some (.invokevirtual 154, 3, 241, 0, 0, 1825) := (congrArg (fun t => List.lookup 26 t) gt346).trans rfl
theorem t346_29 : zT 346 29 = some (.bipush 59, 2, 0, 0, 59, 0) := (congrArg (fun t => List.lookup 29 t) gt346).trans rfl
theorem t346_31 : zT 346 31 = some (.invokevirtual 487, 3, 348, 0, 0, 2265) := (congrArg (fun t => List.lookup 31 t) gt346).trans rfl
theorem t346_34 : zT 346 34 = some (.iinc 1 1, 3, 0, 0, 0, 0) := (congrArg (fun t => List.lookup 34 t) gt346).trans rfl
theorem t346_37 : zT 346 37 = some (.goto (-30), 3, 7, 0, 0, 0) := (congrArg (fun t => List.lookup 37 t) gt346).trans rfl
theorem t346_40 : zT 346 40 = some (.aload_n 0, 1, 0, 0, 0, 0) := (congrArg (fun t => List.lookup 40 t) gt346).trans rfl
theorem t346_41 : zT 346 41 = some (.bipush 115, 2, 0, 0, 115, 0) := (congrArg (fun t => List.lookup 41 t) gt346).trans rfl
theorem t346_43 : zT 346 43 = some (.invokevirtual 484, 3, 347, 0, 0, 2261) := (congrArg (fun t => List.lookup 43 t) gt346).trans rfl
theorem t346_46 : zT 346 46 = some (.iconst 5, 1, 0, 0, 5, 0) := (congrArg (fun t => List.lookup 46 t) gt346).trans rfl
theorem t346_47 : zT 346 47 = some (.istore_n 1, 1, 1, 0, 0, 0) := (congrArg (fun t => List.lookup 47 t) gt346).trans rfl
theorem t346_48 : zT 346 48 = some (.iload_n 1, 1, 1, 0, 0, 0) := (congrArg (fun t => List.lookup 48 t) gt346).trans rfl
theorem t346_49 : zT 346 49 = some (.bipush 8, 2, 0, 0, 8, 0) := (congrArg (fun t => List.lookup 49 t) gt346).trans rfl
theorem t346_51 : zT 346 51 = some (.if_icmp .gt 32, 3, 83, 0, 0, 0) := (congrArg (fun t => List.lookup 51 t) gt346).trans rfl
theorem t346_54 : zT 346 54 = some (.aload_n 0, 1, 0, 0, 0, 0) := (congrArg (fun t => List.lookup 54 t) gt346).trans rfl
theorem t346_55 : zT 346 55 = some (.aload_n 0, 1, 0, 0, 0, 0) := (congrArg (fun t => List.lookup 55 t) gt346).trans rfl
theorem t346_56 : zT 346 56 = some (.getfield 3, 3, 12, 0, 0, 1607) := (congrArg (fun t => List.lookup 56 t) gt346).trans rfl
theorem t346_59 : zT 346 59 = some (.iload_n 1, 1, 1, 0, 0, 0) := (congrArg (fun t => List.lookup 59 t) gt346).trans rfl
theorem t346_60 : zT 346 60 = some (.iaload, 1, 0, 0, 0, 0) := (congrArg (fun t => List.lookup 60 t) gt346).trans rfl
theorem t346_61 : zT 346 61 = some (.iload_n 1, 1, 1, 0, 0, 0) := (congrArg (fun t => List.lookup 61 t) gt346).trans rfl
theorem t346_62 : zT 346 62 = some (.bipush 8, 2, 0, 0, 8, 0) := (congrArg (fun t => List.lookup 62 t) gt346).trans rfl
theorem t346_64 : zT 346 64 = some (.if_icmp .ne 8, 3, 72, 0, 0, 0) := (congrArg (fun t => List.lookup 64 t) gt346).trans rfl
theorem t346_67 : zT 346 67 = some (.bipush 59, 2, 0, 0, 59, 0) := (congrArg (fun t => List.lookup 67 t) gt346).trans rfl
theorem t346_69 : zT 346 69 = some (.goto 5, 3, 74, 0, 0, 0) := (congrArg (fun t => List.lookup 69 t) gt346).trans rfl
theorem t346_72 : zT 346 72 = some (.bipush 44, 2, 0, 0, 44, 0) := (congrArg (fun t => List.lookup 72 t) gt346).trans rfl
theorem t346_74 : zT 346 74 = some (.invokevirtual 487, 3, 348, 0, 0, 2265) := (congrArg (fun t => List.lookup 74 t) gt346).trans rfl
theorem t346_77 : zT 346 77 = some (.iinc 1 1, 3, 0, 0, 0, 0) := (congrArg (fun t => List.lookup 77 t) gt346).trans rfl
theorem t346_80 : zT 346 80 = some (.goto (-32), 3, 48, 0, 0, 0) := (congrArg (fun t => List.lookup 80 t) gt346).trans rfl
theorem t346_83 : zT 346 83 = some (.aload_n 0, 1, 0, 0, 0, 0) := (congrArg (fun t => List.lookup 83 t) gt346).trans rfl
theorem t346_84 : zT 346 84 = some (.bipush 103, 2, 0, 0, 103, 0) := (congrArg (fun t => List.lookup 84 t) gt346).trans rfl
theorem t346_86 : zT 346 86 = some (.invokevirtual 484, 3, 347, 0, 0, 2261) := (congrArg (fun t => List.lookup 86 t) gt346).trans rfl
theorem t346_89 : zT 346 89 = some (.aload_n 0, 1, 0, 0, 0, 0) := (congrArg (fun t => List.lookup 89 t) gt346).trans rfl
theorem t346_90 : zT 346 90 = some (.aload_n 0, 1, 0, 0, 0, 0) := (congrArg (fun t => List.lookup 90 t) gt346).trans rfl
theorem t346_91 : zT 346 91 = some (.getfield 3, 3, 12, 0, 0, 1607) := (congrArg (fun t => List.lookup 91 t) gt346).trans rfl
theorem t346_94 : zT 346 94 = some (.bipush 9, 2, 0, 0, 9, 0) := (congrArg (fun t => List.lookup 94 t) gt346).trans rfl
theorem t346_96 : zT 346 96 = some (.iaload, 1, 0, 0, 0, 0) := (congrArg (fun t => List.lookup 96 t) gt346).trans rfl
theorem t346_97 : zT 346 97 = some (.bipush 59, 2, 0, 0, 59, 0) := (congrArg (fun t => List.lookup 97 t) gt346).trans rfl
theorem t346_99 : zT 346 99 = some (.invokevirtual 487, 3, 348, 0, 0, 2265) := (congrArg (fun t => List.lookup 99 t) gt346).trans rfl
theorem t346_102 : zT 346 102 = some (.aload_n 0, 1, 0, 0, 0, 0) := (congrArg (fun t => List.lookup 102 t) gt346).trans rfl
theorem t346_103 : zT 346 103 = some (.bipush 119, 2, 0, 0, 119, 0) := (congrArg (fun t => List.lookup 103 t) gt346).trans rfl
theorem t346_105 : zT 346 105 = some (.invokevirtual 484, 3, 347, 0, 0, 2261) := (congrArg (fun t => List.lookup 105 t) gt346).trans rfl
theorem t346_108 : zT 346 108 = some (.aload_n 0, 1, 0, 0, 0, 0) := (congrArg (fun t => List.lookup 108 t) gt346).trans rfl
theorem t346_109 : zT 346 109 = some (.aload_n 0, 1, 0, 0, 0, 0) := (congrArg (fun t => List.lookup 109 t) gt346).trans rfl
theorem t346_110 : zT 346 110 = some (.getfield 3, 3, 12, 0, 0, 1607) := (congrArg (fun t => List.lookup 110 t) gt346).trans rfl
theorem t346_113 : zT 346 113 = some (.bipush 10, 2, 0, 0, 10, 0) := (congrArg (fun t => List.lookup 113 t) gt346).trans rfl
theorem t346_115 : zT 346 115 = some (.iaload, 1, 0, 0, 0, 0) := (congrArg (fun t => List.lookup 115 t) gt346).trans rfl
theorem t346_116 : zT 346 116 = some (.bipush 44, 2, 0, 0, 44, 0) := (congrArg (fun t => List.lookup 116 t) gt346).trans rfl
theorem t346_118 : zT 346 118 = some (.invokevirtual 487, 3, 348, 0, 0, 2265) := (congrArg (fun t => List.lookup 118 t) gt346).trans rfl
theorem t346_121 : zT 346 121 = some (.aload_n 0, 1, 0, 0, 0, 0) := (congrArg (fun t => List.lookup 121 t) gt346).trans rfl
theorem t346_122 : zT 346 122 = some (.aload_n 0, 1, 0, 0, 0, 0) := (congrArg (fun t => List.lookup 122 t) gt346).trans rfl
theorem t346_123 : zT 346 123 = some (.getfield 3, 3, 12, 0, 0, 1607) := (congrArg (fun t => List.lookup 123 t) gt346).trans rfl
theorem t346_126 : zT 346 126 = some (.bipush 11, 2, 0, 0, 11, 0) := (congrArg (fun t => List.lookup 126 t) gt346).trans rfl
theorem t346_128 : zT 346 128 = some (.iaload, 1, 0, 0, 0, 0) := (congrArg (fun t => List.lookup 128 t) gt346).trans rfl
theorem t346_129 : zT 346 129 = some (.bipush 59, 2, 0, 0, 59, 0) := (congrArg (fun t => List.lookup 129 t) gt346).trans rfl
theorem t346_131 : zT 346 131 = some (.invokevirtual 487, 3, 348, 0, 0, 2265) := (congrArg (fun t => List.lookup 131 t) gt346).trans (by decide +kernel)
theorem t346_134 : zT 346 134 = some (.aload_n 0, 1, 0, 0, 0, 0) := (congrArg (fun t => List.lookup 134 t) gt346).trans (by decide +kernel)
theorem t346_135 : zT 346 135 = some (.bipush 113, 2, 0, 0, 113, 0) := (congrArg (fun t => List.lookup 135 t) gt346).trans (by decide +kernel)
theorem t346_137 : zT 346 137 = some (.invokevirtual 484, 3, 347, 0, 0, 2261) := (congrArg (fun t => List.lookup 137 t) gt346).trans (by decide +kernel)
theorem t346_140 : zT 346 140 = some (.aload_n 0, 1, 0, 0, 0, 0) := (congrArg (fun t => List.lookup 140 t) gt346).trans (by decide +kernel)
theorem t346_141 : zT 346 141 = some (.aload_n 0, 1, 0, 0, 0, 0) := (congrArg (fun t => List.lookup 141 t) gt346).trans (by decide +kernel)
theorem t346_142 : zT 346 142 = some (.getfield 3, 3, 12, 0, 0, 1607) := (congrArg (fun t => List.lookup 142 t) gt346).trans (by decide +kernel)
theorem t346_145 : zT 346 145 = some (.bipush 12, 2, 0, 0, 12, 0) := (congrArg (fun t => List.lookup 145 t) gt346).trans (by decide +kernel)
theorem t346_147 : zT 346 147 = some (.iaload, 1, 0, 0, 0, 0) := (congrArg (fun t => List.lookup 147 t) gt346).trans (by decide +kernel)
theorem t346_148 : zT 346 148 = some (.bipush 44, 2, 0, 0, 44, 0) := (congrArg (fun t => List.lookup 148 t) gt346).trans (by decide +kernel)
theorem t346_150 : zT 346 150 = some (.invokevirtual 487, 3, 348, 0, 0, 2265) := (congrArg (fun t => List.lookup 150 t) gt346).trans (by decide +kernel)
theorem t346_153 : zT 346 153 = some (.aload_n 0, 1, 0, 0, 0, 0) := (congrArg (fun t => List.lookup 153 t) gt346).trans (by decide +kernel)
theorem t346_154 : zT 346 154 = some (.aload_n 0, 1, 0, 0, 0, 0) := (congrArg (fun t => List.lookup 154 t) gt346).trans (by decide +kernel)
theorem t346_155 : zT 346 155 = some (.getfield 3, 3, 12, 0, 0, 1607) := (congrArg (fun t => List.lookup 155 t) gt346).trans (by decide +kernel)
theorem t346_158 : zT 346 158 = some (.bipush 13, 2, 0, 0, 13, 0) := (congrArg (fun t => List.lookup 158 t) gt346).trans (by decide +kernel)
theorem t346_160 : zT 346 160 = some (.iaload, 1, 0, 0, 0, 0) := (congrArg (fun t => List.lookup 160 t) gt346).trans (by decide +kernel)
theorem t346_161 : zT 346 161 = some (.bipush 59, 2, 0, 0, 59, 0) := (congrArg (fun t => List.lookup 161 t) gt346).trans (by decide +kernel)
theorem t346_163 : zT 346 163 = some (.invokevirtual 487, 3, 348, 0, 0, 2265) := (congrArg (fun t => List.lookup 163 t) gt346).trans (by decide +kernel)
theorem t346_166 : zT 346 166 = some (.aload_n 0, 1, 0, 0, 0, 0) := (congrArg (fun t => List.lookup 166 t) gt346).trans (by decide +kernel)
theorem t346_167 : zT 346 167 = some (.getfield 481, 3, 12, 50, 0, 1657) := (congrArg (fun t => List.lookup 167 t) gt346).trans (by decide +kernel)
theorem t346_170 : zT 346 170 = some (.ireturn, 1, 0, 0, 0, 0) := (congrArg (fun t => List.lookup 170 t) gt346).trans (by decide +kernel)
theorem t347_0 : zT 347 0 = some (.aload_n 0, 1, 0, 0, 0, 0) := (congrArg (fun t => List.lookup 0 t) gt347).trans rfl
theorem t347_1 : zT 347 1 = some (.getfield 98, 3, 12, 49, 0, 1656) := (congrArg (fun t => List.lookup 1 t) gt347).trans rfl
theorem t347_4 : zT 347 4 = some (.aload_n 0, 1, 0, 0, 0, 0) := (congrArg (fun t => List.lookup 4 t) gt347).trans rfl
theorem t347_5 : zT 347 5 = some (.getfield 481, 3, 12, 50, 0, 1657) := (congrArg (fun t => List.lookup 5 t) gt347).trans rfl
theorem t347_8 : zT 347 8 = some (.iload_n 1, 1, 1, 0, 0, 0) := (congrArg (fun t => List.lookup 8 t) gt347).trans rfl
theorem t347_9 : zT 347 9 = some (.i2b, 1, 0, 0, 0, 0) := (congrArg (fun t => List.lookup 9 t) gt347).trans rfl
theorem t347_10 : zT 347 10 = some (.bastore, 1, 0, 0, 0, 0) := (congrArg (fun t => List.lookup 10 t) gt347).trans rfl
theorem t347_11 : zT 347 11 = some (.aload_n 0, 1, 0, 0, 0, 0) := (congrArg (fun t => List.lookup 11 t) gt347).trans rfl
theorem t347_12 : zT 347 12 = some (.dup, 1, 0, 0, 0, 0) := (congrArg (fun t => List.lookup 12 t) gt347).trans rfl
theorem t347_13 : zT 347 13 = some (.getfield 481, 3, 12, 50, 0, 1657) := (congrArg (fun t => List.lookup 13 t) gt347).trans rfl
theorem t347_16 : zT 347 16 = some (.iconst 1, 1, 0, 0, 1, 0) := (congrArg (fun t => List.lookup 16 t) gt347).trans rfl
theorem t347_17 : zT 347 17 = some (.iadd, 1, 0, 0, 0, 0) := (congrArg (fun t => List.lookup 17 t) gt347).trans rfl
theorem t347_18 : zT 347 18 = some (.putfield 481, 3, 12, 50, 0, 1657) := (congrArg (fun t => List.lookup 18 t) gt347).trans rfl
theorem t347_21 : zT 347 21 = some (.return_, 1, 0, 0, 0, 0) := (congrArg (fun t => List.lookup 21 t) gt347).trans rfl
theorem t348_0 : zT 348 0 = some (.iconst 1, 1, 0, 0, 1, 0) := (congrArg (fun t => List.lookup 0 t) gt348).trans rfl
theorem t348_1 : zT 348 1 = some (.istore_n 3, 1, 3, 0, 0, 0) := (congrArg (fun t => List.lookup 1 t) gt348).trans rfl
theorem t348_2 : zT 348 2 = some (.iload_n 1, 1, 1, 0, 0, 0) := (congrArg (fun t => List.lookup 2 t) gt348).trans rfl
theorem t348_3 : zT 348 3 = some (.iload_n 3, 1, 3, 0, 0, 0) := (congrArg (fun t => List.lookup 3 t) gt348).trans rfl
theorem t348_4 : zT 348 4 = some (.idiv, 1, 0, 0, 0, 0) := (congrArg (fun t => List.lookup 4 t) gt348).trans rfl
theorem t348_5 : zT 348 5 = some (.bipush 9, 2, 0, 0, 9, 0) := (congrArg (fun t => List.lookup 5 t) gt348).trans rfl
theorem t348_7 : zT 348 7 = some (.if_icmp .le 11, 3, 18, 0, 0, 0) := (congrArg (fun t => List.lookup 7 t) gt348).trans rfl
theorem t348_10 : zT 348 10 = some (.iload_n 3, 1, 3, 0, 0, 0) := (congrArg (fun t => List.lookup 10 t) gt348).trans rfl
theorem t348_11 : zT 348 11 = some (.bipush 10, 2, 0, 0, 10, 0) := (congrArg (fun t => List.lookup 11 t) gt348).trans rfl
theorem t348_13 : zT 348 13 = some (.imul, 1, 0, 0, 0, 0) := (congrArg (fun t => List.lookup 13 t) gt348).trans rfl
theorem t348_14 : zT 348 14 = some (.istore_n 3, 1, 3, 0, 0, 0) := (congrArg (fun t => List.lookup 14 t) gt348).trans rfl
theorem t348_15 : zT 348 15 = some (.goto (-13), 3, 2, 0, 0, 0) := (congrArg (fun t => List.lookup 15 t) gt348).trans rfl
theorem t348_18 : zT 348 18 = some (.iload_n 3, 1, 3, 0, 0, 0) := (congrArg (fun t => List.lookup 18 t) gt348).trans rfl
theorem t348_19 : zT 348 19 = some (.ifCond .le 24, 3, 43, 0, 0, 0) := (congrArg (fun t => List.lookup 19 t) gt348).trans rfl
theorem t348_22 : zT 348 22 = some (.aload_n 0, 1, 0, 0, 0, 0) := (congrArg (fun t => List.lookup 22 t) gt348).trans rfl
theorem t348_23 : zT 348 23 = some (.bipush 48, 2, 0, 0, 48, 0) := (congrArg (fun t => List.lookup 23 t) gt348).trans rfl
theorem t348_25 : zT 348 25 = some (.iload_n 1, 1, 1, 0, 0, 0) := (congrArg (fun t => List.lookup 25 t) gt348).trans rfl
theorem t348_26 : zT 348 26 = some (.iload_n 3, 1, 3, 0, 0, 0) := (congrArg (fun t => List.lookup 26 t) gt348).trans rfl
theorem t348_27 : zT 348 27 = some (.idiv, 1, 0, 0, 0, 0) := (congrArg (fun t => List.lookup 27 t) gt348).trans rfl
theorem t348_28 : zT 348 28 = some (.bipush 10, 2, 0, 0, 10, 0) := (congrArg (fun t => List.lookup 28 t) gt348).trans rfl
theorem t348_30 : zT 348 30 = some (.irem, 1, 0, 0, 0, 0) := (congrArg (fun t => List.lookup 30 t) gt348).trans rfl
theorem t348_31 : zT 348 31 = some (.iadd, 1, 0, 0, 0, 0) := (congrArg (fun t => List.lookup 31 t) gt348).trans rfl
theorem t348_32 : zT 348 32 = some (.invokevirtual 484, 3, 347, 0, 0, 2261) := (congrArg (fun t => List.lookup 32 t) gt348).trans rfl
theorem t348_35 : zT 348 35 = some (.iload_n 3, 1, 3, 0, 0, 0) := (congrArg (fun t => List.lookup 35 t) gt348).trans rfl
theorem t348_36 : zT 348 36 = some (.bipush 10, 2, 0, 0, 10, 0) := (congrArg (fun t => List.lookup 36 t) gt348).trans rfl
theorem t348_38 : zT 348 38 = some (.idiv, 1, 0, 0, 0, 0) := (congrArg (fun t => List.lookup 38 t) gt348).trans rfl
theorem t348_39 : zT 348 39 = some (.istore_n 3, 1, 3, 0, 0, 0) := (congrArg (fun t => List.lookup 39 t) gt348).trans rfl
theorem t348_40 : zT 348 40 = some (.goto (-22), 3, 18, 0, 0, 0) := (congrArg (fun t => List.lookup 40 t) gt348).trans rfl
theorem t348_43 : zT 348 43 = some (.aload_n 0, 1, 0, 0, 0, 0) := (congrArg (fun t => List.lookup 43 t) gt348).trans rfl
theorem t348_44 : zT 348 44 = some (.iload_n 2, 1, 2, 0, 0, 0) := (congrArg (fun t => List.lookup 44 t) gt348).trans rfl
theorem t348_45 : zT 348 45 = some (.invokevirtual 484, 3, 347, 0, 0, 2261) := (congrArg (fun t => List.lookup 45 t) gt348).trans rfl
theorem t348_48 : zT 348 48 = some (.return_, 1, 0, 0, 0, 0) := (congrArg (fun t => List.lookup 48 t) gt348).trans rfl
theorem t349_0 : zT 349 0 = some (.iload_n 1, 1, 1, 0, 0, 0) := (congrArg (fun t => List.lookup 0 t) gt349).trans rfl
theorem t349_1 : zT 349 1 = some (.i2l, 1, 0, 0, 0, 0) := (congrArg (fun t => List.lookup 1 t) gt349).trans rfl
theorem t349_2 : zT 349 2 = some (.lconst 0, 1, 0, 0, 0, 0) := (congrArg (fun t => List.lookup 2 t) gt349).trans rfl
theorem t349_3 : zT 349 3 = some (.aload_n 0, 1, 0, 0, 0, 0) := (congrArg (fun t => List.lookup 3 t) gt349).trans rfl
theorem t349_4 : zT 349 4 = some (.getfield 481, 3, 12, 50, 0, 1657) := (congrArg (fun t => List.lookup 4 t) gt349).trans rfl
theorem t349_7 : zT 349 7 = some (.iconst 1, 1, 0, 0, 1, 0) := (congrArg (fun t => List.lookup 7 t) gt349).trans rfl
theorem t349_8 : zT 349 8 = some (.isub, 1, 0, 0, 0, 0) := (congrArg (fun t => List.lookup 8 t) gt349).trans rfl
theorem t349_9 : zT 349 9 = some (.i2l, 1, 0, 0, 0, 0) := (congrArg (fun t => List.lookup 9 t) gt349).trans rfl
theorem t349_10 : zT 349 10 = some (.invokestatic 112, 3, 228, 1, 0, 1774) := (congrArg (fun t => List.lookup 10 t) gt349).trans rfl
theorem t349_13 : zT 349 13 = some (.ifCond .eq 12, 3, 25, 0, 0, 0) := (congrArg (fun t => List.lookup 13 t) gt349).trans rfl
theorem t349_16 : zT 349 16 = some (.aload_n 0, 1, 0, 0, 0, 0) := (congrArg (fun t => List.lookup 16 t) gt349).trans rfl
theorem t349_17 : zT 349 17 = some (.getfield 98, 3, 12, 49, 0, 1656) := (congrArg (fun t => List.lookup 17 t) gt349).trans rfl
theorem t349_20 : zT 349 20 = some (.iload_n 1, 1, 1, 0, 0, 0) := (congrArg (fun t => List.lookup 20 t) gt349).trans rfl
theorem t349_21 : zT 349 21 = some (.baload, 1, 0, 0, 0, 0) := (congrArg (fun t => List.lookup 21 t) gt349).trans rfl
theorem t349_22 : zT 349 22 = some (.goto 4, 3, 26, 0, 0, 0) := (congrArg (fun t => List.lookup 22 t) gt349).trans rfl
theorem t349_25 : zT 349 25 = some (.iconst (-1), 1, 0, 0, (-1), 0) := (congrArg (fun t => List.lookup 25 t) gt349).trans rfl
theorem t349_26 : zT 349 26 = some (.ireturn, 1, 0, 0, 0, 0) := (congrArg (fun t => List.lookup 26 t) gt349).trans rfl
theorem fk_zMm_336 : zK zMm 336 = (12, 0) := by decide +kernel
theorem fk_zMm_337 : zK zMm 337 = (20, 6072) := by decide +kernel
theorem fk_zMm_338 : zK zMm 338 = (22, 2) := by decide +kernel
theorem fk_zMm_339 : zK zMm 339 = (21, 500) := by decide +kernel
theorem fk_zMm_343 : zK zMm 343 = (22, 60) := by decide +kernel
theorem fk_zMm_344 : zK zMm 344 = (20, 60) := by decide +kernel
theorem fk_zMm_345 : zK zMm 345 = (20, 20) := by decide +kernel
theorem fk_zMm_346 : zK zMm 346 = (20, 20) := by decide +kernel
theorem fk_zMm_347 : zK zMm 347 = (20, 20) := by decide +kernel
theorem fk_zMm_348 : zK zMm 348 = (20, 20) := by decide +kernel
theorem fk_zMm_349 : zK zMm 349 = (20, 160) := by decide +kernel
theorem fk_zMm_350 : zK zMm 350 = (20, 60) := by decide +kernel
theorem fk_zMm_351 : zK zMm 351 = (23, 20) := by decide +kernel
theorem fk_zMm_352 : zK zMm 352 = (23, 20) := by decide +kernel
theorem fk_zMm_353 : zK zMm 353 = (23, 20) := by decide +kernel
theorem fk_zMm_354 : zK zMm 354 = (23, 20) := by decide +kernel
theorem fk_zMm_355 : zK zMm 355 = (20, 20) := by decide +kernel
theorem fk_zMm_356 : zK zMm 356 = (20, 20) := by decide +kernel
theorem fk_zMm_357 : zK zMm 357 = (23, 20) := by decide +kernel
theorem fk_zMm_358 : zK zMm 358 = (20, 20) := by decide +kernel
theorem fk_zMm_359 : zK zMm 359 = (20, 84) := by decide +kernel
theorem fk_zMm_360 : zK zMm 360 = (20, 8) := by decide +kernel
theorem fk_zMm_361 : zK zMm 361 = (20, 200) := by decide +kernel
theorem fk_zMm_362 : zK zMm 362 = (20, 80) := by decide +kernel
theorem fk_zMm_363 : zK zMm 363 = (21, 150) := by decide +kernel
theorem fv_zMm_336_0 : zfv zMm 336 (cY 12 0) 0 = .ref 337 := by decide +kernel
theorem fv_zMm_336_16 : zfv zMm 336 (cY 12 16) 16 = .ref 343 := by decide +kernel
theorem fv_zMm_336_17 : zfv zMm 336 (cY 12 17) 17 = .ref 344 := by decide +kernel
theorem fv_zMm_336_2 : zfv zMm 336 (cY 12 2) 2 = .ref 338 := by decide +kernel
theorem fv_zMm_336_23 : zfv zMm 336 (cY 12 23) 23 = .ref 345 := by decide +kernel
theorem fv_zMm_336_24 : zfv zMm 336 (cY 12 24) 24 = .ref 346 := by decide +kernel
theorem fv_zMm_336_25 : zfv zMm 336 (cY 12 25) 25 = .ref 347 := by decide +kernel
theorem fv_zMm_336_26 : zfv zMm 336 (cY 12 26) 26 = .ref 348 := by decide +kernel
theorem fv_zMm_336_27 : zfv zMm 336 (cY 12 27) 27 = .ref 349 := by decide +kernel
theorem fv_zMm_336_28 : zfv zMm 336 (cY 12 28) 28 = .ref 350 := by decide +kernel
theorem fv_zMm_336_29 : zfv zMm 336 (cY 12 29) 29 = .ref 351 := by decide +kernel
theorem fv_zMm_336_30 : zfv zMm 336 (cY 12 30) 30 = .ref 352 := by decide +kernel
theorem fv_zMm_336_31 : zfv zMm 336 (cY 12 31) 31 = .ref 353 := by decide +kernel
theorem fv_zMm_336_32 : zfv zMm 336 (cY 12 32) 32 = .ref 354 := by decide +kernel
theorem fv_zMm_336_33 : zfv zMm 336 (cY 12 33) 33 = .ref 355 := by decide +kernel
theorem fv_zMm_336_34 : zfv zMm 336 (cY 12 34) 34 = .ref 356 := by decide +kernel
theorem fv_zMm_336_35 : zfv zMm 336 (cY 12 35) 35 = .ref 357 := by decide +kernel
theorem fv_zMm_336_36 : zfv zMm 336 (cY 12 36) 36 = .ref 358 := by decide +kernel
theorem fv_zMm_336_38 : zfv zMm 336 (cY 12 38) 38 = .ref 359 := by decide +kernel
theorem fv_zMm_336_4 : zfv zMm 336 (cY 12 4) 4 = .ref 339 := by decide +kernel
theorem fv_zMm_336_40 : zfv zMm 336 (cY 12 40) 40 = .ref 360 := by decide +kernel
theorem fv_zMm_336_41 : zfv zMm 336 (cY 12 41) 41 = .ref 361 := by decide +kernel
theorem fv_zMm_336_46 : zfv zMm 336 (cY 12 46) 46 = .ref 362 := by decide +kernel
theorem fv_zMm_336_49 : zfv zMm 336 (cY 12 49) 49 = .ref 363 := by decide +kernel
