theorem ll3 : (3 : Int64).toInt = 3 := by decide
theorem ll50 : (50 : Int64).toInt = 50 := by decide
theorem ll200 : (200 : Int64).toInt = 200 := by decide
theorem ll999 : (999 : Int64).toInt = 999 := by decide
theorem ll1000 : (1000 : Int64).toInt = 1000 := by decide
theorem mf188 : zmf 188 6 11 7 7 := by unfold zmf; decide +kernel
theorem mf189 : zmf 189 3 11 1 3 := by unfold zmf; decide +kernel
theorem mf190 : zmf 190 2 11 1 2 := by unfold zmf; decide +kernel
theorem mf193 : zmf 193 4 11 7 6 := by unfold zmf; decide +kernel
theorem mf323 : zmf 323 6 12 9 6 := by unfold zmf; decide +kernel
theorem mf324 : zmf 324 4 12 1 4 := by unfold zmf; decide +kernel
theorem mf326 : zmf 326 4 12 9 5 := by unfold zmf; decide +kernel
theorem mr188 : (mt 188).2.2.2.1 = some .int := by decide +kernel
theorem mr189 : (mt 189).2.2.2.1 = some .boolean := by decide +kernel
theorem mr190 : (mt 190).2.2.2.1 = some .int := by decide +kernel
theorem mr193 : (mt 193).2.2.2.1 = some .int := by decide +kernel
theorem mr323 : (mt 323).2.2.2.1 = some .int := by decide +kernel
theorem mr324 : (mt 324).2.2.2.1 = some .boolean := by decide +kernel
theorem mr326 : (mt 326).2.2.2.1 = some .int := by decide +kernel
theorem t188_0 : zT 188 0 = some (.iload_n 1, 1, 1, 0, 0, 0) := by decide +kernel
theorem t188_1 : zT 188 1 = some (.iload_n 2, 1, 2, 0, 0, 0) := by decide +kernel
theorem t188_2 : zT 188 2 = some (.iload 4, 2, 0, 0, 0, 0) := by decide +kernel
theorem t188_4 : zT 188 4 = some (.invokestatic 364, 3, 189, 1, 0, 1443) := by decide +kernel
theorem t188_7 : zT 188 7 = some (.ifCond .eq 13, 3, 20, 0, 0, 0) := by decide +kernel
theorem t188_10 : zT 188 10 = some (.iload_n 3, 1, 3, 0, 0, 0) := by decide +kernel
theorem t188_11 : zT 188 11 = some (.iconst 1, 1, 0, 0, 1, 0) := by decide +kernel
theorem t188_12 : zT 188 12 = some (.bipush 8, 2, 0, 0, 8, 0) := by decide +kernel
theorem t188_14 : zT 188 14 = some (.invokestatic 246, 3, 39, 1, 0, 1028) := by decide +kernel
theorem t188_17 : zT 188 17 = some (.ifCond .ne 5, 3, 22, 0, 0, 0) := by decide +kernel
theorem t188_20 : zT 188 20 = some (.iconst (-1), 1, 0, 0, (-1), 0) := by decide +kernel
theorem t188_21 : zT 188 21 = some (.ireturn, 1, 0, 0, 0, 0) := by decide +kernel
theorem t188_22 : zT 188 22 = some (.aload_n 0, 1, 0, 0, 0, 0) := by decide +kernel
theorem t188_23 : zT 188 23 = some (.invokevirtual 367, 3, 187, 0, 0, 1446) := by decide +kernel
theorem t188_26 : zT 188 26 = some (.aload_n 0, 1, 0, 0, 0, 0) := by decide +kernel
theorem t188_27 : zT 188 27 = some (.getfield 12, 3, 11, 0, 0, 598) := by decide +kernel
theorem t188_30 : zT 188 30 = some (.bipush 7, 2, 0, 0, 7, 0) := by decide +kernel
theorem t188_32 : zT 188 32 = some (.invokevirtual 158, 3, 96, 0, 0, 1029) := by decide +kernel
theorem t188_35 : zT 188 35 = some (.invokestatic 370, 3, 190, 1, 0, 1447) := by decide +kernel
theorem t188_38 : zT 188 38 = some (.istore 6, 2, 0, 0, 0, 0) := by decide +kernel
theorem t188_40 : zT 188 40 = some (.aload_n 0, 1, 0, 0, 0, 0) := by decide +kernel
theorem t188_41 : zT 188 41 = some (.getfield 64, 3, 11, 8, 0, 606) := by decide +kernel
theorem t188_44 : zT 188 44 = some (.iload_n 1, 1, 1, 0, 0, 0) := by decide +kernel
theorem t188_45 : zT 188 45 = some (.iload_n 2, 1, 2, 0, 0, 0) := by decide +kernel
theorem t188_46 : zT 188 46 = some (.iload_n 3, 1, 3, 0, 0, 0) := by decide +kernel
theorem t188_47 : zT 188 47 = some (.iload 4, 2, 0, 0, 0, 0) := by decide +kernel
theorem t188_49 : zT 188 49 = some (.iload 6, 2, 0, 0, 0, 0) := by decide +kernel
theorem t188_51 : zT 188 51 = some (.aload_n 0, 1, 0, 0, 0, 0) := by decide +kernel
theorem t188_52 : zT 188 52 = some (.getfield 12, 3, 11, 0, 0, 598) := by decide +kernel
theorem t188_55 : zT 188 55 = some (.bipush 8, 2, 0, 0, 8, 0) := by decide +kernel
theorem t188_57 : zT 188 57 = some (.invokevirtual 158, 3, 96, 0, 0, 1029) := by decide +kernel
theorem t188_60 : zT 188 60 = some (.invokevirtual 373, 3, 191, 0, 0, 1451) := by decide +kernel
theorem t188_63 : zT 188 63 = some (.iload 5, 2, 0, 0, 0, 0) := by decide +kernel
theorem t188_65 : zT 188 65 = some (.tableswitch 63 0 3 #[31, 39, 47, 55], 31, 0, 0, 0, 0) := by decide +kernel
theorem t188_96 : zT 188 96 = some (.aload_n 0, 1, 0, 0, 0, 0) := by decide +kernel
theorem t188_97 : zT 188 97 = some (.getfield 64, 3, 11, 8, 0, 606) := by decide +kernel
theorem t188_100 : zT 188 100 = some (.getfield 377, 3, 10, 0, 0, 576) := by decide +kernel
theorem t188_103 : zT 188 103 = some (.ireturn, 1, 0, 0, 0, 0) := by decide +kernel
theorem t188_104 : zT 188 104 = some (.aload_n 0, 1, 0, 0, 0, 0) := by decide +kernel
theorem t188_105 : zT 188 105 = some (.getfield 64, 3, 11, 8, 0, 606) := by decide +kernel
theorem t188_108 : zT 188 108 = some (.getfield 380, 3, 10, 1, 0, 578) := by decide +kernel
theorem t188_111 : zT 188 111 = some (.ireturn, 1, 0, 0, 0, 0) := by decide +kernel
theorem t188_112 : zT 188 112 = some (.aload_n 0, 1, 0, 0, 0, 0) := by decide +kernel
theorem t188_113 : zT 188 113 = some (.getfield 64, 3, 11, 8, 0, 606) := by decide +kernel
theorem t188_116 : zT 188 116 = some (.getfield 383, 3, 10, 2, 0, 580) := by decide +kernel
theorem t188_119 : zT 188 119 = some (.ireturn, 1, 0, 0, 0, 0) := by decide +kernel
theorem t188_120 : zT 188 120 = some (.aload_n 0, 1, 0, 0, 0, 0) := by decide +kernel
theorem t188_121 : zT 188 121 = some (.getfield 64, 3, 11, 8, 0, 606) := by decide +kernel
theorem t188_124 : zT 188 124 = some (.getfield 386, 3, 10, 3, 0, 582) := by decide +kernel
theorem t188_127 : zT 188 127 = some (.ireturn, 1, 0, 0, 0, 0) := by decide +kernel
theorem t188_128 : zT 188 128 = some (.iconst (-1), 1, 0, 0, (-1), 0) := by decide +kernel
theorem t188_129 : zT 188 129 = some (.ireturn, 1, 0, 0, 0, 0) := by decide +kernel
theorem t189_0 : zT 189 0 = some (.iload_n 0, 1, 0, 0, 0, 0) := by decide +kernel
theorem t189_1 : zT 189 1 = some (.iconst 1, 1, 0, 0, 1, 0) := by decide +kernel
theorem t189_2 : zT 189 2 = some (.sipush 200, 3, 0, 0, 200, 0) := by decide +kernel
theorem t189_5 : zT 189 5 = some (.invokestatic 246, 3, 39, 1, 0, 1028) := by decide +kernel
theorem t189_8 : zT 189 8 = some (.ifCond .eq 28, 3, 36, 0, 0, 0) := by decide +kernel
theorem t189_11 : zT 189 11 = some (.iload_n 1, 1, 1, 0, 0, 0) := by decide +kernel
theorem t189_12 : zT 189 12 = some (.iconst 1, 1, 0, 0, 1, 0) := by decide +kernel
theorem t189_13 : zT 189 13 = some (.sipush 999, 3, 0, 0, 999, 0) := by decide +kernel
theorem t189_16 : zT 189 16 = some (.invokestatic 246, 3, 39, 1, 0, 1028) := by decide +kernel
theorem t189_19 : zT 189 19 = some (.ifCond .eq 17, 3, 36, 0, 0, 0) := by decide +kernel
theorem t189_22 : zT 189 22 = some (.iload_n 2, 1, 2, 0, 0, 0) := by decide +kernel
theorem t189_23 : zT 189 23 = some (.iconst 0, 1, 0, 0, 0, 0) := by decide +kernel
theorem t189_24 : zT 189 24 = some (.bipush 50, 2, 0, 0, 50, 0) := by decide +kernel
theorem t189_26 : zT 189 26 = some (.invokestatic 246, 3, 39, 1, 0, 1028) := by decide +kernel
theorem t189_29 : zT 189 29 = some (.ifCond .eq 7, 3, 36, 0, 0, 0) := by decide +kernel
theorem t189_32 : zT 189 32 = some (.iconst 1, 1, 0, 0, 1, 0) := by decide +kernel
theorem t189_33 : zT 189 33 = some (.goto 4, 3, 37, 0, 0, 0) := by decide +kernel
theorem t189_36 : zT 189 36 = some (.iconst 0, 1, 0, 0, 0, 0) := by decide +kernel
theorem t189_37 : zT 189 37 = some (.ireturn, 1, 0, 0, 0, 0) := by decide +kernel
theorem t190_0 : zT 190 0 = some (.iload_n 1, 1, 1, 0, 0, 0) := by decide +kernel
theorem t190_1 : zT 190 1 = some (.iconst 1, 1, 0, 0, 1, 0) := by decide +kernel
theorem t190_2 : zT 190 2 = some (.if_icmp .ge 7, 3, 9, 0, 0, 0) := by decide +kernel
theorem t190_9 : zT 190 9 = some (.iconst 1, 1, 0, 0, 1, 0) := by decide +kernel
theorem t190_10 : zT 190 10 = some (.iload_n 0, 1, 0, 0, 0, 0) := by decide +kernel
theorem t190_11 : zT 190 11 = some (.iload_n 1, 1, 1, 0, 0, 0) := by decide +kernel
theorem t190_12 : zT 190 12 = some (.iadd, 1, 0, 0, 0, 0) := by decide +kernel
theorem t190_13 : zT 190 13 = some (.iconst 1, 1, 0, 0, 1, 0) := by decide +kernel
theorem t190_14 : zT 190 14 = some (.isub, 1, 0, 0, 0, 0) := by decide +kernel
theorem t190_15 : zT 190 15 = some (.iload_n 1, 1, 1, 0, 0, 0) := by decide +kernel
theorem t190_16 : zT 190 16 = some (.idiv, 1, 0, 0, 0, 0) := by decide +kernel
theorem t190_17 : zT 190 17 = some (.invokestatic 359, 3, 21, 1, 0, 1450) := by decide +kernel
theorem t190_20 : zT 190 20 = some (.ireturn, 1, 0, 0, 0, 0) := by decide +kernel
theorem t193_0 : zT 193 0 = some (.iload_n 1, 1, 1, 0, 0, 0) := by decide +kernel
theorem t193_1 : zT 193 1 = some (.iload_n 2, 1, 2, 0, 0, 0) := by decide +kernel
theorem t193_2 : zT 193 2 = some (.iload_n 3, 1, 3, 0, 0, 0) := by decide +kernel
theorem t193_3 : zT 193 3 = some (.invokestatic 364, 3, 189, 1, 0, 1443) := by decide +kernel
theorem t193_6 : zT 193 6 = some (.ifCond .ne 5, 3, 11, 0, 0, 0) := by decide +kernel
theorem t193_9 : zT 193 9 = some (.iconst (-1), 1, 0, 0, (-1), 0) := by decide +kernel
theorem t193_10 : zT 193 10 = some (.ireturn, 1, 0, 0, 0, 0) := by decide +kernel
theorem t193_11 : zT 193 11 = some (.aload_n 0, 1, 0, 0, 0, 0) := by decide +kernel
theorem t193_12 : zT 193 12 = some (.invokevirtual 367, 3, 187, 0, 0, 1446) := by decide +kernel
theorem t193_15 : zT 193 15 = some (.aload_n 0, 1, 0, 0, 0, 0) := by decide +kernel
theorem t193_16 : zT 193 16 = some (.getfield 12, 3, 11, 0, 0, 598) := by decide +kernel
theorem t193_19 : zT 193 19 = some (.bipush 7, 2, 0, 0, 7, 0) := by decide +kernel
theorem t193_21 : zT 193 21 = some (.invokevirtual 158, 3, 96, 0, 0, 1029) := by decide +kernel
theorem t193_24 : zT 193 24 = some (.invokestatic 370, 3, 190, 1, 0, 1447) := by decide +kernel
theorem t193_27 : zT 193 27 = some (.istore 4, 2, 0, 0, 0, 0) := by decide +kernel
theorem t193_29 : zT 193 29 = some (.iconst 1, 1, 0, 0, 1, 0) := by decide +kernel
theorem t193_30 : zT 193 30 = some (.istore 5, 2, 0, 0, 0, 0) := by decide +kernel
theorem t193_32 : zT 193 32 = some (.iload 5, 2, 0, 0, 0, 0) := by decide +kernel
theorem t193_34 : zT 193 34 = some (.bipush 8, 2, 0, 0, 8, 0) := by decide +kernel
theorem t193_36 : zT 193 36 = some (.if_icmp .gt 55, 3, 91, 0, 0, 0) := by decide +kernel
theorem t193_39 : zT 193 39 = some (.aload_n 0, 1, 0, 0, 0, 0) := by decide +kernel
theorem t193_40 : zT 193 40 = some (.getfield 64, 3, 11, 8, 0, 606) := by decide +kernel
theorem t193_43 : zT 193 43 = some (.iload_n 1, 1, 1, 0, 0, 0) := by decide +kernel
theorem t193_44 : zT 193 44 = some (.iload_n 2, 1, 2, 0, 0, 0) := by decide +kernel
theorem t193_45 : zT 193 45 = some (.iload 5, 2, 0, 0, 0, 0) := by decide +kernel
theorem t193_47 : zT 193 47 = some (.iload_n 3, 1, 3, 0, 0, 0) := by decide +kernel
theorem t193_48 : zT 193 48 = some (.iload 4, 2, 0, 0, 0, 0) := by decide +kernel
theorem t193_50 : zT 193 50 = some (.aload_n 0, 1, 0, 0, 0, 0) := by decide +kernel
theorem t193_51 : zT 193 51 = some (.getfield 12, 3, 11, 0, 0, 598) := by decide +kernel
theorem t193_54 : zT 193 54 = some (.bipush 8, 2, 0, 0, 8, 0) := by decide +kernel
theorem t193_56 : zT 193 56 = some (.invokevirtual 158, 3, 96, 0, 0, 1029) := by decide +kernel
theorem t193_59 : zT 193 59 = some (.invokevirtual 373, 3, 191, 0, 0, 1451) := by decide +kernel
theorem t193_62 : zT 193 62 = some (.aload_n 0, 1, 0, 0, 0, 0) := by decide +kernel
theorem t193_63 : zT 193 63 = some (.getfield 64, 3, 11, 8, 0, 606) := by decide +kernel
theorem t193_66 : zT 193 66 = some (.getfield 377, 3, 10, 0, 0, 576) := by decide +kernel
theorem t193_69 : zT 193 69 = some (.ifCond .ne 16, 3, 85, 0, 0, 0) := by decide +kernel
theorem t193_72 : zT 193 72 = some (.aload_n 0, 1, 0, 0, 0, 0) := by decide +kernel
theorem t193_73 : zT 193 73 = some (.getfield 64, 3, 11, 8, 0, 606) := by decide +kernel
theorem t193_76 : zT 193 76 = some (.getfield 380, 3, 10, 1, 0, 578) := by decide +kernel
theorem t193_79 : zT 193 79 = some (.ifCond .ne 6, 3, 85, 0, 0, 0) := by decide +kernel
theorem t193_82 : zT 193 82 = some (.iload 5, 2, 0, 0, 0, 0) := by decide +kernel
theorem t193_84 : zT 193 84 = some (.ireturn, 1, 0, 0, 0, 0) := by decide +kernel
theorem t323_0 : zT 323 0 = some (.iload_n 1, 1, 1, 0, 0, 0) := by decide +kernel
theorem t323_1 : zT 323 1 = some (.iload_n 2, 1, 2, 0, 0, 0) := by decide +kernel
theorem t323_2 : zT 323 2 = some (.iload_n 3, 1, 3, 0, 0, 0) := by decide +kernel
theorem t323_3 : zT 323 3 = some (.iload 4, 2, 0, 0, 0, 0) := by decide +kernel
theorem t323_5 : zT 323 5 = some (.invokestatic 441, 3, 324, 1, 0, 2159) := by decide +kernel
theorem t323_8 : zT 323 8 = some (.ifCond .eq 16, 3, 24, 0, 0, 0) := by decide +kernel
theorem t323_11 : zT 323 11 = some (.iload 5, 2, 0, 0, 0, 0) := by decide +kernel
theorem t323_13 : zT 323 13 = some (.i2l, 1, 0, 0, 0, 0) := by decide +kernel
theorem t323_14 : zT 323 14 = some (.lconst 0, 1, 0, 0, 0, 0) := by decide +kernel
theorem t323_15 : zT 323 15 = some (.ldc2_w 367, 3, 1, 0, 3, 2074) := by decide +kernel
theorem t323_18 : zT 323 18 = some (.invokestatic 112, 3, 228, 1, 0, 1774) := by decide +kernel
theorem t323_21 : zT 323 21 = some (.ifCond .ne 5, 3, 26, 0, 0, 0) := by decide +kernel
theorem t323_24 : zT 323 24 = some (.iconst (-1), 1, 0, 0, (-1), 0) := by decide +kernel
theorem t323_25 : zT 323 25 = some (.ireturn, 1, 0, 0, 0, 0) := by decide +kernel
theorem t323_26 : zT 323 26 = some (.aload_n 0, 1, 0, 0, 0, 0) := by decide +kernel
theorem t323_27 : zT 323 27 = some (.iload_n 1, 1, 1, 0, 0, 0) := by decide +kernel
theorem t323_28 : zT 323 28 = some (.iload_n 2, 1, 2, 0, 0, 0) := by decide +kernel
theorem t323_29 : zT 323 29 = some (.iload_n 3, 1, 3, 0, 0, 0) := by decide +kernel
theorem t323_30 : zT 323 30 = some (.iload 4, 2, 0, 0, 0, 0) := by decide +kernel
theorem t323_32 : zT 323 32 = some (.invokevirtual 444, 3, 325, 0, 0, 2166) := by decide +kernel
theorem t323_35 : zT 323 35 = some (.iload 5, 2, 0, 0, 0, 0) := by decide +kernel
theorem t323_37 : zT 323 37 = some (.ifCond .ne 10, 3, 47, 0, 0, 0) := by decide +kernel
theorem t323_40 : zT 323 40 = some (.aload_n 0, 1, 0, 0, 0, 0) := by decide +kernel
theorem t323_41 : zT 323 41 = some (.getfield 421, 3, 12, 42, 0, 1649) := by decide +kernel
theorem t323_44 : zT 323 44 = some (.goto 33, 3, 77, 0, 0, 0) := by decide +kernel
theorem t323_47 : zT 323 47 = some (.iload 5, 2, 0, 0, 0, 0) := by decide +kernel
theorem t323_49 : zT 323 49 = some (.iconst 1, 1, 0, 0, 1, 0) := by decide +kernel
theorem t323_50 : zT 323 50 = some (.if_icmp .ne 10, 3, 60, 0, 0, 0) := by decide +kernel
theorem t323_53 : zT 323 53 = some (.aload_n 0, 1, 0, 0, 0, 0) := by decide +kernel
theorem t323_54 : zT 323 54 = some (.getfield 424, 3, 12, 43, 0, 1650) := by decide +kernel
theorem t323_57 : zT 323 57 = some (.goto 20, 3, 77, 0, 0, 0) := by decide +kernel
theorem t323_60 : zT 323 60 = some (.iload 5, 2, 0, 0, 0, 0) := by decide +kernel
theorem t323_62 : zT 323 62 = some (.iconst 2, 1, 0, 0, 2, 0) := by decide +kernel
theorem t323_63 : zT 323 63 = some (.if_icmp .ne 10, 3, 73, 0, 0, 0) := by decide +kernel
theorem t323_66 : zT 323 66 = some (.aload_n 0, 1, 0, 0, 0, 0) := by decide +kernel
theorem t323_67 : zT 323 67 = some (.getfield 427, 3, 12, 44, 0, 1651) := by decide +kernel
theorem t323_70 : zT 323 70 = some (.goto 7, 3, 77, 0, 0, 0) := by decide +kernel
theorem t323_73 : zT 323 73 = some (.aload_n 0, 1, 0, 0, 0, 0) := by decide +kernel
theorem t323_74 : zT 323 74 = some (.getfield 430, 3, 12, 45, 0, 1652) := by decide +kernel
theorem t323_77 : zT 323 77 = some (.ireturn, 1, 0, 0, 0, 0) := by decide +kernel
theorem t324_0 : zT 324 0 = some (.iload_n 0, 1, 0, 0, 0, 0) := by decide +kernel
theorem t324_1 : zT 324 1 = some (.i2l, 1, 0, 0, 0, 0) := by decide +kernel
theorem t324_2 : zT 324 2 = some (.lconst 1, 1, 0, 0, 1, 0) := by decide +kernel
theorem t324_3 : zT 324 3 = some (.ldc2_w 433, 3, 1, 0, 200, 2162) := by decide +kernel
theorem t324_6 : zT 324 6 = some (.invokestatic 112, 3, 228, 1, 0, 1774) := by decide +kernel
theorem t324_9 : zT 324 9 = some (.ifCond .eq 43, 3, 52, 0, 0, 0) := by decide +kernel
theorem t324_12 : zT 324 12 = some (.iload_n 1, 1, 1, 0, 0, 0) := by decide +kernel
theorem t324_13 : zT 324 13 = some (.i2l, 1, 0, 0, 0, 0) := by decide +kernel
theorem t324_14 : zT 324 14 = some (.lconst 1, 1, 0, 0, 1, 0) := by decide +kernel
theorem t324_15 : zT 324 15 = some (.ldc2_w 435, 3, 1, 0, 999, 2163) := by decide +kernel
theorem t324_18 : zT 324 18 = some (.invokestatic 112, 3, 228, 1, 0, 1774) := by decide +kernel
theorem t324_21 : zT 324 21 = some (.ifCond .eq 31, 3, 52, 0, 0, 0) := by decide +kernel
theorem t324_24 : zT 324 24 = some (.iload_n 2, 1, 2, 0, 0, 0) := by decide +kernel
theorem t324_25 : zT 324 25 = some (.i2l, 1, 0, 0, 0, 0) := by decide +kernel
theorem t324_26 : zT 324 26 = some (.lconst 1, 1, 0, 0, 1, 0) := by decide +kernel
theorem t324_27 : zT 324 27 = some (.ldc2_w 437, 3, 1, 0, 8, 2164) := by decide +kernel
theorem t324_30 : zT 324 30 = some (.invokestatic 112, 3, 228, 1, 0, 1774) := by decide +kernel
theorem t324_33 : zT 324 33 = some (.ifCond .eq 19, 3, 52, 0, 0, 0) := by decide +kernel
theorem t324_36 : zT 324 36 = some (.iload_n 3, 1, 3, 0, 0, 0) := by decide +kernel
theorem t324_37 : zT 324 37 = some (.i2l, 1, 0, 0, 0, 0) := by decide +kernel
theorem t324_38 : zT 324 38 = some (.lconst 0, 1, 0, 0, 0, 0) := by decide +kernel
theorem t324_39 : zT 324 39 = some (.ldc2_w 439, 3, 1, 0, 50, 2165) := by decide +kernel
theorem t324_42 : zT 324 42 = some (.invokestatic 112, 3, 228, 1, 0, 1774) := by decide +kernel
theorem t324_45 : zT 324 45 = some (.ifCond .eq 7, 3, 52, 0, 0, 0) := by decide +kernel
theorem t324_48 : zT 324 48 = some (.iconst 1, 1, 0, 0, 1, 0) := by decide +kernel
theorem t324_49 : zT 324 49 = some (.goto 4, 3, 53, 0, 0, 0) := by decide +kernel
theorem t324_52 : zT 324 52 = some (.iconst 0, 1, 0, 0, 0, 0) := by decide +kernel
theorem t324_53 : zT 324 53 = some (.ireturn, 1, 0, 0, 0, 0) := by decide +kernel
theorem t326_0 : zT 326 0 = some (.iload_n 1, 1, 1, 0, 0, 0) := by decide +kernel
theorem t326_1 : zT 326 1 = some (.iload_n 2, 1, 2, 0, 0, 0) := by decide +kernel
theorem t326_2 : zT 326 2 = some (.iconst 1, 1, 0, 0, 1, 0) := by decide +kernel
theorem t326_3 : zT 326 3 = some (.iload_n 3, 1, 3, 0, 0, 0) := by decide +kernel
theorem t326_4 : zT 326 4 = some (.invokestatic 441, 3, 324, 1, 0, 2159) := by decide +kernel
theorem t326_7 : zT 326 7 = some (.ifCond .ne 5, 3, 12, 0, 0, 0) := by decide +kernel
theorem t326_10 : zT 326 10 = some (.iconst (-1), 1, 0, 0, (-1), 0) := by decide +kernel
theorem t326_11 : zT 326 11 = some (.ireturn, 1, 0, 0, 0, 0) := by decide +kernel
theorem t326_12 : zT 326 12 = some (.iconst 1, 1, 0, 0, 1, 0) := by decide +kernel
theorem t326_13 : zT 326 13 = some (.istore 4, 2, 0, 0, 0, 0) := by decide +kernel
theorem t326_15 : zT 326 15 = some (.iload 4, 2, 0, 0, 0, 0) := by decide +kernel
theorem t326_17 : zT 326 17 = some (.bipush 8, 2, 0, 0, 8, 0) := by decide +kernel
theorem t326_19 : zT 326 19 = some (.if_icmp .gt 33, 3, 52, 0, 0, 0) := by decide +kernel
theorem t326_22 : zT 326 22 = some (.aload_n 0, 1, 0, 0, 0, 0) := by decide +kernel
theorem t326_23 : zT 326 23 = some (.iload_n 1, 1, 1, 0, 0, 0) := by decide +kernel
theorem t326_24 : zT 326 24 = some (.iload_n 2, 1, 2, 0, 0, 0) := by decide +kernel
theorem t326_25 : zT 326 25 = some (.iload 4, 2, 0, 0, 0, 0) := by decide +kernel
theorem t326_27 : zT 326 27 = some (.iload_n 3, 1, 3, 0, 0, 0) := by decide +kernel
theorem t326_28 : zT 326 28 = some (.invokevirtual 444, 3, 325, 0, 0, 2166) := by decide +kernel
theorem t326_31 : zT 326 31 = some (.aload_n 0, 1, 0, 0, 0, 0) := by decide +kernel
theorem t326_32 : zT 326 32 = some (.getfield 421, 3, 12, 42, 0, 1649) := by decide +kernel
theorem t326_35 : zT 326 35 = some (.aload_n 0, 1, 0, 0, 0, 0) := by decide +kernel
theorem t326_36 : zT 326 36 = some (.getfield 424, 3, 12, 43, 0, 1650) := by decide +kernel
theorem t326_39 : zT 326 39 = some (.iadd, 1, 0, 0, 0, 0) := by decide +kernel
theorem t326_40 : zT 326 40 = some (.ifCond .ne 6, 3, 46, 0, 0, 0) := by decide +kernel
theorem t326_43 : zT 326 43 = some (.iload 4, 2, 0, 0, 0, 0) := by decide +kernel
theorem t326_45 : zT 326 45 = some (.ireturn, 1, 0, 0, 0, 0) := by decide +kernel
theorem t341_0 : zT 341 0 = some (.iload_n 1, 1, 1, 0, 0, 0) := by decide +kernel
theorem t341_1 : zT 341 1 = some (.i2l, 1, 0, 0, 0, 0) := by decide +kernel
theorem t341_2 : zT 341 2 = some (.lconst 1, 1, 0, 0, 1, 0) := by decide +kernel
theorem t341_3 : zT 341 3 = some (.ldc2_w 458, 3, 1, 0, 1000, 2236) := by decide +kernel
theorem t341_6 : zT 341 6 = some (.invokestatic 112, 3, 228, 1, 0, 1774) := by decide +kernel
theorem t341_9 : zT 341 9 = some (.ifCond .eq 13, 3, 22, 0, 0, 0) := by decide +kernel
theorem t341_12 : zT 341 12 = some (.iload_n 2, 1, 2, 0, 0, 0) := by decide +kernel
theorem t341_13 : zT 341 13 = some (.i2l, 1, 0, 0, 0, 0) := by decide +kernel
theorem t341_14 : zT 341 14 = some (.lconst 0, 1, 0, 0, 0, 0) := by decide +kernel
theorem t341_15 : zT 341 15 = some (.lconst 1, 1, 0, 0, 1, 0) := by decide +kernel
theorem t341_16 : zT 341 16 = some (.invokestatic 112, 3, 228, 1, 0, 1774) := by decide +kernel
theorem t341_19 : zT 341 19 = some (.ifCond .ne 5, 3, 24, 0, 0, 0) := by decide +kernel
theorem t341_22 : zT 341 22 = some (.iconst (-1), 1, 0, 0, (-1), 0) := by decide +kernel
theorem t341_23 : zT 341 23 = some (.ireturn, 1, 0, 0, 0, 0) := by decide +kernel
theorem t341_24 : zT 341 24 = some (.iconst 0, 1, 0, 0, 0, 0) := by decide +kernel
theorem t341_25 : zT 341 25 = some (.istore_n 3, 1, 3, 0, 0, 0) := by decide +kernel
theorem t341_26 : zT 341 26 = some (.iconst (-1), 1, 0, 0, (-1), 0) := by decide +kernel
theorem t341_27 : zT 341 27 = some (.istore 4, 2, 0, 0, 0, 0) := by decide +kernel
theorem t341_29 : zT 341 29 = some (.iconst 0, 1, 0, 0, 0, 0) := by decide +kernel
theorem t341_30 : zT 341 30 = some (.istore 5, 2, 0, 0, 0, 0) := by decide +kernel
theorem t341_123 : zT 341 123 = some (.iload 5, 2, 0, 0, 0, 0) := by decide +kernel
theorem t341_125 : zT 341 125 = some (.istore_n 3, 1, 3, 0, 0, 0) := by decide +kernel
theorem t341_126 : zT 341 126 = some (.iload 6, 2, 0, 0, 0, 0) := by decide +kernel
theorem t341_128 : zT 341 128 = some (.istore 4, 2, 0, 0, 0, 0) := by decide +kernel
theorem ccq1 {X : zX} {l : Launch} : zCall X l 6 0 0 187 [.ref 6] zMc (fun r M2 => r = some (.int (0 : Int32)) ∧ zK M2 6 = (11, 0) ∧ zfv M2 6 (cY 11 0) 0 = .ref 7 ∧ zK M2 7 = (6, 0) ∧ zfv M2 7 (cY 6 12) 12 = .ref 17 ∧ zK M2 17 = (20, 9) ∧ zI M2 17 7 = (100 : Int32) ∧ zfv M2 6 (cY 11 8) 8 = .ref 332 ∧ zI M2 17 8 = (50 : Int32) ∧ zK M2 332 = (10, 0) ∧ zK M2 333 = (20, 8) ∧ zK M2 334 = (20, 200) ∧ zfv M2 332 (cY 10 4) 4 = .ref 333 ∧ zfv M2 332 (cY 10 5) 5 = .ref 334 ∧ True) := zs_run (q := 6378) (Qb := fun r M2 => decide (r = some (.int (0 : Int32)) ∧ zK M2 6 = (11, 0) ∧ zfv M2 6 (cY 11 0) 0 = .ref 7 ∧ zK M2 7 = (6, 0) ∧ zfv M2 7 (cY 6 12) 12 = .ref 17 ∧ zK M2 17 = (20, 9) ∧ zI M2 17 7 = (100 : Int32) ∧ zfv M2 6 (cY 11 8) 8 = .ref 332 ∧ zI M2 17 8 = (50 : Int32) ∧ zK M2 332 = (10, 0) ∧ zK M2 333 = (20, 8) ∧ zK M2 334 = (20, 200) ∧ zfv M2 332 (cY 10 4) 4 = .ref 333 ∧ zfv M2 332 (cY 10 5) 5 = .ref 334 ∧ True)) mf187 (by decide) (by decide +kernel) (fun _ _ q => of_decide_eq_true q)
theorem zlcge {a b : Int64} {ea eb : Int} (ha : a.toInt = ea) (hb : b.toInt = eb) (h : eb ≤ ea) : ¬ (lg_cmp a b).toInt < 0 := by
  by_cases q : ea = eb
  · rw [zlcE ha hb q]
    decide
  · rw [zlcG ha hb (by omega)]
    decide
theorem zlcle {a b : Int64} {ea eb : Int} (ha : a.toInt = ea) (hb : b.toInt = eb) (h : ea ≤ eb) : ¬ 0 < (lg_cmp a b).toInt := by
  by_cases q : ea = eb
  · rw [zlcE ha hb q]
    decide
  · rw [zlcL ha hb (by omega)]
    decide
theorem in_T {X : zX} {l : Launch} {M : zM} {v lo hi : Int64} {ev el eh : Int} (hv : v.toInt = ev) (hl : lo.toInt = el) (hh : hi.toInt = eh) (h1 : el ≤ ev) (h2 : ev ≤ eh) : zCall X l 0 0 0 228 [.long v, .long lo, .long hi] M (fun r M' => r = some (.int (1 : Int32)) ∧ M = M') := by
  refine zs_in (by decide) mf228 (Nat.le_of_ble_eq_true rfl) ?_
  show zGo X l 0 0 0 228 0 [(0, .long v), (2, .long lo), (4, .long hi)] [] M _
  refine zs_lload_n (pc := 0) t228_0 rfl ?_
  refine zs_lload_n (pc := 1) t228_1 rfl ?_
  refine zs_lcmp (pc := 2) t228_2 rfl ?_
  refine zs_if_ltF (pc := 3) t228_3 rfl (zlcge hv hl h1) ?_
  refine zs_lload_n (pc := 6) t228_6 rfl ?_
  refine zs_lload (pc := 7) t228_7 rfl ?_
  refine zs_lcmp (pc := 9) t228_9 rfl ?_
  refine zs_if_gtF (pc := 10) t228_10 rfl (zlcle hv hh h2) ?_
  refine zs_iconst (pc := 13) t228_13 (v := 1) (by decide) ?_
  refine zs_goto (pc := 14) t228_14 ?_
  exact zs_iret (pc := 18) t228_18 mr228 (by decide) ⟨rfl, rfl⟩
theorem in_F {X : zX} {l : Launch} {M : zM} {v lo hi : Int64} {ev el eh : Int} (hv : v.toInt = ev) (hl : lo.toInt = el) (hh : hi.toInt = eh) (h : ev < el ∨ eh < ev) : zCall X l 0 0 0 228 [.long v, .long lo, .long hi] M (fun r M' => r = some (.int (0 : Int32)) ∧ M = M') := by
  refine zs_in (by decide) mf228 (Nat.le_of_ble_eq_true rfl) ?_
  show zGo X l 0 0 0 228 0 [(0, .long v), (2, .long lo), (4, .long hi)] [] M _
  refine zs_lload_n (pc := 0) t228_0 rfl ?_
  refine zs_lload_n (pc := 1) t228_1 rfl ?_
  by_cases q : ev < el
  · refine zs_lcmp (pc := 2) t228_2 (c := -1) (zlcL hv hl q) ?_
    refine zs_if_ltT (pc := 3) t228_3 lin1 (by decide) ?_
    refine zs_iconst (pc := 17) t228_17 (v := 0) (by decide) ?_
    exact zs_iret (pc := 18) t228_18 mr228 (by decide) ⟨rfl, rfl⟩
  · refine zs_lcmp (pc := 2) t228_2 rfl ?_
    refine zs_if_ltF (pc := 3) t228_3 rfl (zlcge hv hl (by omega)) ?_
    refine zs_lload_n (pc := 6) t228_6 rfl ?_
    refine zs_lload (pc := 7) t228_7 rfl ?_
    refine zs_lcmp (pc := 9) t228_9 (c := 1) (zlcG hv hh (by omega)) ?_
    refine zs_if_gtT (pc := 10) t228_10 li1 (by decide) ?_
    refine zs_iconst (pc := 17) t228_17 (v := 0) (by decide) ?_
    exact zs_iret (pc := 18) t228_18 mr228 (by decide) ⟨rfl, rfl⟩
theorem m36_4 {X : zX} {l : Launch} {a b : Int32} (la : 1 ≤ a.toInt) (ua : a.toInt ≤ 1000) (lb : 0 ≤ b.toInt) (ub : b.toInt ≤ 1) : zCall X l 1 0 0 341 [.ref 336, .int a, .int b] zMm (fun r _ => r = some (.int (0 : Int32))) := by
  refine zs_in (by decide) mf341 (Nat.le_of_ble_eq_true rfl) ?_
  show zGo X l 1 0 0 341 0 [(0, .ref 336), (1, .int a), (2, .int b)] [] zMm _
  refine zs_iload_n (pc := 0) t341_0 rfl ?_
  refine zs_i2l (pc := 1) t341_1 rfl ?_
  refine zs_lconst (pc := 2) t341_2 (v := 1) (by decide) ?_
  refine zs_ldc2_w (pc := 3) t341_3 (v := 1000) (by decide) ?_
  refine zs_invS (pc := 6) (as := [.long a.toInt64, .long (1 : Int64), .long (1000 : Int64)]) (st := []) t341_6 (by decide) mf228 rfl rfl ⟨by decide, by decide, Nat.le_of_ble_eq_true rfl, Nat.le_of_ble_eq_true rfl⟩ (in_T (zi2l rfl) ll1 ll1000 (by omega) (by omega)) ?_
  rintro r Mi ⟨rfl, rfl⟩
  show zGo X l 1 0 0 341 9 [(0, .ref 336), (1, .int a), (2, .int b)] [.int (1 : Int32)] zMm _
  refine zs_if_eqF (pc := 9) t341_9 li1 (by decide) ?_
  refine zs_iload_n (pc := 12) t341_12 rfl ?_
  refine zs_i2l (pc := 13) t341_13 rfl ?_
  refine zs_lconst (pc := 14) t341_14 (v := 0) (by decide) ?_
  refine zs_lconst (pc := 15) t341_15 (v := 1) (by decide) ?_
  refine zs_invS (pc := 16) (as := [.long b.toInt64, .long (0 : Int64), .long (1 : Int64)]) (st := []) t341_16 (by decide) mf228 rfl rfl ⟨by decide, by decide, Nat.le_of_ble_eq_true rfl, Nat.le_of_ble_eq_true rfl⟩ (in_T (zi2l rfl) ll0 ll1 (by omega) (by omega)) ?_
  rintro r Mi ⟨rfl, rfl⟩
  show zGo X l 1 0 0 341 19 [(0, .ref 336), (1, .int a), (2, .int b)] [.int (1 : Int32)] zMm _
  refine zs_if_neT (pc := 19) t341_19 li1 (by decide) ?_
  refine zs_iconst (pc := 24) t341_24 (v := 0) (by decide) ?_
  refine zs_istore_n (pc := 25) t341_25 (ls' := [(3, .int (0 : Int32)), (0, .ref 336), (1, .int a), (2, .int b)]) (zml mf341 (by decide)) rfl ?_
  refine zs_iconst (pc := 26) t341_26 (v := -1) (by decide) ?_
  refine zs_istore (pc := 27) t341_27 (ls' := [(4, .int (-1 : Int32)), (3, .int (0 : Int32)), (0, .ref 336), (1, .int a), (2, .int b)]) (zml mf341 (by decide)) rfl ?_
  refine zs_iconst (pc := 29) t341_29 (v := 0) (by decide) ?_
  refine zs_istore (pc := 30) t341_30 (ls' := [(5, .int (0 : Int32)), (4, .int (-1 : Int32)), (3, .int (0 : Int32)), (0, .ref 336), (1, .int a), (2, .int b)]) (zml mf341 (by decide)) rfl ?_
  refine zs_iload (pc := 32) t341_32 rfl ?_
  refine zs_iload_n (pc := 34) t341_34 rfl ?_
  obtain ⟨w1v, w1e, w1⟩ := ziadd (a := (0 : Int32)) (b := a) li0 rfl (by omega) (by omega)
  refine zs_iadd (pc := 35) t341_35 (c := w1v) w1e ?_
  refine zs_sipush (pc := 36) t341_36 (v := 1000) (by decide) ?_
  refine zs_icmp_gtF (pc := 39) t341_39 w1 li1000 (by omega) ?_
  refine zs_iconst (pc := 42) t341_42 (v := 0) (by decide) ?_
  refine zs_istore (pc := 43) t341_43 (ls' := [(6, .int (0 : Int32)), (5, .int (0 : Int32)), (4, .int (-1 : Int32)), (3, .int (0 : Int32)), (0, .ref 336), (1, .int a), (2, .int b)]) (zml mf341 (by decide)) rfl ?_
  refine zs_iconst (pc := 45) t341_45 (v := 0) (by decide) ?_
  refine zs_istore (pc := 46) t341_46 (ls' := [(7, .int (0 : Int32)), (6, .int (0 : Int32)), (5, .int (0 : Int32)), (4, .int (-1 : Int32)), (3, .int (0 : Int32)), (0, .ref 336), (1, .int a), (2, .int b)]) (zml mf341 (by decide)) rfl ?_
  refine zs_iload (pc := 48) t341_48 rfl ?_
  refine zs_aload_n (pc := 50) t341_50 rfl ?_
  refine zs_get (pc := 51) t341_51 (by decide) (zk1 fk_zMm_336) fv_zMm_336_0 ?_
  refine zs_iconst (pc := 54) t341_54 (v := 1) (by decide) ?_
  refine zs_iald (pc := 55) t341_55 (j := 1) (by decide) (zk1 fk_zMm_337) (by decide) (zk2 fk_zMm_337 (by decide)) fa_zMm_337_1 ?_
  refine zs_icmp_geT (pc := 56) t341_56 li0 li0 (by decide) ?_
  refine zs_iload (pc := 113) t341_113 rfl ?_
  refine zs_iload (pc := 115) t341_115 rfl ?_
  refine zs_icmp_gtT (pc := 117) t341_117 li0 lin1 (by decide) ?_
  refine zs_iload (pc := 123) t341_123 rfl ?_
  refine zs_istore_n (pc := 125) t341_125 (ls' := [(3, .int (0 : Int32)), (7, .int (0 : Int32)), (6, .int (0 : Int32)), (5, .int (0 : Int32)), (4, .int (-1 : Int32)), (0, .ref 336), (1, .int a), (2, .int b)]) (zml mf341 (by decide)) rfl ?_
  refine zs_iload (pc := 126) t341_126 rfl ?_
  refine zs_istore (pc := 128) t341_128 (ls' := [(4, .int (0 : Int32)), (3, .int (0 : Int32)), (7, .int (0 : Int32)), (6, .int (0 : Int32)), (5, .int (0 : Int32)), (0, .ref 336), (1, .int a), (2, .int b)]) (zml mf341 (by decide)) rfl ?_
  refine zs_iinc (pc := 130) t341_130 (ls' := [(5, .int (1 : Int32)), (4, .int (0 : Int32)), (3, .int (0 : Int32)), (7, .int (0 : Int32)), (6, .int (0 : Int32)), (0, .ref 336), (1, .int a), (2, .int b)]) (zml mf341 (by decide)) rfl (c := 1) (by decide) rfl ?_
  refine zs_goto (pc := 133) t341_133 ?_
  refine zGo.locals (ls' := [(5, .int (1 : Int32)), (4, .int (0 : Int32)), (3, .int (0 : Int32)), (0, .ref 336), (1, .int a), (2, .int b)]) (by simp) ?_
  exact wi_l (tv := 0) la ua 999 1 (1 : Int32) (by omega) li1
theorem c21_0 {X : zX} {l : Launch} {a b c d e : Int32} (la : (-2147483648) ≤ a.toInt) (ua : a.toInt ≤ 0) : zCall X l 7 0 0 188 [.ref 6, .int a, .int b, .int c, .int d, .int e] zMc (fun r _ => r = some (.int (-1 : Int32))) := by
  have ga := zrg a
  have gb := zrg b
  have gc := zrg c
  have gd := zrg d
  have ge := zrg e
  refine zs_in (by decide) mf188 (Nat.le_of_ble_eq_true rfl) ?_
  show zGo X l 7 0 0 188 0 [(0, .ref 6), (1, .int a), (2, .int b), (3, .int c), (4, .int d), (5, .int e)] [] zMc _
  refine zs_iload_n (pc := 0) t188_0 rfl ?_
  refine zs_iload_n (pc := 1) t188_1 rfl ?_
  refine zs_iload (pc := 2) t188_2 rfl ?_
  refine zs_invS (pc := 4) (as := [.int a, .int b, .int d]) (st := []) t188_4 (by decide) mf189 rfl rfl ⟨by decide, by decide, Nat.le_of_ble_eq_true rfl, Nat.le_of_ble_eq_true rfl⟩ (zs_in (by decide) mf189 (Nat.le_of_ble_eq_true rfl) ?_) (fun _ _ q => q)
  show zGo X l 1 0 0 189 0 [(0, .int a), (1, .int b), (2, .int d)] [] zMc _
  refine zs_iload_n (pc := 0) t189_0 rfl ?_
  refine zs_iconst (pc := 1) t189_1 (v := 1) (by decide) ?_
  refine zs_sipush (pc := 2) t189_2 (v := 200) (by decide) ?_
  refine zs_invS (pc := 5) (as := [.int a, .int (1 : Int32), .int (200 : Int32)]) (st := []) t189_5 (by decide) mf39 rfl rfl ⟨by decide, by decide, Nat.le_of_ble_eq_true rfl, Nat.le_of_ble_eq_true rfl⟩ (zs_in (by decide) mf39 (Nat.le_of_ble_eq_true rfl) ?_) (fun _ _ q => q)
  show zGo X l 0 0 0 39 0 [(0, .int a), (1, .int (1 : Int32)), (2, .int (200 : Int32))] [] zMc _
  refine zs_iload_n (pc := 0) t39_0 rfl ?_
  refine zs_iload_n (pc := 1) t39_1 rfl ?_
  refine zs_icmp_ltT (pc := 2) t39_2 rfl li1 (by omega) ?_
  refine zs_iconst (pc := 14) t39_14 (v := 0) (by decide) ?_
  refine zs_iret (pc := 15) t39_15 mr39 (by decide) ?_
  show zGo X l 1 0 0 189 8 [(0, .int a), (1, .int b), (2, .int d)] [.int (0 : Int32)] zMc _
  refine zs_if_eqT (pc := 8) t189_8 li0 (by decide) ?_
  refine zs_iconst (pc := 36) t189_36 (v := 0) (by decide) ?_
  refine zs_iret (pc := 37) t189_37 mr189 (by decide) ?_
  show zGo X l 7 0 0 188 7 [(0, .ref 6), (1, .int a), (2, .int b), (3, .int c), (4, .int d), (5, .int e)] [.int (0 : Int32)] zMc _
  refine zs_if_eqT (pc := 7) t188_7 li0 (by decide) ?_
  refine zs_iconst (pc := 20) t188_20 (v := -1) (by decide) ?_
  exact zs_iret (pc := 21) t188_21 mr188 (by decide) rfl
theorem m21_0 {X : zX} {l : Launch} {a b c d e : Int32} (la : (-2147483648) ≤ a.toInt) (ua : a.toInt ≤ 0) : zCall X l 9 0 0 323 [.ref 336, .int a, .int b, .int c, .int d, .int e] zMm (fun r _ => r = some (.int (-1 : Int32))) := by
  have ga := zrg a
  have gb := zrg b
  have gc := zrg c
  have gd := zrg d
  have ge := zrg e
  refine zs_in (by decide) mf323 (Nat.le_of_ble_eq_true rfl) ?_
  show zGo X l 9 0 0 323 0 [(0, .ref 336), (1, .int a), (2, .int b), (3, .int c), (4, .int d), (5, .int e)] [] zMm _
  refine zs_iload_n (pc := 0) t323_0 rfl ?_
  refine zs_iload_n (pc := 1) t323_1 rfl ?_
  refine zs_iload_n (pc := 2) t323_2 rfl ?_
  refine zs_iload (pc := 3) t323_3 rfl ?_
  refine zs_invS (pc := 5) (as := [.int a, .int b, .int c, .int d]) (st := []) t323_5 (by decide) mf324 rfl rfl ⟨by decide, by decide, Nat.le_of_ble_eq_true rfl, Nat.le_of_ble_eq_true rfl⟩ (zs_in (by decide) mf324 (Nat.le_of_ble_eq_true rfl) ?_) (fun _ _ q => q)
  show zGo X l 1 0 0 324 0 [(0, .int a), (1, .int b), (2, .int c), (3, .int d)] [] zMm _
  refine zs_iload_n (pc := 0) t324_0 rfl ?_
  refine zs_i2l (pc := 1) t324_1 rfl ?_
  refine zs_lconst (pc := 2) t324_2 (v := 1) (by decide) ?_
  refine zs_ldc2_w (pc := 3) t324_3 (v := 200) (by decide) ?_
  refine zs_invS (pc := 6) (as := [.long a.toInt64, .long (1 : Int64), .long (200 : Int64)]) (st := []) t324_6 (by decide) mf228 rfl rfl ⟨by decide, by decide, Nat.le_of_ble_eq_true rfl, Nat.le_of_ble_eq_true rfl⟩ (in_F (zi2l rfl) ll1 ll200 (by omega)) ?_
  rintro r Mi ⟨rfl, rfl⟩
  show zGo X l 1 0 0 324 9 [(0, .int a), (1, .int b), (2, .int c), (3, .int d)] [.int (0 : Int32)] zMm _
  refine zs_if_eqT (pc := 9) t324_9 li0 (by decide) ?_
  refine zs_iconst (pc := 52) t324_52 (v := 0) (by decide) ?_
  refine zs_iret (pc := 53) t324_53 mr324 (by decide) ?_
  show zGo X l 9 0 0 323 8 [(0, .ref 336), (1, .int a), (2, .int b), (3, .int c), (4, .int d), (5, .int e)] [.int (0 : Int32)] zMm _
  refine zs_if_eqT (pc := 8) t323_8 li0 (by decide) ?_
  refine zs_iconst (pc := 24) t323_24 (v := -1) (by decide) ?_
  exact zs_iret (pc := 25) t323_25 mr323 (by decide) rfl
theorem c21_1 {X : zX} {l : Launch} {a b c d e : Int32} (la : 201 ≤ a.toInt) (ua : a.toInt ≤ 2147483647) : zCall X l 7 0 0 188 [.ref 6, .int a, .int b, .int c, .int d, .int e] zMc (fun r _ => r = some (.int (-1 : Int32))) := by
  have ga := zrg a
  have gb := zrg b
  have gc := zrg c
  have gd := zrg d
  have ge := zrg e
  refine zs_in (by decide) mf188 (Nat.le_of_ble_eq_true rfl) ?_
  show zGo X l 7 0 0 188 0 [(0, .ref 6), (1, .int a), (2, .int b), (3, .int c), (4, .int d), (5, .int e)] [] zMc _
  refine zs_iload_n (pc := 0) t188_0 rfl ?_
  refine zs_iload_n (pc := 1) t188_1 rfl ?_
  refine zs_iload (pc := 2) t188_2 rfl ?_
  refine zs_invS (pc := 4) (as := [.int a, .int b, .int d]) (st := []) t188_4 (by decide) mf189 rfl rfl ⟨by decide, by decide, Nat.le_of_ble_eq_true rfl, Nat.le_of_ble_eq_true rfl⟩ (zs_in (by decide) mf189 (Nat.le_of_ble_eq_true rfl) ?_) (fun _ _ q => q)
  show zGo X l 1 0 0 189 0 [(0, .int a), (1, .int b), (2, .int d)] [] zMc _
  refine zs_iload_n (pc := 0) t189_0 rfl ?_
  refine zs_iconst (pc := 1) t189_1 (v := 1) (by decide) ?_
  refine zs_sipush (pc := 2) t189_2 (v := 200) (by decide) ?_
  refine zs_invS (pc := 5) (as := [.int a, .int (1 : Int32), .int (200 : Int32)]) (st := []) t189_5 (by decide) mf39 rfl rfl ⟨by decide, by decide, Nat.le_of_ble_eq_true rfl, Nat.le_of_ble_eq_true rfl⟩ (zs_in (by decide) mf39 (Nat.le_of_ble_eq_true rfl) ?_) (fun _ _ q => q)
  show zGo X l 0 0 0 39 0 [(0, .int a), (1, .int (1 : Int32)), (2, .int (200 : Int32))] [] zMc _
  refine zs_iload_n (pc := 0) t39_0 rfl ?_
  refine zs_iload_n (pc := 1) t39_1 rfl ?_
  refine zs_icmp_ltF (pc := 2) t39_2 rfl li1 (by omega) ?_
  refine zs_iload_n (pc := 5) t39_5 rfl ?_
  refine zs_iload_n (pc := 6) t39_6 rfl ?_
  refine zs_icmp_gtT (pc := 7) t39_7 rfl li200 (by omega) ?_
  refine zs_iconst (pc := 14) t39_14 (v := 0) (by decide) ?_
  refine zs_iret (pc := 15) t39_15 mr39 (by decide) ?_
  show zGo X l 1 0 0 189 8 [(0, .int a), (1, .int b), (2, .int d)] [.int (0 : Int32)] zMc _
  refine zs_if_eqT (pc := 8) t189_8 li0 (by decide) ?_
  refine zs_iconst (pc := 36) t189_36 (v := 0) (by decide) ?_
  refine zs_iret (pc := 37) t189_37 mr189 (by decide) ?_
  show zGo X l 7 0 0 188 7 [(0, .ref 6), (1, .int a), (2, .int b), (3, .int c), (4, .int d), (5, .int e)] [.int (0 : Int32)] zMc _
  refine zs_if_eqT (pc := 7) t188_7 li0 (by decide) ?_
  refine zs_iconst (pc := 20) t188_20 (v := -1) (by decide) ?_
  exact zs_iret (pc := 21) t188_21 mr188 (by decide) rfl
theorem m21_1 {X : zX} {l : Launch} {a b c d e : Int32} (la : 201 ≤ a.toInt) (ua : a.toInt ≤ 2147483647) : zCall X l 9 0 0 323 [.ref 336, .int a, .int b, .int c, .int d, .int e] zMm (fun r _ => r = some (.int (-1 : Int32))) := by
  have ga := zrg a
  have gb := zrg b
  have gc := zrg c
  have gd := zrg d
  have ge := zrg e
  refine zs_in (by decide) mf323 (Nat.le_of_ble_eq_true rfl) ?_
  show zGo X l 9 0 0 323 0 [(0, .ref 336), (1, .int a), (2, .int b), (3, .int c), (4, .int d), (5, .int e)] [] zMm _
  refine zs_iload_n (pc := 0) t323_0 rfl ?_
  refine zs_iload_n (pc := 1) t323_1 rfl ?_
  refine zs_iload_n (pc := 2) t323_2 rfl ?_
  refine zs_iload (pc := 3) t323_3 rfl ?_
  refine zs_invS (pc := 5) (as := [.int a, .int b, .int c, .int d]) (st := []) t323_5 (by decide) mf324 rfl rfl ⟨by decide, by decide, Nat.le_of_ble_eq_true rfl, Nat.le_of_ble_eq_true rfl⟩ (zs_in (by decide) mf324 (Nat.le_of_ble_eq_true rfl) ?_) (fun _ _ q => q)
  show zGo X l 1 0 0 324 0 [(0, .int a), (1, .int b), (2, .int c), (3, .int d)] [] zMm _
  refine zs_iload_n (pc := 0) t324_0 rfl ?_
  refine zs_i2l (pc := 1) t324_1 rfl ?_
  refine zs_lconst (pc := 2) t324_2 (v := 1) (by decide) ?_
  refine zs_ldc2_w (pc := 3) t324_3 (v := 200) (by decide) ?_
  refine zs_invS (pc := 6) (as := [.long a.toInt64, .long (1 : Int64), .long (200 : Int64)]) (st := []) t324_6 (by decide) mf228 rfl rfl ⟨by decide, by decide, Nat.le_of_ble_eq_true rfl, Nat.le_of_ble_eq_true rfl⟩ (in_F (zi2l rfl) ll1 ll200 (by omega)) ?_
  rintro r Mi ⟨rfl, rfl⟩
  show zGo X l 1 0 0 324 9 [(0, .int a), (1, .int b), (2, .int c), (3, .int d)] [.int (0 : Int32)] zMm _
  refine zs_if_eqT (pc := 9) t324_9 li0 (by decide) ?_
  refine zs_iconst (pc := 52) t324_52 (v := 0) (by decide) ?_
  refine zs_iret (pc := 53) t324_53 mr324 (by decide) ?_
  show zGo X l 9 0 0 323 8 [(0, .ref 336), (1, .int a), (2, .int b), (3, .int c), (4, .int d), (5, .int e)] [.int (0 : Int32)] zMm _
  refine zs_if_eqT (pc := 8) t323_8 li0 (by decide) ?_
  refine zs_iconst (pc := 24) t323_24 (v := -1) (by decide) ?_
  exact zs_iret (pc := 25) t323_25 mr323 (by decide) rfl
theorem c21_2 {X : zX} {l : Launch} {a b c d e : Int32} (la : 1 ≤ a.toInt) (ua : a.toInt ≤ 200) (lb : (-2147483648) ≤ b.toInt) (ub : b.toInt ≤ 0) : zCall X l 7 0 0 188 [.ref 6, .int a, .int b, .int c, .int d, .int e] zMc (fun r _ => r = some (.int (-1 : Int32))) := by
  have ga := zrg a
  have gb := zrg b
  have gc := zrg c
  have gd := zrg d
  have ge := zrg e
  refine zs_in (by decide) mf188 (Nat.le_of_ble_eq_true rfl) ?_
  show zGo X l 7 0 0 188 0 [(0, .ref 6), (1, .int a), (2, .int b), (3, .int c), (4, .int d), (5, .int e)] [] zMc _
  refine zs_iload_n (pc := 0) t188_0 rfl ?_
  refine zs_iload_n (pc := 1) t188_1 rfl ?_
  refine zs_iload (pc := 2) t188_2 rfl ?_
  refine zs_invS (pc := 4) (as := [.int a, .int b, .int d]) (st := []) t188_4 (by decide) mf189 rfl rfl ⟨by decide, by decide, Nat.le_of_ble_eq_true rfl, Nat.le_of_ble_eq_true rfl⟩ (zs_in (by decide) mf189 (Nat.le_of_ble_eq_true rfl) ?_) (fun _ _ q => q)
  show zGo X l 1 0 0 189 0 [(0, .int a), (1, .int b), (2, .int d)] [] zMc _
  refine zs_iload_n (pc := 0) t189_0 rfl ?_
  refine zs_iconst (pc := 1) t189_1 (v := 1) (by decide) ?_
  refine zs_sipush (pc := 2) t189_2 (v := 200) (by decide) ?_
  refine zs_invS (pc := 5) (as := [.int a, .int (1 : Int32), .int (200 : Int32)]) (st := []) t189_5 (by decide) mf39 rfl rfl ⟨by decide, by decide, Nat.le_of_ble_eq_true rfl, Nat.le_of_ble_eq_true rfl⟩ (zs_in (by decide) mf39 (Nat.le_of_ble_eq_true rfl) ?_) (fun _ _ q => q)
  show zGo X l 0 0 0 39 0 [(0, .int a), (1, .int (1 : Int32)), (2, .int (200 : Int32))] [] zMc _
  refine zs_iload_n (pc := 0) t39_0 rfl ?_
  refine zs_iload_n (pc := 1) t39_1 rfl ?_
  refine zs_icmp_ltF (pc := 2) t39_2 rfl li1 (by omega) ?_
  refine zs_iload_n (pc := 5) t39_5 rfl ?_
  refine zs_iload_n (pc := 6) t39_6 rfl ?_
  refine zs_icmp_gtF (pc := 7) t39_7 rfl li200 (by omega) ?_
  refine zs_iconst (pc := 10) t39_10 (v := 1) (by decide) ?_
  refine zs_goto (pc := 11) t39_11 ?_
  refine zs_iret (pc := 15) t39_15 mr39 (by decide) ?_
  show zGo X l 1 0 0 189 8 [(0, .int a), (1, .int b), (2, .int d)] [.int (1 : Int32)] zMc _
  refine zs_if_eqF (pc := 8) t189_8 li1 (by decide) ?_
  refine zs_iload_n (pc := 11) t189_11 rfl ?_
  refine zs_iconst (pc := 12) t189_12 (v := 1) (by decide) ?_
  refine zs_sipush (pc := 13) t189_13 (v := 999) (by decide) ?_
  refine zs_invS (pc := 16) (as := [.int b, .int (1 : Int32), .int (999 : Int32)]) (st := []) t189_16 (by decide) mf39 rfl rfl ⟨by decide, by decide, Nat.le_of_ble_eq_true rfl, Nat.le_of_ble_eq_true rfl⟩ (zs_in (by decide) mf39 (Nat.le_of_ble_eq_true rfl) ?_) (fun _ _ q => q)
  show zGo X l 0 0 0 39 0 [(0, .int b), (1, .int (1 : Int32)), (2, .int (999 : Int32))] [] zMc _
  refine zs_iload_n (pc := 0) t39_0 rfl ?_
  refine zs_iload_n (pc := 1) t39_1 rfl ?_
  refine zs_icmp_ltT (pc := 2) t39_2 rfl li1 (by omega) ?_
  refine zs_iconst (pc := 14) t39_14 (v := 0) (by decide) ?_
  refine zs_iret (pc := 15) t39_15 mr39 (by decide) ?_
  show zGo X l 1 0 0 189 19 [(0, .int a), (1, .int b), (2, .int d)] [.int (0 : Int32)] zMc _
  refine zs_if_eqT (pc := 19) t189_19 li0 (by decide) ?_
  refine zs_iconst (pc := 36) t189_36 (v := 0) (by decide) ?_
  refine zs_iret (pc := 37) t189_37 mr189 (by decide) ?_
  show zGo X l 7 0 0 188 7 [(0, .ref 6), (1, .int a), (2, .int b), (3, .int c), (4, .int d), (5, .int e)] [.int (0 : Int32)] zMc _
  refine zs_if_eqT (pc := 7) t188_7 li0 (by decide) ?_
  refine zs_iconst (pc := 20) t188_20 (v := -1) (by decide) ?_
  exact zs_iret (pc := 21) t188_21 mr188 (by decide) rfl
theorem m21_2 {X : zX} {l : Launch} {a b c d e : Int32} (la : 1 ≤ a.toInt) (ua : a.toInt ≤ 200) (lb : (-2147483648) ≤ b.toInt) (ub : b.toInt ≤ 0) : zCall X l 9 0 0 323 [.ref 336, .int a, .int b, .int c, .int d, .int e] zMm (fun r _ => r = some (.int (-1 : Int32))) := by
  have ga := zrg a
  have gb := zrg b
  have gc := zrg c
  have gd := zrg d
  have ge := zrg e
  refine zs_in (by decide) mf323 (Nat.le_of_ble_eq_true rfl) ?_
  show zGo X l 9 0 0 323 0 [(0, .ref 336), (1, .int a), (2, .int b), (3, .int c), (4, .int d), (5, .int e)] [] zMm _
  refine zs_iload_n (pc := 0) t323_0 rfl ?_
  refine zs_iload_n (pc := 1) t323_1 rfl ?_
  refine zs_iload_n (pc := 2) t323_2 rfl ?_
  refine zs_iload (pc := 3) t323_3 rfl ?_
  refine zs_invS (pc := 5) (as := [.int a, .int b, .int c, .int d]) (st := []) t323_5 (by decide) mf324 rfl rfl ⟨by decide, by decide, Nat.le_of_ble_eq_true rfl, Nat.le_of_ble_eq_true rfl⟩ (zs_in (by decide) mf324 (Nat.le_of_ble_eq_true rfl) ?_) (fun _ _ q => q)
  show zGo X l 1 0 0 324 0 [(0, .int a), (1, .int b), (2, .int c), (3, .int d)] [] zMm _
  refine zs_iload_n (pc := 0) t324_0 rfl ?_
  refine zs_i2l (pc := 1) t324_1 rfl ?_
  refine zs_lconst (pc := 2) t324_2 (v := 1) (by decide) ?_
  refine zs_ldc2_w (pc := 3) t324_3 (v := 200) (by decide) ?_
  refine zs_invS (pc := 6) (as := [.long a.toInt64, .long (1 : Int64), .long (200 : Int64)]) (st := []) t324_6 (by decide) mf228 rfl rfl ⟨by decide, by decide, Nat.le_of_ble_eq_true rfl, Nat.le_of_ble_eq_true rfl⟩ (in_T (zi2l rfl) ll1 ll200 (by omega) (by omega)) ?_
  rintro r Mi ⟨rfl, rfl⟩
  show zGo X l 1 0 0 324 9 [(0, .int a), (1, .int b), (2, .int c), (3, .int d)] [.int (1 : Int32)] zMm _
  refine zs_if_eqF (pc := 9) t324_9 li1 (by decide) ?_
  refine zs_iload_n (pc := 12) t324_12 rfl ?_
  refine zs_i2l (pc := 13) t324_13 rfl ?_
  refine zs_lconst (pc := 14) t324_14 (v := 1) (by decide) ?_
  refine zs_ldc2_w (pc := 15) t324_15 (v := 999) (by decide) ?_
  refine zs_invS (pc := 18) (as := [.long b.toInt64, .long (1 : Int64), .long (999 : Int64)]) (st := []) t324_18 (by decide) mf228 rfl rfl ⟨by decide, by decide, Nat.le_of_ble_eq_true rfl, Nat.le_of_ble_eq_true rfl⟩ (in_F (zi2l rfl) ll1 ll999 (by omega)) ?_
  rintro r Mi ⟨rfl, rfl⟩
  show zGo X l 1 0 0 324 21 [(0, .int a), (1, .int b), (2, .int c), (3, .int d)] [.int (0 : Int32)] zMm _
  refine zs_if_eqT (pc := 21) t324_21 li0 (by decide) ?_
  refine zs_iconst (pc := 52) t324_52 (v := 0) (by decide) ?_
  refine zs_iret (pc := 53) t324_53 mr324 (by decide) ?_
  show zGo X l 9 0 0 323 8 [(0, .ref 336), (1, .int a), (2, .int b), (3, .int c), (4, .int d), (5, .int e)] [.int (0 : Int32)] zMm _
  refine zs_if_eqT (pc := 8) t323_8 li0 (by decide) ?_
  refine zs_iconst (pc := 24) t323_24 (v := -1) (by decide) ?_
  exact zs_iret (pc := 25) t323_25 mr323 (by decide) rfl
theorem c21_3 {X : zX} {l : Launch} {a b c d e : Int32} (la : 1 ≤ a.toInt) (ua : a.toInt ≤ 200) (lb : 1000 ≤ b.toInt) (ub : b.toInt ≤ 2147483647) : zCall X l 7 0 0 188 [.ref 6, .int a, .int b, .int c, .int d, .int e] zMc (fun r _ => r = some (.int (-1 : Int32))) := by
  have ga := zrg a
  have gb := zrg b
  have gc := zrg c
  have gd := zrg d
  have ge := zrg e
  refine zs_in (by decide) mf188 (Nat.le_of_ble_eq_true rfl) ?_
  show zGo X l 7 0 0 188 0 [(0, .ref 6), (1, .int a), (2, .int b), (3, .int c), (4, .int d), (5, .int e)] [] zMc _
  refine zs_iload_n (pc := 0) t188_0 rfl ?_
  refine zs_iload_n (pc := 1) t188_1 rfl ?_
  refine zs_iload (pc := 2) t188_2 rfl ?_
  refine zs_invS (pc := 4) (as := [.int a, .int b, .int d]) (st := []) t188_4 (by decide) mf189 rfl rfl ⟨by decide, by decide, Nat.le_of_ble_eq_true rfl, Nat.le_of_ble_eq_true rfl⟩ (zs_in (by decide) mf189 (Nat.le_of_ble_eq_true rfl) ?_) (fun _ _ q => q)
  show zGo X l 1 0 0 189 0 [(0, .int a), (1, .int b), (2, .int d)] [] zMc _
  refine zs_iload_n (pc := 0) t189_0 rfl ?_
  refine zs_iconst (pc := 1) t189_1 (v := 1) (by decide) ?_
  refine zs_sipush (pc := 2) t189_2 (v := 200) (by decide) ?_
  refine zs_invS (pc := 5) (as := [.int a, .int (1 : Int32), .int (200 : Int32)]) (st := []) t189_5 (by decide) mf39 rfl rfl ⟨by decide, by decide, Nat.le_of_ble_eq_true rfl, Nat.le_of_ble_eq_true rfl⟩ (zs_in (by decide) mf39 (Nat.le_of_ble_eq_true rfl) ?_) (fun _ _ q => q)
  show zGo X l 0 0 0 39 0 [(0, .int a), (1, .int (1 : Int32)), (2, .int (200 : Int32))] [] zMc _
  refine zs_iload_n (pc := 0) t39_0 rfl ?_
  refine zs_iload_n (pc := 1) t39_1 rfl ?_
  refine zs_icmp_ltF (pc := 2) t39_2 rfl li1 (by omega) ?_
  refine zs_iload_n (pc := 5) t39_5 rfl ?_
  refine zs_iload_n (pc := 6) t39_6 rfl ?_
  refine zs_icmp_gtF (pc := 7) t39_7 rfl li200 (by omega) ?_
  refine zs_iconst (pc := 10) t39_10 (v := 1) (by decide) ?_
  refine zs_goto (pc := 11) t39_11 ?_
  refine zs_iret (pc := 15) t39_15 mr39 (by decide) ?_
  show zGo X l 1 0 0 189 8 [(0, .int a), (1, .int b), (2, .int d)] [.int (1 : Int32)] zMc _
  refine zs_if_eqF (pc := 8) t189_8 li1 (by decide) ?_
  refine zs_iload_n (pc := 11) t189_11 rfl ?_
  refine zs_iconst (pc := 12) t189_12 (v := 1) (by decide) ?_
  refine zs_sipush (pc := 13) t189_13 (v := 999) (by decide) ?_
  refine zs_invS (pc := 16) (as := [.int b, .int (1 : Int32), .int (999 : Int32)]) (st := []) t189_16 (by decide) mf39 rfl rfl ⟨by decide, by decide, Nat.le_of_ble_eq_true rfl, Nat.le_of_ble_eq_true rfl⟩ (zs_in (by decide) mf39 (Nat.le_of_ble_eq_true rfl) ?_) (fun _ _ q => q)
  show zGo X l 0 0 0 39 0 [(0, .int b), (1, .int (1 : Int32)), (2, .int (999 : Int32))] [] zMc _
  refine zs_iload_n (pc := 0) t39_0 rfl ?_
  refine zs_iload_n (pc := 1) t39_1 rfl ?_
  refine zs_icmp_ltF (pc := 2) t39_2 rfl li1 (by omega) ?_
  refine zs_iload_n (pc := 5) t39_5 rfl ?_
  refine zs_iload_n (pc := 6) t39_6 rfl ?_
  refine zs_icmp_gtT (pc := 7) t39_7 rfl li999 (by omega) ?_
  refine zs_iconst (pc := 14) t39_14 (v := 0) (by decide) ?_
  refine zs_iret (pc := 15) t39_15 mr39 (by decide) ?_
  show zGo X l 1 0 0 189 19 [(0, .int a), (1, .int b), (2, .int d)] [.int (0 : Int32)] zMc _
  refine zs_if_eqT (pc := 19) t189_19 li0 (by decide) ?_
  refine zs_iconst (pc := 36) t189_36 (v := 0) (by decide) ?_
  refine zs_iret (pc := 37) t189_37 mr189 (by decide) ?_
  show zGo X l 7 0 0 188 7 [(0, .ref 6), (1, .int a), (2, .int b), (3, .int c), (4, .int d), (5, .int e)] [.int (0 : Int32)] zMc _
  refine zs_if_eqT (pc := 7) t188_7 li0 (by decide) ?_
  refine zs_iconst (pc := 20) t188_20 (v := -1) (by decide) ?_
  exact zs_iret (pc := 21) t188_21 mr188 (by decide) rfl
theorem m21_3 {X : zX} {l : Launch} {a b c d e : Int32} (la : 1 ≤ a.toInt) (ua : a.toInt ≤ 200) (lb : 1000 ≤ b.toInt) (ub : b.toInt ≤ 2147483647) : zCall X l 9 0 0 323 [.ref 336, .int a, .int b, .int c, .int d, .int e] zMm (fun r _ => r = some (.int (-1 : Int32))) := by
  have ga := zrg a
  have gb := zrg b
  have gc := zrg c
  have gd := zrg d
  have ge := zrg e
  refine zs_in (by decide) mf323 (Nat.le_of_ble_eq_true rfl) ?_
  show zGo X l 9 0 0 323 0 [(0, .ref 336), (1, .int a), (2, .int b), (3, .int c), (4, .int d), (5, .int e)] [] zMm _
  refine zs_iload_n (pc := 0) t323_0 rfl ?_
  refine zs_iload_n (pc := 1) t323_1 rfl ?_
  refine zs_iload_n (pc := 2) t323_2 rfl ?_
  refine zs_iload (pc := 3) t323_3 rfl ?_
  refine zs_invS (pc := 5) (as := [.int a, .int b, .int c, .int d]) (st := []) t323_5 (by decide) mf324 rfl rfl ⟨by decide, by decide, Nat.le_of_ble_eq_true rfl, Nat.le_of_ble_eq_true rfl⟩ (zs_in (by decide) mf324 (Nat.le_of_ble_eq_true rfl) ?_) (fun _ _ q => q)
  show zGo X l 1 0 0 324 0 [(0, .int a), (1, .int b), (2, .int c), (3, .int d)] [] zMm _
  refine zs_iload_n (pc := 0) t324_0 rfl ?_
  refine zs_i2l (pc := 1) t324_1 rfl ?_
  refine zs_lconst (pc := 2) t324_2 (v := 1) (by decide) ?_
  refine zs_ldc2_w (pc := 3) t324_3 (v := 200) (by decide) ?_
  refine zs_invS (pc := 6) (as := [.long a.toInt64, .long (1 : Int64), .long (200 : Int64)]) (st := []) t324_6 (by decide) mf228 rfl rfl ⟨by decide, by decide, Nat.le_of_ble_eq_true rfl, Nat.le_of_ble_eq_true rfl⟩ (in_T (zi2l rfl) ll1 ll200 (by omega) (by omega)) ?_
  rintro r Mi ⟨rfl, rfl⟩
  show zGo X l 1 0 0 324 9 [(0, .int a), (1, .int b), (2, .int c), (3, .int d)] [.int (1 : Int32)] zMm _
  refine zs_if_eqF (pc := 9) t324_9 li1 (by decide) ?_
  refine zs_iload_n (pc := 12) t324_12 rfl ?_
  refine zs_i2l (pc := 13) t324_13 rfl ?_
  refine zs_lconst (pc := 14) t324_14 (v := 1) (by decide) ?_
  refine zs_ldc2_w (pc := 15) t324_15 (v := 999) (by decide) ?_
  refine zs_invS (pc := 18) (as := [.long b.toInt64, .long (1 : Int64), .long (999 : Int64)]) (st := []) t324_18 (by decide) mf228 rfl rfl ⟨by decide, by decide, Nat.le_of_ble_eq_true rfl, Nat.le_of_ble_eq_true rfl⟩ (in_F (zi2l rfl) ll1 ll999 (by omega)) ?_
  rintro r Mi ⟨rfl, rfl⟩
  show zGo X l 1 0 0 324 21 [(0, .int a), (1, .int b), (2, .int c), (3, .int d)] [.int (0 : Int32)] zMm _
  refine zs_if_eqT (pc := 21) t324_21 li0 (by decide) ?_
  refine zs_iconst (pc := 52) t324_52 (v := 0) (by decide) ?_
  refine zs_iret (pc := 53) t324_53 mr324 (by decide) ?_
  show zGo X l 9 0 0 323 8 [(0, .ref 336), (1, .int a), (2, .int b), (3, .int c), (4, .int d), (5, .int e)] [.int (0 : Int32)] zMm _
  refine zs_if_eqT (pc := 8) t323_8 li0 (by decide) ?_
  refine zs_iconst (pc := 24) t323_24 (v := -1) (by decide) ?_
  exact zs_iret (pc := 25) t323_25 mr323 (by decide) rfl
theorem c21_4 {X : zX} {l : Launch} {a b c d e : Int32} (la : 1 ≤ a.toInt) (ua : a.toInt ≤ 200) (lb : 1 ≤ b.toInt) (ub : b.toInt ≤ 999) (lc : (-2147483648) ≤ c.toInt) (uc : c.toInt ≤ 0) : zCall X l 7 0 0 188 [.ref 6, .int a, .int b, .int c, .int d, .int e] zMc (fun r _ => r = some (.int (-1 : Int32))) := by
  have ga := zrg a
  have gb := zrg b
  have gc := zrg c
  have gd := zrg d
  have ge := zrg e
  refine zs_in (by decide) mf188 (Nat.le_of_ble_eq_true rfl) ?_
  show zGo X l 7 0 0 188 0 [(0, .ref 6), (1, .int a), (2, .int b), (3, .int c), (4, .int d), (5, .int e)] [] zMc _
  refine zs_iload_n (pc := 0) t188_0 rfl ?_
  refine zs_iload_n (pc := 1) t188_1 rfl ?_
  refine zs_iload (pc := 2) t188_2 rfl ?_
  refine zs_invS (pc := 4) (as := [.int a, .int b, .int d]) (st := []) t188_4 (by decide) mf189 rfl rfl ⟨by decide, by decide, Nat.le_of_ble_eq_true rfl, Nat.le_of_ble_eq_true rfl⟩ (zs_in (by decide) mf189 (Nat.le_of_ble_eq_true rfl) ?_) (fun _ _ q => q)
  show zGo X l 1 0 0 189 0 [(0, .int a), (1, .int b), (2, .int d)] [] zMc _
  refine zs_iload_n (pc := 0) t189_0 rfl ?_
  refine zs_iconst (pc := 1) t189_1 (v := 1) (by decide) ?_
  refine zs_sipush (pc := 2) t189_2 (v := 200) (by decide) ?_
  refine zs_invS (pc := 5) (as := [.int a, .int (1 : Int32), .int (200 : Int32)]) (st := []) t189_5 (by decide) mf39 rfl rfl ⟨by decide, by decide, Nat.le_of_ble_eq_true rfl, Nat.le_of_ble_eq_true rfl⟩ (zs_in (by decide) mf39 (Nat.le_of_ble_eq_true rfl) ?_) (fun _ _ q => q)
  show zGo X l 0 0 0 39 0 [(0, .int a), (1, .int (1 : Int32)), (2, .int (200 : Int32))] [] zMc _
  refine zs_iload_n (pc := 0) t39_0 rfl ?_
  refine zs_iload_n (pc := 1) t39_1 rfl ?_
  refine zs_icmp_ltF (pc := 2) t39_2 rfl li1 (by omega) ?_
  refine zs_iload_n (pc := 5) t39_5 rfl ?_
  refine zs_iload_n (pc := 6) t39_6 rfl ?_
  refine zs_icmp_gtF (pc := 7) t39_7 rfl li200 (by omega) ?_
  refine zs_iconst (pc := 10) t39_10 (v := 1) (by decide) ?_
  refine zs_goto (pc := 11) t39_11 ?_
  refine zs_iret (pc := 15) t39_15 mr39 (by decide) ?_
  show zGo X l 1 0 0 189 8 [(0, .int a), (1, .int b), (2, .int d)] [.int (1 : Int32)] zMc _
  refine zs_if_eqF (pc := 8) t189_8 li1 (by decide) ?_
  refine zs_iload_n (pc := 11) t189_11 rfl ?_
  refine zs_iconst (pc := 12) t189_12 (v := 1) (by decide) ?_
  refine zs_sipush (pc := 13) t189_13 (v := 999) (by decide) ?_
  refine zs_invS (pc := 16) (as := [.int b, .int (1 : Int32), .int (999 : Int32)]) (st := []) t189_16 (by decide) mf39 rfl rfl ⟨by decide, by decide, Nat.le_of_ble_eq_true rfl, Nat.le_of_ble_eq_true rfl⟩ (zs_in (by decide) mf39 (Nat.le_of_ble_eq_true rfl) ?_) (fun _ _ q => q)
  show zGo X l 0 0 0 39 0 [(0, .int b), (1, .int (1 : Int32)), (2, .int (999 : Int32))] [] zMc _
  refine zs_iload_n (pc := 0) t39_0 rfl ?_
  refine zs_iload_n (pc := 1) t39_1 rfl ?_
  refine zs_icmp_ltF (pc := 2) t39_2 rfl li1 (by omega) ?_
  refine zs_iload_n (pc := 5) t39_5 rfl ?_
  refine zs_iload_n (pc := 6) t39_6 rfl ?_
  refine zs_icmp_gtF (pc := 7) t39_7 rfl li999 (by omega) ?_
  refine zs_iconst (pc := 10) t39_10 (v := 1) (by decide) ?_
  refine zs_goto (pc := 11) t39_11 ?_
  refine zs_iret (pc := 15) t39_15 mr39 (by decide) ?_
  show zGo X l 1 0 0 189 19 [(0, .int a), (1, .int b), (2, .int d)] [.int (1 : Int32)] zMc _
  refine zs_if_eqF (pc := 19) t189_19 li1 (by decide) ?_
  refine zs_iload_n (pc := 22) t189_22 rfl ?_
  refine zs_iconst (pc := 23) t189_23 (v := 0) (by decide) ?_
  refine zs_bipush (pc := 24) t189_24 (v := 50) (by decide) ?_
  refine zs_invS (pc := 26) (as := [.int d, .int (0 : Int32), .int (50 : Int32)]) (st := []) t189_26 (by decide) mf39 rfl rfl ⟨by decide, by decide, Nat.le_of_ble_eq_true rfl, Nat.le_of_ble_eq_true rfl⟩ (zs_in (by decide) mf39 (Nat.le_of_ble_eq_true rfl) ?_) (fun _ _ q => q)
  show zGo X l 0 0 0 39 0 [(0, .int d), (1, .int (0 : Int32)), (2, .int (50 : Int32))] [] zMc _
  refine zs_iload_n (pc := 0) t39_0 rfl ?_
  refine zs_iload_n (pc := 1) t39_1 rfl ?_
  by_cases w1 : d.toInt < 0
  · refine zs_icmp_ltT (pc := 2) t39_2 rfl li0 (by omega) ?_
    refine zs_iconst (pc := 14) t39_14 (v := 0) (by decide) ?_
    refine zs_iret (pc := 15) t39_15 mr39 (by decide) ?_
    show zGo X l 1 0 0 189 29 [(0, .int a), (1, .int b), (2, .int d)] [.int (0 : Int32)] zMc _
    refine zs_if_eqT (pc := 29) t189_29 li0 (by decide) ?_
    refine zs_iconst (pc := 36) t189_36 (v := 0) (by decide) ?_
    refine zs_iret (pc := 37) t189_37 mr189 (by decide) ?_
    show zGo X l 7 0 0 188 7 [(0, .ref 6), (1, .int a), (2, .int b), (3, .int c), (4, .int d), (5, .int e)] [.int (0 : Int32)] zMc _
    refine zs_if_eqT (pc := 7) t188_7 li0 (by decide) ?_
    refine zs_iconst (pc := 20) t188_20 (v := -1) (by decide) ?_
    exact zs_iret (pc := 21) t188_21 mr188 (by decide) rfl
  · refine zs_icmp_ltF (pc := 2) t39_2 rfl li0 (by omega) ?_
    refine zs_iload_n (pc := 5) t39_5 rfl ?_
    refine zs_iload_n (pc := 6) t39_6 rfl ?_
    by_cases w2 : 50 < d.toInt
    · refine zs_icmp_gtT (pc := 7) t39_7 rfl li50 (by omega) ?_
      refine zs_iconst (pc := 14) t39_14 (v := 0) (by decide) ?_
      refine zs_iret (pc := 15) t39_15 mr39 (by decide) ?_
      show zGo X l 1 0 0 189 29 [(0, .int a), (1, .int b), (2, .int d)] [.int (0 : Int32)] zMc _
      refine zs_if_eqT (pc := 29) t189_29 li0 (by decide) ?_
      refine zs_iconst (pc := 36) t189_36 (v := 0) (by decide) ?_
      refine zs_iret (pc := 37) t189_37 mr189 (by decide) ?_
      show zGo X l 7 0 0 188 7 [(0, .ref 6), (1, .int a), (2, .int b), (3, .int c), (4, .int d), (5, .int e)] [.int (0 : Int32)] zMc _
      refine zs_if_eqT (pc := 7) t188_7 li0 (by decide) ?_
      refine zs_iconst (pc := 20) t188_20 (v := -1) (by decide) ?_
      exact zs_iret (pc := 21) t188_21 mr188 (by decide) rfl
    · refine zs_icmp_gtF (pc := 7) t39_7 rfl li50 (by omega) ?_
      refine zs_iconst (pc := 10) t39_10 (v := 1) (by decide) ?_
      refine zs_goto (pc := 11) t39_11 ?_
      refine zs_iret (pc := 15) t39_15 mr39 (by decide) ?_
      show zGo X l 1 0 0 189 29 [(0, .int a), (1, .int b), (2, .int d)] [.int (1 : Int32)] zMc _
      refine zs_if_eqF (pc := 29) t189_29 li1 (by decide) ?_
      refine zs_iconst (pc := 32) t189_32 (v := 1) (by decide) ?_
      refine zs_goto (pc := 33) t189_33 ?_
      refine zs_iret (pc := 37) t189_37 mr189 (by decide) ?_
      show zGo X l 7 0 0 188 7 [(0, .ref 6), (1, .int a), (2, .int b), (3, .int c), (4, .int d), (5, .int e)] [.int (1 : Int32)] zMc _
      refine zs_if_eqF (pc := 7) t188_7 li1 (by decide) ?_
      refine zs_iload_n (pc := 10) t188_10 rfl ?_
      refine zs_iconst (pc := 11) t188_11 (v := 1) (by decide) ?_
      refine zs_bipush (pc := 12) t188_12 (v := 8) (by decide) ?_
      refine zs_invS (pc := 14) (as := [.int c, .int (1 : Int32), .int (8 : Int32)]) (st := []) t188_14 (by decide) mf39 rfl rfl ⟨by decide, by decide, Nat.le_of_ble_eq_true rfl, Nat.le_of_ble_eq_true rfl⟩ (zs_in (by decide) mf39 (Nat.le_of_ble_eq_true rfl) ?_) (fun _ _ q => q)
      show zGo X l 0 0 0 39 0 [(0, .int c), (1, .int (1 : Int32)), (2, .int (8 : Int32))] [] zMc _
      refine zs_iload_n (pc := 0) t39_0 rfl ?_
      refine zs_iload_n (pc := 1) t39_1 rfl ?_
      refine zs_icmp_ltT (pc := 2) t39_2 rfl li1 (by omega) ?_
      refine zs_iconst (pc := 14) t39_14 (v := 0) (by decide) ?_
      refine zs_iret (pc := 15) t39_15 mr39 (by decide) ?_
      show zGo X l 7 0 0 188 17 [(0, .ref 6), (1, .int a), (2, .int b), (3, .int c), (4, .int d), (5, .int e)] [.int (0 : Int32)] zMc _
      refine zs_if_neF (pc := 17) t188_17 li0 (by decide) ?_
      refine zs_iconst (pc := 20) t188_20 (v := -1) (by decide) ?_
      exact zs_iret (pc := 21) t188_21 mr188 (by decide) rfl
theorem m21_4 {X : zX} {l : Launch} {a b c d e : Int32} (la : 1 ≤ a.toInt) (ua : a.toInt ≤ 200) (lb : 1 ≤ b.toInt) (ub : b.toInt ≤ 999) (lc : (-2147483648) ≤ c.toInt) (uc : c.toInt ≤ 0) : zCall X l 9 0 0 323 [.ref 336, .int a, .int b, .int c, .int d, .int e] zMm (fun r _ => r = some (.int (-1 : Int32))) := by
  have ga := zrg a
  have gb := zrg b
  have gc := zrg c
  have gd := zrg d
  have ge := zrg e
  refine zs_in (by decide) mf323 (Nat.le_of_ble_eq_true rfl) ?_
  show zGo X l 9 0 0 323 0 [(0, .ref 336), (1, .int a), (2, .int b), (3, .int c), (4, .int d), (5, .int e)] [] zMm _
  refine zs_iload_n (pc := 0) t323_0 rfl ?_
  refine zs_iload_n (pc := 1) t323_1 rfl ?_
  refine zs_iload_n (pc := 2) t323_2 rfl ?_
  refine zs_iload (pc := 3) t323_3 rfl ?_
  refine zs_invS (pc := 5) (as := [.int a, .int b, .int c, .int d]) (st := []) t323_5 (by decide) mf324 rfl rfl ⟨by decide, by decide, Nat.le_of_ble_eq_true rfl, Nat.le_of_ble_eq_true rfl⟩ (zs_in (by decide) mf324 (Nat.le_of_ble_eq_true rfl) ?_) (fun _ _ q => q)
  show zGo X l 1 0 0 324 0 [(0, .int a), (1, .int b), (2, .int c), (3, .int d)] [] zMm _
  refine zs_iload_n (pc := 0) t324_0 rfl ?_
  refine zs_i2l (pc := 1) t324_1 rfl ?_
  refine zs_lconst (pc := 2) t324_2 (v := 1) (by decide) ?_
  refine zs_ldc2_w (pc := 3) t324_3 (v := 200) (by decide) ?_
  refine zs_invS (pc := 6) (as := [.long a.toInt64, .long (1 : Int64), .long (200 : Int64)]) (st := []) t324_6 (by decide) mf228 rfl rfl ⟨by decide, by decide, Nat.le_of_ble_eq_true rfl, Nat.le_of_ble_eq_true rfl⟩ (in_T (zi2l rfl) ll1 ll200 (by omega) (by omega)) ?_
  rintro r Mi ⟨rfl, rfl⟩
  show zGo X l 1 0 0 324 9 [(0, .int a), (1, .int b), (2, .int c), (3, .int d)] [.int (1 : Int32)] zMm _
  refine zs_if_eqF (pc := 9) t324_9 li1 (by decide) ?_
  refine zs_iload_n (pc := 12) t324_12 rfl ?_
  refine zs_i2l (pc := 13) t324_13 rfl ?_
  refine zs_lconst (pc := 14) t324_14 (v := 1) (by decide) ?_
  refine zs_ldc2_w (pc := 15) t324_15 (v := 999) (by decide) ?_
  refine zs_invS (pc := 18) (as := [.long b.toInt64, .long (1 : Int64), .long (999 : Int64)]) (st := []) t324_18 (by decide) mf228 rfl rfl ⟨by decide, by decide, Nat.le_of_ble_eq_true rfl, Nat.le_of_ble_eq_true rfl⟩ (in_T (zi2l rfl) ll1 ll999 (by omega) (by omega)) ?_
  rintro r Mi ⟨rfl, rfl⟩
  show zGo X l 1 0 0 324 21 [(0, .int a), (1, .int b), (2, .int c), (3, .int d)] [.int (1 : Int32)] zMm _
  refine zs_if_eqF (pc := 21) t324_21 li1 (by decide) ?_
  refine zs_iload_n (pc := 24) t324_24 rfl ?_
  refine zs_i2l (pc := 25) t324_25 rfl ?_
  refine zs_lconst (pc := 26) t324_26 (v := 1) (by decide) ?_
  refine zs_ldc2_w (pc := 27) t324_27 (v := 8) (by decide) ?_
  refine zs_invS (pc := 30) (as := [.long c.toInt64, .long (1 : Int64), .long (8 : Int64)]) (st := []) t324_30 (by decide) mf228 rfl rfl ⟨by decide, by decide, Nat.le_of_ble_eq_true rfl, Nat.le_of_ble_eq_true rfl⟩ (in_F (zi2l rfl) ll1 ll8 (by omega)) ?_
  rintro r Mi ⟨rfl, rfl⟩
  show zGo X l 1 0 0 324 33 [(0, .int a), (1, .int b), (2, .int c), (3, .int d)] [.int (0 : Int32)] zMm _
  refine zs_if_eqT (pc := 33) t324_33 li0 (by decide) ?_
  refine zs_iconst (pc := 52) t324_52 (v := 0) (by decide) ?_
  refine zs_iret (pc := 53) t324_53 mr324 (by decide) ?_
  show zGo X l 9 0 0 323 8 [(0, .ref 336), (1, .int a), (2, .int b), (3, .int c), (4, .int d), (5, .int e)] [.int (0 : Int32)] zMm _
  refine zs_if_eqT (pc := 8) t323_8 li0 (by decide) ?_
  refine zs_iconst (pc := 24) t323_24 (v := -1) (by decide) ?_
  exact zs_iret (pc := 25) t323_25 mr323 (by decide) rfl
theorem c21_5 {X : zX} {l : Launch} {a b c d e : Int32} (la : 1 ≤ a.toInt) (ua : a.toInt ≤ 200) (lb : 1 ≤ b.toInt) (ub : b.toInt ≤ 999) (lc : 9 ≤ c.toInt) (uc : c.toInt ≤ 2147483647) : zCall X l 7 0 0 188 [.ref 6, .int a, .int b, .int c, .int d, .int e] zMc (fun r _ => r = some (.int (-1 : Int32))) := by
  have ga := zrg a
  have gb := zrg b
  have gc := zrg c
  have gd := zrg d
  have ge := zrg e
  refine zs_in (by decide) mf188 (Nat.le_of_ble_eq_true rfl) ?_
  show zGo X l 7 0 0 188 0 [(0, .ref 6), (1, .int a), (2, .int b), (3, .int c), (4, .int d), (5, .int e)] [] zMc _
  refine zs_iload_n (pc := 0) t188_0 rfl ?_
  refine zs_iload_n (pc := 1) t188_1 rfl ?_
  refine zs_iload (pc := 2) t188_2 rfl ?_
  refine zs_invS (pc := 4) (as := [.int a, .int b, .int d]) (st := []) t188_4 (by decide) mf189 rfl rfl ⟨by decide, by decide, Nat.le_of_ble_eq_true rfl, Nat.le_of_ble_eq_true rfl⟩ (zs_in (by decide) mf189 (Nat.le_of_ble_eq_true rfl) ?_) (fun _ _ q => q)
  show zGo X l 1 0 0 189 0 [(0, .int a), (1, .int b), (2, .int d)] [] zMc _
  refine zs_iload_n (pc := 0) t189_0 rfl ?_
  refine zs_iconst (pc := 1) t189_1 (v := 1) (by decide) ?_
  refine zs_sipush (pc := 2) t189_2 (v := 200) (by decide) ?_
  refine zs_invS (pc := 5) (as := [.int a, .int (1 : Int32), .int (200 : Int32)]) (st := []) t189_5 (by decide) mf39 rfl rfl ⟨by decide, by decide, Nat.le_of_ble_eq_true rfl, Nat.le_of_ble_eq_true rfl⟩ (zs_in (by decide) mf39 (Nat.le_of_ble_eq_true rfl) ?_) (fun _ _ q => q)
  show zGo X l 0 0 0 39 0 [(0, .int a), (1, .int (1 : Int32)), (2, .int (200 : Int32))] [] zMc _
  refine zs_iload_n (pc := 0) t39_0 rfl ?_
  refine zs_iload_n (pc := 1) t39_1 rfl ?_
  refine zs_icmp_ltF (pc := 2) t39_2 rfl li1 (by omega) ?_
  refine zs_iload_n (pc := 5) t39_5 rfl ?_
  refine zs_iload_n (pc := 6) t39_6 rfl ?_
  refine zs_icmp_gtF (pc := 7) t39_7 rfl li200 (by omega) ?_
  refine zs_iconst (pc := 10) t39_10 (v := 1) (by decide) ?_
  refine zs_goto (pc := 11) t39_11 ?_
  refine zs_iret (pc := 15) t39_15 mr39 (by decide) ?_
  show zGo X l 1 0 0 189 8 [(0, .int a), (1, .int b), (2, .int d)] [.int (1 : Int32)] zMc _
  refine zs_if_eqF (pc := 8) t189_8 li1 (by decide) ?_
  refine zs_iload_n (pc := 11) t189_11 rfl ?_
  refine zs_iconst (pc := 12) t189_12 (v := 1) (by decide) ?_
  refine zs_sipush (pc := 13) t189_13 (v := 999) (by decide) ?_
  refine zs_invS (pc := 16) (as := [.int b, .int (1 : Int32), .int (999 : Int32)]) (st := []) t189_16 (by decide) mf39 rfl rfl ⟨by decide, by decide, Nat.le_of_ble_eq_true rfl, Nat.le_of_ble_eq_true rfl⟩ (zs_in (by decide) mf39 (Nat.le_of_ble_eq_true rfl) ?_) (fun _ _ q => q)
  show zGo X l 0 0 0 39 0 [(0, .int b), (1, .int (1 : Int32)), (2, .int (999 : Int32))] [] zMc _
  refine zs_iload_n (pc := 0) t39_0 rfl ?_
  refine zs_iload_n (pc := 1) t39_1 rfl ?_
  refine zs_icmp_ltF (pc := 2) t39_2 rfl li1 (by omega) ?_
  refine zs_iload_n (pc := 5) t39_5 rfl ?_
  refine zs_iload_n (pc := 6) t39_6 rfl ?_
  refine zs_icmp_gtF (pc := 7) t39_7 rfl li999 (by omega) ?_
  refine zs_iconst (pc := 10) t39_10 (v := 1) (by decide) ?_
  refine zs_goto (pc := 11) t39_11 ?_
  refine zs_iret (pc := 15) t39_15 mr39 (by decide) ?_
  show zGo X l 1 0 0 189 19 [(0, .int a), (1, .int b), (2, .int d)] [.int (1 : Int32)] zMc _
  refine zs_if_eqF (pc := 19) t189_19 li1 (by decide) ?_
  refine zs_iload_n (pc := 22) t189_22 rfl ?_
  refine zs_iconst (pc := 23) t189_23 (v := 0) (by decide) ?_
  refine zs_bipush (pc := 24) t189_24 (v := 50) (by decide) ?_
  refine zs_invS (pc := 26) (as := [.int d, .int (0 : Int32), .int (50 : Int32)]) (st := []) t189_26 (by decide) mf39 rfl rfl ⟨by decide, by decide, Nat.le_of_ble_eq_true rfl, Nat.le_of_ble_eq_true rfl⟩ (zs_in (by decide) mf39 (Nat.le_of_ble_eq_true rfl) ?_) (fun _ _ q => q)
  show zGo X l 0 0 0 39 0 [(0, .int d), (1, .int (0 : Int32)), (2, .int (50 : Int32))] [] zMc _
  refine zs_iload_n (pc := 0) t39_0 rfl ?_
  refine zs_iload_n (pc := 1) t39_1 rfl ?_
  by_cases w1 : d.toInt < 0
  · refine zs_icmp_ltT (pc := 2) t39_2 rfl li0 (by omega) ?_
    refine zs_iconst (pc := 14) t39_14 (v := 0) (by decide) ?_
    refine zs_iret (pc := 15) t39_15 mr39 (by decide) ?_
    show zGo X l 1 0 0 189 29 [(0, .int a), (1, .int b), (2, .int d)] [.int (0 : Int32)] zMc _
    refine zs_if_eqT (pc := 29) t189_29 li0 (by decide) ?_
    refine zs_iconst (pc := 36) t189_36 (v := 0) (by decide) ?_
    refine zs_iret (pc := 37) t189_37 mr189 (by decide) ?_
    show zGo X l 7 0 0 188 7 [(0, .ref 6), (1, .int a), (2, .int b), (3, .int c), (4, .int d), (5, .int e)] [.int (0 : Int32)] zMc _
    refine zs_if_eqT (pc := 7) t188_7 li0 (by decide) ?_
    refine zs_iconst (pc := 20) t188_20 (v := -1) (by decide) ?_
    exact zs_iret (pc := 21) t188_21 mr188 (by decide) rfl
  · refine zs_icmp_ltF (pc := 2) t39_2 rfl li0 (by omega) ?_
    refine zs_iload_n (pc := 5) t39_5 rfl ?_
    refine zs_iload_n (pc := 6) t39_6 rfl ?_
    by_cases w2 : 50 < d.toInt
    · refine zs_icmp_gtT (pc := 7) t39_7 rfl li50 (by omega) ?_
      refine zs_iconst (pc := 14) t39_14 (v := 0) (by decide) ?_
      refine zs_iret (pc := 15) t39_15 mr39 (by decide) ?_
      show zGo X l 1 0 0 189 29 [(0, .int a), (1, .int b), (2, .int d)] [.int (0 : Int32)] zMc _
      refine zs_if_eqT (pc := 29) t189_29 li0 (by decide) ?_
      refine zs_iconst (pc := 36) t189_36 (v := 0) (by decide) ?_
      refine zs_iret (pc := 37) t189_37 mr189 (by decide) ?_
      show zGo X l 7 0 0 188 7 [(0, .ref 6), (1, .int a), (2, .int b), (3, .int c), (4, .int d), (5, .int e)] [.int (0 : Int32)] zMc _
      refine zs_if_eqT (pc := 7) t188_7 li0 (by decide) ?_
      refine zs_iconst (pc := 20) t188_20 (v := -1) (by decide) ?_
      exact zs_iret (pc := 21) t188_21 mr188 (by decide) rfl
    · refine zs_icmp_gtF (pc := 7) t39_7 rfl li50 (by omega) ?_
      refine zs_iconst (pc := 10) t39_10 (v := 1) (by decide) ?_
      refine zs_goto (pc := 11) t39_11 ?_
      refine zs_iret (pc := 15) t39_15 mr39 (by decide) ?_
      show zGo X l 1 0 0 189 29 [(0, .int a), (1, .int b), (2, .int d)] [.int (1 : Int32)] zMc _
      refine zs_if_eqF (pc := 29) t189_29 li1 (by decide) ?_
      refine zs_iconst (pc := 32) t189_32 (v := 1) (by decide) ?_
      refine zs_goto (pc := 33) t189_33 ?_
      refine zs_iret (pc := 37) t189_37 mr189 (by decide) ?_
      show zGo X l 7 0 0 188 7 [(0, .ref 6), (1, .int a), (2, .int b), (3, .int c), (4, .int d), (5, .int e)] [.int (1 : Int32)] zMc _
      refine zs_if_eqF (pc := 7) t188_7 li1 (by decide) ?_
      refine zs_iload_n (pc := 10) t188_10 rfl ?_
      refine zs_iconst (pc := 11) t188_11 (v := 1) (by decide) ?_
      refine zs_bipush (pc := 12) t188_12 (v := 8) (by decide) ?_
      refine zs_invS (pc := 14) (as := [.int c, .int (1 : Int32), .int (8 : Int32)]) (st := []) t188_14 (by decide) mf39 rfl rfl ⟨by decide, by decide, Nat.le_of_ble_eq_true rfl, Nat.le_of_ble_eq_true rfl⟩ (zs_in (by decide) mf39 (Nat.le_of_ble_eq_true rfl) ?_) (fun _ _ q => q)
      show zGo X l 0 0 0 39 0 [(0, .int c), (1, .int (1 : Int32)), (2, .int (8 : Int32))] [] zMc _
      refine zs_iload_n (pc := 0) t39_0 rfl ?_
      refine zs_iload_n (pc := 1) t39_1 rfl ?_
      refine zs_icmp_ltF (pc := 2) t39_2 rfl li1 (by omega) ?_
      refine zs_iload_n (pc := 5) t39_5 rfl ?_
      refine zs_iload_n (pc := 6) t39_6 rfl ?_
      refine zs_icmp_gtT (pc := 7) t39_7 rfl li8 (by omega) ?_
      refine zs_iconst (pc := 14) t39_14 (v := 0) (by decide) ?_
      refine zs_iret (pc := 15) t39_15 mr39 (by decide) ?_
      show zGo X l 7 0 0 188 17 [(0, .ref 6), (1, .int a), (2, .int b), (3, .int c), (4, .int d), (5, .int e)] [.int (0 : Int32)] zMc _
      refine zs_if_neF (pc := 17) t188_17 li0 (by decide) ?_
      refine zs_iconst (pc := 20) t188_20 (v := -1) (by decide) ?_
      exact zs_iret (pc := 21) t188_21 mr188 (by decide) rfl
theorem m21_5 {X : zX} {l : Launch} {a b c d e : Int32} (la : 1 ≤ a.toInt) (ua : a.toInt ≤ 200) (lb : 1 ≤ b.toInt) (ub : b.toInt ≤ 999) (lc : 9 ≤ c.toInt) (uc : c.toInt ≤ 2147483647) : zCall X l 9 0 0 323 [.ref 336, .int a, .int b, .int c, .int d, .int e] zMm (fun r _ => r = some (.int (-1 : Int32))) := by
  have ga := zrg a
  have gb := zrg b
  have gc := zrg c
  have gd := zrg d
  have ge := zrg e
  refine zs_in (by decide) mf323 (Nat.le_of_ble_eq_true rfl) ?_
  show zGo X l 9 0 0 323 0 [(0, .ref 336), (1, .int a), (2, .int b), (3, .int c), (4, .int d), (5, .int e)] [] zMm _
  refine zs_iload_n (pc := 0) t323_0 rfl ?_
  refine zs_iload_n (pc := 1) t323_1 rfl ?_
  refine zs_iload_n (pc := 2) t323_2 rfl ?_
  refine zs_iload (pc := 3) t323_3 rfl ?_
  refine zs_invS (pc := 5) (as := [.int a, .int b, .int c, .int d]) (st := []) t323_5 (by decide) mf324 rfl rfl ⟨by decide, by decide, Nat.le_of_ble_eq_true rfl, Nat.le_of_ble_eq_true rfl⟩ (zs_in (by decide) mf324 (Nat.le_of_ble_eq_true rfl) ?_) (fun _ _ q => q)
  show zGo X l 1 0 0 324 0 [(0, .int a), (1, .int b), (2, .int c), (3, .int d)] [] zMm _
  refine zs_iload_n (pc := 0) t324_0 rfl ?_
  refine zs_i2l (pc := 1) t324_1 rfl ?_
  refine zs_lconst (pc := 2) t324_2 (v := 1) (by decide) ?_
  refine zs_ldc2_w (pc := 3) t324_3 (v := 200) (by decide) ?_
  refine zs_invS (pc := 6) (as := [.long a.toInt64, .long (1 : Int64), .long (200 : Int64)]) (st := []) t324_6 (by decide) mf228 rfl rfl ⟨by decide, by decide, Nat.le_of_ble_eq_true rfl, Nat.le_of_ble_eq_true rfl⟩ (in_T (zi2l rfl) ll1 ll200 (by omega) (by omega)) ?_
  rintro r Mi ⟨rfl, rfl⟩
  show zGo X l 1 0 0 324 9 [(0, .int a), (1, .int b), (2, .int c), (3, .int d)] [.int (1 : Int32)] zMm _
  refine zs_if_eqF (pc := 9) t324_9 li1 (by decide) ?_
  refine zs_iload_n (pc := 12) t324_12 rfl ?_
  refine zs_i2l (pc := 13) t324_13 rfl ?_
  refine zs_lconst (pc := 14) t324_14 (v := 1) (by decide) ?_
  refine zs_ldc2_w (pc := 15) t324_15 (v := 999) (by decide) ?_
  refine zs_invS (pc := 18) (as := [.long b.toInt64, .long (1 : Int64), .long (999 : Int64)]) (st := []) t324_18 (by decide) mf228 rfl rfl ⟨by decide, by decide, Nat.le_of_ble_eq_true rfl, Nat.le_of_ble_eq_true rfl⟩ (in_T (zi2l rfl) ll1 ll999 (by omega) (by omega)) ?_
  rintro r Mi ⟨rfl, rfl⟩
  show zGo X l 1 0 0 324 21 [(0, .int a), (1, .int b), (2, .int c), (3, .int d)] [.int (1 : Int32)] zMm _
  refine zs_if_eqF (pc := 21) t324_21 li1 (by decide) ?_
  refine zs_iload_n (pc := 24) t324_24 rfl ?_
  refine zs_i2l (pc := 25) t324_25 rfl ?_
  refine zs_lconst (pc := 26) t324_26 (v := 1) (by decide) ?_
  refine zs_ldc2_w (pc := 27) t324_27 (v := 8) (by decide) ?_
  refine zs_invS (pc := 30) (as := [.long c.toInt64, .long (1 : Int64), .long (8 : Int64)]) (st := []) t324_30 (by decide) mf228 rfl rfl ⟨by decide, by decide, Nat.le_of_ble_eq_true rfl, Nat.le_of_ble_eq_true rfl⟩ (in_F (zi2l rfl) ll1 ll8 (by omega)) ?_
  rintro r Mi ⟨rfl, rfl⟩
  show zGo X l 1 0 0 324 33 [(0, .int a), (1, .int b), (2, .int c), (3, .int d)] [.int (0 : Int32)] zMm _
  refine zs_if_eqT (pc := 33) t324_33 li0 (by decide) ?_
  refine zs_iconst (pc := 52) t324_52 (v := 0) (by decide) ?_
  refine zs_iret (pc := 53) t324_53 mr324 (by decide) ?_
  show zGo X l 9 0 0 323 8 [(0, .ref 336), (1, .int a), (2, .int b), (3, .int c), (4, .int d), (5, .int e)] [.int (0 : Int32)] zMm _
  refine zs_if_eqT (pc := 8) t323_8 li0 (by decide) ?_
  refine zs_iconst (pc := 24) t323_24 (v := -1) (by decide) ?_
  exact zs_iret (pc := 25) t323_25 mr323 (by decide) rfl
theorem c21_6 {X : zX} {l : Launch} {a b c d e : Int32} (la : 1 ≤ a.toInt) (ua : a.toInt ≤ 200) (lb : 1 ≤ b.toInt) (ub : b.toInt ≤ 999) (lc : 1 ≤ c.toInt) (uc : c.toInt ≤ 8) (ld : (-2147483648) ≤ d.toInt) (ud : d.toInt ≤ (-1)) : zCall X l 7 0 0 188 [.ref 6, .int a, .int b, .int c, .int d, .int e] zMc (fun r _ => r = some (.int (-1 : Int32))) := by
  have ga := zrg a
  have gb := zrg b
  have gc := zrg c
  have gd := zrg d
  have ge := zrg e
  refine zs_in (by decide) mf188 (Nat.le_of_ble_eq_true rfl) ?_
  show zGo X l 7 0 0 188 0 [(0, .ref 6), (1, .int a), (2, .int b), (3, .int c), (4, .int d), (5, .int e)] [] zMc _
  refine zs_iload_n (pc := 0) t188_0 rfl ?_
  refine zs_iload_n (pc := 1) t188_1 rfl ?_
  refine zs_iload (pc := 2) t188_2 rfl ?_
  refine zs_invS (pc := 4) (as := [.int a, .int b, .int d]) (st := []) t188_4 (by decide) mf189 rfl rfl ⟨by decide, by decide, Nat.le_of_ble_eq_true rfl, Nat.le_of_ble_eq_true rfl⟩ (zs_in (by decide) mf189 (Nat.le_of_ble_eq_true rfl) ?_) (fun _ _ q => q)
  show zGo X l 1 0 0 189 0 [(0, .int a), (1, .int b), (2, .int d)] [] zMc _
  refine zs_iload_n (pc := 0) t189_0 rfl ?_
  refine zs_iconst (pc := 1) t189_1 (v := 1) (by decide) ?_
  refine zs_sipush (pc := 2) t189_2 (v := 200) (by decide) ?_
  refine zs_invS (pc := 5) (as := [.int a, .int (1 : Int32), .int (200 : Int32)]) (st := []) t189_5 (by decide) mf39 rfl rfl ⟨by decide, by decide, Nat.le_of_ble_eq_true rfl, Nat.le_of_ble_eq_true rfl⟩ (zs_in (by decide) mf39 (Nat.le_of_ble_eq_true rfl) ?_) (fun _ _ q => q)
  show zGo X l 0 0 0 39 0 [(0, .int a), (1, .int (1 : Int32)), (2, .int (200 : Int32))] [] zMc _
  refine zs_iload_n (pc := 0) t39_0 rfl ?_
  refine zs_iload_n (pc := 1) t39_1 rfl ?_
  refine zs_icmp_ltF (pc := 2) t39_2 rfl li1 (by omega) ?_
  refine zs_iload_n (pc := 5) t39_5 rfl ?_
  refine zs_iload_n (pc := 6) t39_6 rfl ?_
  refine zs_icmp_gtF (pc := 7) t39_7 rfl li200 (by omega) ?_
  refine zs_iconst (pc := 10) t39_10 (v := 1) (by decide) ?_
  refine zs_goto (pc := 11) t39_11 ?_
  refine zs_iret (pc := 15) t39_15 mr39 (by decide) ?_
  show zGo X l 1 0 0 189 8 [(0, .int a), (1, .int b), (2, .int d)] [.int (1 : Int32)] zMc _
  refine zs_if_eqF (pc := 8) t189_8 li1 (by decide) ?_
  refine zs_iload_n (pc := 11) t189_11 rfl ?_
  refine zs_iconst (pc := 12) t189_12 (v := 1) (by decide) ?_
  refine zs_sipush (pc := 13) t189_13 (v := 999) (by decide) ?_
  refine zs_invS (pc := 16) (as := [.int b, .int (1 : Int32), .int (999 : Int32)]) (st := []) t189_16 (by decide) mf39 rfl rfl ⟨by decide, by decide, Nat.le_of_ble_eq_true rfl, Nat.le_of_ble_eq_true rfl⟩ (zs_in (by decide) mf39 (Nat.le_of_ble_eq_true rfl) ?_) (fun _ _ q => q)
  show zGo X l 0 0 0 39 0 [(0, .int b), (1, .int (1 : Int32)), (2, .int (999 : Int32))] [] zMc _
  refine zs_iload_n (pc := 0) t39_0 rfl ?_
  refine zs_iload_n (pc := 1) t39_1 rfl ?_
  refine zs_icmp_ltF (pc := 2) t39_2 rfl li1 (by omega) ?_
  refine zs_iload_n (pc := 5) t39_5 rfl ?_
  refine zs_iload_n (pc := 6) t39_6 rfl ?_
  refine zs_icmp_gtF (pc := 7) t39_7 rfl li999 (by omega) ?_
  refine zs_iconst (pc := 10) t39_10 (v := 1) (by decide) ?_
  refine zs_goto (pc := 11) t39_11 ?_
  refine zs_iret (pc := 15) t39_15 mr39 (by decide) ?_
  show zGo X l 1 0 0 189 19 [(0, .int a), (1, .int b), (2, .int d)] [.int (1 : Int32)] zMc _
  refine zs_if_eqF (pc := 19) t189_19 li1 (by decide) ?_
  refine zs_iload_n (pc := 22) t189_22 rfl ?_
  refine zs_iconst (pc := 23) t189_23 (v := 0) (by decide) ?_
  refine zs_bipush (pc := 24) t189_24 (v := 50) (by decide) ?_
  refine zs_invS (pc := 26) (as := [.int d, .int (0 : Int32), .int (50 : Int32)]) (st := []) t189_26 (by decide) mf39 rfl rfl ⟨by decide, by decide, Nat.le_of_ble_eq_true rfl, Nat.le_of_ble_eq_true rfl⟩ (zs_in (by decide) mf39 (Nat.le_of_ble_eq_true rfl) ?_) (fun _ _ q => q)
  show zGo X l 0 0 0 39 0 [(0, .int d), (1, .int (0 : Int32)), (2, .int (50 : Int32))] [] zMc _
  refine zs_iload_n (pc := 0) t39_0 rfl ?_
  refine zs_iload_n (pc := 1) t39_1 rfl ?_
  refine zs_icmp_ltT (pc := 2) t39_2 rfl li0 (by omega) ?_
  refine zs_iconst (pc := 14) t39_14 (v := 0) (by decide) ?_
  refine zs_iret (pc := 15) t39_15 mr39 (by decide) ?_
  show zGo X l 1 0 0 189 29 [(0, .int a), (1, .int b), (2, .int d)] [.int (0 : Int32)] zMc _
  refine zs_if_eqT (pc := 29) t189_29 li0 (by decide) ?_
  refine zs_iconst (pc := 36) t189_36 (v := 0) (by decide) ?_
  refine zs_iret (pc := 37) t189_37 mr189 (by decide) ?_
  show zGo X l 7 0 0 188 7 [(0, .ref 6), (1, .int a), (2, .int b), (3, .int c), (4, .int d), (5, .int e)] [.int (0 : Int32)] zMc _
  refine zs_if_eqT (pc := 7) t188_7 li0 (by decide) ?_
  refine zs_iconst (pc := 20) t188_20 (v := -1) (by decide) ?_
  exact zs_iret (pc := 21) t188_21 mr188 (by decide) rfl
theorem m21_6 {X : zX} {l : Launch} {a b c d e : Int32} (la : 1 ≤ a.toInt) (ua : a.toInt ≤ 200) (lb : 1 ≤ b.toInt) (ub : b.toInt ≤ 999) (lc : 1 ≤ c.toInt) (uc : c.toInt ≤ 8) (ld : (-2147483648) ≤ d.toInt) (ud : d.toInt ≤ (-1)) : zCall X l 9 0 0 323 [.ref 336, .int a, .int b, .int c, .int d, .int e] zMm (fun r _ => r = some (.int (-1 : Int32))) := by
  have ga := zrg a
  have gb := zrg b
  have gc := zrg c
  have gd := zrg d
  have ge := zrg e
  refine zs_in (by decide) mf323 (Nat.le_of_ble_eq_true rfl) ?_
  show zGo X l 9 0 0 323 0 [(0, .ref 336), (1, .int a), (2, .int b), (3, .int c), (4, .int d), (5, .int e)] [] zMm _
  refine zs_iload_n (pc := 0) t323_0 rfl ?_
  refine zs_iload_n (pc := 1) t323_1 rfl ?_
  refine zs_iload_n (pc := 2) t323_2 rfl ?_
  refine zs_iload (pc := 3) t323_3 rfl ?_
  refine zs_invS (pc := 5) (as := [.int a, .int b, .int c, .int d]) (st := []) t323_5 (by decide) mf324 rfl rfl ⟨by decide, by decide, Nat.le_of_ble_eq_true rfl, Nat.le_of_ble_eq_true rfl⟩ (zs_in (by decide) mf324 (Nat.le_of_ble_eq_true rfl) ?_) (fun _ _ q => q)
  show zGo X l 1 0 0 324 0 [(0, .int a), (1, .int b), (2, .int c), (3, .int d)] [] zMm _
  refine zs_iload_n (pc := 0) t324_0 rfl ?_
  refine zs_i2l (pc := 1) t324_1 rfl ?_
  refine zs_lconst (pc := 2) t324_2 (v := 1) (by decide) ?_
  refine zs_ldc2_w (pc := 3) t324_3 (v := 200) (by decide) ?_
  refine zs_invS (pc := 6) (as := [.long a.toInt64, .long (1 : Int64), .long (200 : Int64)]) (st := []) t324_6 (by decide) mf228 rfl rfl ⟨by decide, by decide, Nat.le_of_ble_eq_true rfl, Nat.le_of_ble_eq_true rfl⟩ (in_T (zi2l rfl) ll1 ll200 (by omega) (by omega)) ?_
  rintro r Mi ⟨rfl, rfl⟩
  show zGo X l 1 0 0 324 9 [(0, .int a), (1, .int b), (2, .int c), (3, .int d)] [.int (1 : Int32)] zMm _
  refine zs_if_eqF (pc := 9) t324_9 li1 (by decide) ?_
  refine zs_iload_n (pc := 12) t324_12 rfl ?_
  refine zs_i2l (pc := 13) t324_13 rfl ?_
  refine zs_lconst (pc := 14) t324_14 (v := 1) (by decide) ?_
  refine zs_ldc2_w (pc := 15) t324_15 (v := 999) (by decide) ?_
  refine zs_invS (pc := 18) (as := [.long b.toInt64, .long (1 : Int64), .long (999 : Int64)]) (st := []) t324_18 (by decide) mf228 rfl rfl ⟨by decide, by decide, Nat.le_of_ble_eq_true rfl, Nat.le_of_ble_eq_true rfl⟩ (in_T (zi2l rfl) ll1 ll999 (by omega) (by omega)) ?_
  rintro r Mi ⟨rfl, rfl⟩
  show zGo X l 1 0 0 324 21 [(0, .int a), (1, .int b), (2, .int c), (3, .int d)] [.int (1 : Int32)] zMm _
  refine zs_if_eqF (pc := 21) t324_21 li1 (by decide) ?_
  refine zs_iload_n (pc := 24) t324_24 rfl ?_
  refine zs_i2l (pc := 25) t324_25 rfl ?_
  refine zs_lconst (pc := 26) t324_26 (v := 1) (by decide) ?_
  refine zs_ldc2_w (pc := 27) t324_27 (v := 8) (by decide) ?_
  refine zs_invS (pc := 30) (as := [.long c.toInt64, .long (1 : Int64), .long (8 : Int64)]) (st := []) t324_30 (by decide) mf228 rfl rfl ⟨by decide, by decide, Nat.le_of_ble_eq_true rfl, Nat.le_of_ble_eq_true rfl⟩ (in_T (zi2l rfl) ll1 ll8 (by omega) (by omega)) ?_
  rintro r Mi ⟨rfl, rfl⟩
  show zGo X l 1 0 0 324 33 [(0, .int a), (1, .int b), (2, .int c), (3, .int d)] [.int (1 : Int32)] zMm _
  refine zs_if_eqF (pc := 33) t324_33 li1 (by decide) ?_
  refine zs_iload_n (pc := 36) t324_36 rfl ?_
  refine zs_i2l (pc := 37) t324_37 rfl ?_
  refine zs_lconst (pc := 38) t324_38 (v := 0) (by decide) ?_
  refine zs_ldc2_w (pc := 39) t324_39 (v := 50) (by decide) ?_
  refine zs_invS (pc := 42) (as := [.long d.toInt64, .long (0 : Int64), .long (50 : Int64)]) (st := []) t324_42 (by decide) mf228 rfl rfl ⟨by decide, by decide, Nat.le_of_ble_eq_true rfl, Nat.le_of_ble_eq_true rfl⟩ (in_F (zi2l rfl) ll0 ll50 (by omega)) ?_
  rintro r Mi ⟨rfl, rfl⟩
  show zGo X l 1 0 0 324 45 [(0, .int a), (1, .int b), (2, .int c), (3, .int d)] [.int (0 : Int32)] zMm _
  refine zs_if_eqT (pc := 45) t324_45 li0 (by decide) ?_
  refine zs_iconst (pc := 52) t324_52 (v := 0) (by decide) ?_
  refine zs_iret (pc := 53) t324_53 mr324 (by decide) ?_
  show zGo X l 9 0 0 323 8 [(0, .ref 336), (1, .int a), (2, .int b), (3, .int c), (4, .int d), (5, .int e)] [.int (0 : Int32)] zMm _
  refine zs_if_eqT (pc := 8) t323_8 li0 (by decide) ?_
  refine zs_iconst (pc := 24) t323_24 (v := -1) (by decide) ?_
  exact zs_iret (pc := 25) t323_25 mr323 (by decide) rfl
theorem c21_7 {X : zX} {l : Launch} {a b c d e : Int32} (la : 1 ≤ a.toInt) (ua : a.toInt ≤ 200) (lb : 1 ≤ b.toInt) (ub : b.toInt ≤ 999) (lc : 1 ≤ c.toInt) (uc : c.toInt ≤ 8) (ld : 51 ≤ d.toInt) (ud : d.toInt ≤ 2147483647) : zCall X l 7 0 0 188 [.ref 6, .int a, .int b, .int c, .int d, .int e] zMc (fun r _ => r = some (.int (-1 : Int32))) := by
  have ga := zrg a
  have gb := zrg b
  have gc := zrg c
  have gd := zrg d
  have ge := zrg e
  refine zs_in (by decide) mf188 (Nat.le_of_ble_eq_true rfl) ?_
  show zGo X l 7 0 0 188 0 [(0, .ref 6), (1, .int a), (2, .int b), (3, .int c), (4, .int d), (5, .int e)] [] zMc _
  refine zs_iload_n (pc := 0) t188_0 rfl ?_
  refine zs_iload_n (pc := 1) t188_1 rfl ?_
  refine zs_iload (pc := 2) t188_2 rfl ?_
  refine zs_invS (pc := 4) (as := [.int a, .int b, .int d]) (st := []) t188_4 (by decide) mf189 rfl rfl ⟨by decide, by decide, Nat.le_of_ble_eq_true rfl, Nat.le_of_ble_eq_true rfl⟩ (zs_in (by decide) mf189 (Nat.le_of_ble_eq_true rfl) ?_) (fun _ _ q => q)
  show zGo X l 1 0 0 189 0 [(0, .int a), (1, .int b), (2, .int d)] [] zMc _
  refine zs_iload_n (pc := 0) t189_0 rfl ?_
  refine zs_iconst (pc := 1) t189_1 (v := 1) (by decide) ?_
  refine zs_sipush (pc := 2) t189_2 (v := 200) (by decide) ?_
  refine zs_invS (pc := 5) (as := [.int a, .int (1 : Int32), .int (200 : Int32)]) (st := []) t189_5 (by decide) mf39 rfl rfl ⟨by decide, by decide, Nat.le_of_ble_eq_true rfl, Nat.le_of_ble_eq_true rfl⟩ (zs_in (by decide) mf39 (Nat.le_of_ble_eq_true rfl) ?_) (fun _ _ q => q)
  show zGo X l 0 0 0 39 0 [(0, .int a), (1, .int (1 : Int32)), (2, .int (200 : Int32))] [] zMc _
  refine zs_iload_n (pc := 0) t39_0 rfl ?_
  refine zs_iload_n (pc := 1) t39_1 rfl ?_
  refine zs_icmp_ltF (pc := 2) t39_2 rfl li1 (by omega) ?_
  refine zs_iload_n (pc := 5) t39_5 rfl ?_
  refine zs_iload_n (pc := 6) t39_6 rfl ?_
  refine zs_icmp_gtF (pc := 7) t39_7 rfl li200 (by omega) ?_
  refine zs_iconst (pc := 10) t39_10 (v := 1) (by decide) ?_
  refine zs_goto (pc := 11) t39_11 ?_
  refine zs_iret (pc := 15) t39_15 mr39 (by decide) ?_
  show zGo X l 1 0 0 189 8 [(0, .int a), (1, .int b), (2, .int d)] [.int (1 : Int32)] zMc _
  refine zs_if_eqF (pc := 8) t189_8 li1 (by decide) ?_
  refine zs_iload_n (pc := 11) t189_11 rfl ?_
  refine zs_iconst (pc := 12) t189_12 (v := 1) (by decide) ?_
  refine zs_sipush (pc := 13) t189_13 (v := 999) (by decide) ?_
  refine zs_invS (pc := 16) (as := [.int b, .int (1 : Int32), .int (999 : Int32)]) (st := []) t189_16 (by decide) mf39 rfl rfl ⟨by decide, by decide, Nat.le_of_ble_eq_true rfl, Nat.le_of_ble_eq_true rfl⟩ (zs_in (by decide) mf39 (Nat.le_of_ble_eq_true rfl) ?_) (fun _ _ q => q)
  show zGo X l 0 0 0 39 0 [(0, .int b), (1, .int (1 : Int32)), (2, .int (999 : Int32))] [] zMc _
  refine zs_iload_n (pc := 0) t39_0 rfl ?_
  refine zs_iload_n (pc := 1) t39_1 rfl ?_
  refine zs_icmp_ltF (pc := 2) t39_2 rfl li1 (by omega) ?_
  refine zs_iload_n (pc := 5) t39_5 rfl ?_
  refine zs_iload_n (pc := 6) t39_6 rfl ?_
  refine zs_icmp_gtF (pc := 7) t39_7 rfl li999 (by omega) ?_
  refine zs_iconst (pc := 10) t39_10 (v := 1) (by decide) ?_
  refine zs_goto (pc := 11) t39_11 ?_
  refine zs_iret (pc := 15) t39_15 mr39 (by decide) ?_
  show zGo X l 1 0 0 189 19 [(0, .int a), (1, .int b), (2, .int d)] [.int (1 : Int32)] zMc _
  refine zs_if_eqF (pc := 19) t189_19 li1 (by decide) ?_
  refine zs_iload_n (pc := 22) t189_22 rfl ?_
  refine zs_iconst (pc := 23) t189_23 (v := 0) (by decide) ?_
  refine zs_bipush (pc := 24) t189_24 (v := 50) (by decide) ?_
  refine zs_invS (pc := 26) (as := [.int d, .int (0 : Int32), .int (50 : Int32)]) (st := []) t189_26 (by decide) mf39 rfl rfl ⟨by decide, by decide, Nat.le_of_ble_eq_true rfl, Nat.le_of_ble_eq_true rfl⟩ (zs_in (by decide) mf39 (Nat.le_of_ble_eq_true rfl) ?_) (fun _ _ q => q)
  show zGo X l 0 0 0 39 0 [(0, .int d), (1, .int (0 : Int32)), (2, .int (50 : Int32))] [] zMc _
  refine zs_iload_n (pc := 0) t39_0 rfl ?_
  refine zs_iload_n (pc := 1) t39_1 rfl ?_
  refine zs_icmp_ltF (pc := 2) t39_2 rfl li0 (by omega) ?_
  refine zs_iload_n (pc := 5) t39_5 rfl ?_
  refine zs_iload_n (pc := 6) t39_6 rfl ?_
  refine zs_icmp_gtT (pc := 7) t39_7 rfl li50 (by omega) ?_
  refine zs_iconst (pc := 14) t39_14 (v := 0) (by decide) ?_
  refine zs_iret (pc := 15) t39_15 mr39 (by decide) ?_
  show zGo X l 1 0 0 189 29 [(0, .int a), (1, .int b), (2, .int d)] [.int (0 : Int32)] zMc _
  refine zs_if_eqT (pc := 29) t189_29 li0 (by decide) ?_
  refine zs_iconst (pc := 36) t189_36 (v := 0) (by decide) ?_
  refine zs_iret (pc := 37) t189_37 mr189 (by decide) ?_
  show zGo X l 7 0 0 188 7 [(0, .ref 6), (1, .int a), (2, .int b), (3, .int c), (4, .int d), (5, .int e)] [.int (0 : Int32)] zMc _
  refine zs_if_eqT (pc := 7) t188_7 li0 (by decide) ?_
  refine zs_iconst (pc := 20) t188_20 (v := -1) (by decide) ?_
  exact zs_iret (pc := 21) t188_21 mr188 (by decide) rfl
theorem m21_7 {X : zX} {l : Launch} {a b c d e : Int32} (la : 1 ≤ a.toInt) (ua : a.toInt ≤ 200) (lb : 1 ≤ b.toInt) (ub : b.toInt ≤ 999) (lc : 1 ≤ c.toInt) (uc : c.toInt ≤ 8) (ld : 51 ≤ d.toInt) (ud : d.toInt ≤ 2147483647) : zCall X l 9 0 0 323 [.ref 336, .int a, .int b, .int c, .int d, .int e] zMm (fun r _ => r = some (.int (-1 : Int32))) := by
  have ga := zrg a
  have gb := zrg b
  have gc := zrg c
  have gd := zrg d
  have ge := zrg e
  refine zs_in (by decide) mf323 (Nat.le_of_ble_eq_true rfl) ?_
  show zGo X l 9 0 0 323 0 [(0, .ref 336), (1, .int a), (2, .int b), (3, .int c), (4, .int d), (5, .int e)] [] zMm _
  refine zs_iload_n (pc := 0) t323_0 rfl ?_
  refine zs_iload_n (pc := 1) t323_1 rfl ?_
  refine zs_iload_n (pc := 2) t323_2 rfl ?_
  refine zs_iload (pc := 3) t323_3 rfl ?_
  refine zs_invS (pc := 5) (as := [.int a, .int b, .int c, .int d]) (st := []) t323_5 (by decide) mf324 rfl rfl ⟨by decide, by decide, Nat.le_of_ble_eq_true rfl, Nat.le_of_ble_eq_true rfl⟩ (zs_in (by decide) mf324 (Nat.le_of_ble_eq_true rfl) ?_) (fun _ _ q => q)
  show zGo X l 1 0 0 324 0 [(0, .int a), (1, .int b), (2, .int c), (3, .int d)] [] zMm _
  refine zs_iload_n (pc := 0) t324_0 rfl ?_
  refine zs_i2l (pc := 1) t324_1 rfl ?_
  refine zs_lconst (pc := 2) t324_2 (v := 1) (by decide) ?_
  refine zs_ldc2_w (pc := 3) t324_3 (v := 200) (by decide) ?_
  refine zs_invS (pc := 6) (as := [.long a.toInt64, .long (1 : Int64), .long (200 : Int64)]) (st := []) t324_6 (by decide) mf228 rfl rfl ⟨by decide, by decide, Nat.le_of_ble_eq_true rfl, Nat.le_of_ble_eq_true rfl⟩ (in_T (zi2l rfl) ll1 ll200 (by omega) (by omega)) ?_
  rintro r Mi ⟨rfl, rfl⟩
  show zGo X l 1 0 0 324 9 [(0, .int a), (1, .int b), (2, .int c), (3, .int d)] [.int (1 : Int32)] zMm _
  refine zs_if_eqF (pc := 9) t324_9 li1 (by decide) ?_
  refine zs_iload_n (pc := 12) t324_12 rfl ?_
  refine zs_i2l (pc := 13) t324_13 rfl ?_
  refine zs_lconst (pc := 14) t324_14 (v := 1) (by decide) ?_
  refine zs_ldc2_w (pc := 15) t324_15 (v := 999) (by decide) ?_
  refine zs_invS (pc := 18) (as := [.long b.toInt64, .long (1 : Int64), .long (999 : Int64)]) (st := []) t324_18 (by decide) mf228 rfl rfl ⟨by decide, by decide, Nat.le_of_ble_eq_true rfl, Nat.le_of_ble_eq_true rfl⟩ (in_T (zi2l rfl) ll1 ll999 (by omega) (by omega)) ?_
  rintro r Mi ⟨rfl, rfl⟩
  show zGo X l 1 0 0 324 21 [(0, .int a), (1, .int b), (2, .int c), (3, .int d)] [.int (1 : Int32)] zMm _
  refine zs_if_eqF (pc := 21) t324_21 li1 (by decide) ?_
  refine zs_iload_n (pc := 24) t324_24 rfl ?_
  refine zs_i2l (pc := 25) t324_25 rfl ?_
  refine zs_lconst (pc := 26) t324_26 (v := 1) (by decide) ?_
  refine zs_ldc2_w (pc := 27) t324_27 (v := 8) (by decide) ?_
  refine zs_invS (pc := 30) (as := [.long c.toInt64, .long (1 : Int64), .long (8 : Int64)]) (st := []) t324_30 (by decide) mf228 rfl rfl ⟨by decide, by decide, Nat.le_of_ble_eq_true rfl, Nat.le_of_ble_eq_true rfl⟩ (in_T (zi2l rfl) ll1 ll8 (by omega) (by omega)) ?_
  rintro r Mi ⟨rfl, rfl⟩
  show zGo X l 1 0 0 324 33 [(0, .int a), (1, .int b), (2, .int c), (3, .int d)] [.int (1 : Int32)] zMm _
  refine zs_if_eqF (pc := 33) t324_33 li1 (by decide) ?_
  refine zs_iload_n (pc := 36) t324_36 rfl ?_
  refine zs_i2l (pc := 37) t324_37 rfl ?_
  refine zs_lconst (pc := 38) t324_38 (v := 0) (by decide) ?_
  refine zs_ldc2_w (pc := 39) t324_39 (v := 50) (by decide) ?_
  refine zs_invS (pc := 42) (as := [.long d.toInt64, .long (0 : Int64), .long (50 : Int64)]) (st := []) t324_42 (by decide) mf228 rfl rfl ⟨by decide, by decide, Nat.le_of_ble_eq_true rfl, Nat.le_of_ble_eq_true rfl⟩ (in_F (zi2l rfl) ll0 ll50 (by omega)) ?_
  rintro r Mi ⟨rfl, rfl⟩
  show zGo X l 1 0 0 324 45 [(0, .int a), (1, .int b), (2, .int c), (3, .int d)] [.int (0 : Int32)] zMm _
  refine zs_if_eqT (pc := 45) t324_45 li0 (by decide) ?_
  refine zs_iconst (pc := 52) t324_52 (v := 0) (by decide) ?_
  refine zs_iret (pc := 53) t324_53 mr324 (by decide) ?_
  show zGo X l 9 0 0 323 8 [(0, .ref 336), (1, .int a), (2, .int b), (3, .int c), (4, .int d), (5, .int e)] [.int (0 : Int32)] zMm _
  refine zs_if_eqT (pc := 8) t323_8 li0 (by decide) ?_
  refine zs_iconst (pc := 24) t323_24 (v := -1) (by decide) ?_
  exact zs_iret (pc := 25) t323_25 mr323 (by decide) rfl
theorem c21_8 {X : zX} {l : Launch} {a b c d e : Int32} (la : 1 ≤ a.toInt) (ua : a.toInt ≤ 200) (lb : 1 ≤ b.toInt) (ub : b.toInt ≤ 999) (lc : 1 ≤ c.toInt) (uc : c.toInt ≤ 8) (ld : 0 ≤ d.toInt) (ud : d.toInt ≤ 50) (le : (-2147483648) ≤ e.toInt) (ue : e.toInt ≤ (-1)) : zCall X l 7 0 0 188 [.ref 6, .int a, .int b, .int c, .int d, .int e] zMc (fun r _ => r = some (.int (-1 : Int32))) := by
  have ga := zrg a
  have gb := zrg b
  have gc := zrg c
  have gd := zrg d
  have ge := zrg e
  refine zs_in (by decide) mf188 (Nat.le_of_ble_eq_true rfl) ?_
  show zGo X l 7 0 0 188 0 [(0, .ref 6), (1, .int a), (2, .int b), (3, .int c), (4, .int d), (5, .int e)] [] zMc _
  refine zs_iload_n (pc := 0) t188_0 rfl ?_
  refine zs_iload_n (pc := 1) t188_1 rfl ?_
  refine zs_iload (pc := 2) t188_2 rfl ?_
  refine zs_invS (pc := 4) (as := [.int a, .int b, .int d]) (st := []) t188_4 (by decide) mf189 rfl rfl ⟨by decide, by decide, Nat.le_of_ble_eq_true rfl, Nat.le_of_ble_eq_true rfl⟩ (zs_in (by decide) mf189 (Nat.le_of_ble_eq_true rfl) ?_) (fun _ _ q => q)
  show zGo X l 1 0 0 189 0 [(0, .int a), (1, .int b), (2, .int d)] [] zMc _
  refine zs_iload_n (pc := 0) t189_0 rfl ?_
  refine zs_iconst (pc := 1) t189_1 (v := 1) (by decide) ?_
  refine zs_sipush (pc := 2) t189_2 (v := 200) (by decide) ?_
  refine zs_invS (pc := 5) (as := [.int a, .int (1 : Int32), .int (200 : Int32)]) (st := []) t189_5 (by decide) mf39 rfl rfl ⟨by decide, by decide, Nat.le_of_ble_eq_true rfl, Nat.le_of_ble_eq_true rfl⟩ (zs_in (by decide) mf39 (Nat.le_of_ble_eq_true rfl) ?_) (fun _ _ q => q)
  show zGo X l 0 0 0 39 0 [(0, .int a), (1, .int (1 : Int32)), (2, .int (200 : Int32))] [] zMc _
  refine zs_iload_n (pc := 0) t39_0 rfl ?_
  refine zs_iload_n (pc := 1) t39_1 rfl ?_
  refine zs_icmp_ltF (pc := 2) t39_2 rfl li1 (by omega) ?_
  refine zs_iload_n (pc := 5) t39_5 rfl ?_
  refine zs_iload_n (pc := 6) t39_6 rfl ?_
  refine zs_icmp_gtF (pc := 7) t39_7 rfl li200 (by omega) ?_
  refine zs_iconst (pc := 10) t39_10 (v := 1) (by decide) ?_
  refine zs_goto (pc := 11) t39_11 ?_
  refine zs_iret (pc := 15) t39_15 mr39 (by decide) ?_
  show zGo X l 1 0 0 189 8 [(0, .int a), (1, .int b), (2, .int d)] [.int (1 : Int32)] zMc _
  refine zs_if_eqF (pc := 8) t189_8 li1 (by decide) ?_
  refine zs_iload_n (pc := 11) t189_11 rfl ?_
  refine zs_iconst (pc := 12) t189_12 (v := 1) (by decide) ?_
  refine zs_sipush (pc := 13) t189_13 (v := 999) (by decide) ?_
  refine zs_invS (pc := 16) (as := [.int b, .int (1 : Int32), .int (999 : Int32)]) (st := []) t189_16 (by decide) mf39 rfl rfl ⟨by decide, by decide, Nat.le_of_ble_eq_true rfl, Nat.le_of_ble_eq_true rfl⟩ (zs_in (by decide) mf39 (Nat.le_of_ble_eq_true rfl) ?_) (fun _ _ q => q)
  show zGo X l 0 0 0 39 0 [(0, .int b), (1, .int (1 : Int32)), (2, .int (999 : Int32))] [] zMc _
  refine zs_iload_n (pc := 0) t39_0 rfl ?_
  refine zs_iload_n (pc := 1) t39_1 rfl ?_
  refine zs_icmp_ltF (pc := 2) t39_2 rfl li1 (by omega) ?_
  refine zs_iload_n (pc := 5) t39_5 rfl ?_
  refine zs_iload_n (pc := 6) t39_6 rfl ?_
  refine zs_icmp_gtF (pc := 7) t39_7 rfl li999 (by omega) ?_
  refine zs_iconst (pc := 10) t39_10 (v := 1) (by decide) ?_
  refine zs_goto (pc := 11) t39_11 ?_
  refine zs_iret (pc := 15) t39_15 mr39 (by decide) ?_
  show zGo X l 1 0 0 189 19 [(0, .int a), (1, .int b), (2, .int d)] [.int (1 : Int32)] zMc _
  refine zs_if_eqF (pc := 19) t189_19 li1 (by decide) ?_
  refine zs_iload_n (pc := 22) t189_22 rfl ?_
  refine zs_iconst (pc := 23) t189_23 (v := 0) (by decide) ?_
  refine zs_bipush (pc := 24) t189_24 (v := 50) (by decide) ?_
  refine zs_invS (pc := 26) (as := [.int d, .int (0 : Int32), .int (50 : Int32)]) (st := []) t189_26 (by decide) mf39 rfl rfl ⟨by decide, by decide, Nat.le_of_ble_eq_true rfl, Nat.le_of_ble_eq_true rfl⟩ (zs_in (by decide) mf39 (Nat.le_of_ble_eq_true rfl) ?_) (fun _ _ q => q)
  show zGo X l 0 0 0 39 0 [(0, .int d), (1, .int (0 : Int32)), (2, .int (50 : Int32))] [] zMc _
  refine zs_iload_n (pc := 0) t39_0 rfl ?_
  refine zs_iload_n (pc := 1) t39_1 rfl ?_
  refine zs_icmp_ltF (pc := 2) t39_2 rfl li0 (by omega) ?_
  refine zs_iload_n (pc := 5) t39_5 rfl ?_
  refine zs_iload_n (pc := 6) t39_6 rfl ?_
  refine zs_icmp_gtF (pc := 7) t39_7 rfl li50 (by omega) ?_
  refine zs_iconst (pc := 10) t39_10 (v := 1) (by decide) ?_
  refine zs_goto (pc := 11) t39_11 ?_
  refine zs_iret (pc := 15) t39_15 mr39 (by decide) ?_
  show zGo X l 1 0 0 189 29 [(0, .int a), (1, .int b), (2, .int d)] [.int (1 : Int32)] zMc _
  refine zs_if_eqF (pc := 29) t189_29 li1 (by decide) ?_
  refine zs_iconst (pc := 32) t189_32 (v := 1) (by decide) ?_
  refine zs_goto (pc := 33) t189_33 ?_
  refine zs_iret (pc := 37) t189_37 mr189 (by decide) ?_
  show zGo X l 7 0 0 188 7 [(0, .ref 6), (1, .int a), (2, .int b), (3, .int c), (4, .int d), (5, .int e)] [.int (1 : Int32)] zMc _
  refine zs_if_eqF (pc := 7) t188_7 li1 (by decide) ?_
  refine zs_iload_n (pc := 10) t188_10 rfl ?_
  refine zs_iconst (pc := 11) t188_11 (v := 1) (by decide) ?_
  refine zs_bipush (pc := 12) t188_12 (v := 8) (by decide) ?_
  refine zs_invS (pc := 14) (as := [.int c, .int (1 : Int32), .int (8 : Int32)]) (st := []) t188_14 (by decide) mf39 rfl rfl ⟨by decide, by decide, Nat.le_of_ble_eq_true rfl, Nat.le_of_ble_eq_true rfl⟩ (zs_in (by decide) mf39 (Nat.le_of_ble_eq_true rfl) ?_) (fun _ _ q => q)
  show zGo X l 0 0 0 39 0 [(0, .int c), (1, .int (1 : Int32)), (2, .int (8 : Int32))] [] zMc _
  refine zs_iload_n (pc := 0) t39_0 rfl ?_
  refine zs_iload_n (pc := 1) t39_1 rfl ?_
  refine zs_icmp_ltF (pc := 2) t39_2 rfl li1 (by omega) ?_
  refine zs_iload_n (pc := 5) t39_5 rfl ?_
  refine zs_iload_n (pc := 6) t39_6 rfl ?_
  refine zs_icmp_gtF (pc := 7) t39_7 rfl li8 (by omega) ?_
  refine zs_iconst (pc := 10) t39_10 (v := 1) (by decide) ?_
  refine zs_goto (pc := 11) t39_11 ?_
  refine zs_iret (pc := 15) t39_15 mr39 (by decide) ?_
  show zGo X l 7 0 0 188 17 [(0, .ref 6), (1, .int a), (2, .int b), (3, .int c), (4, .int d), (5, .int e)] [.int (1 : Int32)] zMc _
  refine zs_if_neT (pc := 17) t188_17 li1 (by decide) ?_
  refine zs_aload_n (pc := 22) t188_22 rfl ?_
  refine zs_invV (pc := 23) (k := 6) (as' := []) (st := []) t188_23 mf187 rfl rfl (Or.inl ⟨by decide, (zk1 fk_zMc_6)⟩) ⟨by decide, by decide, Nat.le_of_ble_eq_true rfl, Nat.le_of_ble_eq_true rfl⟩ (ccq1 (X := X) (l := l)) ?_
  rintro r M2 ⟨rfl, M2k6, M2v6_0, M2k7, M2v7_12, M2k17, M2a17_7, M2v6_8, M2a17_8, M2k332, M2k333, M2k334, M2v332_4, M2v332_5, -⟩
  show zGo X l 7 0 0 188 26 [(0, .ref 6), (1, .int a), (2, .int b), (3, .int c), (4, .int d), (5, .int e)] [.int (0 : Int32)] M2 _
  refine zs_aload_n (pc := 26) t188_26 rfl ?_
  refine zs_get (pc := 27) t188_27 (by decide) (zk1 M2k6) M2v6_0 ?_
  refine zs_bipush (pc := 30) t188_30 (v := 7) (by decide) ?_
  refine zs_invV (pc := 32) (k := 7) (as' := [.int (7 : Int32)]) (st := [.int (0 : Int32)]) t188_32 mf96 rfl rfl (Or.inl ⟨by decide, (zk1 M2k7)⟩) ⟨by decide, by decide, Nat.le_of_ble_eq_true rfl, Nat.le_of_ble_eq_true rfl⟩ (zs_in (by decide) mf96 (Nat.le_of_ble_eq_true rfl) ?_) (fun _ _ q => q)
  show zGo X l 0 0 0 96 0 [(0, .ref 7), (1, .int (7 : Int32))] [] M2 _
  refine zs_iload_n (pc := 0) t96_0 rfl ?_
  refine zs_if_ltF (pc := 1) t96_1 li7 (by decide) ?_
  refine zs_iload_n (pc := 4) t96_4 rfl ?_
  refine zs_bipush (pc := 5) t96_5 (v := 9) (by decide) ?_
  refine zs_icmp_geF (pc := 7) t96_7 li7 li9 (by decide) ?_
  refine zs_aload_n (pc := 10) t96_10 rfl ?_
  refine zs_get (pc := 11) t96_11 (by decide) (zk1 M2k7) M2v7_12 ?_
  refine zs_iload_n (pc := 14) t96_14 rfl ?_
  refine zs_iald (pc := 15) t96_15 (j := 7) (by decide) (zk1 M2k17) (by decide) (zk2 M2k17 (by decide)) M2a17_7 ?_
  refine zs_goto (pc := 16) t96_16 ?_
  refine zs_iret (pc := 20) t96_20 mr96 (by decide) ?_
  show zGo X l 7 0 0 188 35 [(0, .ref 6), (1, .int a), (2, .int b), (3, .int c), (4, .int d), (5, .int e)] [.int (100 : Int32), .int (0 : Int32)] M2 _
  refine zs_invS (pc := 35) (as := [.int (0 : Int32), .int (100 : Int32)]) (st := []) t188_35 (by decide) mf190 rfl rfl ⟨by decide, by decide, Nat.le_of_ble_eq_true rfl, Nat.le_of_ble_eq_true rfl⟩ (zs_in (by decide) mf190 (Nat.le_of_ble_eq_true rfl) ?_) (fun _ _ q => q)
  show zGo X l 1 0 0 190 0 [(0, .int (0 : Int32)), (1, .int (100 : Int32))] [] M2 _
  refine zs_iload_n (pc := 0) t190_0 rfl ?_
  refine zs_iconst (pc := 1) t190_1 (v := 1) (by decide) ?_
  refine zs_icmp_geT (pc := 2) t190_2 li100 li1 (by decide) ?_
  refine zs_iconst (pc := 9) t190_9 (v := 1) (by decide) ?_
  refine zs_iload_n (pc := 10) t190_10 rfl ?_
  refine zs_iload_n (pc := 11) t190_11 rfl ?_
  refine zs_iadd (pc := 12) t190_12 (c := 100) (by decide) ?_
  refine zs_iconst (pc := 13) t190_13 (v := 1) (by decide) ?_
  refine zs_isub (pc := 14) t190_14 (c := 99) (by decide) ?_
  refine zs_iload_n (pc := 15) t190_15 rfl ?_
  refine zs_idiv (pc := 16) t190_16 (by decide) (c := 0) (by decide) ?_
  refine zs_invS (pc := 17) (as := [.int (1 : Int32), .int (0 : Int32)]) (st := []) t190_17 (by decide) mf21 rfl rfl ⟨by decide, by decide, Nat.le_of_ble_eq_true rfl, Nat.le_of_ble_eq_true rfl⟩ (zs_in (by decide) mf21 (Nat.le_of_ble_eq_true rfl) ?_) (fun _ _ q => q)
  show zGo X l 0 0 0 21 0 [(0, .int (1 : Int32)), (1, .int (0 : Int32))] [] M2 _
  refine zs_iload_n (pc := 0) t21_0 rfl ?_
  refine zs_iload_n (pc := 1) t21_1 rfl ?_
  refine zs_icmp_ltF (pc := 2) t21_2 li1 li0 (by decide) ?_
  refine zs_iload_n (pc := 5) t21_5 rfl ?_
  refine zs_goto (pc := 6) t21_6 ?_
  refine zs_iret (pc := 10) t21_10 mr21 (by decide) ?_
  show zGo X l 1 0 0 190 20 [(0, .int (0 : Int32)), (1, .int (100 : Int32))] [.int (1 : Int32)] M2 _
  refine zs_iret (pc := 20) t190_20 mr190 (by decide) ?_
  show zGo X l 7 0 0 188 38 [(0, .ref 6), (1, .int a), (2, .int b), (3, .int c), (4, .int d), (5, .int e)] [.int (1 : Int32)] M2 _
  refine zs_istore (pc := 38) t188_38 (ls' := [(6, .int (1 : Int32)), (0, .ref 6), (1, .int a), (2, .int b), (3, .int c), (4, .int d), (5, .int e)]) (zml mf188 (by decide)) rfl ?_
  refine zs_aload_n (pc := 40) t188_40 rfl ?_
  refine zs_get (pc := 41) t188_41 (by decide) (zk1 M2k6) M2v6_8 ?_
  refine zs_iload_n (pc := 44) t188_44 rfl ?_
  refine zs_iload_n (pc := 45) t188_45 rfl ?_
  refine zs_iload_n (pc := 46) t188_46 rfl ?_
  refine zs_iload (pc := 47) t188_47 rfl ?_
  refine zs_iload (pc := 49) t188_49 rfl ?_
  refine zs_aload_n (pc := 51) t188_51 rfl ?_
  refine zs_get (pc := 52) t188_52 (by decide) (zk1 M2k6) M2v6_0 ?_
  refine zs_bipush (pc := 55) t188_55 (v := 8) (by decide) ?_
  refine zs_invV (pc := 57) (k := 7) (as' := [.int (8 : Int32)]) (st := [.int (1 : Int32), .int d, .int c, .int b, .int a, .ref 332]) t188_57 mf96 rfl rfl (Or.inl ⟨by decide, (zk1 M2k7)⟩) ⟨by decide, by decide, Nat.le_of_ble_eq_true rfl, Nat.le_of_ble_eq_true rfl⟩ (zs_in (by decide) mf96 (Nat.le_of_ble_eq_true rfl) ?_) (fun _ _ q => q)
  show zGo X l 0 0 0 96 0 [(0, .ref 7), (1, .int (8 : Int32))] [] M2 _
  refine zs_iload_n (pc := 0) t96_0 rfl ?_
  refine zs_if_ltF (pc := 1) t96_1 li8 (by decide) ?_
  refine zs_iload_n (pc := 4) t96_4 rfl ?_
  refine zs_bipush (pc := 5) t96_5 (v := 9) (by decide) ?_
  refine zs_icmp_geF (pc := 7) t96_7 li8 li9 (by decide) ?_
  refine zs_aload_n (pc := 10) t96_10 rfl ?_
  refine zs_get (pc := 11) t96_11 (by decide) (zk1 M2k7) M2v7_12 ?_
  refine zs_iload_n (pc := 14) t96_14 rfl ?_
  refine zs_iald (pc := 15) t96_15 (j := 8) (by decide) (zk1 M2k17) (by decide) (zk2 M2k17 (by decide)) M2a17_8 ?_
  refine zs_goto (pc := 16) t96_16 ?_
  refine zs_iret (pc := 20) t96_20 mr96 (by decide) ?_
  show zGo X l 7 0 0 188 60 [(6, .int (1 : Int32)), (0, .ref 6), (1, .int a), (2, .int b), (3, .int c), (4, .int d), (5, .int e)] [.int (50 : Int32), .int (1 : Int32), .int d, .int c, .int b, .int a, .ref 332] M2 _
  refine zs_invV (pc := 60) (k := 332) (as' := [.int a, .int b, .int c, .int d, .int (1 : Int32), .int (50 : Int32)]) (st := []) t188_60 mf191 rfl rfl (Or.inl ⟨by decide, (zk1 M2k332)⟩) ⟨by decide, by decide, Nat.le_of_ble_eq_true rfl, Nat.le_of_ble_eq_true rfl⟩ (run_c (n := a.toInt.toNat) (p := b.toInt.toNat) ⟨M2k332, M2k333, M2k334, M2v332_4, M2v332_5⟩ (by omega) (by omega) (by omega) (by omega) (by omega) (by omega)) ?_
  rintro r Mw ⟨rfl, e1, e2, z0, z1, z2, hl⟩
  show zGo X l 7 0 0 188 63 [(6, .int (1 : Int32)), (0, .ref 6), (1, .int a), (2, .int b), (3, .int c), (4, .int d), (5, .int e)] [] Mw _
  refine zs_iload (pc := 63) t188_63 rfl ?_
  refine zs_tswD (pc := 65) t188_65 rfl (by omega) (pc2 := 128) rfl ?_
  refine zs_iconst (pc := 128) t188_128 (v := -1) (by decide) ?_
  exact zs_iret (pc := 129) t188_129 mr188 (by decide) rfl
theorem m21_8 {X : zX} {l : Launch} {a b c d e : Int32} (la : 1 ≤ a.toInt) (ua : a.toInt ≤ 200) (lb : 1 ≤ b.toInt) (ub : b.toInt ≤ 999) (lc : 1 ≤ c.toInt) (uc : c.toInt ≤ 8) (ld : 0 ≤ d.toInt) (ud : d.toInt ≤ 50) (le : (-2147483648) ≤ e.toInt) (ue : e.toInt ≤ (-1)) : zCall X l 9 0 0 323 [.ref 336, .int a, .int b, .int c, .int d, .int e] zMm (fun r _ => r = some (.int (-1 : Int32))) := by
  have ga := zrg a
  have gb := zrg b
  have gc := zrg c
  have gd := zrg d
  have ge := zrg e
  refine zs_in (by decide) mf323 (Nat.le_of_ble_eq_true rfl) ?_
  show zGo X l 9 0 0 323 0 [(0, .ref 336), (1, .int a), (2, .int b), (3, .int c), (4, .int d), (5, .int e)] [] zMm _
  refine zs_iload_n (pc := 0) t323_0 rfl ?_
  refine zs_iload_n (pc := 1) t323_1 rfl ?_
  refine zs_iload_n (pc := 2) t323_2 rfl ?_
  refine zs_iload (pc := 3) t323_3 rfl ?_
  refine zs_invS (pc := 5) (as := [.int a, .int b, .int c, .int d]) (st := []) t323_5 (by decide) mf324 rfl rfl ⟨by decide, by decide, Nat.le_of_ble_eq_true rfl, Nat.le_of_ble_eq_true rfl⟩ (zs_in (by decide) mf324 (Nat.le_of_ble_eq_true rfl) ?_) (fun _ _ q => q)
  show zGo X l 1 0 0 324 0 [(0, .int a), (1, .int b), (2, .int c), (3, .int d)] [] zMm _
  refine zs_iload_n (pc := 0) t324_0 rfl ?_
  refine zs_i2l (pc := 1) t324_1 rfl ?_
  refine zs_lconst (pc := 2) t324_2 (v := 1) (by decide) ?_
  refine zs_ldc2_w (pc := 3) t324_3 (v := 200) (by decide) ?_
  refine zs_invS (pc := 6) (as := [.long a.toInt64, .long (1 : Int64), .long (200 : Int64)]) (st := []) t324_6 (by decide) mf228 rfl rfl ⟨by decide, by decide, Nat.le_of_ble_eq_true rfl, Nat.le_of_ble_eq_true rfl⟩ (in_T (zi2l rfl) ll1 ll200 (by omega) (by omega)) ?_
  rintro r Mi ⟨rfl, rfl⟩
  show zGo X l 1 0 0 324 9 [(0, .int a), (1, .int b), (2, .int c), (3, .int d)] [.int (1 : Int32)] zMm _
  refine zs_if_eqF (pc := 9) t324_9 li1 (by decide) ?_
  refine zs_iload_n (pc := 12) t324_12 rfl ?_
  refine zs_i2l (pc := 13) t324_13 rfl ?_
  refine zs_lconst (pc := 14) t324_14 (v := 1) (by decide) ?_
  refine zs_ldc2_w (pc := 15) t324_15 (v := 999) (by decide) ?_
  refine zs_invS (pc := 18) (as := [.long b.toInt64, .long (1 : Int64), .long (999 : Int64)]) (st := []) t324_18 (by decide) mf228 rfl rfl ⟨by decide, by decide, Nat.le_of_ble_eq_true rfl, Nat.le_of_ble_eq_true rfl⟩ (in_T (zi2l rfl) ll1 ll999 (by omega) (by omega)) ?_
  rintro r Mi ⟨rfl, rfl⟩
  show zGo X l 1 0 0 324 21 [(0, .int a), (1, .int b), (2, .int c), (3, .int d)] [.int (1 : Int32)] zMm _
  refine zs_if_eqF (pc := 21) t324_21 li1 (by decide) ?_
  refine zs_iload_n (pc := 24) t324_24 rfl ?_
  refine zs_i2l (pc := 25) t324_25 rfl ?_
  refine zs_lconst (pc := 26) t324_26 (v := 1) (by decide) ?_
  refine zs_ldc2_w (pc := 27) t324_27 (v := 8) (by decide) ?_
  refine zs_invS (pc := 30) (as := [.long c.toInt64, .long (1 : Int64), .long (8 : Int64)]) (st := []) t324_30 (by decide) mf228 rfl rfl ⟨by decide, by decide, Nat.le_of_ble_eq_true rfl, Nat.le_of_ble_eq_true rfl⟩ (in_T (zi2l rfl) ll1 ll8 (by omega) (by omega)) ?_
  rintro r Mi ⟨rfl, rfl⟩
  show zGo X l 1 0 0 324 33 [(0, .int a), (1, .int b), (2, .int c), (3, .int d)] [.int (1 : Int32)] zMm _
  refine zs_if_eqF (pc := 33) t324_33 li1 (by decide) ?_
  refine zs_iload_n (pc := 36) t324_36 rfl ?_
  refine zs_i2l (pc := 37) t324_37 rfl ?_
  refine zs_lconst (pc := 38) t324_38 (v := 0) (by decide) ?_
  refine zs_ldc2_w (pc := 39) t324_39 (v := 50) (by decide) ?_
  refine zs_invS (pc := 42) (as := [.long d.toInt64, .long (0 : Int64), .long (50 : Int64)]) (st := []) t324_42 (by decide) mf228 rfl rfl ⟨by decide, by decide, Nat.le_of_ble_eq_true rfl, Nat.le_of_ble_eq_true rfl⟩ (in_T (zi2l rfl) ll0 ll50 (by omega) (by omega)) ?_
  rintro r Mi ⟨rfl, rfl⟩
  show zGo X l 1 0 0 324 45 [(0, .int a), (1, .int b), (2, .int c), (3, .int d)] [.int (1 : Int32)] zMm _
  refine zs_if_eqF (pc := 45) t324_45 li1 (by decide) ?_
  refine zs_iconst (pc := 48) t324_48 (v := 1) (by decide) ?_
  refine zs_goto (pc := 49) t324_49 ?_
  refine zs_iret (pc := 53) t324_53 mr324 (by decide) ?_
  show zGo X l 9 0 0 323 8 [(0, .ref 336), (1, .int a), (2, .int b), (3, .int c), (4, .int d), (5, .int e)] [.int (1 : Int32)] zMm _
  refine zs_if_eqF (pc := 8) t323_8 li1 (by decide) ?_
  refine zs_iload (pc := 11) t323_11 rfl ?_
  refine zs_i2l (pc := 13) t323_13 rfl ?_
  refine zs_lconst (pc := 14) t323_14 (v := 0) (by decide) ?_
  refine zs_ldc2_w (pc := 15) t323_15 (v := 3) (by decide) ?_
  refine zs_invS (pc := 18) (as := [.long e.toInt64, .long (0 : Int64), .long (3 : Int64)]) (st := []) t323_18 (by decide) mf228 rfl rfl ⟨by decide, by decide, Nat.le_of_ble_eq_true rfl, Nat.le_of_ble_eq_true rfl⟩ (in_F (zi2l rfl) ll0 ll3 (by omega)) ?_
  rintro r Mi ⟨rfl, rfl⟩
  show zGo X l 9 0 0 323 21 [(0, .ref 336), (1, .int a), (2, .int b), (3, .int c), (4, .int d), (5, .int e)] [.int (0 : Int32)] zMm _
  refine zs_if_neF (pc := 21) t323_21 li0 (by decide) ?_
  refine zs_iconst (pc := 24) t323_24 (v := -1) (by decide) ?_
  exact zs_iret (pc := 25) t323_25 mr323 (by decide) rfl
theorem c21_9 {X : zX} {l : Launch} {a b c d e : Int32} (la : 1 ≤ a.toInt) (ua : a.toInt ≤ 200) (lb : 1 ≤ b.toInt) (ub : b.toInt ≤ 999) (lc : 1 ≤ c.toInt) (uc : c.toInt ≤ 8) (ld : 0 ≤ d.toInt) (ud : d.toInt ≤ 50) (le : 4 ≤ e.toInt) (ue : e.toInt ≤ 2147483647) : zCall X l 7 0 0 188 [.ref 6, .int a, .int b, .int c, .int d, .int e] zMc (fun r _ => r = some (.int (-1 : Int32))) := by
  have ga := zrg a
  have gb := zrg b
  have gc := zrg c
  have gd := zrg d
  have ge := zrg e
  refine zs_in (by decide) mf188 (Nat.le_of_ble_eq_true rfl) ?_
  show zGo X l 7 0 0 188 0 [(0, .ref 6), (1, .int a), (2, .int b), (3, .int c), (4, .int d), (5, .int e)] [] zMc _
  refine zs_iload_n (pc := 0) t188_0 rfl ?_
  refine zs_iload_n (pc := 1) t188_1 rfl ?_
  refine zs_iload (pc := 2) t188_2 rfl ?_
  refine zs_invS (pc := 4) (as := [.int a, .int b, .int d]) (st := []) t188_4 (by decide) mf189 rfl rfl ⟨by decide, by decide, Nat.le_of_ble_eq_true rfl, Nat.le_of_ble_eq_true rfl⟩ (zs_in (by decide) mf189 (Nat.le_of_ble_eq_true rfl) ?_) (fun _ _ q => q)
  show zGo X l 1 0 0 189 0 [(0, .int a), (1, .int b), (2, .int d)] [] zMc _
  refine zs_iload_n (pc := 0) t189_0 rfl ?_
  refine zs_iconst (pc := 1) t189_1 (v := 1) (by decide) ?_
  refine zs_sipush (pc := 2) t189_2 (v := 200) (by decide) ?_
  refine zs_invS (pc := 5) (as := [.int a, .int (1 : Int32), .int (200 : Int32)]) (st := []) t189_5 (by decide) mf39 rfl rfl ⟨by decide, by decide, Nat.le_of_ble_eq_true rfl, Nat.le_of_ble_eq_true rfl⟩ (zs_in (by decide) mf39 (Nat.le_of_ble_eq_true rfl) ?_) (fun _ _ q => q)
  show zGo X l 0 0 0 39 0 [(0, .int a), (1, .int (1 : Int32)), (2, .int (200 : Int32))] [] zMc _
  refine zs_iload_n (pc := 0) t39_0 rfl ?_
  refine zs_iload_n (pc := 1) t39_1 rfl ?_
  refine zs_icmp_ltF (pc := 2) t39_2 rfl li1 (by omega) ?_
  refine zs_iload_n (pc := 5) t39_5 rfl ?_
  refine zs_iload_n (pc := 6) t39_6 rfl ?_
  refine zs_icmp_gtF (pc := 7) t39_7 rfl li200 (by omega) ?_
  refine zs_iconst (pc := 10) t39_10 (v := 1) (by decide) ?_
  refine zs_goto (pc := 11) t39_11 ?_
  refine zs_iret (pc := 15) t39_15 mr39 (by decide) ?_
  show zGo X l 1 0 0 189 8 [(0, .int a), (1, .int b), (2, .int d)] [.int (1 : Int32)] zMc _
  refine zs_if_eqF (pc := 8) t189_8 li1 (by decide) ?_
  refine zs_iload_n (pc := 11) t189_11 rfl ?_
  refine zs_iconst (pc := 12) t189_12 (v := 1) (by decide) ?_
  refine zs_sipush (pc := 13) t189_13 (v := 999) (by decide) ?_
  refine zs_invS (pc := 16) (as := [.int b, .int (1 : Int32), .int (999 : Int32)]) (st := []) t189_16 (by decide) mf39 rfl rfl ⟨by decide, by decide, Nat.le_of_ble_eq_true rfl, Nat.le_of_ble_eq_true rfl⟩ (zs_in (by decide) mf39 (Nat.le_of_ble_eq_true rfl) ?_) (fun _ _ q => q)
  show zGo X l 0 0 0 39 0 [(0, .int b), (1, .int (1 : Int32)), (2, .int (999 : Int32))] [] zMc _
  refine zs_iload_n (pc := 0) t39_0 rfl ?_
  refine zs_iload_n (pc := 1) t39_1 rfl ?_
  refine zs_icmp_ltF (pc := 2) t39_2 rfl li1 (by omega) ?_
  refine zs_iload_n (pc := 5) t39_5 rfl ?_
  refine zs_iload_n (pc := 6) t39_6 rfl ?_
  refine zs_icmp_gtF (pc := 7) t39_7 rfl li999 (by omega) ?_
  refine zs_iconst (pc := 10) t39_10 (v := 1) (by decide) ?_
  refine zs_goto (pc := 11) t39_11 ?_
  refine zs_iret (pc := 15) t39_15 mr39 (by decide) ?_
  show zGo X l 1 0 0 189 19 [(0, .int a), (1, .int b), (2, .int d)] [.int (1 : Int32)] zMc _
  refine zs_if_eqF (pc := 19) t189_19 li1 (by decide) ?_
  refine zs_iload_n (pc := 22) t189_22 rfl ?_
  refine zs_iconst (pc := 23) t189_23 (v := 0) (by decide) ?_
  refine zs_bipush (pc := 24) t189_24 (v := 50) (by decide) ?_
  refine zs_invS (pc := 26) (as := [.int d, .int (0 : Int32), .int (50 : Int32)]) (st := []) t189_26 (by decide) mf39 rfl rfl ⟨by decide, by decide, Nat.le_of_ble_eq_true rfl, Nat.le_of_ble_eq_true rfl⟩ (zs_in (by decide) mf39 (Nat.le_of_ble_eq_true rfl) ?_) (fun _ _ q => q)
  show zGo X l 0 0 0 39 0 [(0, .int d), (1, .int (0 : Int32)), (2, .int (50 : Int32))] [] zMc _
  refine zs_iload_n (pc := 0) t39_0 rfl ?_
  refine zs_iload_n (pc := 1) t39_1 rfl ?_
  refine zs_icmp_ltF (pc := 2) t39_2 rfl li0 (by omega) ?_
  refine zs_iload_n (pc := 5) t39_5 rfl ?_
  refine zs_iload_n (pc := 6) t39_6 rfl ?_
  refine zs_icmp_gtF (pc := 7) t39_7 rfl li50 (by omega) ?_
  refine zs_iconst (pc := 10) t39_10 (v := 1) (by decide) ?_
  refine zs_goto (pc := 11) t39_11 ?_
  refine zs_iret (pc := 15) t39_15 mr39 (by decide) ?_
  show zGo X l 1 0 0 189 29 [(0, .int a), (1, .int b), (2, .int d)] [.int (1 : Int32)] zMc _
  refine zs_if_eqF (pc := 29) t189_29 li1 (by decide) ?_
  refine zs_iconst (pc := 32) t189_32 (v := 1) (by decide) ?_
  refine zs_goto (pc := 33) t189_33 ?_
  refine zs_iret (pc := 37) t189_37 mr189 (by decide) ?_
  show zGo X l 7 0 0 188 7 [(0, .ref 6), (1, .int a), (2, .int b), (3, .int c), (4, .int d), (5, .int e)] [.int (1 : Int32)] zMc _
  refine zs_if_eqF (pc := 7) t188_7 li1 (by decide) ?_
  refine zs_iload_n (pc := 10) t188_10 rfl ?_
  refine zs_iconst (pc := 11) t188_11 (v := 1) (by decide) ?_
  refine zs_bipush (pc := 12) t188_12 (v := 8) (by decide) ?_
  refine zs_invS (pc := 14) (as := [.int c, .int (1 : Int32), .int (8 : Int32)]) (st := []) t188_14 (by decide) mf39 rfl rfl ⟨by decide, by decide, Nat.le_of_ble_eq_true rfl, Nat.le_of_ble_eq_true rfl⟩ (zs_in (by decide) mf39 (Nat.le_of_ble_eq_true rfl) ?_) (fun _ _ q => q)
  show zGo X l 0 0 0 39 0 [(0, .int c), (1, .int (1 : Int32)), (2, .int (8 : Int32))] [] zMc _
  refine zs_iload_n (pc := 0) t39_0 rfl ?_
  refine zs_iload_n (pc := 1) t39_1 rfl ?_
  refine zs_icmp_ltF (pc := 2) t39_2 rfl li1 (by omega) ?_
  refine zs_iload_n (pc := 5) t39_5 rfl ?_
  refine zs_iload_n (pc := 6) t39_6 rfl ?_
  refine zs_icmp_gtF (pc := 7) t39_7 rfl li8 (by omega) ?_
  refine zs_iconst (pc := 10) t39_10 (v := 1) (by decide) ?_
  refine zs_goto (pc := 11) t39_11 ?_
  refine zs_iret (pc := 15) t39_15 mr39 (by decide) ?_
  show zGo X l 7 0 0 188 17 [(0, .ref 6), (1, .int a), (2, .int b), (3, .int c), (4, .int d), (5, .int e)] [.int (1 : Int32)] zMc _
  refine zs_if_neT (pc := 17) t188_17 li1 (by decide) ?_
  refine zs_aload_n (pc := 22) t188_22 rfl ?_
  refine zs_invV (pc := 23) (k := 6) (as' := []) (st := []) t188_23 mf187 rfl rfl (Or.inl ⟨by decide, (zk1 fk_zMc_6)⟩) ⟨by decide, by decide, Nat.le_of_ble_eq_true rfl, Nat.le_of_ble_eq_true rfl⟩ (ccq1 (X := X) (l := l)) ?_
  rintro r M2 ⟨rfl, M2k6, M2v6_0, M2k7, M2v7_12, M2k17, M2a17_7, M2v6_8, M2a17_8, M2k332, M2k333, M2k334, M2v332_4, M2v332_5, -⟩
  show zGo X l 7 0 0 188 26 [(0, .ref 6), (1, .int a), (2, .int b), (3, .int c), (4, .int d), (5, .int e)] [.int (0 : Int32)] M2 _
  refine zs_aload_n (pc := 26) t188_26 rfl ?_
  refine zs_get (pc := 27) t188_27 (by decide) (zk1 M2k6) M2v6_0 ?_
  refine zs_bipush (pc := 30) t188_30 (v := 7) (by decide) ?_
  refine zs_invV (pc := 32) (k := 7) (as' := [.int (7 : Int32)]) (st := [.int (0 : Int32)]) t188_32 mf96 rfl rfl (Or.inl ⟨by decide, (zk1 M2k7)⟩) ⟨by decide, by decide, Nat.le_of_ble_eq_true rfl, Nat.le_of_ble_eq_true rfl⟩ (zs_in (by decide) mf96 (Nat.le_of_ble_eq_true rfl) ?_) (fun _ _ q => q)
  show zGo X l 0 0 0 96 0 [(0, .ref 7), (1, .int (7 : Int32))] [] M2 _
  refine zs_iload_n (pc := 0) t96_0 rfl ?_
  refine zs_if_ltF (pc := 1) t96_1 li7 (by decide) ?_
  refine zs_iload_n (pc := 4) t96_4 rfl ?_
  refine zs_bipush (pc := 5) t96_5 (v := 9) (by decide) ?_
  refine zs_icmp_geF (pc := 7) t96_7 li7 li9 (by decide) ?_
  refine zs_aload_n (pc := 10) t96_10 rfl ?_
  refine zs_get (pc := 11) t96_11 (by decide) (zk1 M2k7) M2v7_12 ?_
  refine zs_iload_n (pc := 14) t96_14 rfl ?_
  refine zs_iald (pc := 15) t96_15 (j := 7) (by decide) (zk1 M2k17) (by decide) (zk2 M2k17 (by decide)) M2a17_7 ?_
  refine zs_goto (pc := 16) t96_16 ?_
  refine zs_iret (pc := 20) t96_20 mr96 (by decide) ?_
  show zGo X l 7 0 0 188 35 [(0, .ref 6), (1, .int a), (2, .int b), (3, .int c), (4, .int d), (5, .int e)] [.int (100 : Int32), .int (0 : Int32)] M2 _
  refine zs_invS (pc := 35) (as := [.int (0 : Int32), .int (100 : Int32)]) (st := []) t188_35 (by decide) mf190 rfl rfl ⟨by decide, by decide, Nat.le_of_ble_eq_true rfl, Nat.le_of_ble_eq_true rfl⟩ (zs_in (by decide) mf190 (Nat.le_of_ble_eq_true rfl) ?_) (fun _ _ q => q)
  show zGo X l 1 0 0 190 0 [(0, .int (0 : Int32)), (1, .int (100 : Int32))] [] M2 _
  refine zs_iload_n (pc := 0) t190_0 rfl ?_
  refine zs_iconst (pc := 1) t190_1 (v := 1) (by decide) ?_
  refine zs_icmp_geT (pc := 2) t190_2 li100 li1 (by decide) ?_
  refine zs_iconst (pc := 9) t190_9 (v := 1) (by decide) ?_
  refine zs_iload_n (pc := 10) t190_10 rfl ?_
  refine zs_iload_n (pc := 11) t190_11 rfl ?_
  refine zs_iadd (pc := 12) t190_12 (c := 100) (by decide) ?_
  refine zs_iconst (pc := 13) t190_13 (v := 1) (by decide) ?_
  refine zs_isub (pc := 14) t190_14 (c := 99) (by decide) ?_
  refine zs_iload_n (pc := 15) t190_15 rfl ?_
  refine zs_idiv (pc := 16) t190_16 (by decide) (c := 0) (by decide) ?_
  refine zs_invS (pc := 17) (as := [.int (1 : Int32), .int (0 : Int32)]) (st := []) t190_17 (by decide) mf21 rfl rfl ⟨by decide, by decide, Nat.le_of_ble_eq_true rfl, Nat.le_of_ble_eq_true rfl⟩ (zs_in (by decide) mf21 (Nat.le_of_ble_eq_true rfl) ?_) (fun _ _ q => q)
  show zGo X l 0 0 0 21 0 [(0, .int (1 : Int32)), (1, .int (0 : Int32))] [] M2 _
  refine zs_iload_n (pc := 0) t21_0 rfl ?_
  refine zs_iload_n (pc := 1) t21_1 rfl ?_
  refine zs_icmp_ltF (pc := 2) t21_2 li1 li0 (by decide) ?_
  refine zs_iload_n (pc := 5) t21_5 rfl ?_
  refine zs_goto (pc := 6) t21_6 ?_
  refine zs_iret (pc := 10) t21_10 mr21 (by decide) ?_
  show zGo X l 1 0 0 190 20 [(0, .int (0 : Int32)), (1, .int (100 : Int32))] [.int (1 : Int32)] M2 _
  refine zs_iret (pc := 20) t190_20 mr190 (by decide) ?_
  show zGo X l 7 0 0 188 38 [(0, .ref 6), (1, .int a), (2, .int b), (3, .int c), (4, .int d), (5, .int e)] [.int (1 : Int32)] M2 _
  refine zs_istore (pc := 38) t188_38 (ls' := [(6, .int (1 : Int32)), (0, .ref 6), (1, .int a), (2, .int b), (3, .int c), (4, .int d), (5, .int e)]) (zml mf188 (by decide)) rfl ?_
  refine zs_aload_n (pc := 40) t188_40 rfl ?_
  refine zs_get (pc := 41) t188_41 (by decide) (zk1 M2k6) M2v6_8 ?_
  refine zs_iload_n (pc := 44) t188_44 rfl ?_
  refine zs_iload_n (pc := 45) t188_45 rfl ?_
  refine zs_iload_n (pc := 46) t188_46 rfl ?_
  refine zs_iload (pc := 47) t188_47 rfl ?_
  refine zs_iload (pc := 49) t188_49 rfl ?_
  refine zs_aload_n (pc := 51) t188_51 rfl ?_
  refine zs_get (pc := 52) t188_52 (by decide) (zk1 M2k6) M2v6_0 ?_
  refine zs_bipush (pc := 55) t188_55 (v := 8) (by decide) ?_
  refine zs_invV (pc := 57) (k := 7) (as' := [.int (8 : Int32)]) (st := [.int (1 : Int32), .int d, .int c, .int b, .int a, .ref 332]) t188_57 mf96 rfl rfl (Or.inl ⟨by decide, (zk1 M2k7)⟩) ⟨by decide, by decide, Nat.le_of_ble_eq_true rfl, Nat.le_of_ble_eq_true rfl⟩ (zs_in (by decide) mf96 (Nat.le_of_ble_eq_true rfl) ?_) (fun _ _ q => q)
  show zGo X l 0 0 0 96 0 [(0, .ref 7), (1, .int (8 : Int32))] [] M2 _
  refine zs_iload_n (pc := 0) t96_0 rfl ?_
  refine zs_if_ltF (pc := 1) t96_1 li8 (by decide) ?_
  refine zs_iload_n (pc := 4) t96_4 rfl ?_
  refine zs_bipush (pc := 5) t96_5 (v := 9) (by decide) ?_
  refine zs_icmp_geF (pc := 7) t96_7 li8 li9 (by decide) ?_
  refine zs_aload_n (pc := 10) t96_10 rfl ?_
  refine zs_get (pc := 11) t96_11 (by decide) (zk1 M2k7) M2v7_12 ?_
  refine zs_iload_n (pc := 14) t96_14 rfl ?_
  refine zs_iald (pc := 15) t96_15 (j := 8) (by decide) (zk1 M2k17) (by decide) (zk2 M2k17 (by decide)) M2a17_8 ?_
  refine zs_goto (pc := 16) t96_16 ?_
  refine zs_iret (pc := 20) t96_20 mr96 (by decide) ?_
  show zGo X l 7 0 0 188 60 [(6, .int (1 : Int32)), (0, .ref 6), (1, .int a), (2, .int b), (3, .int c), (4, .int d), (5, .int e)] [.int (50 : Int32), .int (1 : Int32), .int d, .int c, .int b, .int a, .ref 332] M2 _
  refine zs_invV (pc := 60) (k := 332) (as' := [.int a, .int b, .int c, .int d, .int (1 : Int32), .int (50 : Int32)]) (st := []) t188_60 mf191 rfl rfl (Or.inl ⟨by decide, (zk1 M2k332)⟩) ⟨by decide, by decide, Nat.le_of_ble_eq_true rfl, Nat.le_of_ble_eq_true rfl⟩ (run_c (n := a.toInt.toNat) (p := b.toInt.toNat) ⟨M2k332, M2k333, M2k334, M2v332_4, M2v332_5⟩ (by omega) (by omega) (by omega) (by omega) (by omega) (by omega)) ?_
  rintro r Mw ⟨rfl, e1, e2, z0, z1, z2, hl⟩
  show zGo X l 7 0 0 188 63 [(6, .int (1 : Int32)), (0, .ref 6), (1, .int a), (2, .int b), (3, .int c), (4, .int d), (5, .int e)] [] Mw _
  refine zs_iload (pc := 63) t188_63 rfl ?_
  refine zs_tswD (pc := 65) t188_65 rfl (by omega) (pc2 := 128) rfl ?_
  refine zs_iconst (pc := 128) t188_128 (v := -1) (by decide) ?_
  exact zs_iret (pc := 129) t188_129 mr188 (by decide) rfl
theorem m21_9 {X : zX} {l : Launch} {a b c d e : Int32} (la : 1 ≤ a.toInt) (ua : a.toInt ≤ 200) (lb : 1 ≤ b.toInt) (ub : b.toInt ≤ 999) (lc : 1 ≤ c.toInt) (uc : c.toInt ≤ 8) (ld : 0 ≤ d.toInt) (ud : d.toInt ≤ 50) (le : 4 ≤ e.toInt) (ue : e.toInt ≤ 2147483647) : zCall X l 9 0 0 323 [.ref 336, .int a, .int b, .int c, .int d, .int e] zMm (fun r _ => r = some (.int (-1 : Int32))) := by
  have ga := zrg a
  have gb := zrg b
  have gc := zrg c
  have gd := zrg d
  have ge := zrg e
  refine zs_in (by decide) mf323 (Nat.le_of_ble_eq_true rfl) ?_
  show zGo X l 9 0 0 323 0 [(0, .ref 336), (1, .int a), (2, .int b), (3, .int c), (4, .int d), (5, .int e)] [] zMm _
  refine zs_iload_n (pc := 0) t323_0 rfl ?_
  refine zs_iload_n (pc := 1) t323_1 rfl ?_
  refine zs_iload_n (pc := 2) t323_2 rfl ?_
  refine zs_iload (pc := 3) t323_3 rfl ?_
  refine zs_invS (pc := 5) (as := [.int a, .int b, .int c, .int d]) (st := []) t323_5 (by decide) mf324 rfl rfl ⟨by decide, by decide, Nat.le_of_ble_eq_true rfl, Nat.le_of_ble_eq_true rfl⟩ (zs_in (by decide) mf324 (Nat.le_of_ble_eq_true rfl) ?_) (fun _ _ q => q)
  show zGo X l 1 0 0 324 0 [(0, .int a), (1, .int b), (2, .int c), (3, .int d)] [] zMm _
  refine zs_iload_n (pc := 0) t324_0 rfl ?_
  refine zs_i2l (pc := 1) t324_1 rfl ?_
  refine zs_lconst (pc := 2) t324_2 (v := 1) (by decide) ?_
  refine zs_ldc2_w (pc := 3) t324_3 (v := 200) (by decide) ?_
  refine zs_invS (pc := 6) (as := [.long a.toInt64, .long (1 : Int64), .long (200 : Int64)]) (st := []) t324_6 (by decide) mf228 rfl rfl ⟨by decide, by decide, Nat.le_of_ble_eq_true rfl, Nat.le_of_ble_eq_true rfl⟩ (in_T (zi2l rfl) ll1 ll200 (by omega) (by omega)) ?_
  rintro r Mi ⟨rfl, rfl⟩
  show zGo X l 1 0 0 324 9 [(0, .int a), (1, .int b), (2, .int c), (3, .int d)] [.int (1 : Int32)] zMm _
  refine zs_if_eqF (pc := 9) t324_9 li1 (by decide) ?_
  refine zs_iload_n (pc := 12) t324_12 rfl ?_
  refine zs_i2l (pc := 13) t324_13 rfl ?_
  refine zs_lconst (pc := 14) t324_14 (v := 1) (by decide) ?_
  refine zs_ldc2_w (pc := 15) t324_15 (v := 999) (by decide) ?_
  refine zs_invS (pc := 18) (as := [.long b.toInt64, .long (1 : Int64), .long (999 : Int64)]) (st := []) t324_18 (by decide) mf228 rfl rfl ⟨by decide, by decide, Nat.le_of_ble_eq_true rfl, Nat.le_of_ble_eq_true rfl⟩ (in_T (zi2l rfl) ll1 ll999 (by omega) (by omega)) ?_
  rintro r Mi ⟨rfl, rfl⟩
  show zGo X l 1 0 0 324 21 [(0, .int a), (1, .int b), (2, .int c), (3, .int d)] [.int (1 : Int32)] zMm _
  refine zs_if_eqF (pc := 21) t324_21 li1 (by decide) ?_
  refine zs_iload_n (pc := 24) t324_24 rfl ?_
  refine zs_i2l (pc := 25) t324_25 rfl ?_
  refine zs_lconst (pc := 26) t324_26 (v := 1) (by decide) ?_
  refine zs_ldc2_w (pc := 27) t324_27 (v := 8) (by decide) ?_
  refine zs_invS (pc := 30) (as := [.long c.toInt64, .long (1 : Int64), .long (8 : Int64)]) (st := []) t324_30 (by decide) mf228 rfl rfl ⟨by decide, by decide, Nat.le_of_ble_eq_true rfl, Nat.le_of_ble_eq_true rfl⟩ (in_T (zi2l rfl) ll1 ll8 (by omega) (by omega)) ?_
  rintro r Mi ⟨rfl, rfl⟩
  show zGo X l 1 0 0 324 33 [(0, .int a), (1, .int b), (2, .int c), (3, .int d)] [.int (1 : Int32)] zMm _
  refine zs_if_eqF (pc := 33) t324_33 li1 (by decide) ?_
  refine zs_iload_n (pc := 36) t324_36 rfl ?_
  refine zs_i2l (pc := 37) t324_37 rfl ?_
  refine zs_lconst (pc := 38) t324_38 (v := 0) (by decide) ?_
  refine zs_ldc2_w (pc := 39) t324_39 (v := 50) (by decide) ?_
  refine zs_invS (pc := 42) (as := [.long d.toInt64, .long (0 : Int64), .long (50 : Int64)]) (st := []) t324_42 (by decide) mf228 rfl rfl ⟨by decide, by decide, Nat.le_of_ble_eq_true rfl, Nat.le_of_ble_eq_true rfl⟩ (in_T (zi2l rfl) ll0 ll50 (by omega) (by omega)) ?_
  rintro r Mi ⟨rfl, rfl⟩
  show zGo X l 1 0 0 324 45 [(0, .int a), (1, .int b), (2, .int c), (3, .int d)] [.int (1 : Int32)] zMm _
  refine zs_if_eqF (pc := 45) t324_45 li1 (by decide) ?_
  refine zs_iconst (pc := 48) t324_48 (v := 1) (by decide) ?_
  refine zs_goto (pc := 49) t324_49 ?_
  refine zs_iret (pc := 53) t324_53 mr324 (by decide) ?_
  show zGo X l 9 0 0 323 8 [(0, .ref 336), (1, .int a), (2, .int b), (3, .int c), (4, .int d), (5, .int e)] [.int (1 : Int32)] zMm _
  refine zs_if_eqF (pc := 8) t323_8 li1 (by decide) ?_
  refine zs_iload (pc := 11) t323_11 rfl ?_
  refine zs_i2l (pc := 13) t323_13 rfl ?_
  refine zs_lconst (pc := 14) t323_14 (v := 0) (by decide) ?_
  refine zs_ldc2_w (pc := 15) t323_15 (v := 3) (by decide) ?_
  refine zs_invS (pc := 18) (as := [.long e.toInt64, .long (0 : Int64), .long (3 : Int64)]) (st := []) t323_18 (by decide) mf228 rfl rfl ⟨by decide, by decide, Nat.le_of_ble_eq_true rfl, Nat.le_of_ble_eq_true rfl⟩ (in_F (zi2l rfl) ll0 ll3 (by omega)) ?_
  rintro r Mi ⟨rfl, rfl⟩
  show zGo X l 9 0 0 323 21 [(0, .ref 336), (1, .int a), (2, .int b), (3, .int c), (4, .int d), (5, .int e)] [.int (0 : Int32)] zMm _
  refine zs_if_neF (pc := 21) t323_21 li0 (by decide) ?_
  refine zs_iconst (pc := 24) t323_24 (v := -1) (by decide) ?_
  exact zs_iret (pc := 25) t323_25 mr323 (by decide) rfl
theorem c21_10 {X : zX} {l : Launch} {a b c d : Int32} (la : 1 ≤ a.toInt) (ua : a.toInt ≤ 200) (lb : 1 ≤ b.toInt) (ub : b.toInt ≤ 999) (lc : 1 ≤ c.toInt) (uc : c.toInt ≤ 8) (ld : 0 ≤ d.toInt) (ud : d.toInt ≤ 50) : zCall X l 7 0 0 188 [.ref 6, .int a, .int b, .int c, .int d, .int (0 : Int32)] zMc (fun r _ => r = some (.int (0 : Int32))) := by
  have ga := zrg a
  have gb := zrg b
  have gc := zrg c
  have gd := zrg d
  refine zs_in (by decide) mf188 (Nat.le_of_ble_eq_true rfl) ?_
  show zGo X l 7 0 0 188 0 [(0, .ref 6), (1, .int a), (2, .int b), (3, .int c), (4, .int d), (5, .int (0 : Int32))] [] zMc _
  refine zs_iload_n (pc := 0) t188_0 rfl ?_
  refine zs_iload_n (pc := 1) t188_1 rfl ?_
  refine zs_iload (pc := 2) t188_2 rfl ?_
  refine zs_invS (pc := 4) (as := [.int a, .int b, .int d]) (st := []) t188_4 (by decide) mf189 rfl rfl ⟨by decide, by decide, Nat.le_of_ble_eq_true rfl, Nat.le_of_ble_eq_true rfl⟩ (zs_in (by decide) mf189 (Nat.le_of_ble_eq_true rfl) ?_) (fun _ _ q => q)
  show zGo X l 1 0 0 189 0 [(0, .int a), (1, .int b), (2, .int d)] [] zMc _
  refine zs_iload_n (pc := 0) t189_0 rfl ?_
  refine zs_iconst (pc := 1) t189_1 (v := 1) (by decide) ?_
  refine zs_sipush (pc := 2) t189_2 (v := 200) (by decide) ?_
  refine zs_invS (pc := 5) (as := [.int a, .int (1 : Int32), .int (200 : Int32)]) (st := []) t189_5 (by decide) mf39 rfl rfl ⟨by decide, by decide, Nat.le_of_ble_eq_true rfl, Nat.le_of_ble_eq_true rfl⟩ (zs_in (by decide) mf39 (Nat.le_of_ble_eq_true rfl) ?_) (fun _ _ q => q)
  show zGo X l 0 0 0 39 0 [(0, .int a), (1, .int (1 : Int32)), (2, .int (200 : Int32))] [] zMc _
  refine zs_iload_n (pc := 0) t39_0 rfl ?_
  refine zs_iload_n (pc := 1) t39_1 rfl ?_
  refine zs_icmp_ltF (pc := 2) t39_2 rfl li1 (by omega) ?_
  refine zs_iload_n (pc := 5) t39_5 rfl ?_
  refine zs_iload_n (pc := 6) t39_6 rfl ?_
  refine zs_icmp_gtF (pc := 7) t39_7 rfl li200 (by omega) ?_
  refine zs_iconst (pc := 10) t39_10 (v := 1) (by decide) ?_
  refine zs_goto (pc := 11) t39_11 ?_
  refine zs_iret (pc := 15) t39_15 mr39 (by decide) ?_
  show zGo X l 1 0 0 189 8 [(0, .int a), (1, .int b), (2, .int d)] [.int (1 : Int32)] zMc _
  refine zs_if_eqF (pc := 8) t189_8 li1 (by decide) ?_
  refine zs_iload_n (pc := 11) t189_11 rfl ?_
  refine zs_iconst (pc := 12) t189_12 (v := 1) (by decide) ?_
  refine zs_sipush (pc := 13) t189_13 (v := 999) (by decide) ?_
  refine zs_invS (pc := 16) (as := [.int b, .int (1 : Int32), .int (999 : Int32)]) (st := []) t189_16 (by decide) mf39 rfl rfl ⟨by decide, by decide, Nat.le_of_ble_eq_true rfl, Nat.le_of_ble_eq_true rfl⟩ (zs_in (by decide) mf39 (Nat.le_of_ble_eq_true rfl) ?_) (fun _ _ q => q)
  show zGo X l 0 0 0 39 0 [(0, .int b), (1, .int (1 : Int32)), (2, .int (999 : Int32))] [] zMc _
  refine zs_iload_n (pc := 0) t39_0 rfl ?_
  refine zs_iload_n (pc := 1) t39_1 rfl ?_
  refine zs_icmp_ltF (pc := 2) t39_2 rfl li1 (by omega) ?_
  refine zs_iload_n (pc := 5) t39_5 rfl ?_
  refine zs_iload_n (pc := 6) t39_6 rfl ?_
  refine zs_icmp_gtF (pc := 7) t39_7 rfl li999 (by omega) ?_
  refine zs_iconst (pc := 10) t39_10 (v := 1) (by decide) ?_
  refine zs_goto (pc := 11) t39_11 ?_
  refine zs_iret (pc := 15) t39_15 mr39 (by decide) ?_
  show zGo X l 1 0 0 189 19 [(0, .int a), (1, .int b), (2, .int d)] [.int (1 : Int32)] zMc _
  refine zs_if_eqF (pc := 19) t189_19 li1 (by decide) ?_
  refine zs_iload_n (pc := 22) t189_22 rfl ?_
  refine zs_iconst (pc := 23) t189_23 (v := 0) (by decide) ?_
  refine zs_bipush (pc := 24) t189_24 (v := 50) (by decide) ?_
  refine zs_invS (pc := 26) (as := [.int d, .int (0 : Int32), .int (50 : Int32)]) (st := []) t189_26 (by decide) mf39 rfl rfl ⟨by decide, by decide, Nat.le_of_ble_eq_true rfl, Nat.le_of_ble_eq_true rfl⟩ (zs_in (by decide) mf39 (Nat.le_of_ble_eq_true rfl) ?_) (fun _ _ q => q)
  show zGo X l 0 0 0 39 0 [(0, .int d), (1, .int (0 : Int32)), (2, .int (50 : Int32))] [] zMc _
  refine zs_iload_n (pc := 0) t39_0 rfl ?_
  refine zs_iload_n (pc := 1) t39_1 rfl ?_
  refine zs_icmp_ltF (pc := 2) t39_2 rfl li0 (by omega) ?_
  refine zs_iload_n (pc := 5) t39_5 rfl ?_
  refine zs_iload_n (pc := 6) t39_6 rfl ?_
  refine zs_icmp_gtF (pc := 7) t39_7 rfl li50 (by omega) ?_
  refine zs_iconst (pc := 10) t39_10 (v := 1) (by decide) ?_
  refine zs_goto (pc := 11) t39_11 ?_
  refine zs_iret (pc := 15) t39_15 mr39 (by decide) ?_
  show zGo X l 1 0 0 189 29 [(0, .int a), (1, .int b), (2, .int d)] [.int (1 : Int32)] zMc _
  refine zs_if_eqF (pc := 29) t189_29 li1 (by decide) ?_
  refine zs_iconst (pc := 32) t189_32 (v := 1) (by decide) ?_
  refine zs_goto (pc := 33) t189_33 ?_
  refine zs_iret (pc := 37) t189_37 mr189 (by decide) ?_
  show zGo X l 7 0 0 188 7 [(0, .ref 6), (1, .int a), (2, .int b), (3, .int c), (4, .int d), (5, .int (0 : Int32))] [.int (1 : Int32)] zMc _
  refine zs_if_eqF (pc := 7) t188_7 li1 (by decide) ?_
  refine zs_iload_n (pc := 10) t188_10 rfl ?_
  refine zs_iconst (pc := 11) t188_11 (v := 1) (by decide) ?_
  refine zs_bipush (pc := 12) t188_12 (v := 8) (by decide) ?_
  refine zs_invS (pc := 14) (as := [.int c, .int (1 : Int32), .int (8 : Int32)]) (st := []) t188_14 (by decide) mf39 rfl rfl ⟨by decide, by decide, Nat.le_of_ble_eq_true rfl, Nat.le_of_ble_eq_true rfl⟩ (zs_in (by decide) mf39 (Nat.le_of_ble_eq_true rfl) ?_) (fun _ _ q => q)
  show zGo X l 0 0 0 39 0 [(0, .int c), (1, .int (1 : Int32)), (2, .int (8 : Int32))] [] zMc _
  refine zs_iload_n (pc := 0) t39_0 rfl ?_
  refine zs_iload_n (pc := 1) t39_1 rfl ?_
  refine zs_icmp_ltF (pc := 2) t39_2 rfl li1 (by omega) ?_
  refine zs_iload_n (pc := 5) t39_5 rfl ?_
  refine zs_iload_n (pc := 6) t39_6 rfl ?_
  refine zs_icmp_gtF (pc := 7) t39_7 rfl li8 (by omega) ?_
  refine zs_iconst (pc := 10) t39_10 (v := 1) (by decide) ?_
  refine zs_goto (pc := 11) t39_11 ?_
  refine zs_iret (pc := 15) t39_15 mr39 (by decide) ?_
  show zGo X l 7 0 0 188 17 [(0, .ref 6), (1, .int a), (2, .int b), (3, .int c), (4, .int d), (5, .int (0 : Int32))] [.int (1 : Int32)] zMc _
  refine zs_if_neT (pc := 17) t188_17 li1 (by decide) ?_
  refine zs_aload_n (pc := 22) t188_22 rfl ?_
  refine zs_invV (pc := 23) (k := 6) (as' := []) (st := []) t188_23 mf187 rfl rfl (Or.inl ⟨by decide, (zk1 fk_zMc_6)⟩) ⟨by decide, by decide, Nat.le_of_ble_eq_true rfl, Nat.le_of_ble_eq_true rfl⟩ (ccq1 (X := X) (l := l)) ?_
  rintro r M2 ⟨rfl, M2k6, M2v6_0, M2k7, M2v7_12, M2k17, M2a17_7, M2v6_8, M2a17_8, M2k332, M2k333, M2k334, M2v332_4, M2v332_5, -⟩
  show zGo X l 7 0 0 188 26 [(0, .ref 6), (1, .int a), (2, .int b), (3, .int c), (4, .int d), (5, .int (0 : Int32))] [.int (0 : Int32)] M2 _
  refine zs_aload_n (pc := 26) t188_26 rfl ?_
  refine zs_get (pc := 27) t188_27 (by decide) (zk1 M2k6) M2v6_0 ?_
  refine zs_bipush (pc := 30) t188_30 (v := 7) (by decide) ?_
  refine zs_invV (pc := 32) (k := 7) (as' := [.int (7 : Int32)]) (st := [.int (0 : Int32)]) t188_32 mf96 rfl rfl (Or.inl ⟨by decide, (zk1 M2k7)⟩) ⟨by decide, by decide, Nat.le_of_ble_eq_true rfl, Nat.le_of_ble_eq_true rfl⟩ (zs_in (by decide) mf96 (Nat.le_of_ble_eq_true rfl) ?_) (fun _ _ q => q)
  show zGo X l 0 0 0 96 0 [(0, .ref 7), (1, .int (7 : Int32))] [] M2 _
  refine zs_iload_n (pc := 0) t96_0 rfl ?_
  refine zs_if_ltF (pc := 1) t96_1 li7 (by decide) ?_
  refine zs_iload_n (pc := 4) t96_4 rfl ?_
  refine zs_bipush (pc := 5) t96_5 (v := 9) (by decide) ?_
  refine zs_icmp_geF (pc := 7) t96_7 li7 li9 (by decide) ?_
  refine zs_aload_n (pc := 10) t96_10 rfl ?_
  refine zs_get (pc := 11) t96_11 (by decide) (zk1 M2k7) M2v7_12 ?_
  refine zs_iload_n (pc := 14) t96_14 rfl ?_
  refine zs_iald (pc := 15) t96_15 (j := 7) (by decide) (zk1 M2k17) (by decide) (zk2 M2k17 (by decide)) M2a17_7 ?_
  refine zs_goto (pc := 16) t96_16 ?_
  refine zs_iret (pc := 20) t96_20 mr96 (by decide) ?_
  show zGo X l 7 0 0 188 35 [(0, .ref 6), (1, .int a), (2, .int b), (3, .int c), (4, .int d), (5, .int (0 : Int32))] [.int (100 : Int32), .int (0 : Int32)] M2 _
  refine zs_invS (pc := 35) (as := [.int (0 : Int32), .int (100 : Int32)]) (st := []) t188_35 (by decide) mf190 rfl rfl ⟨by decide, by decide, Nat.le_of_ble_eq_true rfl, Nat.le_of_ble_eq_true rfl⟩ (zs_in (by decide) mf190 (Nat.le_of_ble_eq_true rfl) ?_) (fun _ _ q => q)
  show zGo X l 1 0 0 190 0 [(0, .int (0 : Int32)), (1, .int (100 : Int32))] [] M2 _
  refine zs_iload_n (pc := 0) t190_0 rfl ?_
  refine zs_iconst (pc := 1) t190_1 (v := 1) (by decide) ?_
  refine zs_icmp_geT (pc := 2) t190_2 li100 li1 (by decide) ?_
  refine zs_iconst (pc := 9) t190_9 (v := 1) (by decide) ?_
  refine zs_iload_n (pc := 10) t190_10 rfl ?_
  refine zs_iload_n (pc := 11) t190_11 rfl ?_
  refine zs_iadd (pc := 12) t190_12 (c := 100) (by decide) ?_
  refine zs_iconst (pc := 13) t190_13 (v := 1) (by decide) ?_
  refine zs_isub (pc := 14) t190_14 (c := 99) (by decide) ?_
  refine zs_iload_n (pc := 15) t190_15 rfl ?_
  refine zs_idiv (pc := 16) t190_16 (by decide) (c := 0) (by decide) ?_
  refine zs_invS (pc := 17) (as := [.int (1 : Int32), .int (0 : Int32)]) (st := []) t190_17 (by decide) mf21 rfl rfl ⟨by decide, by decide, Nat.le_of_ble_eq_true rfl, Nat.le_of_ble_eq_true rfl⟩ (zs_in (by decide) mf21 (Nat.le_of_ble_eq_true rfl) ?_) (fun _ _ q => q)
  show zGo X l 0 0 0 21 0 [(0, .int (1 : Int32)), (1, .int (0 : Int32))] [] M2 _
  refine zs_iload_n (pc := 0) t21_0 rfl ?_
  refine zs_iload_n (pc := 1) t21_1 rfl ?_
  refine zs_icmp_ltF (pc := 2) t21_2 li1 li0 (by decide) ?_
  refine zs_iload_n (pc := 5) t21_5 rfl ?_
  refine zs_goto (pc := 6) t21_6 ?_
  refine zs_iret (pc := 10) t21_10 mr21 (by decide) ?_
  show zGo X l 1 0 0 190 20 [(0, .int (0 : Int32)), (1, .int (100 : Int32))] [.int (1 : Int32)] M2 _
  refine zs_iret (pc := 20) t190_20 mr190 (by decide) ?_
  show zGo X l 7 0 0 188 38 [(0, .ref 6), (1, .int a), (2, .int b), (3, .int c), (4, .int d), (5, .int (0 : Int32))] [.int (1 : Int32)] M2 _
  refine zs_istore (pc := 38) t188_38 (ls' := [(6, .int (1 : Int32)), (0, .ref 6), (1, .int a), (2, .int b), (3, .int c), (4, .int d), (5, .int (0 : Int32))]) (zml mf188 (by decide)) rfl ?_
  refine zs_aload_n (pc := 40) t188_40 rfl ?_
  refine zs_get (pc := 41) t188_41 (by decide) (zk1 M2k6) M2v6_8 ?_
  refine zs_iload_n (pc := 44) t188_44 rfl ?_
  refine zs_iload_n (pc := 45) t188_45 rfl ?_
  refine zs_iload_n (pc := 46) t188_46 rfl ?_
  refine zs_iload (pc := 47) t188_47 rfl ?_
  refine zs_iload (pc := 49) t188_49 rfl ?_
  refine zs_aload_n (pc := 51) t188_51 rfl ?_
  refine zs_get (pc := 52) t188_52 (by decide) (zk1 M2k6) M2v6_0 ?_
  refine zs_bipush (pc := 55) t188_55 (v := 8) (by decide) ?_
  refine zs_invV (pc := 57) (k := 7) (as' := [.int (8 : Int32)]) (st := [.int (1 : Int32), .int d, .int c, .int b, .int a, .ref 332]) t188_57 mf96 rfl rfl (Or.inl ⟨by decide, (zk1 M2k7)⟩) ⟨by decide, by decide, Nat.le_of_ble_eq_true rfl, Nat.le_of_ble_eq_true rfl⟩ (zs_in (by decide) mf96 (Nat.le_of_ble_eq_true rfl) ?_) (fun _ _ q => q)
  show zGo X l 0 0 0 96 0 [(0, .ref 7), (1, .int (8 : Int32))] [] M2 _
  refine zs_iload_n (pc := 0) t96_0 rfl ?_
  refine zs_if_ltF (pc := 1) t96_1 li8 (by decide) ?_
  refine zs_iload_n (pc := 4) t96_4 rfl ?_
  refine zs_bipush (pc := 5) t96_5 (v := 9) (by decide) ?_
  refine zs_icmp_geF (pc := 7) t96_7 li8 li9 (by decide) ?_
  refine zs_aload_n (pc := 10) t96_10 rfl ?_
  refine zs_get (pc := 11) t96_11 (by decide) (zk1 M2k7) M2v7_12 ?_
  refine zs_iload_n (pc := 14) t96_14 rfl ?_
  refine zs_iald (pc := 15) t96_15 (j := 8) (by decide) (zk1 M2k17) (by decide) (zk2 M2k17 (by decide)) M2a17_8 ?_
  refine zs_goto (pc := 16) t96_16 ?_
  refine zs_iret (pc := 20) t96_20 mr96 (by decide) ?_
  show zGo X l 7 0 0 188 60 [(6, .int (1 : Int32)), (0, .ref 6), (1, .int a), (2, .int b), (3, .int c), (4, .int d), (5, .int (0 : Int32))] [.int (50 : Int32), .int (1 : Int32), .int d, .int c, .int b, .int a, .ref 332] M2 _
  refine zs_invV (pc := 60) (k := 332) (as' := [.int a, .int b, .int c, .int d, .int (1 : Int32), .int (50 : Int32)]) (st := []) t188_60 mf191 rfl rfl (Or.inl ⟨by decide, (zk1 M2k332)⟩) ⟨by decide, by decide, Nat.le_of_ble_eq_true rfl, Nat.le_of_ble_eq_true rfl⟩ (run_c (n := a.toInt.toNat) (p := b.toInt.toNat) ⟨M2k332, M2k333, M2k334, M2v332_4, M2v332_5⟩ (by omega) (by omega) (by omega) (by omega) (by omega) (by omega)) ?_
  rintro r Mw ⟨rfl, e1, e2, z0, z1, z2, hl⟩
  show zGo X l 7 0 0 188 63 [(6, .int (1 : Int32)), (0, .ref 6), (1, .int a), (2, .int b), (3, .int c), (4, .int d), (5, .int (0 : Int32))] [] Mw _
  refine zs_iload (pc := 63) t188_63 rfl ?_
  refine zs_tswI (pc := 65) t188_65 li0 (by decide) rfl (pc2 := 96) rfl ?_
  refine zs_aload_n (pc := 96) t188_96 rfl ?_
  refine zs_get (pc := 97) t188_97 (by decide) (zk1 ((congrFun e1 6).trans M2k6)) ((zfvP e2 rfl).trans M2v6_8) ?_
  refine zs_get (pc := 100) t188_100 (by decide) (zk1 ((congrFun e1 332).trans M2k332)) (zfvi rfl z0) ?_
  exact zs_iret (pc := 103) t188_103 mr188 (by decide) rfl
theorem m21_10 {X : zX} {l : Launch} {a b c d : Int32} (la : 1 ≤ a.toInt) (ua : a.toInt ≤ 200) (lb : 1 ≤ b.toInt) (ub : b.toInt ≤ 999) (lc : 1 ≤ c.toInt) (uc : c.toInt ≤ 8) (ld : 0 ≤ d.toInt) (ud : d.toInt ≤ 50) : zCall X l 9 0 0 323 [.ref 336, .int a, .int b, .int c, .int d, .int (0 : Int32)] zMm (fun r _ => r = some (.int (0 : Int32))) := by
  have ga := zrg a
  have gb := zrg b
  have gc := zrg c
  have gd := zrg d
  refine zs_in (by decide) mf323 (Nat.le_of_ble_eq_true rfl) ?_
  show zGo X l 9 0 0 323 0 [(0, .ref 336), (1, .int a), (2, .int b), (3, .int c), (4, .int d), (5, .int (0 : Int32))] [] zMm _
  refine zs_iload_n (pc := 0) t323_0 rfl ?_
  refine zs_iload_n (pc := 1) t323_1 rfl ?_
  refine zs_iload_n (pc := 2) t323_2 rfl ?_
  refine zs_iload (pc := 3) t323_3 rfl ?_
  refine zs_invS (pc := 5) (as := [.int a, .int b, .int c, .int d]) (st := []) t323_5 (by decide) mf324 rfl rfl ⟨by decide, by decide, Nat.le_of_ble_eq_true rfl, Nat.le_of_ble_eq_true rfl⟩ (zs_in (by decide) mf324 (Nat.le_of_ble_eq_true rfl) ?_) (fun _ _ q => q)
  show zGo X l 1 0 0 324 0 [(0, .int a), (1, .int b), (2, .int c), (3, .int d)] [] zMm _
  refine zs_iload_n (pc := 0) t324_0 rfl ?_
  refine zs_i2l (pc := 1) t324_1 rfl ?_
  refine zs_lconst (pc := 2) t324_2 (v := 1) (by decide) ?_
  refine zs_ldc2_w (pc := 3) t324_3 (v := 200) (by decide) ?_
  refine zs_invS (pc := 6) (as := [.long a.toInt64, .long (1 : Int64), .long (200 : Int64)]) (st := []) t324_6 (by decide) mf228 rfl rfl ⟨by decide, by decide, Nat.le_of_ble_eq_true rfl, Nat.le_of_ble_eq_true rfl⟩ (in_T (zi2l rfl) ll1 ll200 (by omega) (by omega)) ?_
  rintro r Mi ⟨rfl, rfl⟩
  show zGo X l 1 0 0 324 9 [(0, .int a), (1, .int b), (2, .int c), (3, .int d)] [.int (1 : Int32)] zMm _
  refine zs_if_eqF (pc := 9) t324_9 li1 (by decide) ?_
  refine zs_iload_n (pc := 12) t324_12 rfl ?_
  refine zs_i2l (pc := 13) t324_13 rfl ?_
  refine zs_lconst (pc := 14) t324_14 (v := 1) (by decide) ?_
  refine zs_ldc2_w (pc := 15) t324_15 (v := 999) (by decide) ?_
  refine zs_invS (pc := 18) (as := [.long b.toInt64, .long (1 : Int64), .long (999 : Int64)]) (st := []) t324_18 (by decide) mf228 rfl rfl ⟨by decide, by decide, Nat.le_of_ble_eq_true rfl, Nat.le_of_ble_eq_true rfl⟩ (in_T (zi2l rfl) ll1 ll999 (by omega) (by omega)) ?_
  rintro r Mi ⟨rfl, rfl⟩
  show zGo X l 1 0 0 324 21 [(0, .int a), (1, .int b), (2, .int c), (3, .int d)] [.int (1 : Int32)] zMm _
  refine zs_if_eqF (pc := 21) t324_21 li1 (by decide) ?_
  refine zs_iload_n (pc := 24) t324_24 rfl ?_
  refine zs_i2l (pc := 25) t324_25 rfl ?_
  refine zs_lconst (pc := 26) t324_26 (v := 1) (by decide) ?_
  refine zs_ldc2_w (pc := 27) t324_27 (v := 8) (by decide) ?_
  refine zs_invS (pc := 30) (as := [.long c.toInt64, .long (1 : Int64), .long (8 : Int64)]) (st := []) t324_30 (by decide) mf228 rfl rfl ⟨by decide, by decide, Nat.le_of_ble_eq_true rfl, Nat.le_of_ble_eq_true rfl⟩ (in_T (zi2l rfl) ll1 ll8 (by omega) (by omega)) ?_
  rintro r Mi ⟨rfl, rfl⟩
  show zGo X l 1 0 0 324 33 [(0, .int a), (1, .int b), (2, .int c), (3, .int d)] [.int (1 : Int32)] zMm _
  refine zs_if_eqF (pc := 33) t324_33 li1 (by decide) ?_
  refine zs_iload_n (pc := 36) t324_36 rfl ?_
  refine zs_i2l (pc := 37) t324_37 rfl ?_
  refine zs_lconst (pc := 38) t324_38 (v := 0) (by decide) ?_
  refine zs_ldc2_w (pc := 39) t324_39 (v := 50) (by decide) ?_
  refine zs_invS (pc := 42) (as := [.long d.toInt64, .long (0 : Int64), .long (50 : Int64)]) (st := []) t324_42 (by decide) mf228 rfl rfl ⟨by decide, by decide, Nat.le_of_ble_eq_true rfl, Nat.le_of_ble_eq_true rfl⟩ (in_T (zi2l rfl) ll0 ll50 (by omega) (by omega)) ?_
  rintro r Mi ⟨rfl, rfl⟩
  show zGo X l 1 0 0 324 45 [(0, .int a), (1, .int b), (2, .int c), (3, .int d)] [.int (1 : Int32)] zMm _
  refine zs_if_eqF (pc := 45) t324_45 li1 (by decide) ?_
  refine zs_iconst (pc := 48) t324_48 (v := 1) (by decide) ?_
  refine zs_goto (pc := 49) t324_49 ?_
  refine zs_iret (pc := 53) t324_53 mr324 (by decide) ?_
  show zGo X l 9 0 0 323 8 [(0, .ref 336), (1, .int a), (2, .int b), (3, .int c), (4, .int d), (5, .int (0 : Int32))] [.int (1 : Int32)] zMm _
  refine zs_if_eqF (pc := 8) t323_8 li1 (by decide) ?_
  refine zs_iload (pc := 11) t323_11 rfl ?_
  refine zs_i2l (pc := 13) t323_13 (c := 0) (by decide) ?_
  refine zs_lconst (pc := 14) t323_14 (v := 0) (by decide) ?_
  refine zs_ldc2_w (pc := 15) t323_15 (v := 3) (by decide) ?_
  refine zs_invS (pc := 18) (as := [.long (0 : Int64), .long (0 : Int64), .long (3 : Int64)]) (st := []) t323_18 (by decide) mf228 rfl rfl ⟨by decide, by decide, Nat.le_of_ble_eq_true rfl, Nat.le_of_ble_eq_true rfl⟩ (in_T ll0 ll0 ll3 (by omega) (by omega)) ?_
  rintro r Mi ⟨rfl, rfl⟩
  show zGo X l 9 0 0 323 21 [(0, .ref 336), (1, .int a), (2, .int b), (3, .int c), (4, .int d), (5, .int (0 : Int32))] [.int (1 : Int32)] zMm _
  refine zs_if_neT (pc := 21) t323_21 li1 (by decide) ?_
  refine zs_aload_n (pc := 26) t323_26 rfl ?_
  refine zs_iload_n (pc := 27) t323_27 rfl ?_
  refine zs_iload_n (pc := 28) t323_28 rfl ?_
  refine zs_iload_n (pc := 29) t323_29 rfl ?_
  refine zs_iload (pc := 30) t323_30 rfl ?_
  refine zs_invV (pc := 32) (k := 336) (as' := [.int a, .int b, .int c, .int d]) (st := []) t323_32 mf325 rfl rfl (Or.inl ⟨by decide, (zk1 fk_zMm_336)⟩) ⟨by decide, by decide, Nat.le_of_ble_eq_true rfl, Nat.le_of_ble_eq_true rfl⟩ (qs_c (n := a.toInt.toNat) (p := b.toInt.toNat) (w := c.toInt.toNat) (by omega) (by omega) (by omega) (by omega) (by omega) (by omega) (by omega) (by omega) (by omega)) ?_
  rintro r Mw ⟨rfl, k336, z42, z43, z44, lv, z45, hl⟩
  show zGo X l 9 0 0 323 35 [(0, .ref 336), (1, .int a), (2, .int b), (3, .int c), (4, .int d), (5, .int (0 : Int32))] [] Mw _
  refine zs_iload (pc := 35) t323_35 rfl ?_
  refine zs_if_neF (pc := 37) t323_37 li0 (by decide) ?_
  refine zs_aload_n (pc := 40) t323_40 rfl ?_
  refine zs_get (pc := 41) t323_41 (by decide) (zk1 k336) z42 ?_
  refine zs_goto (pc := 44) t323_44 ?_
  exact zs_iret (pc := 77) t323_77 mr323 (by decide) rfl
theorem c21_11 {X : zX} {l : Launch} {a b c d : Int32} (la : 1 ≤ a.toInt) (ua : a.toInt ≤ 200) (lb : 1 ≤ b.toInt) (ub : b.toInt ≤ 999) (lc : 1 ≤ c.toInt) (uc : c.toInt ≤ 8) (ld : 0 ≤ d.toInt) (ud : d.toInt ≤ 50) : zCall X l 7 0 0 188 [.ref 6, .int a, .int b, .int c, .int d, .int (1 : Int32)] zMc (fun r _ => r = some (.int (0 : Int32))) := by
  have ga := zrg a
  have gb := zrg b
  have gc := zrg c
  have gd := zrg d
  refine zs_in (by decide) mf188 (Nat.le_of_ble_eq_true rfl) ?_
  show zGo X l 7 0 0 188 0 [(0, .ref 6), (1, .int a), (2, .int b), (3, .int c), (4, .int d), (5, .int (1 : Int32))] [] zMc _
  refine zs_iload_n (pc := 0) t188_0 rfl ?_
  refine zs_iload_n (pc := 1) t188_1 rfl ?_
  refine zs_iload (pc := 2) t188_2 rfl ?_
  refine zs_invS (pc := 4) (as := [.int a, .int b, .int d]) (st := []) t188_4 (by decide) mf189 rfl rfl ⟨by decide, by decide, Nat.le_of_ble_eq_true rfl, Nat.le_of_ble_eq_true rfl⟩ (zs_in (by decide) mf189 (Nat.le_of_ble_eq_true rfl) ?_) (fun _ _ q => q)
  show zGo X l 1 0 0 189 0 [(0, .int a), (1, .int b), (2, .int d)] [] zMc _
  refine zs_iload_n (pc := 0) t189_0 rfl ?_
  refine zs_iconst (pc := 1) t189_1 (v := 1) (by decide) ?_
  refine zs_sipush (pc := 2) t189_2 (v := 200) (by decide) ?_
  refine zs_invS (pc := 5) (as := [.int a, .int (1 : Int32), .int (200 : Int32)]) (st := []) t189_5 (by decide) mf39 rfl rfl ⟨by decide, by decide, Nat.le_of_ble_eq_true rfl, Nat.le_of_ble_eq_true rfl⟩ (zs_in (by decide) mf39 (Nat.le_of_ble_eq_true rfl) ?_) (fun _ _ q => q)
  show zGo X l 0 0 0 39 0 [(0, .int a), (1, .int (1 : Int32)), (2, .int (200 : Int32))] [] zMc _
  refine zs_iload_n (pc := 0) t39_0 rfl ?_
  refine zs_iload_n (pc := 1) t39_1 rfl ?_
  refine zs_icmp_ltF (pc := 2) t39_2 rfl li1 (by omega) ?_
  refine zs_iload_n (pc := 5) t39_5 rfl ?_
  refine zs_iload_n (pc := 6) t39_6 rfl ?_
  refine zs_icmp_gtF (pc := 7) t39_7 rfl li200 (by omega) ?_
  refine zs_iconst (pc := 10) t39_10 (v := 1) (by decide) ?_
  refine zs_goto (pc := 11) t39_11 ?_
  refine zs_iret (pc := 15) t39_15 mr39 (by decide) ?_
  show zGo X l 1 0 0 189 8 [(0, .int a), (1, .int b), (2, .int d)] [.int (1 : Int32)] zMc _
  refine zs_if_eqF (pc := 8) t189_8 li1 (by decide) ?_
  refine zs_iload_n (pc := 11) t189_11 rfl ?_
  refine zs_iconst (pc := 12) t189_12 (v := 1) (by decide) ?_
  refine zs_sipush (pc := 13) t189_13 (v := 999) (by decide) ?_
  refine zs_invS (pc := 16) (as := [.int b, .int (1 : Int32), .int (999 : Int32)]) (st := []) t189_16 (by decide) mf39 rfl rfl ⟨by decide, by decide, Nat.le_of_ble_eq_true rfl, Nat.le_of_ble_eq_true rfl⟩ (zs_in (by decide) mf39 (Nat.le_of_ble_eq_true rfl) ?_) (fun _ _ q => q)
  show zGo X l 0 0 0 39 0 [(0, .int b), (1, .int (1 : Int32)), (2, .int (999 : Int32))] [] zMc _
  refine zs_iload_n (pc := 0) t39_0 rfl ?_
  refine zs_iload_n (pc := 1) t39_1 rfl ?_
  refine zs_icmp_ltF (pc := 2) t39_2 rfl li1 (by omega) ?_
  refine zs_iload_n (pc := 5) t39_5 rfl ?_
  refine zs_iload_n (pc := 6) t39_6 rfl ?_
  refine zs_icmp_gtF (pc := 7) t39_7 rfl li999 (by omega) ?_
  refine zs_iconst (pc := 10) t39_10 (v := 1) (by decide) ?_
  refine zs_goto (pc := 11) t39_11 ?_
  refine zs_iret (pc := 15) t39_15 mr39 (by decide) ?_
  show zGo X l 1 0 0 189 19 [(0, .int a), (1, .int b), (2, .int d)] [.int (1 : Int32)] zMc _
  refine zs_if_eqF (pc := 19) t189_19 li1 (by decide) ?_
  refine zs_iload_n (pc := 22) t189_22 rfl ?_
  refine zs_iconst (pc := 23) t189_23 (v := 0) (by decide) ?_
  refine zs_bipush (pc := 24) t189_24 (v := 50) (by decide) ?_
  refine zs_invS (pc := 26) (as := [.int d, .int (0 : Int32), .int (50 : Int32)]) (st := []) t189_26 (by decide) mf39 rfl rfl ⟨by decide, by decide, Nat.le_of_ble_eq_true rfl, Nat.le_of_ble_eq_true rfl⟩ (zs_in (by decide) mf39 (Nat.le_of_ble_eq_true rfl) ?_) (fun _ _ q => q)
  show zGo X l 0 0 0 39 0 [(0, .int d), (1, .int (0 : Int32)), (2, .int (50 : Int32))] [] zMc _
  refine zs_iload_n (pc := 0) t39_0 rfl ?_
  refine zs_iload_n (pc := 1) t39_1 rfl ?_
  refine zs_icmp_ltF (pc := 2) t39_2 rfl li0 (by omega) ?_
  refine zs_iload_n (pc := 5) t39_5 rfl ?_
  refine zs_iload_n (pc := 6) t39_6 rfl ?_
  refine zs_icmp_gtF (pc := 7) t39_7 rfl li50 (by omega) ?_
  refine zs_iconst (pc := 10) t39_10 (v := 1) (by decide) ?_
  refine zs_goto (pc := 11) t39_11 ?_
  refine zs_iret (pc := 15) t39_15 mr39 (by decide) ?_
  show zGo X l 1 0 0 189 29 [(0, .int a), (1, .int b), (2, .int d)] [.int (1 : Int32)] zMc _
  refine zs_if_eqF (pc := 29) t189_29 li1 (by decide) ?_
  refine zs_iconst (pc := 32) t189_32 (v := 1) (by decide) ?_
  refine zs_goto (pc := 33) t189_33 ?_
  refine zs_iret (pc := 37) t189_37 mr189 (by decide) ?_
  show zGo X l 7 0 0 188 7 [(0, .ref 6), (1, .int a), (2, .int b), (3, .int c), (4, .int d), (5, .int (1 : Int32))] [.int (1 : Int32)] zMc _
  refine zs_if_eqF (pc := 7) t188_7 li1 (by decide) ?_
  refine zs_iload_n (pc := 10) t188_10 rfl ?_
  refine zs_iconst (pc := 11) t188_11 (v := 1) (by decide) ?_
  refine zs_bipush (pc := 12) t188_12 (v := 8) (by decide) ?_
  refine zs_invS (pc := 14) (as := [.int c, .int (1 : Int32), .int (8 : Int32)]) (st := []) t188_14 (by decide) mf39 rfl rfl ⟨by decide, by decide, Nat.le_of_ble_eq_true rfl, Nat.le_of_ble_eq_true rfl⟩ (zs_in (by decide) mf39 (Nat.le_of_ble_eq_true rfl) ?_) (fun _ _ q => q)
  show zGo X l 0 0 0 39 0 [(0, .int c), (1, .int (1 : Int32)), (2, .int (8 : Int32))] [] zMc _
  refine zs_iload_n (pc := 0) t39_0 rfl ?_
  refine zs_iload_n (pc := 1) t39_1 rfl ?_
  refine zs_icmp_ltF (pc := 2) t39_2 rfl li1 (by omega) ?_
  refine zs_iload_n (pc := 5) t39_5 rfl ?_
  refine zs_iload_n (pc := 6) t39_6 rfl ?_
  refine zs_icmp_gtF (pc := 7) t39_7 rfl li8 (by omega) ?_
  refine zs_iconst (pc := 10) t39_10 (v := 1) (by decide) ?_
  refine zs_goto (pc := 11) t39_11 ?_
  refine zs_iret (pc := 15) t39_15 mr39 (by decide) ?_
  show zGo X l 7 0 0 188 17 [(0, .ref 6), (1, .int a), (2, .int b), (3, .int c), (4, .int d), (5, .int (1 : Int32))] [.int (1 : Int32)] zMc _
  refine zs_if_neT (pc := 17) t188_17 li1 (by decide) ?_
  refine zs_aload_n (pc := 22) t188_22 rfl ?_
  refine zs_invV (pc := 23) (k := 6) (as' := []) (st := []) t188_23 mf187 rfl rfl (Or.inl ⟨by decide, (zk1 fk_zMc_6)⟩) ⟨by decide, by decide, Nat.le_of_ble_eq_true rfl, Nat.le_of_ble_eq_true rfl⟩ (ccq1 (X := X) (l := l)) ?_
  rintro r M2 ⟨rfl, M2k6, M2v6_0, M2k7, M2v7_12, M2k17, M2a17_7, M2v6_8, M2a17_8, M2k332, M2k333, M2k334, M2v332_4, M2v332_5, -⟩
  show zGo X l 7 0 0 188 26 [(0, .ref 6), (1, .int a), (2, .int b), (3, .int c), (4, .int d), (5, .int (1 : Int32))] [.int (0 : Int32)] M2 _
  refine zs_aload_n (pc := 26) t188_26 rfl ?_
  refine zs_get (pc := 27) t188_27 (by decide) (zk1 M2k6) M2v6_0 ?_
  refine zs_bipush (pc := 30) t188_30 (v := 7) (by decide) ?_
  refine zs_invV (pc := 32) (k := 7) (as' := [.int (7 : Int32)]) (st := [.int (0 : Int32)]) t188_32 mf96 rfl rfl (Or.inl ⟨by decide, (zk1 M2k7)⟩) ⟨by decide, by decide, Nat.le_of_ble_eq_true rfl, Nat.le_of_ble_eq_true rfl⟩ (zs_in (by decide) mf96 (Nat.le_of_ble_eq_true rfl) ?_) (fun _ _ q => q)
  show zGo X l 0 0 0 96 0 [(0, .ref 7), (1, .int (7 : Int32))] [] M2 _
  refine zs_iload_n (pc := 0) t96_0 rfl ?_
  refine zs_if_ltF (pc := 1) t96_1 li7 (by decide) ?_
  refine zs_iload_n (pc := 4) t96_4 rfl ?_
  refine zs_bipush (pc := 5) t96_5 (v := 9) (by decide) ?_
  refine zs_icmp_geF (pc := 7) t96_7 li7 li9 (by decide) ?_
  refine zs_aload_n (pc := 10) t96_10 rfl ?_
  refine zs_get (pc := 11) t96_11 (by decide) (zk1 M2k7) M2v7_12 ?_
  refine zs_iload_n (pc := 14) t96_14 rfl ?_
  refine zs_iald (pc := 15) t96_15 (j := 7) (by decide) (zk1 M2k17) (by decide) (zk2 M2k17 (by decide)) M2a17_7 ?_
  refine zs_goto (pc := 16) t96_16 ?_
  refine zs_iret (pc := 20) t96_20 mr96 (by decide) ?_
  show zGo X l 7 0 0 188 35 [(0, .ref 6), (1, .int a), (2, .int b), (3, .int c), (4, .int d), (5, .int (1 : Int32))] [.int (100 : Int32), .int (0 : Int32)] M2 _
  refine zs_invS (pc := 35) (as := [.int (0 : Int32), .int (100 : Int32)]) (st := []) t188_35 (by decide) mf190 rfl rfl ⟨by decide, by decide, Nat.le_of_ble_eq_true rfl, Nat.le_of_ble_eq_true rfl⟩ (zs_in (by decide) mf190 (Nat.le_of_ble_eq_true rfl) ?_) (fun _ _ q => q)
  show zGo X l 1 0 0 190 0 [(0, .int (0 : Int32)), (1, .int (100 : Int32))] [] M2 _
  refine zs_iload_n (pc := 0) t190_0 rfl ?_
  refine zs_iconst (pc := 1) t190_1 (v := 1) (by decide) ?_
  refine zs_icmp_geT (pc := 2) t190_2 li100 li1 (by decide) ?_
  refine zs_iconst (pc := 9) t190_9 (v := 1) (by decide) ?_
  refine zs_iload_n (pc := 10) t190_10 rfl ?_
  refine zs_iload_n (pc := 11) t190_11 rfl ?_
  refine zs_iadd (pc := 12) t190_12 (c := 100) (by decide) ?_
  refine zs_iconst (pc := 13) t190_13 (v := 1) (by decide) ?_
  refine zs_isub (pc := 14) t190_14 (c := 99) (by decide) ?_
  refine zs_iload_n (pc := 15) t190_15 rfl ?_
  refine zs_idiv (pc := 16) t190_16 (by decide) (c := 0) (by decide) ?_
  refine zs_invS (pc := 17) (as := [.int (1 : Int32), .int (0 : Int32)]) (st := []) t190_17 (by decide) mf21 rfl rfl ⟨by decide, by decide, Nat.le_of_ble_eq_true rfl, Nat.le_of_ble_eq_true rfl⟩ (zs_in (by decide) mf21 (Nat.le_of_ble_eq_true rfl) ?_) (fun _ _ q => q)
  show zGo X l 0 0 0 21 0 [(0, .int (1 : Int32)), (1, .int (0 : Int32))] [] M2 _
  refine zs_iload_n (pc := 0) t21_0 rfl ?_
  refine zs_iload_n (pc := 1) t21_1 rfl ?_
  refine zs_icmp_ltF (pc := 2) t21_2 li1 li0 (by decide) ?_
  refine zs_iload_n (pc := 5) t21_5 rfl ?_
  refine zs_goto (pc := 6) t21_6 ?_
  refine zs_iret (pc := 10) t21_10 mr21 (by decide) ?_
  show zGo X l 1 0 0 190 20 [(0, .int (0 : Int32)), (1, .int (100 : Int32))] [.int (1 : Int32)] M2 _
  refine zs_iret (pc := 20) t190_20 mr190 (by decide) ?_
  show zGo X l 7 0 0 188 38 [(0, .ref 6), (1, .int a), (2, .int b), (3, .int c), (4, .int d), (5, .int (1 : Int32))] [.int (1 : Int32)] M2 _
  refine zs_istore (pc := 38) t188_38 (ls' := [(6, .int (1 : Int32)), (0, .ref 6), (1, .int a), (2, .int b), (3, .int c), (4, .int d), (5, .int (1 : Int32))]) (zml mf188 (by decide)) rfl ?_
  refine zs_aload_n (pc := 40) t188_40 rfl ?_
  refine zs_get (pc := 41) t188_41 (by decide) (zk1 M2k6) M2v6_8 ?_
  refine zs_iload_n (pc := 44) t188_44 rfl ?_
  refine zs_iload_n (pc := 45) t188_45 rfl ?_
  refine zs_iload_n (pc := 46) t188_46 rfl ?_
  refine zs_iload (pc := 47) t188_47 rfl ?_
  refine zs_iload (pc := 49) t188_49 rfl ?_
  refine zs_aload_n (pc := 51) t188_51 rfl ?_
  refine zs_get (pc := 52) t188_52 (by decide) (zk1 M2k6) M2v6_0 ?_
  refine zs_bipush (pc := 55) t188_55 (v := 8) (by decide) ?_
  refine zs_invV (pc := 57) (k := 7) (as' := [.int (8 : Int32)]) (st := [.int (1 : Int32), .int d, .int c, .int b, .int a, .ref 332]) t188_57 mf96 rfl rfl (Or.inl ⟨by decide, (zk1 M2k7)⟩) ⟨by decide, by decide, Nat.le_of_ble_eq_true rfl, Nat.le_of_ble_eq_true rfl⟩ (zs_in (by decide) mf96 (Nat.le_of_ble_eq_true rfl) ?_) (fun _ _ q => q)
  show zGo X l 0 0 0 96 0 [(0, .ref 7), (1, .int (8 : Int32))] [] M2 _
  refine zs_iload_n (pc := 0) t96_0 rfl ?_
  refine zs_if_ltF (pc := 1) t96_1 li8 (by decide) ?_
  refine zs_iload_n (pc := 4) t96_4 rfl ?_
  refine zs_bipush (pc := 5) t96_5 (v := 9) (by decide) ?_
  refine zs_icmp_geF (pc := 7) t96_7 li8 li9 (by decide) ?_
  refine zs_aload_n (pc := 10) t96_10 rfl ?_
  refine zs_get (pc := 11) t96_11 (by decide) (zk1 M2k7) M2v7_12 ?_
  refine zs_iload_n (pc := 14) t96_14 rfl ?_
  refine zs_iald (pc := 15) t96_15 (j := 8) (by decide) (zk1 M2k17) (by decide) (zk2 M2k17 (by decide)) M2a17_8 ?_
  refine zs_goto (pc := 16) t96_16 ?_
  refine zs_iret (pc := 20) t96_20 mr96 (by decide) ?_
  show zGo X l 7 0 0 188 60 [(6, .int (1 : Int32)), (0, .ref 6), (1, .int a), (2, .int b), (3, .int c), (4, .int d), (5, .int (1 : Int32))] [.int (50 : Int32), .int (1 : Int32), .int d, .int c, .int b, .int a, .ref 332] M2 _
  refine zs_invV (pc := 60) (k := 332) (as' := [.int a, .int b, .int c, .int d, .int (1 : Int32), .int (50 : Int32)]) (st := []) t188_60 mf191 rfl rfl (Or.inl ⟨by decide, (zk1 M2k332)⟩) ⟨by decide, by decide, Nat.le_of_ble_eq_true rfl, Nat.le_of_ble_eq_true rfl⟩ (run_c (n := a.toInt.toNat) (p := b.toInt.toNat) ⟨M2k332, M2k333, M2k334, M2v332_4, M2v332_5⟩ (by omega) (by omega) (by omega) (by omega) (by omega) (by omega)) ?_
  rintro r Mw ⟨rfl, e1, e2, z0, z1, z2, hl⟩
  show zGo X l 7 0 0 188 63 [(6, .int (1 : Int32)), (0, .ref 6), (1, .int a), (2, .int b), (3, .int c), (4, .int d), (5, .int (1 : Int32))] [] Mw _
  refine zs_iload (pc := 63) t188_63 rfl ?_
  refine zs_tswI (pc := 65) t188_65 li1 (by decide) rfl (pc2 := 104) rfl ?_
  refine zs_aload_n (pc := 104) t188_104 rfl ?_
  refine zs_get (pc := 105) t188_105 (by decide) (zk1 ((congrFun e1 6).trans M2k6)) ((zfvP e2 rfl).trans M2v6_8) ?_
  refine zs_get (pc := 108) t188_108 (by decide) (zk1 ((congrFun e1 332).trans M2k332)) (zfvi rfl z1) ?_
  exact zs_iret (pc := 111) t188_111 mr188 (by decide) rfl
theorem m21_11 {X : zX} {l : Launch} {a b c d : Int32} (la : 1 ≤ a.toInt) (ua : a.toInt ≤ 200) (lb : 1 ≤ b.toInt) (ub : b.toInt ≤ 999) (lc : 1 ≤ c.toInt) (uc : c.toInt ≤ 8) (ld : 0 ≤ d.toInt) (ud : d.toInt ≤ 50) : zCall X l 9 0 0 323 [.ref 336, .int a, .int b, .int c, .int d, .int (1 : Int32)] zMm (fun r _ => r = some (.int (0 : Int32))) := by
  have ga := zrg a
  have gb := zrg b
  have gc := zrg c
  have gd := zrg d
  refine zs_in (by decide) mf323 (Nat.le_of_ble_eq_true rfl) ?_
  show zGo X l 9 0 0 323 0 [(0, .ref 336), (1, .int a), (2, .int b), (3, .int c), (4, .int d), (5, .int (1 : Int32))] [] zMm _
  refine zs_iload_n (pc := 0) t323_0 rfl ?_
  refine zs_iload_n (pc := 1) t323_1 rfl ?_
  refine zs_iload_n (pc := 2) t323_2 rfl ?_
  refine zs_iload (pc := 3) t323_3 rfl ?_
  refine zs_invS (pc := 5) (as := [.int a, .int b, .int c, .int d]) (st := []) t323_5 (by decide) mf324 rfl rfl ⟨by decide, by decide, Nat.le_of_ble_eq_true rfl, Nat.le_of_ble_eq_true rfl⟩ (zs_in (by decide) mf324 (Nat.le_of_ble_eq_true rfl) ?_) (fun _ _ q => q)
  show zGo X l 1 0 0 324 0 [(0, .int a), (1, .int b), (2, .int c), (3, .int d)] [] zMm _
  refine zs_iload_n (pc := 0) t324_0 rfl ?_
  refine zs_i2l (pc := 1) t324_1 rfl ?_
  refine zs_lconst (pc := 2) t324_2 (v := 1) (by decide) ?_
  refine zs_ldc2_w (pc := 3) t324_3 (v := 200) (by decide) ?_
  refine zs_invS (pc := 6) (as := [.long a.toInt64, .long (1 : Int64), .long (200 : Int64)]) (st := []) t324_6 (by decide) mf228 rfl rfl ⟨by decide, by decide, Nat.le_of_ble_eq_true rfl, Nat.le_of_ble_eq_true rfl⟩ (in_T (zi2l rfl) ll1 ll200 (by omega) (by omega)) ?_
  rintro r Mi ⟨rfl, rfl⟩
  show zGo X l 1 0 0 324 9 [(0, .int a), (1, .int b), (2, .int c), (3, .int d)] [.int (1 : Int32)] zMm _
  refine zs_if_eqF (pc := 9) t324_9 li1 (by decide) ?_
  refine zs_iload_n (pc := 12) t324_12 rfl ?_
  refine zs_i2l (pc := 13) t324_13 rfl ?_
  refine zs_lconst (pc := 14) t324_14 (v := 1) (by decide) ?_
  refine zs_ldc2_w (pc := 15) t324_15 (v := 999) (by decide) ?_
  refine zs_invS (pc := 18) (as := [.long b.toInt64, .long (1 : Int64), .long (999 : Int64)]) (st := []) t324_18 (by decide) mf228 rfl rfl ⟨by decide, by decide, Nat.le_of_ble_eq_true rfl, Nat.le_of_ble_eq_true rfl⟩ (in_T (zi2l rfl) ll1 ll999 (by omega) (by omega)) ?_
  rintro r Mi ⟨rfl, rfl⟩
  show zGo X l 1 0 0 324 21 [(0, .int a), (1, .int b), (2, .int c), (3, .int d)] [.int (1 : Int32)] zMm _
  refine zs_if_eqF (pc := 21) t324_21 li1 (by decide) ?_
  refine zs_iload_n (pc := 24) t324_24 rfl ?_
  refine zs_i2l (pc := 25) t324_25 rfl ?_
  refine zs_lconst (pc := 26) t324_26 (v := 1) (by decide) ?_
  refine zs_ldc2_w (pc := 27) t324_27 (v := 8) (by decide) ?_
  refine zs_invS (pc := 30) (as := [.long c.toInt64, .long (1 : Int64), .long (8 : Int64)]) (st := []) t324_30 (by decide) mf228 rfl rfl ⟨by decide, by decide, Nat.le_of_ble_eq_true rfl, Nat.le_of_ble_eq_true rfl⟩ (in_T (zi2l rfl) ll1 ll8 (by omega) (by omega)) ?_
  rintro r Mi ⟨rfl, rfl⟩
  show zGo X l 1 0 0 324 33 [(0, .int a), (1, .int b), (2, .int c), (3, .int d)] [.int (1 : Int32)] zMm _
  refine zs_if_eqF (pc := 33) t324_33 li1 (by decide) ?_
  refine zs_iload_n (pc := 36) t324_36 rfl ?_
  refine zs_i2l (pc := 37) t324_37 rfl ?_
  refine zs_lconst (pc := 38) t324_38 (v := 0) (by decide) ?_
  refine zs_ldc2_w (pc := 39) t324_39 (v := 50) (by decide) ?_
  refine zs_invS (pc := 42) (as := [.long d.toInt64, .long (0 : Int64), .long (50 : Int64)]) (st := []) t324_42 (by decide) mf228 rfl rfl ⟨by decide, by decide, Nat.le_of_ble_eq_true rfl, Nat.le_of_ble_eq_true rfl⟩ (in_T (zi2l rfl) ll0 ll50 (by omega) (by omega)) ?_
  rintro r Mi ⟨rfl, rfl⟩
  show zGo X l 1 0 0 324 45 [(0, .int a), (1, .int b), (2, .int c), (3, .int d)] [.int (1 : Int32)] zMm _
  refine zs_if_eqF (pc := 45) t324_45 li1 (by decide) ?_
  refine zs_iconst (pc := 48) t324_48 (v := 1) (by decide) ?_
  refine zs_goto (pc := 49) t324_49 ?_
  refine zs_iret (pc := 53) t324_53 mr324 (by decide) ?_
  show zGo X l 9 0 0 323 8 [(0, .ref 336), (1, .int a), (2, .int b), (3, .int c), (4, .int d), (5, .int (1 : Int32))] [.int (1 : Int32)] zMm _
  refine zs_if_eqF (pc := 8) t323_8 li1 (by decide) ?_
  refine zs_iload (pc := 11) t323_11 rfl ?_
  refine zs_i2l (pc := 13) t323_13 (c := 1) (by decide) ?_
  refine zs_lconst (pc := 14) t323_14 (v := 0) (by decide) ?_
  refine zs_ldc2_w (pc := 15) t323_15 (v := 3) (by decide) ?_
  refine zs_invS (pc := 18) (as := [.long (1 : Int64), .long (0 : Int64), .long (3 : Int64)]) (st := []) t323_18 (by decide) mf228 rfl rfl ⟨by decide, by decide, Nat.le_of_ble_eq_true rfl, Nat.le_of_ble_eq_true rfl⟩ (in_T ll1 ll0 ll3 (by omega) (by omega)) ?_
  rintro r Mi ⟨rfl, rfl⟩
  show zGo X l 9 0 0 323 21 [(0, .ref 336), (1, .int a), (2, .int b), (3, .int c), (4, .int d), (5, .int (1 : Int32))] [.int (1 : Int32)] zMm _
  refine zs_if_neT (pc := 21) t323_21 li1 (by decide) ?_
  refine zs_aload_n (pc := 26) t323_26 rfl ?_
  refine zs_iload_n (pc := 27) t323_27 rfl ?_
  refine zs_iload_n (pc := 28) t323_28 rfl ?_
  refine zs_iload_n (pc := 29) t323_29 rfl ?_
  refine zs_iload (pc := 30) t323_30 rfl ?_
  refine zs_invV (pc := 32) (k := 336) (as' := [.int a, .int b, .int c, .int d]) (st := []) t323_32 mf325 rfl rfl (Or.inl ⟨by decide, (zk1 fk_zMm_336)⟩) ⟨by decide, by decide, Nat.le_of_ble_eq_true rfl, Nat.le_of_ble_eq_true rfl⟩ (qs_c (n := a.toInt.toNat) (p := b.toInt.toNat) (w := c.toInt.toNat) (by omega) (by omega) (by omega) (by omega) (by omega) (by omega) (by omega) (by omega) (by omega)) ?_
  rintro r Mw ⟨rfl, k336, z42, z43, z44, lv, z45, hl⟩
  show zGo X l 9 0 0 323 35 [(0, .ref 336), (1, .int a), (2, .int b), (3, .int c), (4, .int d), (5, .int (1 : Int32))] [] Mw _
  refine zs_iload (pc := 35) t323_35 rfl ?_
  refine zs_if_neT (pc := 37) t323_37 li1 (by decide) ?_
  refine zs_iload (pc := 47) t323_47 rfl ?_
  refine zs_iconst (pc := 49) t323_49 (v := 1) (by decide) ?_
  refine zs_icmp_neF (pc := 50) t323_50 li1 li1 (by decide) ?_
  refine zs_aload_n (pc := 53) t323_53 rfl ?_
  refine zs_get (pc := 54) t323_54 (by decide) (zk1 k336) z43 ?_
  refine zs_goto (pc := 57) t323_57 ?_
  exact zs_iret (pc := 77) t323_77 mr323 (by decide) rfl
theorem c21_12 {X : zX} {l : Launch} {a b c d : Int32} (la : 1 ≤ a.toInt) (ua : a.toInt ≤ 200) (lb : 1 ≤ b.toInt) (ub : b.toInt ≤ 999) (lc : 1 ≤ c.toInt) (uc : c.toInt ≤ 8) (ld : 0 ≤ d.toInt) (ud : d.toInt ≤ 50) : zCall X l 7 0 0 188 [.ref 6, .int a, .int b, .int c, .int d, .int (2 : Int32)] zMc (fun r _ => r = some (.int (0 : Int32))) := by
  have ga := zrg a
  have gb := zrg b
  have gc := zrg c
  have gd := zrg d
  refine zs_in (by decide) mf188 (Nat.le_of_ble_eq_true rfl) ?_
  show zGo X l 7 0 0 188 0 [(0, .ref 6), (1, .int a), (2, .int b), (3, .int c), (4, .int d), (5, .int (2 : Int32))] [] zMc _
  refine zs_iload_n (pc := 0) t188_0 rfl ?_
  refine zs_iload_n (pc := 1) t188_1 rfl ?_
  refine zs_iload (pc := 2) t188_2 rfl ?_
  refine zs_invS (pc := 4) (as := [.int a, .int b, .int d]) (st := []) t188_4 (by decide) mf189 rfl rfl ⟨by decide, by decide, Nat.le_of_ble_eq_true rfl, Nat.le_of_ble_eq_true rfl⟩ (zs_in (by decide) mf189 (Nat.le_of_ble_eq_true rfl) ?_) (fun _ _ q => q)
  show zGo X l 1 0 0 189 0 [(0, .int a), (1, .int b), (2, .int d)] [] zMc _
  refine zs_iload_n (pc := 0) t189_0 rfl ?_
  refine zs_iconst (pc := 1) t189_1 (v := 1) (by decide) ?_
  refine zs_sipush (pc := 2) t189_2 (v := 200) (by decide) ?_
  refine zs_invS (pc := 5) (as := [.int a, .int (1 : Int32), .int (200 : Int32)]) (st := []) t189_5 (by decide) mf39 rfl rfl ⟨by decide, by decide, Nat.le_of_ble_eq_true rfl, Nat.le_of_ble_eq_true rfl⟩ (zs_in (by decide) mf39 (Nat.le_of_ble_eq_true rfl) ?_) (fun _ _ q => q)
  show zGo X l 0 0 0 39 0 [(0, .int a), (1, .int (1 : Int32)), (2, .int (200 : Int32))] [] zMc _
  refine zs_iload_n (pc := 0) t39_0 rfl ?_
  refine zs_iload_n (pc := 1) t39_1 rfl ?_
  refine zs_icmp_ltF (pc := 2) t39_2 rfl li1 (by omega) ?_
  refine zs_iload_n (pc := 5) t39_5 rfl ?_
  refine zs_iload_n (pc := 6) t39_6 rfl ?_
  refine zs_icmp_gtF (pc := 7) t39_7 rfl li200 (by omega) ?_
  refine zs_iconst (pc := 10) t39_10 (v := 1) (by decide) ?_
  refine zs_goto (pc := 11) t39_11 ?_
  refine zs_iret (pc := 15) t39_15 mr39 (by decide) ?_
  show zGo X l 1 0 0 189 8 [(0, .int a), (1, .int b), (2, .int d)] [.int (1 : Int32)] zMc _
  refine zs_if_eqF (pc := 8) t189_8 li1 (by decide) ?_
  refine zs_iload_n (pc := 11) t189_11 rfl ?_
  refine zs_iconst (pc := 12) t189_12 (v := 1) (by decide) ?_
  refine zs_sipush (pc := 13) t189_13 (v := 999) (by decide) ?_
  refine zs_invS (pc := 16) (as := [.int b, .int (1 : Int32), .int (999 : Int32)]) (st := []) t189_16 (by decide) mf39 rfl rfl ⟨by decide, by decide, Nat.le_of_ble_eq_true rfl, Nat.le_of_ble_eq_true rfl⟩ (zs_in (by decide) mf39 (Nat.le_of_ble_eq_true rfl) ?_) (fun _ _ q => q)
  show zGo X l 0 0 0 39 0 [(0, .int b), (1, .int (1 : Int32)), (2, .int (999 : Int32))] [] zMc _
  refine zs_iload_n (pc := 0) t39_0 rfl ?_
  refine zs_iload_n (pc := 1) t39_1 rfl ?_
  refine zs_icmp_ltF (pc := 2) t39_2 rfl li1 (by omega) ?_
  refine zs_iload_n (pc := 5) t39_5 rfl ?_
  refine zs_iload_n (pc := 6) t39_6 rfl ?_
  refine zs_icmp_gtF (pc := 7) t39_7 rfl li999 (by omega) ?_
  refine zs_iconst (pc := 10) t39_10 (v := 1) (by decide) ?_
  refine zs_goto (pc := 11) t39_11 ?_
  refine zs_iret (pc := 15) t39_15 mr39 (by decide) ?_
  show zGo X l 1 0 0 189 19 [(0, .int a), (1, .int b), (2, .int d)] [.int (1 : Int32)] zMc _
  refine zs_if_eqF (pc := 19) t189_19 li1 (by decide) ?_
  refine zs_iload_n (pc := 22) t189_22 rfl ?_
  refine zs_iconst (pc := 23) t189_23 (v := 0) (by decide) ?_
  refine zs_bipush (pc := 24) t189_24 (v := 50) (by decide) ?_
  refine zs_invS (pc := 26) (as := [.int d, .int (0 : Int32), .int (50 : Int32)]) (st := []) t189_26 (by decide) mf39 rfl rfl ⟨by decide, by decide, Nat.le_of_ble_eq_true rfl, Nat.le_of_ble_eq_true rfl⟩ (zs_in (by decide) mf39 (Nat.le_of_ble_eq_true rfl) ?_) (fun _ _ q => q)
  show zGo X l 0 0 0 39 0 [(0, .int d), (1, .int (0 : Int32)), (2, .int (50 : Int32))] [] zMc _
  refine zs_iload_n (pc := 0) t39_0 rfl ?_
  refine zs_iload_n (pc := 1) t39_1 rfl ?_
  refine zs_icmp_ltF (pc := 2) t39_2 rfl li0 (by omega) ?_
  refine zs_iload_n (pc := 5) t39_5 rfl ?_
  refine zs_iload_n (pc := 6) t39_6 rfl ?_
  refine zs_icmp_gtF (pc := 7) t39_7 rfl li50 (by omega) ?_
  refine zs_iconst (pc := 10) t39_10 (v := 1) (by decide) ?_
  refine zs_goto (pc := 11) t39_11 ?_
  refine zs_iret (pc := 15) t39_15 mr39 (by decide) ?_
  show zGo X l 1 0 0 189 29 [(0, .int a), (1, .int b), (2, .int d)] [.int (1 : Int32)] zMc _
  refine zs_if_eqF (pc := 29) t189_29 li1 (by decide) ?_
  refine zs_iconst (pc := 32) t189_32 (v := 1) (by decide) ?_
  refine zs_goto (pc := 33) t189_33 ?_
  refine zs_iret (pc := 37) t189_37 mr189 (by decide) ?_
  show zGo X l 7 0 0 188 7 [(0, .ref 6), (1, .int a), (2, .int b), (3, .int c), (4, .int d), (5, .int (2 : Int32))] [.int (1 : Int32)] zMc _
  refine zs_if_eqF (pc := 7) t188_7 li1 (by decide) ?_
  refine zs_iload_n (pc := 10) t188_10 rfl ?_
  refine zs_iconst (pc := 11) t188_11 (v := 1) (by decide) ?_
  refine zs_bipush (pc := 12) t188_12 (v := 8) (by decide) ?_
  refine zs_invS (pc := 14) (as := [.int c, .int (1 : Int32), .int (8 : Int32)]) (st := []) t188_14 (by decide) mf39 rfl rfl ⟨by decide, by decide, Nat.le_of_ble_eq_true rfl, Nat.le_of_ble_eq_true rfl⟩ (zs_in (by decide) mf39 (Nat.le_of_ble_eq_true rfl) ?_) (fun _ _ q => q)
  show zGo X l 0 0 0 39 0 [(0, .int c), (1, .int (1 : Int32)), (2, .int (8 : Int32))] [] zMc _
  refine zs_iload_n (pc := 0) t39_0 rfl ?_
  refine zs_iload_n (pc := 1) t39_1 rfl ?_
  refine zs_icmp_ltF (pc := 2) t39_2 rfl li1 (by omega) ?_
  refine zs_iload_n (pc := 5) t39_5 rfl ?_
  refine zs_iload_n (pc := 6) t39_6 rfl ?_
  refine zs_icmp_gtF (pc := 7) t39_7 rfl li8 (by omega) ?_
  refine zs_iconst (pc := 10) t39_10 (v := 1) (by decide) ?_
  refine zs_goto (pc := 11) t39_11 ?_
  refine zs_iret (pc := 15) t39_15 mr39 (by decide) ?_
  show zGo X l 7 0 0 188 17 [(0, .ref 6), (1, .int a), (2, .int b), (3, .int c), (4, .int d), (5, .int (2 : Int32))] [.int (1 : Int32)] zMc _
  refine zs_if_neT (pc := 17) t188_17 li1 (by decide) ?_
  refine zs_aload_n (pc := 22) t188_22 rfl ?_
  refine zs_invV (pc := 23) (k := 6) (as' := []) (st := []) t188_23 mf187 rfl rfl (Or.inl ⟨by decide, (zk1 fk_zMc_6)⟩) ⟨by decide, by decide, Nat.le_of_ble_eq_true rfl, Nat.le_of_ble_eq_true rfl⟩ (ccq1 (X := X) (l := l)) ?_
  rintro r M2 ⟨rfl, M2k6, M2v6_0, M2k7, M2v7_12, M2k17, M2a17_7, M2v6_8, M2a17_8, M2k332, M2k333, M2k334, M2v332_4, M2v332_5, -⟩
  show zGo X l 7 0 0 188 26 [(0, .ref 6), (1, .int a), (2, .int b), (3, .int c), (4, .int d), (5, .int (2 : Int32))] [.int (0 : Int32)] M2 _
  refine zs_aload_n (pc := 26) t188_26 rfl ?_
  refine zs_get (pc := 27) t188_27 (by decide) (zk1 M2k6) M2v6_0 ?_
  refine zs_bipush (pc := 30) t188_30 (v := 7) (by decide) ?_
  refine zs_invV (pc := 32) (k := 7) (as' := [.int (7 : Int32)]) (st := [.int (0 : Int32)]) t188_32 mf96 rfl rfl (Or.inl ⟨by decide, (zk1 M2k7)⟩) ⟨by decide, by decide, Nat.le_of_ble_eq_true rfl, Nat.le_of_ble_eq_true rfl⟩ (zs_in (by decide) mf96 (Nat.le_of_ble_eq_true rfl) ?_) (fun _ _ q => q)
  show zGo X l 0 0 0 96 0 [(0, .ref 7), (1, .int (7 : Int32))] [] M2 _
  refine zs_iload_n (pc := 0) t96_0 rfl ?_
  refine zs_if_ltF (pc := 1) t96_1 li7 (by decide) ?_
  refine zs_iload_n (pc := 4) t96_4 rfl ?_
  refine zs_bipush (pc := 5) t96_5 (v := 9) (by decide) ?_
  refine zs_icmp_geF (pc := 7) t96_7 li7 li9 (by decide) ?_
  refine zs_aload_n (pc := 10) t96_10 rfl ?_
  refine zs_get (pc := 11) t96_11 (by decide) (zk1 M2k7) M2v7_12 ?_
  refine zs_iload_n (pc := 14) t96_14 rfl ?_
  refine zs_iald (pc := 15) t96_15 (j := 7) (by decide) (zk1 M2k17) (by decide) (zk2 M2k17 (by decide)) M2a17_7 ?_
  refine zs_goto (pc := 16) t96_16 ?_
  refine zs_iret (pc := 20) t96_20 mr96 (by decide) ?_
  show zGo X l 7 0 0 188 35 [(0, .ref 6), (1, .int a), (2, .int b), (3, .int c), (4, .int d), (5, .int (2 : Int32))] [.int (100 : Int32), .int (0 : Int32)] M2 _
  refine zs_invS (pc := 35) (as := [.int (0 : Int32), .int (100 : Int32)]) (st := []) t188_35 (by decide) mf190 rfl rfl ⟨by decide, by decide, Nat.le_of_ble_eq_true rfl, Nat.le_of_ble_eq_true rfl⟩ (zs_in (by decide) mf190 (Nat.le_of_ble_eq_true rfl) ?_) (fun _ _ q => q)
  show zGo X l 1 0 0 190 0 [(0, .int (0 : Int32)), (1, .int (100 : Int32))] [] M2 _
  refine zs_iload_n (pc := 0) t190_0 rfl ?_
  refine zs_iconst (pc := 1) t190_1 (v := 1) (by decide) ?_
  refine zs_icmp_geT (pc := 2) t190_2 li100 li1 (by decide) ?_
  refine zs_iconst (pc := 9) t190_9 (v := 1) (by decide) ?_
  refine zs_iload_n (pc := 10) t190_10 rfl ?_
  refine zs_iload_n (pc := 11) t190_11 rfl ?_
  refine zs_iadd (pc := 12) t190_12 (c := 100) (by decide) ?_
  refine zs_iconst (pc := 13) t190_13 (v := 1) (by decide) ?_
  refine zs_isub (pc := 14) t190_14 (c := 99) (by decide) ?_
  refine zs_iload_n (pc := 15) t190_15 rfl ?_
  refine zs_idiv (pc := 16) t190_16 (by decide) (c := 0) (by decide) ?_
  refine zs_invS (pc := 17) (as := [.int (1 : Int32), .int (0 : Int32)]) (st := []) t190_17 (by decide) mf21 rfl rfl ⟨by decide, by decide, Nat.le_of_ble_eq_true rfl, Nat.le_of_ble_eq_true rfl⟩ (zs_in (by decide) mf21 (Nat.le_of_ble_eq_true rfl) ?_) (fun _ _ q => q)
  show zGo X l 0 0 0 21 0 [(0, .int (1 : Int32)), (1, .int (0 : Int32))] [] M2 _
  refine zs_iload_n (pc := 0) t21_0 rfl ?_
  refine zs_iload_n (pc := 1) t21_1 rfl ?_
  refine zs_icmp_ltF (pc := 2) t21_2 li1 li0 (by decide) ?_
  refine zs_iload_n (pc := 5) t21_5 rfl ?_
  refine zs_goto (pc := 6) t21_6 ?_
  refine zs_iret (pc := 10) t21_10 mr21 (by decide) ?_
  show zGo X l 1 0 0 190 20 [(0, .int (0 : Int32)), (1, .int (100 : Int32))] [.int (1 : Int32)] M2 _
  refine zs_iret (pc := 20) t190_20 mr190 (by decide) ?_
  show zGo X l 7 0 0 188 38 [(0, .ref 6), (1, .int a), (2, .int b), (3, .int c), (4, .int d), (5, .int (2 : Int32))] [.int (1 : Int32)] M2 _
  refine zs_istore (pc := 38) t188_38 (ls' := [(6, .int (1 : Int32)), (0, .ref 6), (1, .int a), (2, .int b), (3, .int c), (4, .int d), (5, .int (2 : Int32))]) (zml mf188 (by decide)) rfl ?_
  refine zs_aload_n (pc := 40) t188_40 rfl ?_
  refine zs_get (pc := 41) t188_41 (by decide) (zk1 M2k6) M2v6_8 ?_
  refine zs_iload_n (pc := 44) t188_44 rfl ?_
  refine zs_iload_n (pc := 45) t188_45 rfl ?_
  refine zs_iload_n (pc := 46) t188_46 rfl ?_
  refine zs_iload (pc := 47) t188_47 rfl ?_
  refine zs_iload (pc := 49) t188_49 rfl ?_
  refine zs_aload_n (pc := 51) t188_51 rfl ?_
  refine zs_get (pc := 52) t188_52 (by decide) (zk1 M2k6) M2v6_0 ?_
  refine zs_bipush (pc := 55) t188_55 (v := 8) (by decide) ?_
  refine zs_invV (pc := 57) (k := 7) (as' := [.int (8 : Int32)]) (st := [.int (1 : Int32), .int d, .int c, .int b, .int a, .ref 332]) t188_57 mf96 rfl rfl (Or.inl ⟨by decide, (zk1 M2k7)⟩) ⟨by decide, by decide, Nat.le_of_ble_eq_true rfl, Nat.le_of_ble_eq_true rfl⟩ (zs_in (by decide) mf96 (Nat.le_of_ble_eq_true rfl) ?_) (fun _ _ q => q)
  show zGo X l 0 0 0 96 0 [(0, .ref 7), (1, .int (8 : Int32))] [] M2 _
  refine zs_iload_n (pc := 0) t96_0 rfl ?_
  refine zs_if_ltF (pc := 1) t96_1 li8 (by decide) ?_
  refine zs_iload_n (pc := 4) t96_4 rfl ?_
  refine zs_bipush (pc := 5) t96_5 (v := 9) (by decide) ?_
  refine zs_icmp_geF (pc := 7) t96_7 li8 li9 (by decide) ?_
  refine zs_aload_n (pc := 10) t96_10 rfl ?_
  refine zs_get (pc := 11) t96_11 (by decide) (zk1 M2k7) M2v7_12 ?_
  refine zs_iload_n (pc := 14) t96_14 rfl ?_
  refine zs_iald (pc := 15) t96_15 (j := 8) (by decide) (zk1 M2k17) (by decide) (zk2 M2k17 (by decide)) M2a17_8 ?_
  refine zs_goto (pc := 16) t96_16 ?_
  refine zs_iret (pc := 20) t96_20 mr96 (by decide) ?_
  show zGo X l 7 0 0 188 60 [(6, .int (1 : Int32)), (0, .ref 6), (1, .int a), (2, .int b), (3, .int c), (4, .int d), (5, .int (2 : Int32))] [.int (50 : Int32), .int (1 : Int32), .int d, .int c, .int b, .int a, .ref 332] M2 _
  refine zs_invV (pc := 60) (k := 332) (as' := [.int a, .int b, .int c, .int d, .int (1 : Int32), .int (50 : Int32)]) (st := []) t188_60 mf191 rfl rfl (Or.inl ⟨by decide, (zk1 M2k332)⟩) ⟨by decide, by decide, Nat.le_of_ble_eq_true rfl, Nat.le_of_ble_eq_true rfl⟩ (run_c (n := a.toInt.toNat) (p := b.toInt.toNat) ⟨M2k332, M2k333, M2k334, M2v332_4, M2v332_5⟩ (by omega) (by omega) (by omega) (by omega) (by omega) (by omega)) ?_
  rintro r Mw ⟨rfl, e1, e2, z0, z1, z2, hl⟩
  show zGo X l 7 0 0 188 63 [(6, .int (1 : Int32)), (0, .ref 6), (1, .int a), (2, .int b), (3, .int c), (4, .int d), (5, .int (2 : Int32))] [] Mw _
  refine zs_iload (pc := 63) t188_63 rfl ?_
  refine zs_tswI (pc := 65) t188_65 li2 (by decide) rfl (pc2 := 112) rfl ?_
  refine zs_aload_n (pc := 112) t188_112 rfl ?_
  refine zs_get (pc := 113) t188_113 (by decide) (zk1 ((congrFun e1 6).trans M2k6)) ((zfvP e2 rfl).trans M2v6_8) ?_
  refine zs_get (pc := 116) t188_116 (by decide) (zk1 ((congrFun e1 332).trans M2k332)) (zfvi rfl z2) ?_
  exact zs_iret (pc := 119) t188_119 mr188 (by decide) rfl
theorem m21_12 {X : zX} {l : Launch} {a b c d : Int32} (la : 1 ≤ a.toInt) (ua : a.toInt ≤ 200) (lb : 1 ≤ b.toInt) (ub : b.toInt ≤ 999) (lc : 1 ≤ c.toInt) (uc : c.toInt ≤ 8) (ld : 0 ≤ d.toInt) (ud : d.toInt ≤ 50) : zCall X l 9 0 0 323 [.ref 336, .int a, .int b, .int c, .int d, .int (2 : Int32)] zMm (fun r _ => r = some (.int (0 : Int32))) := by
  have ga := zrg a
  have gb := zrg b
  have gc := zrg c
  have gd := zrg d
  refine zs_in (by decide) mf323 (Nat.le_of_ble_eq_true rfl) ?_
  show zGo X l 9 0 0 323 0 [(0, .ref 336), (1, .int a), (2, .int b), (3, .int c), (4, .int d), (5, .int (2 : Int32))] [] zMm _
  refine zs_iload_n (pc := 0) t323_0 rfl ?_
  refine zs_iload_n (pc := 1) t323_1 rfl ?_
  refine zs_iload_n (pc := 2) t323_2 rfl ?_
  refine zs_iload (pc := 3) t323_3 rfl ?_
  refine zs_invS (pc := 5) (as := [.int a, .int b, .int c, .int d]) (st := []) t323_5 (by decide) mf324 rfl rfl ⟨by decide, by decide, Nat.le_of_ble_eq_true rfl, Nat.le_of_ble_eq_true rfl⟩ (zs_in (by decide) mf324 (Nat.le_of_ble_eq_true rfl) ?_) (fun _ _ q => q)
  show zGo X l 1 0 0 324 0 [(0, .int a), (1, .int b), (2, .int c), (3, .int d)] [] zMm _
  refine zs_iload_n (pc := 0) t324_0 rfl ?_
  refine zs_i2l (pc := 1) t324_1 rfl ?_
  refine zs_lconst (pc := 2) t324_2 (v := 1) (by decide) ?_
  refine zs_ldc2_w (pc := 3) t324_3 (v := 200) (by decide) ?_
  refine zs_invS (pc := 6) (as := [.long a.toInt64, .long (1 : Int64), .long (200 : Int64)]) (st := []) t324_6 (by decide) mf228 rfl rfl ⟨by decide, by decide, Nat.le_of_ble_eq_true rfl, Nat.le_of_ble_eq_true rfl⟩ (in_T (zi2l rfl) ll1 ll200 (by omega) (by omega)) ?_
  rintro r Mi ⟨rfl, rfl⟩
  show zGo X l 1 0 0 324 9 [(0, .int a), (1, .int b), (2, .int c), (3, .int d)] [.int (1 : Int32)] zMm _
  refine zs_if_eqF (pc := 9) t324_9 li1 (by decide) ?_
  refine zs_iload_n (pc := 12) t324_12 rfl ?_
  refine zs_i2l (pc := 13) t324_13 rfl ?_
  refine zs_lconst (pc := 14) t324_14 (v := 1) (by decide) ?_
  refine zs_ldc2_w (pc := 15) t324_15 (v := 999) (by decide) ?_
  refine zs_invS (pc := 18) (as := [.long b.toInt64, .long (1 : Int64), .long (999 : Int64)]) (st := []) t324_18 (by decide) mf228 rfl rfl ⟨by decide, by decide, Nat.le_of_ble_eq_true rfl, Nat.le_of_ble_eq_true rfl⟩ (in_T (zi2l rfl) ll1 ll999 (by omega) (by omega)) ?_
  rintro r Mi ⟨rfl, rfl⟩
  show zGo X l 1 0 0 324 21 [(0, .int a), (1, .int b), (2, .int c), (3, .int d)] [.int (1 : Int32)] zMm _
  refine zs_if_eqF (pc := 21) t324_21 li1 (by decide) ?_
  refine zs_iload_n (pc := 24) t324_24 rfl ?_
  refine zs_i2l (pc := 25) t324_25 rfl ?_
  refine zs_lconst (pc := 26) t324_26 (v := 1) (by decide) ?_
  refine zs_ldc2_w (pc := 27) t324_27 (v := 8) (by decide) ?_
  refine zs_invS (pc := 30) (as := [.long c.toInt64, .long (1 : Int64), .long (8 : Int64)]) (st := []) t324_30 (by decide) mf228 rfl rfl ⟨by decide, by decide, Nat.le_of_ble_eq_true rfl, Nat.le_of_ble_eq_true rfl⟩ (in_T (zi2l rfl) ll1 ll8 (by omega) (by omega)) ?_
  rintro r Mi ⟨rfl, rfl⟩
  show zGo X l 1 0 0 324 33 [(0, .int a), (1, .int b), (2, .int c), (3, .int d)] [.int (1 : Int32)] zMm _
  refine zs_if_eqF (pc := 33) t324_33 li1 (by decide) ?_
  refine zs_iload_n (pc := 36) t324_36 rfl ?_
  refine zs_i2l (pc := 37) t324_37 rfl ?_
  refine zs_lconst (pc := 38) t324_38 (v := 0) (by decide) ?_
  refine zs_ldc2_w (pc := 39) t324_39 (v := 50) (by decide) ?_
  refine zs_invS (pc := 42) (as := [.long d.toInt64, .long (0 : Int64), .long (50 : Int64)]) (st := []) t324_42 (by decide) mf228 rfl rfl ⟨by decide, by decide, Nat.le_of_ble_eq_true rfl, Nat.le_of_ble_eq_true rfl⟩ (in_T (zi2l rfl) ll0 ll50 (by omega) (by omega)) ?_
  rintro r Mi ⟨rfl, rfl⟩
  show zGo X l 1 0 0 324 45 [(0, .int a), (1, .int b), (2, .int c), (3, .int d)] [.int (1 : Int32)] zMm _
  refine zs_if_eqF (pc := 45) t324_45 li1 (by decide) ?_
  refine zs_iconst (pc := 48) t324_48 (v := 1) (by decide) ?_
  refine zs_goto (pc := 49) t324_49 ?_
  refine zs_iret (pc := 53) t324_53 mr324 (by decide) ?_
  show zGo X l 9 0 0 323 8 [(0, .ref 336), (1, .int a), (2, .int b), (3, .int c), (4, .int d), (5, .int (2 : Int32))] [.int (1 : Int32)] zMm _
  refine zs_if_eqF (pc := 8) t323_8 li1 (by decide) ?_
  refine zs_iload (pc := 11) t323_11 rfl ?_
  refine zs_i2l (pc := 13) t323_13 (c := 2) (by decide) ?_
  refine zs_lconst (pc := 14) t323_14 (v := 0) (by decide) ?_
  refine zs_ldc2_w (pc := 15) t323_15 (v := 3) (by decide) ?_
  refine zs_invS (pc := 18) (as := [.long (2 : Int64), .long (0 : Int64), .long (3 : Int64)]) (st := []) t323_18 (by decide) mf228 rfl rfl ⟨by decide, by decide, Nat.le_of_ble_eq_true rfl, Nat.le_of_ble_eq_true rfl⟩ (in_T ll2 ll0 ll3 (by omega) (by omega)) ?_
  rintro r Mi ⟨rfl, rfl⟩
  show zGo X l 9 0 0 323 21 [(0, .ref 336), (1, .int a), (2, .int b), (3, .int c), (4, .int d), (5, .int (2 : Int32))] [.int (1 : Int32)] zMm _
  refine zs_if_neT (pc := 21) t323_21 li1 (by decide) ?_
  refine zs_aload_n (pc := 26) t323_26 rfl ?_
  refine zs_iload_n (pc := 27) t323_27 rfl ?_
  refine zs_iload_n (pc := 28) t323_28 rfl ?_
  refine zs_iload_n (pc := 29) t323_29 rfl ?_
  refine zs_iload (pc := 30) t323_30 rfl ?_
  refine zs_invV (pc := 32) (k := 336) (as' := [.int a, .int b, .int c, .int d]) (st := []) t323_32 mf325 rfl rfl (Or.inl ⟨by decide, (zk1 fk_zMm_336)⟩) ⟨by decide, by decide, Nat.le_of_ble_eq_true rfl, Nat.le_of_ble_eq_true rfl⟩ (qs_c (n := a.toInt.toNat) (p := b.toInt.toNat) (w := c.toInt.toNat) (by omega) (by omega) (by omega) (by omega) (by omega) (by omega) (by omega) (by omega) (by omega)) ?_
  rintro r Mw ⟨rfl, k336, z42, z43, z44, lv, z45, hl⟩
  show zGo X l 9 0 0 323 35 [(0, .ref 336), (1, .int a), (2, .int b), (3, .int c), (4, .int d), (5, .int (2 : Int32))] [] Mw _
  refine zs_iload (pc := 35) t323_35 rfl ?_
  refine zs_if_neT (pc := 37) t323_37 li2 (by decide) ?_
  refine zs_iload (pc := 47) t323_47 rfl ?_
  refine zs_iconst (pc := 49) t323_49 (v := 1) (by decide) ?_
  refine zs_icmp_neT (pc := 50) t323_50 li2 li1 (by decide) ?_
  refine zs_iload (pc := 60) t323_60 rfl ?_
  refine zs_iconst (pc := 62) t323_62 (v := 2) (by decide) ?_
  refine zs_icmp_neF (pc := 63) t323_63 li2 li2 (by decide) ?_
  refine zs_aload_n (pc := 66) t323_66 rfl ?_
  refine zs_get (pc := 67) t323_67 (by decide) (zk1 k336) z44 ?_
  refine zs_goto (pc := 70) t323_70 ?_
  exact zs_iret (pc := 77) t323_77 mr323 (by decide) rfl
theorem c21_13 {X : zX} {l : Launch} {a b c d : Int32} (la : 1 ≤ a.toInt) (ua : a.toInt ≤ 200) (lb : 1 ≤ b.toInt) (ub : b.toInt ≤ 999) (lc : 1 ≤ c.toInt) (uc : c.toInt ≤ 8) (ld : 0 ≤ d.toInt) (ud : d.toInt ≤ 50) : zCall X l 7 0 0 188 [.ref 6, .int a, .int b, .int c, .int d, .int (3 : Int32)] zMc (fun r _ => r = some (.int (Int32.ofInt (((a.toInt.toNat * b.toInt.toNat : Nat) : Int) - (b.toInt.toNat : Nat) + 1)))) := by
  have ga := zrg a
  have gb := zrg b
  have gc := zrg c
  have gd := zrg d
  refine zs_in (by decide) mf188 (Nat.le_of_ble_eq_true rfl) ?_
  show zGo X l 7 0 0 188 0 [(0, .ref 6), (1, .int a), (2, .int b), (3, .int c), (4, .int d), (5, .int (3 : Int32))] [] zMc _
  refine zs_iload_n (pc := 0) t188_0 rfl ?_
  refine zs_iload_n (pc := 1) t188_1 rfl ?_
  refine zs_iload (pc := 2) t188_2 rfl ?_
  refine zs_invS (pc := 4) (as := [.int a, .int b, .int d]) (st := []) t188_4 (by decide) mf189 rfl rfl ⟨by decide, by decide, Nat.le_of_ble_eq_true rfl, Nat.le_of_ble_eq_true rfl⟩ (zs_in (by decide) mf189 (Nat.le_of_ble_eq_true rfl) ?_) (fun _ _ q => q)
  show zGo X l 1 0 0 189 0 [(0, .int a), (1, .int b), (2, .int d)] [] zMc _
  refine zs_iload_n (pc := 0) t189_0 rfl ?_
  refine zs_iconst (pc := 1) t189_1 (v := 1) (by decide) ?_
  refine zs_sipush (pc := 2) t189_2 (v := 200) (by decide) ?_
  refine zs_invS (pc := 5) (as := [.int a, .int (1 : Int32), .int (200 : Int32)]) (st := []) t189_5 (by decide) mf39 rfl rfl ⟨by decide, by decide, Nat.le_of_ble_eq_true rfl, Nat.le_of_ble_eq_true rfl⟩ (zs_in (by decide) mf39 (Nat.le_of_ble_eq_true rfl) ?_) (fun _ _ q => q)
  show zGo X l 0 0 0 39 0 [(0, .int a), (1, .int (1 : Int32)), (2, .int (200 : Int32))] [] zMc _
  refine zs_iload_n (pc := 0) t39_0 rfl ?_
  refine zs_iload_n (pc := 1) t39_1 rfl ?_
  refine zs_icmp_ltF (pc := 2) t39_2 rfl li1 (by omega) ?_
  refine zs_iload_n (pc := 5) t39_5 rfl ?_
  refine zs_iload_n (pc := 6) t39_6 rfl ?_
  refine zs_icmp_gtF (pc := 7) t39_7 rfl li200 (by omega) ?_
  refine zs_iconst (pc := 10) t39_10 (v := 1) (by decide) ?_
  refine zs_goto (pc := 11) t39_11 ?_
  refine zs_iret (pc := 15) t39_15 mr39 (by decide) ?_
  show zGo X l 1 0 0 189 8 [(0, .int a), (1, .int b), (2, .int d)] [.int (1 : Int32)] zMc _
  refine zs_if_eqF (pc := 8) t189_8 li1 (by decide) ?_
  refine zs_iload_n (pc := 11) t189_11 rfl ?_
  refine zs_iconst (pc := 12) t189_12 (v := 1) (by decide) ?_
  refine zs_sipush (pc := 13) t189_13 (v := 999) (by decide) ?_
  refine zs_invS (pc := 16) (as := [.int b, .int (1 : Int32), .int (999 : Int32)]) (st := []) t189_16 (by decide) mf39 rfl rfl ⟨by decide, by decide, Nat.le_of_ble_eq_true rfl, Nat.le_of_ble_eq_true rfl⟩ (zs_in (by decide) mf39 (Nat.le_of_ble_eq_true rfl) ?_) (fun _ _ q => q)
  show zGo X l 0 0 0 39 0 [(0, .int b), (1, .int (1 : Int32)), (2, .int (999 : Int32))] [] zMc _
  refine zs_iload_n (pc := 0) t39_0 rfl ?_
  refine zs_iload_n (pc := 1) t39_1 rfl ?_
  refine zs_icmp_ltF (pc := 2) t39_2 rfl li1 (by omega) ?_
  refine zs_iload_n (pc := 5) t39_5 rfl ?_
  refine zs_iload_n (pc := 6) t39_6 rfl ?_
  refine zs_icmp_gtF (pc := 7) t39_7 rfl li999 (by omega) ?_
  refine zs_iconst (pc := 10) t39_10 (v := 1) (by decide) ?_
  refine zs_goto (pc := 11) t39_11 ?_
  refine zs_iret (pc := 15) t39_15 mr39 (by decide) ?_
  show zGo X l 1 0 0 189 19 [(0, .int a), (1, .int b), (2, .int d)] [.int (1 : Int32)] zMc _
  refine zs_if_eqF (pc := 19) t189_19 li1 (by decide) ?_
  refine zs_iload_n (pc := 22) t189_22 rfl ?_
  refine zs_iconst (pc := 23) t189_23 (v := 0) (by decide) ?_
  refine zs_bipush (pc := 24) t189_24 (v := 50) (by decide) ?_
  refine zs_invS (pc := 26) (as := [.int d, .int (0 : Int32), .int (50 : Int32)]) (st := []) t189_26 (by decide) mf39 rfl rfl ⟨by decide, by decide, Nat.le_of_ble_eq_true rfl, Nat.le_of_ble_eq_true rfl⟩ (zs_in (by decide) mf39 (Nat.le_of_ble_eq_true rfl) ?_) (fun _ _ q => q)
  show zGo X l 0 0 0 39 0 [(0, .int d), (1, .int (0 : Int32)), (2, .int (50 : Int32))] [] zMc _
  refine zs_iload_n (pc := 0) t39_0 rfl ?_
  refine zs_iload_n (pc := 1) t39_1 rfl ?_
  refine zs_icmp_ltF (pc := 2) t39_2 rfl li0 (by omega) ?_
  refine zs_iload_n (pc := 5) t39_5 rfl ?_
  refine zs_iload_n (pc := 6) t39_6 rfl ?_
  refine zs_icmp_gtF (pc := 7) t39_7 rfl li50 (by omega) ?_
  refine zs_iconst (pc := 10) t39_10 (v := 1) (by decide) ?_
  refine zs_goto (pc := 11) t39_11 ?_
  refine zs_iret (pc := 15) t39_15 mr39 (by decide) ?_
  show zGo X l 1 0 0 189 29 [(0, .int a), (1, .int b), (2, .int d)] [.int (1 : Int32)] zMc _
  refine zs_if_eqF (pc := 29) t189_29 li1 (by decide) ?_
  refine zs_iconst (pc := 32) t189_32 (v := 1) (by decide) ?_
  refine zs_goto (pc := 33) t189_33 ?_
  refine zs_iret (pc := 37) t189_37 mr189 (by decide) ?_
  show zGo X l 7 0 0 188 7 [(0, .ref 6), (1, .int a), (2, .int b), (3, .int c), (4, .int d), (5, .int (3 : Int32))] [.int (1 : Int32)] zMc _
  refine zs_if_eqF (pc := 7) t188_7 li1 (by decide) ?_
  refine zs_iload_n (pc := 10) t188_10 rfl ?_
  refine zs_iconst (pc := 11) t188_11 (v := 1) (by decide) ?_
  refine zs_bipush (pc := 12) t188_12 (v := 8) (by decide) ?_
  refine zs_invS (pc := 14) (as := [.int c, .int (1 : Int32), .int (8 : Int32)]) (st := []) t188_14 (by decide) mf39 rfl rfl ⟨by decide, by decide, Nat.le_of_ble_eq_true rfl, Nat.le_of_ble_eq_true rfl⟩ (zs_in (by decide) mf39 (Nat.le_of_ble_eq_true rfl) ?_) (fun _ _ q => q)
  show zGo X l 0 0 0 39 0 [(0, .int c), (1, .int (1 : Int32)), (2, .int (8 : Int32))] [] zMc _
  refine zs_iload_n (pc := 0) t39_0 rfl ?_
  refine zs_iload_n (pc := 1) t39_1 rfl ?_
  refine zs_icmp_ltF (pc := 2) t39_2 rfl li1 (by omega) ?_
  refine zs_iload_n (pc := 5) t39_5 rfl ?_
  refine zs_iload_n (pc := 6) t39_6 rfl ?_
  refine zs_icmp_gtF (pc := 7) t39_7 rfl li8 (by omega) ?_
  refine zs_iconst (pc := 10) t39_10 (v := 1) (by decide) ?_
  refine zs_goto (pc := 11) t39_11 ?_
  refine zs_iret (pc := 15) t39_15 mr39 (by decide) ?_
  show zGo X l 7 0 0 188 17 [(0, .ref 6), (1, .int a), (2, .int b), (3, .int c), (4, .int d), (5, .int (3 : Int32))] [.int (1 : Int32)] zMc _
  refine zs_if_neT (pc := 17) t188_17 li1 (by decide) ?_
  refine zs_aload_n (pc := 22) t188_22 rfl ?_
  refine zs_invV (pc := 23) (k := 6) (as' := []) (st := []) t188_23 mf187 rfl rfl (Or.inl ⟨by decide, (zk1 fk_zMc_6)⟩) ⟨by decide, by decide, Nat.le_of_ble_eq_true rfl, Nat.le_of_ble_eq_true rfl⟩ (ccq1 (X := X) (l := l)) ?_
  rintro r M2 ⟨rfl, M2k6, M2v6_0, M2k7, M2v7_12, M2k17, M2a17_7, M2v6_8, M2a17_8, M2k332, M2k333, M2k334, M2v332_4, M2v332_5, -⟩
  show zGo X l 7 0 0 188 26 [(0, .ref 6), (1, .int a), (2, .int b), (3, .int c), (4, .int d), (5, .int (3 : Int32))] [.int (0 : Int32)] M2 _
  refine zs_aload_n (pc := 26) t188_26 rfl ?_
  refine zs_get (pc := 27) t188_27 (by decide) (zk1 M2k6) M2v6_0 ?_
  refine zs_bipush (pc := 30) t188_30 (v := 7) (by decide) ?_
  refine zs_invV (pc := 32) (k := 7) (as' := [.int (7 : Int32)]) (st := [.int (0 : Int32)]) t188_32 mf96 rfl rfl (Or.inl ⟨by decide, (zk1 M2k7)⟩) ⟨by decide, by decide, Nat.le_of_ble_eq_true rfl, Nat.le_of_ble_eq_true rfl⟩ (zs_in (by decide) mf96 (Nat.le_of_ble_eq_true rfl) ?_) (fun _ _ q => q)
  show zGo X l 0 0 0 96 0 [(0, .ref 7), (1, .int (7 : Int32))] [] M2 _
  refine zs_iload_n (pc := 0) t96_0 rfl ?_
  refine zs_if_ltF (pc := 1) t96_1 li7 (by decide) ?_
  refine zs_iload_n (pc := 4) t96_4 rfl ?_
  refine zs_bipush (pc := 5) t96_5 (v := 9) (by decide) ?_
  refine zs_icmp_geF (pc := 7) t96_7 li7 li9 (by decide) ?_
  refine zs_aload_n (pc := 10) t96_10 rfl ?_
  refine zs_get (pc := 11) t96_11 (by decide) (zk1 M2k7) M2v7_12 ?_
  refine zs_iload_n (pc := 14) t96_14 rfl ?_
  refine zs_iald (pc := 15) t96_15 (j := 7) (by decide) (zk1 M2k17) (by decide) (zk2 M2k17 (by decide)) M2a17_7 ?_
  refine zs_goto (pc := 16) t96_16 ?_
  refine zs_iret (pc := 20) t96_20 mr96 (by decide) ?_
  show zGo X l 7 0 0 188 35 [(0, .ref 6), (1, .int a), (2, .int b), (3, .int c), (4, .int d), (5, .int (3 : Int32))] [.int (100 : Int32), .int (0 : Int32)] M2 _
  refine zs_invS (pc := 35) (as := [.int (0 : Int32), .int (100 : Int32)]) (st := []) t188_35 (by decide) mf190 rfl rfl ⟨by decide, by decide, Nat.le_of_ble_eq_true rfl, Nat.le_of_ble_eq_true rfl⟩ (zs_in (by decide) mf190 (Nat.le_of_ble_eq_true rfl) ?_) (fun _ _ q => q)
  show zGo X l 1 0 0 190 0 [(0, .int (0 : Int32)), (1, .int (100 : Int32))] [] M2 _
  refine zs_iload_n (pc := 0) t190_0 rfl ?_
  refine zs_iconst (pc := 1) t190_1 (v := 1) (by decide) ?_
  refine zs_icmp_geT (pc := 2) t190_2 li100 li1 (by decide) ?_
  refine zs_iconst (pc := 9) t190_9 (v := 1) (by decide) ?_
  refine zs_iload_n (pc := 10) t190_10 rfl ?_
  refine zs_iload_n (pc := 11) t190_11 rfl ?_
  refine zs_iadd (pc := 12) t190_12 (c := 100) (by decide) ?_
  refine zs_iconst (pc := 13) t190_13 (v := 1) (by decide) ?_
  refine zs_isub (pc := 14) t190_14 (c := 99) (by decide) ?_
  refine zs_iload_n (pc := 15) t190_15 rfl ?_
  refine zs_idiv (pc := 16) t190_16 (by decide) (c := 0) (by decide) ?_
  refine zs_invS (pc := 17) (as := [.int (1 : Int32), .int (0 : Int32)]) (st := []) t190_17 (by decide) mf21 rfl rfl ⟨by decide, by decide, Nat.le_of_ble_eq_true rfl, Nat.le_of_ble_eq_true rfl⟩ (zs_in (by decide) mf21 (Nat.le_of_ble_eq_true rfl) ?_) (fun _ _ q => q)
  show zGo X l 0 0 0 21 0 [(0, .int (1 : Int32)), (1, .int (0 : Int32))] [] M2 _
  refine zs_iload_n (pc := 0) t21_0 rfl ?_
  refine zs_iload_n (pc := 1) t21_1 rfl ?_
  refine zs_icmp_ltF (pc := 2) t21_2 li1 li0 (by decide) ?_
  refine zs_iload_n (pc := 5) t21_5 rfl ?_
  refine zs_goto (pc := 6) t21_6 ?_
  refine zs_iret (pc := 10) t21_10 mr21 (by decide) ?_
  show zGo X l 1 0 0 190 20 [(0, .int (0 : Int32)), (1, .int (100 : Int32))] [.int (1 : Int32)] M2 _
  refine zs_iret (pc := 20) t190_20 mr190 (by decide) ?_
  show zGo X l 7 0 0 188 38 [(0, .ref 6), (1, .int a), (2, .int b), (3, .int c), (4, .int d), (5, .int (3 : Int32))] [.int (1 : Int32)] M2 _
  refine zs_istore (pc := 38) t188_38 (ls' := [(6, .int (1 : Int32)), (0, .ref 6), (1, .int a), (2, .int b), (3, .int c), (4, .int d), (5, .int (3 : Int32))]) (zml mf188 (by decide)) rfl ?_
  refine zs_aload_n (pc := 40) t188_40 rfl ?_
  refine zs_get (pc := 41) t188_41 (by decide) (zk1 M2k6) M2v6_8 ?_
  refine zs_iload_n (pc := 44) t188_44 rfl ?_
  refine zs_iload_n (pc := 45) t188_45 rfl ?_
  refine zs_iload_n (pc := 46) t188_46 rfl ?_
  refine zs_iload (pc := 47) t188_47 rfl ?_
  refine zs_iload (pc := 49) t188_49 rfl ?_
  refine zs_aload_n (pc := 51) t188_51 rfl ?_
  refine zs_get (pc := 52) t188_52 (by decide) (zk1 M2k6) M2v6_0 ?_
  refine zs_bipush (pc := 55) t188_55 (v := 8) (by decide) ?_
  refine zs_invV (pc := 57) (k := 7) (as' := [.int (8 : Int32)]) (st := [.int (1 : Int32), .int d, .int c, .int b, .int a, .ref 332]) t188_57 mf96 rfl rfl (Or.inl ⟨by decide, (zk1 M2k7)⟩) ⟨by decide, by decide, Nat.le_of_ble_eq_true rfl, Nat.le_of_ble_eq_true rfl⟩ (zs_in (by decide) mf96 (Nat.le_of_ble_eq_true rfl) ?_) (fun _ _ q => q)
  show zGo X l 0 0 0 96 0 [(0, .ref 7), (1, .int (8 : Int32))] [] M2 _
  refine zs_iload_n (pc := 0) t96_0 rfl ?_
  refine zs_if_ltF (pc := 1) t96_1 li8 (by decide) ?_
  refine zs_iload_n (pc := 4) t96_4 rfl ?_
  refine zs_bipush (pc := 5) t96_5 (v := 9) (by decide) ?_
  refine zs_icmp_geF (pc := 7) t96_7 li8 li9 (by decide) ?_
  refine zs_aload_n (pc := 10) t96_10 rfl ?_
  refine zs_get (pc := 11) t96_11 (by decide) (zk1 M2k7) M2v7_12 ?_
  refine zs_iload_n (pc := 14) t96_14 rfl ?_
  refine zs_iald (pc := 15) t96_15 (j := 8) (by decide) (zk1 M2k17) (by decide) (zk2 M2k17 (by decide)) M2a17_8 ?_
  refine zs_goto (pc := 16) t96_16 ?_
  refine zs_iret (pc := 20) t96_20 mr96 (by decide) ?_
  show zGo X l 7 0 0 188 60 [(6, .int (1 : Int32)), (0, .ref 6), (1, .int a), (2, .int b), (3, .int c), (4, .int d), (5, .int (3 : Int32))] [.int (50 : Int32), .int (1 : Int32), .int d, .int c, .int b, .int a, .ref 332] M2 _
  refine zs_invV (pc := 60) (k := 332) (as' := [.int a, .int b, .int c, .int d, .int (1 : Int32), .int (50 : Int32)]) (st := []) t188_60 mf191 rfl rfl (Or.inl ⟨by decide, (zk1 M2k332)⟩) ⟨by decide, by decide, Nat.le_of_ble_eq_true rfl, Nat.le_of_ble_eq_true rfl⟩ (run_c (n := a.toInt.toNat) (p := b.toInt.toNat) ⟨M2k332, M2k333, M2k334, M2v332_4, M2v332_5⟩ (by omega) (by omega) (by omega) (by omega) (by omega) (by omega)) ?_
  rintro r Mw ⟨rfl, e1, e2, z0, z1, z2, hl⟩
  show zGo X l 7 0 0 188 63 [(6, .int (1 : Int32)), (0, .ref 6), (1, .int a), (2, .int b), (3, .int c), (4, .int d), (5, .int (3 : Int32))] [] Mw _
  refine zs_iload (pc := 63) t188_63 rfl ?_
  refine zs_tswI (pc := 65) t188_65 li3 (by decide) rfl (pc2 := 120) rfl ?_
  refine zs_aload_n (pc := 120) t188_120 rfl ?_
  refine zs_get (pc := 121) t188_121 (by decide) (zk1 ((congrFun e1 6).trans M2k6)) ((zfvP e2 rfl).trans M2v6_8) ?_
  refine zs_get (pc := 124) t188_124 (by decide) (zk1 ((congrFun e1 332).trans M2k332)) (zfvi rfl rfl) ?_
  exact zs_iret (pc := 127) t188_127 mr188 rfl (congrArg (fun v => some (Value.int v)) (by rw [← hl, Int32.ofInt_toInt]))
theorem m21_13 {X : zX} {l : Launch} {a b c d : Int32} (la : 1 ≤ a.toInt) (ua : a.toInt ≤ 200) (lb : 1 ≤ b.toInt) (ub : b.toInt ≤ 999) (lc : 1 ≤ c.toInt) (uc : c.toInt ≤ 8) (ld : 0 ≤ d.toInt) (ud : d.toInt ≤ 50) : zCall X l 9 0 0 323 [.ref 336, .int a, .int b, .int c, .int d, .int (3 : Int32)] zMm (fun r _ => r = some (.int (Int32.ofInt (((a.toInt.toNat * b.toInt.toNat : Nat) : Int) - (b.toInt.toNat : Nat) + 1)))) := by
  have ga := zrg a
  have gb := zrg b
  have gc := zrg c
  have gd := zrg d
  refine zs_in (by decide) mf323 (Nat.le_of_ble_eq_true rfl) ?_
  show zGo X l 9 0 0 323 0 [(0, .ref 336), (1, .int a), (2, .int b), (3, .int c), (4, .int d), (5, .int (3 : Int32))] [] zMm _
  refine zs_iload_n (pc := 0) t323_0 rfl ?_
  refine zs_iload_n (pc := 1) t323_1 rfl ?_
  refine zs_iload_n (pc := 2) t323_2 rfl ?_
  refine zs_iload (pc := 3) t323_3 rfl ?_
  refine zs_invS (pc := 5) (as := [.int a, .int b, .int c, .int d]) (st := []) t323_5 (by decide) mf324 rfl rfl ⟨by decide, by decide, Nat.le_of_ble_eq_true rfl, Nat.le_of_ble_eq_true rfl⟩ (zs_in (by decide) mf324 (Nat.le_of_ble_eq_true rfl) ?_) (fun _ _ q => q)
  show zGo X l 1 0 0 324 0 [(0, .int a), (1, .int b), (2, .int c), (3, .int d)] [] zMm _
  refine zs_iload_n (pc := 0) t324_0 rfl ?_
  refine zs_i2l (pc := 1) t324_1 rfl ?_
  refine zs_lconst (pc := 2) t324_2 (v := 1) (by decide) ?_
  refine zs_ldc2_w (pc := 3) t324_3 (v := 200) (by decide) ?_
  refine zs_invS (pc := 6) (as := [.long a.toInt64, .long (1 : Int64), .long (200 : Int64)]) (st := []) t324_6 (by decide) mf228 rfl rfl ⟨by decide, by decide, Nat.le_of_ble_eq_true rfl, Nat.le_of_ble_eq_true rfl⟩ (in_T (zi2l rfl) ll1 ll200 (by omega) (by omega)) ?_
  rintro r Mi ⟨rfl, rfl⟩
  show zGo X l 1 0 0 324 9 [(0, .int a), (1, .int b), (2, .int c), (3, .int d)] [.int (1 : Int32)] zMm _
  refine zs_if_eqF (pc := 9) t324_9 li1 (by decide) ?_
  refine zs_iload_n (pc := 12) t324_12 rfl ?_
  refine zs_i2l (pc := 13) t324_13 rfl ?_
  refine zs_lconst (pc := 14) t324_14 (v := 1) (by decide) ?_
  refine zs_ldc2_w (pc := 15) t324_15 (v := 999) (by decide) ?_
  refine zs_invS (pc := 18) (as := [.long b.toInt64, .long (1 : Int64), .long (999 : Int64)]) (st := []) t324_18 (by decide) mf228 rfl rfl ⟨by decide, by decide, Nat.le_of_ble_eq_true rfl, Nat.le_of_ble_eq_true rfl⟩ (in_T (zi2l rfl) ll1 ll999 (by omega) (by omega)) ?_
  rintro r Mi ⟨rfl, rfl⟩
  show zGo X l 1 0 0 324 21 [(0, .int a), (1, .int b), (2, .int c), (3, .int d)] [.int (1 : Int32)] zMm _
  refine zs_if_eqF (pc := 21) t324_21 li1 (by decide) ?_
  refine zs_iload_n (pc := 24) t324_24 rfl ?_
  refine zs_i2l (pc := 25) t324_25 rfl ?_
  refine zs_lconst (pc := 26) t324_26 (v := 1) (by decide) ?_
  refine zs_ldc2_w (pc := 27) t324_27 (v := 8) (by decide) ?_
  refine zs_invS (pc := 30) (as := [.long c.toInt64, .long (1 : Int64), .long (8 : Int64)]) (st := []) t324_30 (by decide) mf228 rfl rfl ⟨by decide, by decide, Nat.le_of_ble_eq_true rfl, Nat.le_of_ble_eq_true rfl⟩ (in_T (zi2l rfl) ll1 ll8 (by omega) (by omega)) ?_
  rintro r Mi ⟨rfl, rfl⟩
  show zGo X l 1 0 0 324 33 [(0, .int a), (1, .int b), (2, .int c), (3, .int d)] [.int (1 : Int32)] zMm _
  refine zs_if_eqF (pc := 33) t324_33 li1 (by decide) ?_
  refine zs_iload_n (pc := 36) t324_36 rfl ?_
  refine zs_i2l (pc := 37) t324_37 rfl ?_
  refine zs_lconst (pc := 38) t324_38 (v := 0) (by decide) ?_
  refine zs_ldc2_w (pc := 39) t324_39 (v := 50) (by decide) ?_
  refine zs_invS (pc := 42) (as := [.long d.toInt64, .long (0 : Int64), .long (50 : Int64)]) (st := []) t324_42 (by decide) mf228 rfl rfl ⟨by decide, by decide, Nat.le_of_ble_eq_true rfl, Nat.le_of_ble_eq_true rfl⟩ (in_T (zi2l rfl) ll0 ll50 (by omega) (by omega)) ?_
  rintro r Mi ⟨rfl, rfl⟩
  show zGo X l 1 0 0 324 45 [(0, .int a), (1, .int b), (2, .int c), (3, .int d)] [.int (1 : Int32)] zMm _
  refine zs_if_eqF (pc := 45) t324_45 li1 (by decide) ?_
  refine zs_iconst (pc := 48) t324_48 (v := 1) (by decide) ?_
  refine zs_goto (pc := 49) t324_49 ?_
  refine zs_iret (pc := 53) t324_53 mr324 (by decide) ?_
  show zGo X l 9 0 0 323 8 [(0, .ref 336), (1, .int a), (2, .int b), (3, .int c), (4, .int d), (5, .int (3 : Int32))] [.int (1 : Int32)] zMm _
  refine zs_if_eqF (pc := 8) t323_8 li1 (by decide) ?_
  refine zs_iload (pc := 11) t323_11 rfl ?_
  refine zs_i2l (pc := 13) t323_13 (c := 3) (by decide) ?_
  refine zs_lconst (pc := 14) t323_14 (v := 0) (by decide) ?_
  refine zs_ldc2_w (pc := 15) t323_15 (v := 3) (by decide) ?_
  refine zs_invS (pc := 18) (as := [.long (3 : Int64), .long (0 : Int64), .long (3 : Int64)]) (st := []) t323_18 (by decide) mf228 rfl rfl ⟨by decide, by decide, Nat.le_of_ble_eq_true rfl, Nat.le_of_ble_eq_true rfl⟩ (in_T ll3 ll0 ll3 (by omega) (by omega)) ?_
  rintro r Mi ⟨rfl, rfl⟩
  show zGo X l 9 0 0 323 21 [(0, .ref 336), (1, .int a), (2, .int b), (3, .int c), (4, .int d), (5, .int (3 : Int32))] [.int (1 : Int32)] zMm _
  refine zs_if_neT (pc := 21) t323_21 li1 (by decide) ?_
  refine zs_aload_n (pc := 26) t323_26 rfl ?_
  refine zs_iload_n (pc := 27) t323_27 rfl ?_
  refine zs_iload_n (pc := 28) t323_28 rfl ?_
  refine zs_iload_n (pc := 29) t323_29 rfl ?_
  refine zs_iload (pc := 30) t323_30 rfl ?_
  refine zs_invV (pc := 32) (k := 336) (as' := [.int a, .int b, .int c, .int d]) (st := []) t323_32 mf325 rfl rfl (Or.inl ⟨by decide, (zk1 fk_zMm_336)⟩) ⟨by decide, by decide, Nat.le_of_ble_eq_true rfl, Nat.le_of_ble_eq_true rfl⟩ (qs_c (n := a.toInt.toNat) (p := b.toInt.toNat) (w := c.toInt.toNat) (by omega) (by omega) (by omega) (by omega) (by omega) (by omega) (by omega) (by omega) (by omega)) ?_
  rintro r Mw ⟨rfl, k336, z42, z43, z44, lv, z45, hl⟩
  show zGo X l 9 0 0 323 35 [(0, .ref 336), (1, .int a), (2, .int b), (3, .int c), (4, .int d), (5, .int (3 : Int32))] [] Mw _
  refine zs_iload (pc := 35) t323_35 rfl ?_
  refine zs_if_neT (pc := 37) t323_37 li3 (by decide) ?_
  refine zs_iload (pc := 47) t323_47 rfl ?_
  refine zs_iconst (pc := 49) t323_49 (v := 1) (by decide) ?_
  refine zs_icmp_neT (pc := 50) t323_50 li3 li1 (by decide) ?_
  refine zs_iload (pc := 60) t323_60 rfl ?_
  refine zs_iconst (pc := 62) t323_62 (v := 2) (by decide) ?_
  refine zs_icmp_neT (pc := 63) t323_63 li3 li2 (by decide) ?_
  refine zs_aload_n (pc := 73) t323_73 rfl ?_
  refine zs_get (pc := 74) t323_74 (by decide) (zk1 k336) z45 ?_
  exact zs_iret (pc := 77) t323_77 mr323 rfl (congrArg (fun v => some (Value.int v)) (by rw [← hl, Int32.ofInt_toInt]))
theorem c22_0 {X : zX} {l : Launch} {a b c : Int32} (la : (-2147483648) ≤ a.toInt) (ua : a.toInt ≤ 0) : zCall X l 7 0 0 193 [.ref 6, .int a, .int b, .int c] zMc (fun r _ => r = some (.int (-1 : Int32))) := by
  have ga := zrg a
  have gb := zrg b
  have gc := zrg c
  refine zs_in (by decide) mf193 (Nat.le_of_ble_eq_true rfl) ?_
  show zGo X l 7 0 0 193 0 [(0, .ref 6), (1, .int a), (2, .int b), (3, .int c)] [] zMc _
  refine zs_iload_n (pc := 0) t193_0 rfl ?_
  refine zs_iload_n (pc := 1) t193_1 rfl ?_
  refine zs_iload_n (pc := 2) t193_2 rfl ?_
  refine zs_invS (pc := 3) (as := [.int a, .int b, .int c]) (st := []) t193_3 (by decide) mf189 rfl rfl ⟨by decide, by decide, Nat.le_of_ble_eq_true rfl, Nat.le_of_ble_eq_true rfl⟩ (zs_in (by decide) mf189 (Nat.le_of_ble_eq_true rfl) ?_) (fun _ _ q => q)
  show zGo X l 1 0 0 189 0 [(0, .int a), (1, .int b), (2, .int c)] [] zMc _
  refine zs_iload_n (pc := 0) t189_0 rfl ?_
  refine zs_iconst (pc := 1) t189_1 (v := 1) (by decide) ?_
  refine zs_sipush (pc := 2) t189_2 (v := 200) (by decide) ?_
  refine zs_invS (pc := 5) (as := [.int a, .int (1 : Int32), .int (200 : Int32)]) (st := []) t189_5 (by decide) mf39 rfl rfl ⟨by decide, by decide, Nat.le_of_ble_eq_true rfl, Nat.le_of_ble_eq_true rfl⟩ (zs_in (by decide) mf39 (Nat.le_of_ble_eq_true rfl) ?_) (fun _ _ q => q)
  show zGo X l 0 0 0 39 0 [(0, .int a), (1, .int (1 : Int32)), (2, .int (200 : Int32))] [] zMc _
  refine zs_iload_n (pc := 0) t39_0 rfl ?_
  refine zs_iload_n (pc := 1) t39_1 rfl ?_
  refine zs_icmp_ltT (pc := 2) t39_2 rfl li1 (by omega) ?_
  refine zs_iconst (pc := 14) t39_14 (v := 0) (by decide) ?_
  refine zs_iret (pc := 15) t39_15 mr39 (by decide) ?_
  show zGo X l 1 0 0 189 8 [(0, .int a), (1, .int b), (2, .int c)] [.int (0 : Int32)] zMc _
  refine zs_if_eqT (pc := 8) t189_8 li0 (by decide) ?_
  refine zs_iconst (pc := 36) t189_36 (v := 0) (by decide) ?_
  refine zs_iret (pc := 37) t189_37 mr189 (by decide) ?_
  show zGo X l 7 0 0 193 6 [(0, .ref 6), (1, .int a), (2, .int b), (3, .int c)] [.int (0 : Int32)] zMc _
  refine zs_if_neF (pc := 6) t193_6 li0 (by decide) ?_
  refine zs_iconst (pc := 9) t193_9 (v := -1) (by decide) ?_
  exact zs_iret (pc := 10) t193_10 mr193 (by decide) rfl
theorem m22_0 {X : zX} {l : Launch} {a b c : Int32} (la : (-2147483648) ≤ a.toInt) (ua : a.toInt ≤ 0) : zCall X l 9 0 0 326 [.ref 336, .int a, .int b, .int c] zMm (fun r _ => r = some (.int (-1 : Int32))) := by
  have ga := zrg a
  have gb := zrg b
  have gc := zrg c
  refine zs_in (by decide) mf326 (Nat.le_of_ble_eq_true rfl) ?_
  show zGo X l 9 0 0 326 0 [(0, .ref 336), (1, .int a), (2, .int b), (3, .int c)] [] zMm _
  refine zs_iload_n (pc := 0) t326_0 rfl ?_
  refine zs_iload_n (pc := 1) t326_1 rfl ?_
  refine zs_iconst (pc := 2) t326_2 (v := 1) (by decide) ?_
  refine zs_iload_n (pc := 3) t326_3 rfl ?_
  refine zs_invS (pc := 4) (as := [.int a, .int b, .int (1 : Int32), .int c]) (st := []) t326_4 (by decide) mf324 rfl rfl ⟨by decide, by decide, Nat.le_of_ble_eq_true rfl, Nat.le_of_ble_eq_true rfl⟩ (zs_in (by decide) mf324 (Nat.le_of_ble_eq_true rfl) ?_) (fun _ _ q => q)
  show zGo X l 1 0 0 324 0 [(0, .int a), (1, .int b), (2, .int (1 : Int32)), (3, .int c)] [] zMm _
  refine zs_iload_n (pc := 0) t324_0 rfl ?_
  refine zs_i2l (pc := 1) t324_1 rfl ?_
  refine zs_lconst (pc := 2) t324_2 (v := 1) (by decide) ?_
  refine zs_ldc2_w (pc := 3) t324_3 (v := 200) (by decide) ?_
  refine zs_invS (pc := 6) (as := [.long a.toInt64, .long (1 : Int64), .long (200 : Int64)]) (st := []) t324_6 (by decide) mf228 rfl rfl ⟨by decide, by decide, Nat.le_of_ble_eq_true rfl, Nat.le_of_ble_eq_true rfl⟩ (in_F (zi2l rfl) ll1 ll200 (by omega)) ?_
  rintro r Mi ⟨rfl, rfl⟩
  show zGo X l 1 0 0 324 9 [(0, .int a), (1, .int b), (2, .int (1 : Int32)), (3, .int c)] [.int (0 : Int32)] zMm _
  refine zs_if_eqT (pc := 9) t324_9 li0 (by decide) ?_
  refine zs_iconst (pc := 52) t324_52 (v := 0) (by decide) ?_
  refine zs_iret (pc := 53) t324_53 mr324 (by decide) ?_
  show zGo X l 9 0 0 326 7 [(0, .ref 336), (1, .int a), (2, .int b), (3, .int c)] [.int (0 : Int32)] zMm _
  refine zs_if_neF (pc := 7) t326_7 li0 (by decide) ?_
  refine zs_iconst (pc := 10) t326_10 (v := -1) (by decide) ?_
  exact zs_iret (pc := 11) t326_11 mr326 (by decide) rfl
theorem c22_1 {X : zX} {l : Launch} {a b c : Int32} (la : 201 ≤ a.toInt) (ua : a.toInt ≤ 2147483647) : zCall X l 7 0 0 193 [.ref 6, .int a, .int b, .int c] zMc (fun r _ => r = some (.int (-1 : Int32))) := by
  have ga := zrg a
  have gb := zrg b
  have gc := zrg c
  refine zs_in (by decide) mf193 (Nat.le_of_ble_eq_true rfl) ?_
  show zGo X l 7 0 0 193 0 [(0, .ref 6), (1, .int a), (2, .int b), (3, .int c)] [] zMc _
  refine zs_iload_n (pc := 0) t193_0 rfl ?_
  refine zs_iload_n (pc := 1) t193_1 rfl ?_
  refine zs_iload_n (pc := 2) t193_2 rfl ?_
  refine zs_invS (pc := 3) (as := [.int a, .int b, .int c]) (st := []) t193_3 (by decide) mf189 rfl rfl ⟨by decide, by decide, Nat.le_of_ble_eq_true rfl, Nat.le_of_ble_eq_true rfl⟩ (zs_in (by decide) mf189 (Nat.le_of_ble_eq_true rfl) ?_) (fun _ _ q => q)
  show zGo X l 1 0 0 189 0 [(0, .int a), (1, .int b), (2, .int c)] [] zMc _
  refine zs_iload_n (pc := 0) t189_0 rfl ?_
  refine zs_iconst (pc := 1) t189_1 (v := 1) (by decide) ?_
  refine zs_sipush (pc := 2) t189_2 (v := 200) (by decide) ?_
  refine zs_invS (pc := 5) (as := [.int a, .int (1 : Int32), .int (200 : Int32)]) (st := []) t189_5 (by decide) mf39 rfl rfl ⟨by decide, by decide, Nat.le_of_ble_eq_true rfl, Nat.le_of_ble_eq_true rfl⟩ (zs_in (by decide) mf39 (Nat.le_of_ble_eq_true rfl) ?_) (fun _ _ q => q)
  show zGo X l 0 0 0 39 0 [(0, .int a), (1, .int (1 : Int32)), (2, .int (200 : Int32))] [] zMc _
  refine zs_iload_n (pc := 0) t39_0 rfl ?_
  refine zs_iload_n (pc := 1) t39_1 rfl ?_
  refine zs_icmp_ltF (pc := 2) t39_2 rfl li1 (by omega) ?_
  refine zs_iload_n (pc := 5) t39_5 rfl ?_
  refine zs_iload_n (pc := 6) t39_6 rfl ?_
  refine zs_icmp_gtT (pc := 7) t39_7 rfl li200 (by omega) ?_
  refine zs_iconst (pc := 14) t39_14 (v := 0) (by decide) ?_
  refine zs_iret (pc := 15) t39_15 mr39 (by decide) ?_
  show zGo X l 1 0 0 189 8 [(0, .int a), (1, .int b), (2, .int c)] [.int (0 : Int32)] zMc _
  refine zs_if_eqT (pc := 8) t189_8 li0 (by decide) ?_
  refine zs_iconst (pc := 36) t189_36 (v := 0) (by decide) ?_
  refine zs_iret (pc := 37) t189_37 mr189 (by decide) ?_
  show zGo X l 7 0 0 193 6 [(0, .ref 6), (1, .int a), (2, .int b), (3, .int c)] [.int (0 : Int32)] zMc _
  refine zs_if_neF (pc := 6) t193_6 li0 (by decide) ?_
  refine zs_iconst (pc := 9) t193_9 (v := -1) (by decide) ?_
  exact zs_iret (pc := 10) t193_10 mr193 (by decide) rfl
theorem m22_1 {X : zX} {l : Launch} {a b c : Int32} (la : 201 ≤ a.toInt) (ua : a.toInt ≤ 2147483647) : zCall X l 9 0 0 326 [.ref 336, .int a, .int b, .int c] zMm (fun r _ => r = some (.int (-1 : Int32))) := by
  have ga := zrg a
  have gb := zrg b
  have gc := zrg c
  refine zs_in (by decide) mf326 (Nat.le_of_ble_eq_true rfl) ?_
  show zGo X l 9 0 0 326 0 [(0, .ref 336), (1, .int a), (2, .int b), (3, .int c)] [] zMm _
  refine zs_iload_n (pc := 0) t326_0 rfl ?_
  refine zs_iload_n (pc := 1) t326_1 rfl ?_
  refine zs_iconst (pc := 2) t326_2 (v := 1) (by decide) ?_
  refine zs_iload_n (pc := 3) t326_3 rfl ?_
  refine zs_invS (pc := 4) (as := [.int a, .int b, .int (1 : Int32), .int c]) (st := []) t326_4 (by decide) mf324 rfl rfl ⟨by decide, by decide, Nat.le_of_ble_eq_true rfl, Nat.le_of_ble_eq_true rfl⟩ (zs_in (by decide) mf324 (Nat.le_of_ble_eq_true rfl) ?_) (fun _ _ q => q)
  show zGo X l 1 0 0 324 0 [(0, .int a), (1, .int b), (2, .int (1 : Int32)), (3, .int c)] [] zMm _
  refine zs_iload_n (pc := 0) t324_0 rfl ?_
  refine zs_i2l (pc := 1) t324_1 rfl ?_
  refine zs_lconst (pc := 2) t324_2 (v := 1) (by decide) ?_
  refine zs_ldc2_w (pc := 3) t324_3 (v := 200) (by decide) ?_
  refine zs_invS (pc := 6) (as := [.long a.toInt64, .long (1 : Int64), .long (200 : Int64)]) (st := []) t324_6 (by decide) mf228 rfl rfl ⟨by decide, by decide, Nat.le_of_ble_eq_true rfl, Nat.le_of_ble_eq_true rfl⟩ (in_F (zi2l rfl) ll1 ll200 (by omega)) ?_
  rintro r Mi ⟨rfl, rfl⟩
  show zGo X l 1 0 0 324 9 [(0, .int a), (1, .int b), (2, .int (1 : Int32)), (3, .int c)] [.int (0 : Int32)] zMm _
  refine zs_if_eqT (pc := 9) t324_9 li0 (by decide) ?_
  refine zs_iconst (pc := 52) t324_52 (v := 0) (by decide) ?_
  refine zs_iret (pc := 53) t324_53 mr324 (by decide) ?_
  show zGo X l 9 0 0 326 7 [(0, .ref 336), (1, .int a), (2, .int b), (3, .int c)] [.int (0 : Int32)] zMm _
  refine zs_if_neF (pc := 7) t326_7 li0 (by decide) ?_
  refine zs_iconst (pc := 10) t326_10 (v := -1) (by decide) ?_
  exact zs_iret (pc := 11) t326_11 mr326 (by decide) rfl
theorem c22_2 {X : zX} {l : Launch} {a b c : Int32} (la : 1 ≤ a.toInt) (ua : a.toInt ≤ 200) (lb : (-2147483648) ≤ b.toInt) (ub : b.toInt ≤ 0) : zCall X l 7 0 0 193 [.ref 6, .int a, .int b, .int c] zMc (fun r _ => r = some (.int (-1 : Int32))) := by
  have ga := zrg a
  have gb := zrg b
  have gc := zrg c
  refine zs_in (by decide) mf193 (Nat.le_of_ble_eq_true rfl) ?_
  show zGo X l 7 0 0 193 0 [(0, .ref 6), (1, .int a), (2, .int b), (3, .int c)] [] zMc _
  refine zs_iload_n (pc := 0) t193_0 rfl ?_
  refine zs_iload_n (pc := 1) t193_1 rfl ?_
  refine zs_iload_n (pc := 2) t193_2 rfl ?_
  refine zs_invS (pc := 3) (as := [.int a, .int b, .int c]) (st := []) t193_3 (by decide) mf189 rfl rfl ⟨by decide, by decide, Nat.le_of_ble_eq_true rfl, Nat.le_of_ble_eq_true rfl⟩ (zs_in (by decide) mf189 (Nat.le_of_ble_eq_true rfl) ?_) (fun _ _ q => q)
  show zGo X l 1 0 0 189 0 [(0, .int a), (1, .int b), (2, .int c)] [] zMc _
  refine zs_iload_n (pc := 0) t189_0 rfl ?_
  refine zs_iconst (pc := 1) t189_1 (v := 1) (by decide) ?_
  refine zs_sipush (pc := 2) t189_2 (v := 200) (by decide) ?_
  refine zs_invS (pc := 5) (as := [.int a, .int (1 : Int32), .int (200 : Int32)]) (st := []) t189_5 (by decide) mf39 rfl rfl ⟨by decide, by decide, Nat.le_of_ble_eq_true rfl, Nat.le_of_ble_eq_true rfl⟩ (zs_in (by decide) mf39 (Nat.le_of_ble_eq_true rfl) ?_) (fun _ _ q => q)
  show zGo X l 0 0 0 39 0 [(0, .int a), (1, .int (1 : Int32)), (2, .int (200 : Int32))] [] zMc _
  refine zs_iload_n (pc := 0) t39_0 rfl ?_
  refine zs_iload_n (pc := 1) t39_1 rfl ?_
  refine zs_icmp_ltF (pc := 2) t39_2 rfl li1 (by omega) ?_
  refine zs_iload_n (pc := 5) t39_5 rfl ?_
  refine zs_iload_n (pc := 6) t39_6 rfl ?_
  refine zs_icmp_gtF (pc := 7) t39_7 rfl li200 (by omega) ?_
  refine zs_iconst (pc := 10) t39_10 (v := 1) (by decide) ?_
  refine zs_goto (pc := 11) t39_11 ?_
  refine zs_iret (pc := 15) t39_15 mr39 (by decide) ?_
  show zGo X l 1 0 0 189 8 [(0, .int a), (1, .int b), (2, .int c)] [.int (1 : Int32)] zMc _
  refine zs_if_eqF (pc := 8) t189_8 li1 (by decide) ?_
  refine zs_iload_n (pc := 11) t189_11 rfl ?_
  refine zs_iconst (pc := 12) t189_12 (v := 1) (by decide) ?_
  refine zs_sipush (pc := 13) t189_13 (v := 999) (by decide) ?_
  refine zs_invS (pc := 16) (as := [.int b, .int (1 : Int32), .int (999 : Int32)]) (st := []) t189_16 (by decide) mf39 rfl rfl ⟨by decide, by decide, Nat.le_of_ble_eq_true rfl, Nat.le_of_ble_eq_true rfl⟩ (zs_in (by decide) mf39 (Nat.le_of_ble_eq_true rfl) ?_) (fun _ _ q => q)
  show zGo X l 0 0 0 39 0 [(0, .int b), (1, .int (1 : Int32)), (2, .int (999 : Int32))] [] zMc _
  refine zs_iload_n (pc := 0) t39_0 rfl ?_
  refine zs_iload_n (pc := 1) t39_1 rfl ?_
  refine zs_icmp_ltT (pc := 2) t39_2 rfl li1 (by omega) ?_
  refine zs_iconst (pc := 14) t39_14 (v := 0) (by decide) ?_
  refine zs_iret (pc := 15) t39_15 mr39 (by decide) ?_
  show zGo X l 1 0 0 189 19 [(0, .int a), (1, .int b), (2, .int c)] [.int (0 : Int32)] zMc _
  refine zs_if_eqT (pc := 19) t189_19 li0 (by decide) ?_
  refine zs_iconst (pc := 36) t189_36 (v := 0) (by decide) ?_
  refine zs_iret (pc := 37) t189_37 mr189 (by decide) ?_
  show zGo X l 7 0 0 193 6 [(0, .ref 6), (1, .int a), (2, .int b), (3, .int c)] [.int (0 : Int32)] zMc _
  refine zs_if_neF (pc := 6) t193_6 li0 (by decide) ?_
  refine zs_iconst (pc := 9) t193_9 (v := -1) (by decide) ?_
  exact zs_iret (pc := 10) t193_10 mr193 (by decide) rfl
theorem m22_2 {X : zX} {l : Launch} {a b c : Int32} (la : 1 ≤ a.toInt) (ua : a.toInt ≤ 200) (lb : (-2147483648) ≤ b.toInt) (ub : b.toInt ≤ 0) : zCall X l 9 0 0 326 [.ref 336, .int a, .int b, .int c] zMm (fun r _ => r = some (.int (-1 : Int32))) := by
  have ga := zrg a
  have gb := zrg b
  have gc := zrg c
  refine zs_in (by decide) mf326 (Nat.le_of_ble_eq_true rfl) ?_
  show zGo X l 9 0 0 326 0 [(0, .ref 336), (1, .int a), (2, .int b), (3, .int c)] [] zMm _
  refine zs_iload_n (pc := 0) t326_0 rfl ?_
  refine zs_iload_n (pc := 1) t326_1 rfl ?_
  refine zs_iconst (pc := 2) t326_2 (v := 1) (by decide) ?_
  refine zs_iload_n (pc := 3) t326_3 rfl ?_
  refine zs_invS (pc := 4) (as := [.int a, .int b, .int (1 : Int32), .int c]) (st := []) t326_4 (by decide) mf324 rfl rfl ⟨by decide, by decide, Nat.le_of_ble_eq_true rfl, Nat.le_of_ble_eq_true rfl⟩ (zs_in (by decide) mf324 (Nat.le_of_ble_eq_true rfl) ?_) (fun _ _ q => q)
  show zGo X l 1 0 0 324 0 [(0, .int a), (1, .int b), (2, .int (1 : Int32)), (3, .int c)] [] zMm _
  refine zs_iload_n (pc := 0) t324_0 rfl ?_
  refine zs_i2l (pc := 1) t324_1 rfl ?_
  refine zs_lconst (pc := 2) t324_2 (v := 1) (by decide) ?_
  refine zs_ldc2_w (pc := 3) t324_3 (v := 200) (by decide) ?_
  refine zs_invS (pc := 6) (as := [.long a.toInt64, .long (1 : Int64), .long (200 : Int64)]) (st := []) t324_6 (by decide) mf228 rfl rfl ⟨by decide, by decide, Nat.le_of_ble_eq_true rfl, Nat.le_of_ble_eq_true rfl⟩ (in_T (zi2l rfl) ll1 ll200 (by omega) (by omega)) ?_
  rintro r Mi ⟨rfl, rfl⟩
  show zGo X l 1 0 0 324 9 [(0, .int a), (1, .int b), (2, .int (1 : Int32)), (3, .int c)] [.int (1 : Int32)] zMm _
  refine zs_if_eqF (pc := 9) t324_9 li1 (by decide) ?_
  refine zs_iload_n (pc := 12) t324_12 rfl ?_
  refine zs_i2l (pc := 13) t324_13 rfl ?_
  refine zs_lconst (pc := 14) t324_14 (v := 1) (by decide) ?_
  refine zs_ldc2_w (pc := 15) t324_15 (v := 999) (by decide) ?_
  refine zs_invS (pc := 18) (as := [.long b.toInt64, .long (1 : Int64), .long (999 : Int64)]) (st := []) t324_18 (by decide) mf228 rfl rfl ⟨by decide, by decide, Nat.le_of_ble_eq_true rfl, Nat.le_of_ble_eq_true rfl⟩ (in_F (zi2l rfl) ll1 ll999 (by omega)) ?_
  rintro r Mi ⟨rfl, rfl⟩
  show zGo X l 1 0 0 324 21 [(0, .int a), (1, .int b), (2, .int (1 : Int32)), (3, .int c)] [.int (0 : Int32)] zMm _
  refine zs_if_eqT (pc := 21) t324_21 li0 (by decide) ?_
  refine zs_iconst (pc := 52) t324_52 (v := 0) (by decide) ?_
  refine zs_iret (pc := 53) t324_53 mr324 (by decide) ?_
  show zGo X l 9 0 0 326 7 [(0, .ref 336), (1, .int a), (2, .int b), (3, .int c)] [.int (0 : Int32)] zMm _
  refine zs_if_neF (pc := 7) t326_7 li0 (by decide) ?_
  refine zs_iconst (pc := 10) t326_10 (v := -1) (by decide) ?_
  exact zs_iret (pc := 11) t326_11 mr326 (by decide) rfl
theorem c22_3 {X : zX} {l : Launch} {a b c : Int32} (la : 1 ≤ a.toInt) (ua : a.toInt ≤ 200) (lb : 1000 ≤ b.toInt) (ub : b.toInt ≤ 2147483647) : zCall X l 7 0 0 193 [.ref 6, .int a, .int b, .int c] zMc (fun r _ => r = some (.int (-1 : Int32))) := by
  have ga := zrg a
  have gb := zrg b
  have gc := zrg c
  refine zs_in (by decide) mf193 (Nat.le_of_ble_eq_true rfl) ?_
  show zGo X l 7 0 0 193 0 [(0, .ref 6), (1, .int a), (2, .int b), (3, .int c)] [] zMc _
  refine zs_iload_n (pc := 0) t193_0 rfl ?_
  refine zs_iload_n (pc := 1) t193_1 rfl ?_
  refine zs_iload_n (pc := 2) t193_2 rfl ?_
  refine zs_invS (pc := 3) (as := [.int a, .int b, .int c]) (st := []) t193_3 (by decide) mf189 rfl rfl ⟨by decide, by decide, Nat.le_of_ble_eq_true rfl, Nat.le_of_ble_eq_true rfl⟩ (zs_in (by decide) mf189 (Nat.le_of_ble_eq_true rfl) ?_) (fun _ _ q => q)
  show zGo X l 1 0 0 189 0 [(0, .int a), (1, .int b), (2, .int c)] [] zMc _
  refine zs_iload_n (pc := 0) t189_0 rfl ?_
  refine zs_iconst (pc := 1) t189_1 (v := 1) (by decide) ?_
  refine zs_sipush (pc := 2) t189_2 (v := 200) (by decide) ?_
  refine zs_invS (pc := 5) (as := [.int a, .int (1 : Int32), .int (200 : Int32)]) (st := []) t189_5 (by decide) mf39 rfl rfl ⟨by decide, by decide, Nat.le_of_ble_eq_true rfl, Nat.le_of_ble_eq_true rfl⟩ (zs_in (by decide) mf39 (Nat.le_of_ble_eq_true rfl) ?_) (fun _ _ q => q)
  show zGo X l 0 0 0 39 0 [(0, .int a), (1, .int (1 : Int32)), (2, .int (200 : Int32))] [] zMc _
  refine zs_iload_n (pc := 0) t39_0 rfl ?_
  refine zs_iload_n (pc := 1) t39_1 rfl ?_
  refine zs_icmp_ltF (pc := 2) t39_2 rfl li1 (by omega) ?_
  refine zs_iload_n (pc := 5) t39_5 rfl ?_
  refine zs_iload_n (pc := 6) t39_6 rfl ?_
  refine zs_icmp_gtF (pc := 7) t39_7 rfl li200 (by omega) ?_
  refine zs_iconst (pc := 10) t39_10 (v := 1) (by decide) ?_
  refine zs_goto (pc := 11) t39_11 ?_
  refine zs_iret (pc := 15) t39_15 mr39 (by decide) ?_
  show zGo X l 1 0 0 189 8 [(0, .int a), (1, .int b), (2, .int c)] [.int (1 : Int32)] zMc _
  refine zs_if_eqF (pc := 8) t189_8 li1 (by decide) ?_
  refine zs_iload_n (pc := 11) t189_11 rfl ?_
  refine zs_iconst (pc := 12) t189_12 (v := 1) (by decide) ?_
  refine zs_sipush (pc := 13) t189_13 (v := 999) (by decide) ?_
  refine zs_invS (pc := 16) (as := [.int b, .int (1 : Int32), .int (999 : Int32)]) (st := []) t189_16 (by decide) mf39 rfl rfl ⟨by decide, by decide, Nat.le_of_ble_eq_true rfl, Nat.le_of_ble_eq_true rfl⟩ (zs_in (by decide) mf39 (Nat.le_of_ble_eq_true rfl) ?_) (fun _ _ q => q)
  show zGo X l 0 0 0 39 0 [(0, .int b), (1, .int (1 : Int32)), (2, .int (999 : Int32))] [] zMc _
  refine zs_iload_n (pc := 0) t39_0 rfl ?_
  refine zs_iload_n (pc := 1) t39_1 rfl ?_
  refine zs_icmp_ltF (pc := 2) t39_2 rfl li1 (by omega) ?_
  refine zs_iload_n (pc := 5) t39_5 rfl ?_
  refine zs_iload_n (pc := 6) t39_6 rfl ?_
  refine zs_icmp_gtT (pc := 7) t39_7 rfl li999 (by omega) ?_
  refine zs_iconst (pc := 14) t39_14 (v := 0) (by decide) ?_
  refine zs_iret (pc := 15) t39_15 mr39 (by decide) ?_
  show zGo X l 1 0 0 189 19 [(0, .int a), (1, .int b), (2, .int c)] [.int (0 : Int32)] zMc _
  refine zs_if_eqT (pc := 19) t189_19 li0 (by decide) ?_
  refine zs_iconst (pc := 36) t189_36 (v := 0) (by decide) ?_
  refine zs_iret (pc := 37) t189_37 mr189 (by decide) ?_
  show zGo X l 7 0 0 193 6 [(0, .ref 6), (1, .int a), (2, .int b), (3, .int c)] [.int (0 : Int32)] zMc _
  refine zs_if_neF (pc := 6) t193_6 li0 (by decide) ?_
  refine zs_iconst (pc := 9) t193_9 (v := -1) (by decide) ?_
  exact zs_iret (pc := 10) t193_10 mr193 (by decide) rfl
theorem m22_3 {X : zX} {l : Launch} {a b c : Int32} (la : 1 ≤ a.toInt) (ua : a.toInt ≤ 200) (lb : 1000 ≤ b.toInt) (ub : b.toInt ≤ 2147483647) : zCall X l 9 0 0 326 [.ref 336, .int a, .int b, .int c] zMm (fun r _ => r = some (.int (-1 : Int32))) := by
  have ga := zrg a
  have gb := zrg b
  have gc := zrg c
  refine zs_in (by decide) mf326 (Nat.le_of_ble_eq_true rfl) ?_
  show zGo X l 9 0 0 326 0 [(0, .ref 336), (1, .int a), (2, .int b), (3, .int c)] [] zMm _
  refine zs_iload_n (pc := 0) t326_0 rfl ?_
  refine zs_iload_n (pc := 1) t326_1 rfl ?_
  refine zs_iconst (pc := 2) t326_2 (v := 1) (by decide) ?_
  refine zs_iload_n (pc := 3) t326_3 rfl ?_
  refine zs_invS (pc := 4) (as := [.int a, .int b, .int (1 : Int32), .int c]) (st := []) t326_4 (by decide) mf324 rfl rfl ⟨by decide, by decide, Nat.le_of_ble_eq_true rfl, Nat.le_of_ble_eq_true rfl⟩ (zs_in (by decide) mf324 (Nat.le_of_ble_eq_true rfl) ?_) (fun _ _ q => q)
  show zGo X l 1 0 0 324 0 [(0, .int a), (1, .int b), (2, .int (1 : Int32)), (3, .int c)] [] zMm _
  refine zs_iload_n (pc := 0) t324_0 rfl ?_
  refine zs_i2l (pc := 1) t324_1 rfl ?_
  refine zs_lconst (pc := 2) t324_2 (v := 1) (by decide) ?_
  refine zs_ldc2_w (pc := 3) t324_3 (v := 200) (by decide) ?_
  refine zs_invS (pc := 6) (as := [.long a.toInt64, .long (1 : Int64), .long (200 : Int64)]) (st := []) t324_6 (by decide) mf228 rfl rfl ⟨by decide, by decide, Nat.le_of_ble_eq_true rfl, Nat.le_of_ble_eq_true rfl⟩ (in_T (zi2l rfl) ll1 ll200 (by omega) (by omega)) ?_
  rintro r Mi ⟨rfl, rfl⟩
  show zGo X l 1 0 0 324 9 [(0, .int a), (1, .int b), (2, .int (1 : Int32)), (3, .int c)] [.int (1 : Int32)] zMm _
  refine zs_if_eqF (pc := 9) t324_9 li1 (by decide) ?_
  refine zs_iload_n (pc := 12) t324_12 rfl ?_
  refine zs_i2l (pc := 13) t324_13 rfl ?_
  refine zs_lconst (pc := 14) t324_14 (v := 1) (by decide) ?_
  refine zs_ldc2_w (pc := 15) t324_15 (v := 999) (by decide) ?_
  refine zs_invS (pc := 18) (as := [.long b.toInt64, .long (1 : Int64), .long (999 : Int64)]) (st := []) t324_18 (by decide) mf228 rfl rfl ⟨by decide, by decide, Nat.le_of_ble_eq_true rfl, Nat.le_of_ble_eq_true rfl⟩ (in_F (zi2l rfl) ll1 ll999 (by omega)) ?_
  rintro r Mi ⟨rfl, rfl⟩
  show zGo X l 1 0 0 324 21 [(0, .int a), (1, .int b), (2, .int (1 : Int32)), (3, .int c)] [.int (0 : Int32)] zMm _
  refine zs_if_eqT (pc := 21) t324_21 li0 (by decide) ?_
  refine zs_iconst (pc := 52) t324_52 (v := 0) (by decide) ?_
  refine zs_iret (pc := 53) t324_53 mr324 (by decide) ?_
  show zGo X l 9 0 0 326 7 [(0, .ref 336), (1, .int a), (2, .int b), (3, .int c)] [.int (0 : Int32)] zMm _
  refine zs_if_neF (pc := 7) t326_7 li0 (by decide) ?_
  refine zs_iconst (pc := 10) t326_10 (v := -1) (by decide) ?_
  exact zs_iret (pc := 11) t326_11 mr326 (by decide) rfl
theorem c22_4 {X : zX} {l : Launch} {a b c : Int32} (la : 1 ≤ a.toInt) (ua : a.toInt ≤ 200) (lb : 1 ≤ b.toInt) (ub : b.toInt ≤ 999) (lc : (-2147483648) ≤ c.toInt) (uc : c.toInt ≤ (-1)) : zCall X l 7 0 0 193 [.ref 6, .int a, .int b, .int c] zMc (fun r _ => r = some (.int (-1 : Int32))) := by
  have ga := zrg a
  have gb := zrg b
  have gc := zrg c
  refine zs_in (by decide) mf193 (Nat.le_of_ble_eq_true rfl) ?_
  show zGo X l 7 0 0 193 0 [(0, .ref 6), (1, .int a), (2, .int b), (3, .int c)] [] zMc _
  refine zs_iload_n (pc := 0) t193_0 rfl ?_
  refine zs_iload_n (pc := 1) t193_1 rfl ?_
  refine zs_iload_n (pc := 2) t193_2 rfl ?_
  refine zs_invS (pc := 3) (as := [.int a, .int b, .int c]) (st := []) t193_3 (by decide) mf189 rfl rfl ⟨by decide, by decide, Nat.le_of_ble_eq_true rfl, Nat.le_of_ble_eq_true rfl⟩ (zs_in (by decide) mf189 (Nat.le_of_ble_eq_true rfl) ?_) (fun _ _ q => q)
  show zGo X l 1 0 0 189 0 [(0, .int a), (1, .int b), (2, .int c)] [] zMc _
  refine zs_iload_n (pc := 0) t189_0 rfl ?_
  refine zs_iconst (pc := 1) t189_1 (v := 1) (by decide) ?_
  refine zs_sipush (pc := 2) t189_2 (v := 200) (by decide) ?_
  refine zs_invS (pc := 5) (as := [.int a, .int (1 : Int32), .int (200 : Int32)]) (st := []) t189_5 (by decide) mf39 rfl rfl ⟨by decide, by decide, Nat.le_of_ble_eq_true rfl, Nat.le_of_ble_eq_true rfl⟩ (zs_in (by decide) mf39 (Nat.le_of_ble_eq_true rfl) ?_) (fun _ _ q => q)
  show zGo X l 0 0 0 39 0 [(0, .int a), (1, .int (1 : Int32)), (2, .int (200 : Int32))] [] zMc _
  refine zs_iload_n (pc := 0) t39_0 rfl ?_
  refine zs_iload_n (pc := 1) t39_1 rfl ?_
  refine zs_icmp_ltF (pc := 2) t39_2 rfl li1 (by omega) ?_
  refine zs_iload_n (pc := 5) t39_5 rfl ?_
  refine zs_iload_n (pc := 6) t39_6 rfl ?_
  refine zs_icmp_gtF (pc := 7) t39_7 rfl li200 (by omega) ?_
  refine zs_iconst (pc := 10) t39_10 (v := 1) (by decide) ?_
  refine zs_goto (pc := 11) t39_11 ?_
  refine zs_iret (pc := 15) t39_15 mr39 (by decide) ?_
  show zGo X l 1 0 0 189 8 [(0, .int a), (1, .int b), (2, .int c)] [.int (1 : Int32)] zMc _
  refine zs_if_eqF (pc := 8) t189_8 li1 (by decide) ?_
  refine zs_iload_n (pc := 11) t189_11 rfl ?_
  refine zs_iconst (pc := 12) t189_12 (v := 1) (by decide) ?_
  refine zs_sipush (pc := 13) t189_13 (v := 999) (by decide) ?_
  refine zs_invS (pc := 16) (as := [.int b, .int (1 : Int32), .int (999 : Int32)]) (st := []) t189_16 (by decide) mf39 rfl rfl ⟨by decide, by decide, Nat.le_of_ble_eq_true rfl, Nat.le_of_ble_eq_true rfl⟩ (zs_in (by decide) mf39 (Nat.le_of_ble_eq_true rfl) ?_) (fun _ _ q => q)
  show zGo X l 0 0 0 39 0 [(0, .int b), (1, .int (1 : Int32)), (2, .int (999 : Int32))] [] zMc _
  refine zs_iload_n (pc := 0) t39_0 rfl ?_
  refine zs_iload_n (pc := 1) t39_1 rfl ?_
  refine zs_icmp_ltF (pc := 2) t39_2 rfl li1 (by omega) ?_
  refine zs_iload_n (pc := 5) t39_5 rfl ?_
  refine zs_iload_n (pc := 6) t39_6 rfl ?_
  refine zs_icmp_gtF (pc := 7) t39_7 rfl li999 (by omega) ?_
  refine zs_iconst (pc := 10) t39_10 (v := 1) (by decide) ?_
  refine zs_goto (pc := 11) t39_11 ?_
  refine zs_iret (pc := 15) t39_15 mr39 (by decide) ?_
  show zGo X l 1 0 0 189 19 [(0, .int a), (1, .int b), (2, .int c)] [.int (1 : Int32)] zMc _
  refine zs_if_eqF (pc := 19) t189_19 li1 (by decide) ?_
  refine zs_iload_n (pc := 22) t189_22 rfl ?_
  refine zs_iconst (pc := 23) t189_23 (v := 0) (by decide) ?_
  refine zs_bipush (pc := 24) t189_24 (v := 50) (by decide) ?_
  refine zs_invS (pc := 26) (as := [.int c, .int (0 : Int32), .int (50 : Int32)]) (st := []) t189_26 (by decide) mf39 rfl rfl ⟨by decide, by decide, Nat.le_of_ble_eq_true rfl, Nat.le_of_ble_eq_true rfl⟩ (zs_in (by decide) mf39 (Nat.le_of_ble_eq_true rfl) ?_) (fun _ _ q => q)
  show zGo X l 0 0 0 39 0 [(0, .int c), (1, .int (0 : Int32)), (2, .int (50 : Int32))] [] zMc _
  refine zs_iload_n (pc := 0) t39_0 rfl ?_
  refine zs_iload_n (pc := 1) t39_1 rfl ?_
  refine zs_icmp_ltT (pc := 2) t39_2 rfl li0 (by omega) ?_
  refine zs_iconst (pc := 14) t39_14 (v := 0) (by decide) ?_
  refine zs_iret (pc := 15) t39_15 mr39 (by decide) ?_
  show zGo X l 1 0 0 189 29 [(0, .int a), (1, .int b), (2, .int c)] [.int (0 : Int32)] zMc _
  refine zs_if_eqT (pc := 29) t189_29 li0 (by decide) ?_
  refine zs_iconst (pc := 36) t189_36 (v := 0) (by decide) ?_
  refine zs_iret (pc := 37) t189_37 mr189 (by decide) ?_
  show zGo X l 7 0 0 193 6 [(0, .ref 6), (1, .int a), (2, .int b), (3, .int c)] [.int (0 : Int32)] zMc _
  refine zs_if_neF (pc := 6) t193_6 li0 (by decide) ?_
  refine zs_iconst (pc := 9) t193_9 (v := -1) (by decide) ?_
  exact zs_iret (pc := 10) t193_10 mr193 (by decide) rfl
theorem m22_4 {X : zX} {l : Launch} {a b c : Int32} (la : 1 ≤ a.toInt) (ua : a.toInt ≤ 200) (lb : 1 ≤ b.toInt) (ub : b.toInt ≤ 999) (lc : (-2147483648) ≤ c.toInt) (uc : c.toInt ≤ (-1)) : zCall X l 9 0 0 326 [.ref 336, .int a, .int b, .int c] zMm (fun r _ => r = some (.int (-1 : Int32))) := by
  have ga := zrg a
  have gb := zrg b
  have gc := zrg c
  refine zs_in (by decide) mf326 (Nat.le_of_ble_eq_true rfl) ?_
  show zGo X l 9 0 0 326 0 [(0, .ref 336), (1, .int a), (2, .int b), (3, .int c)] [] zMm _
  refine zs_iload_n (pc := 0) t326_0 rfl ?_
  refine zs_iload_n (pc := 1) t326_1 rfl ?_
  refine zs_iconst (pc := 2) t326_2 (v := 1) (by decide) ?_
  refine zs_iload_n (pc := 3) t326_3 rfl ?_
  refine zs_invS (pc := 4) (as := [.int a, .int b, .int (1 : Int32), .int c]) (st := []) t326_4 (by decide) mf324 rfl rfl ⟨by decide, by decide, Nat.le_of_ble_eq_true rfl, Nat.le_of_ble_eq_true rfl⟩ (zs_in (by decide) mf324 (Nat.le_of_ble_eq_true rfl) ?_) (fun _ _ q => q)
  show zGo X l 1 0 0 324 0 [(0, .int a), (1, .int b), (2, .int (1 : Int32)), (3, .int c)] [] zMm _
  refine zs_iload_n (pc := 0) t324_0 rfl ?_
  refine zs_i2l (pc := 1) t324_1 rfl ?_
  refine zs_lconst (pc := 2) t324_2 (v := 1) (by decide) ?_
  refine zs_ldc2_w (pc := 3) t324_3 (v := 200) (by decide) ?_
  refine zs_invS (pc := 6) (as := [.long a.toInt64, .long (1 : Int64), .long (200 : Int64)]) (st := []) t324_6 (by decide) mf228 rfl rfl ⟨by decide, by decide, Nat.le_of_ble_eq_true rfl, Nat.le_of_ble_eq_true rfl⟩ (in_T (zi2l rfl) ll1 ll200 (by omega) (by omega)) ?_
  rintro r Mi ⟨rfl, rfl⟩
  show zGo X l 1 0 0 324 9 [(0, .int a), (1, .int b), (2, .int (1 : Int32)), (3, .int c)] [.int (1 : Int32)] zMm _
  refine zs_if_eqF (pc := 9) t324_9 li1 (by decide) ?_
  refine zs_iload_n (pc := 12) t324_12 rfl ?_
  refine zs_i2l (pc := 13) t324_13 rfl ?_
  refine zs_lconst (pc := 14) t324_14 (v := 1) (by decide) ?_
  refine zs_ldc2_w (pc := 15) t324_15 (v := 999) (by decide) ?_
  refine zs_invS (pc := 18) (as := [.long b.toInt64, .long (1 : Int64), .long (999 : Int64)]) (st := []) t324_18 (by decide) mf228 rfl rfl ⟨by decide, by decide, Nat.le_of_ble_eq_true rfl, Nat.le_of_ble_eq_true rfl⟩ (in_T (zi2l rfl) ll1 ll999 (by omega) (by omega)) ?_
  rintro r Mi ⟨rfl, rfl⟩
  show zGo X l 1 0 0 324 21 [(0, .int a), (1, .int b), (2, .int (1 : Int32)), (3, .int c)] [.int (1 : Int32)] zMm _
  refine zs_if_eqF (pc := 21) t324_21 li1 (by decide) ?_
  refine zs_iload_n (pc := 24) t324_24 rfl ?_
  refine zs_i2l (pc := 25) t324_25 (c := 1) (by decide) ?_
  refine zs_lconst (pc := 26) t324_26 (v := 1) (by decide) ?_
  refine zs_ldc2_w (pc := 27) t324_27 (v := 8) (by decide) ?_
  refine zs_invS (pc := 30) (as := [.long (1 : Int64), .long (1 : Int64), .long (8 : Int64)]) (st := []) t324_30 (by decide) mf228 rfl rfl ⟨by decide, by decide, Nat.le_of_ble_eq_true rfl, Nat.le_of_ble_eq_true rfl⟩ (in_T ll1 ll1 ll8 (by omega) (by omega)) ?_
  rintro r Mi ⟨rfl, rfl⟩
  show zGo X l 1 0 0 324 33 [(0, .int a), (1, .int b), (2, .int (1 : Int32)), (3, .int c)] [.int (1 : Int32)] zMm _
  refine zs_if_eqF (pc := 33) t324_33 li1 (by decide) ?_
  refine zs_iload_n (pc := 36) t324_36 rfl ?_
  refine zs_i2l (pc := 37) t324_37 rfl ?_
  refine zs_lconst (pc := 38) t324_38 (v := 0) (by decide) ?_
  refine zs_ldc2_w (pc := 39) t324_39 (v := 50) (by decide) ?_
  refine zs_invS (pc := 42) (as := [.long c.toInt64, .long (0 : Int64), .long (50 : Int64)]) (st := []) t324_42 (by decide) mf228 rfl rfl ⟨by decide, by decide, Nat.le_of_ble_eq_true rfl, Nat.le_of_ble_eq_true rfl⟩ (in_F (zi2l rfl) ll0 ll50 (by omega)) ?_
  rintro r Mi ⟨rfl, rfl⟩
  show zGo X l 1 0 0 324 45 [(0, .int a), (1, .int b), (2, .int (1 : Int32)), (3, .int c)] [.int (0 : Int32)] zMm _
  refine zs_if_eqT (pc := 45) t324_45 li0 (by decide) ?_
  refine zs_iconst (pc := 52) t324_52 (v := 0) (by decide) ?_
  refine zs_iret (pc := 53) t324_53 mr324 (by decide) ?_
  show zGo X l 9 0 0 326 7 [(0, .ref 336), (1, .int a), (2, .int b), (3, .int c)] [.int (0 : Int32)] zMm _
  refine zs_if_neF (pc := 7) t326_7 li0 (by decide) ?_
  refine zs_iconst (pc := 10) t326_10 (v := -1) (by decide) ?_
  exact zs_iret (pc := 11) t326_11 mr326 (by decide) rfl
theorem c22_5 {X : zX} {l : Launch} {a b c : Int32} (la : 1 ≤ a.toInt) (ua : a.toInt ≤ 200) (lb : 1 ≤ b.toInt) (ub : b.toInt ≤ 999) (lc : 51 ≤ c.toInt) (uc : c.toInt ≤ 2147483647) : zCall X l 7 0 0 193 [.ref 6, .int a, .int b, .int c] zMc (fun r _ => r = some (.int (-1 : Int32))) := by
  have ga := zrg a
  have gb := zrg b
  have gc := zrg c
  refine zs_in (by decide) mf193 (Nat.le_of_ble_eq_true rfl) ?_
  show zGo X l 7 0 0 193 0 [(0, .ref 6), (1, .int a), (2, .int b), (3, .int c)] [] zMc _
  refine zs_iload_n (pc := 0) t193_0 rfl ?_
  refine zs_iload_n (pc := 1) t193_1 rfl ?_
  refine zs_iload_n (pc := 2) t193_2 rfl ?_
  refine zs_invS (pc := 3) (as := [.int a, .int b, .int c]) (st := []) t193_3 (by decide) mf189 rfl rfl ⟨by decide, by decide, Nat.le_of_ble_eq_true rfl, Nat.le_of_ble_eq_true rfl⟩ (zs_in (by decide) mf189 (Nat.le_of_ble_eq_true rfl) ?_) (fun _ _ q => q)
  show zGo X l 1 0 0 189 0 [(0, .int a), (1, .int b), (2, .int c)] [] zMc _
  refine zs_iload_n (pc := 0) t189_0 rfl ?_
  refine zs_iconst (pc := 1) t189_1 (v := 1) (by decide) ?_
  refine zs_sipush (pc := 2) t189_2 (v := 200) (by decide) ?_
  refine zs_invS (pc := 5) (as := [.int a, .int (1 : Int32), .int (200 : Int32)]) (st := []) t189_5 (by decide) mf39 rfl rfl ⟨by decide, by decide, Nat.le_of_ble_eq_true rfl, Nat.le_of_ble_eq_true rfl⟩ (zs_in (by decide) mf39 (Nat.le_of_ble_eq_true rfl) ?_) (fun _ _ q => q)
  show zGo X l 0 0 0 39 0 [(0, .int a), (1, .int (1 : Int32)), (2, .int (200 : Int32))] [] zMc _
  refine zs_iload_n (pc := 0) t39_0 rfl ?_
  refine zs_iload_n (pc := 1) t39_1 rfl ?_
  refine zs_icmp_ltF (pc := 2) t39_2 rfl li1 (by omega) ?_
  refine zs_iload_n (pc := 5) t39_5 rfl ?_
  refine zs_iload_n (pc := 6) t39_6 rfl ?_
  refine zs_icmp_gtF (pc := 7) t39_7 rfl li200 (by omega) ?_
  refine zs_iconst (pc := 10) t39_10 (v := 1) (by decide) ?_
  refine zs_goto (pc := 11) t39_11 ?_
  refine zs_iret (pc := 15) t39_15 mr39 (by decide) ?_
  show zGo X l 1 0 0 189 8 [(0, .int a), (1, .int b), (2, .int c)] [.int (1 : Int32)] zMc _
  refine zs_if_eqF (pc := 8) t189_8 li1 (by decide) ?_
  refine zs_iload_n (pc := 11) t189_11 rfl ?_
  refine zs_iconst (pc := 12) t189_12 (v := 1) (by decide) ?_
  refine zs_sipush (pc := 13) t189_13 (v := 999) (by decide) ?_
  refine zs_invS (pc := 16) (as := [.int b, .int (1 : Int32), .int (999 : Int32)]) (st := []) t189_16 (by decide) mf39 rfl rfl ⟨by decide, by decide, Nat.le_of_ble_eq_true rfl, Nat.le_of_ble_eq_true rfl⟩ (zs_in (by decide) mf39 (Nat.le_of_ble_eq_true rfl) ?_) (fun _ _ q => q)
  show zGo X l 0 0 0 39 0 [(0, .int b), (1, .int (1 : Int32)), (2, .int (999 : Int32))] [] zMc _
  refine zs_iload_n (pc := 0) t39_0 rfl ?_
  refine zs_iload_n (pc := 1) t39_1 rfl ?_
  refine zs_icmp_ltF (pc := 2) t39_2 rfl li1 (by omega) ?_
  refine zs_iload_n (pc := 5) t39_5 rfl ?_
  refine zs_iload_n (pc := 6) t39_6 rfl ?_
  refine zs_icmp_gtF (pc := 7) t39_7 rfl li999 (by omega) ?_
  refine zs_iconst (pc := 10) t39_10 (v := 1) (by decide) ?_
  refine zs_goto (pc := 11) t39_11 ?_
  refine zs_iret (pc := 15) t39_15 mr39 (by decide) ?_
  show zGo X l 1 0 0 189 19 [(0, .int a), (1, .int b), (2, .int c)] [.int (1 : Int32)] zMc _
  refine zs_if_eqF (pc := 19) t189_19 li1 (by decide) ?_
  refine zs_iload_n (pc := 22) t189_22 rfl ?_
  refine zs_iconst (pc := 23) t189_23 (v := 0) (by decide) ?_
  refine zs_bipush (pc := 24) t189_24 (v := 50) (by decide) ?_
  refine zs_invS (pc := 26) (as := [.int c, .int (0 : Int32), .int (50 : Int32)]) (st := []) t189_26 (by decide) mf39 rfl rfl ⟨by decide, by decide, Nat.le_of_ble_eq_true rfl, Nat.le_of_ble_eq_true rfl⟩ (zs_in (by decide) mf39 (Nat.le_of_ble_eq_true rfl) ?_) (fun _ _ q => q)
  show zGo X l 0 0 0 39 0 [(0, .int c), (1, .int (0 : Int32)), (2, .int (50 : Int32))] [] zMc _
  refine zs_iload_n (pc := 0) t39_0 rfl ?_
  refine zs_iload_n (pc := 1) t39_1 rfl ?_
  refine zs_icmp_ltF (pc := 2) t39_2 rfl li0 (by omega) ?_
  refine zs_iload_n (pc := 5) t39_5 rfl ?_
  refine zs_iload_n (pc := 6) t39_6 rfl ?_
  refine zs_icmp_gtT (pc := 7) t39_7 rfl li50 (by omega) ?_
  refine zs_iconst (pc := 14) t39_14 (v := 0) (by decide) ?_
  refine zs_iret (pc := 15) t39_15 mr39 (by decide) ?_
  show zGo X l 1 0 0 189 29 [(0, .int a), (1, .int b), (2, .int c)] [.int (0 : Int32)] zMc _
  refine zs_if_eqT (pc := 29) t189_29 li0 (by decide) ?_
  refine zs_iconst (pc := 36) t189_36 (v := 0) (by decide) ?_
  refine zs_iret (pc := 37) t189_37 mr189 (by decide) ?_
  show zGo X l 7 0 0 193 6 [(0, .ref 6), (1, .int a), (2, .int b), (3, .int c)] [.int (0 : Int32)] zMc _
  refine zs_if_neF (pc := 6) t193_6 li0 (by decide) ?_
  refine zs_iconst (pc := 9) t193_9 (v := -1) (by decide) ?_
  exact zs_iret (pc := 10) t193_10 mr193 (by decide) rfl
theorem m22_5 {X : zX} {l : Launch} {a b c : Int32} (la : 1 ≤ a.toInt) (ua : a.toInt ≤ 200) (lb : 1 ≤ b.toInt) (ub : b.toInt ≤ 999) (lc : 51 ≤ c.toInt) (uc : c.toInt ≤ 2147483647) : zCall X l 9 0 0 326 [.ref 336, .int a, .int b, .int c] zMm (fun r _ => r = some (.int (-1 : Int32))) := by
  have ga := zrg a
  have gb := zrg b
  have gc := zrg c
  refine zs_in (by decide) mf326 (Nat.le_of_ble_eq_true rfl) ?_
  show zGo X l 9 0 0 326 0 [(0, .ref 336), (1, .int a), (2, .int b), (3, .int c)] [] zMm _
  refine zs_iload_n (pc := 0) t326_0 rfl ?_
  refine zs_iload_n (pc := 1) t326_1 rfl ?_
  refine zs_iconst (pc := 2) t326_2 (v := 1) (by decide) ?_
  refine zs_iload_n (pc := 3) t326_3 rfl ?_
  refine zs_invS (pc := 4) (as := [.int a, .int b, .int (1 : Int32), .int c]) (st := []) t326_4 (by decide) mf324 rfl rfl ⟨by decide, by decide, Nat.le_of_ble_eq_true rfl, Nat.le_of_ble_eq_true rfl⟩ (zs_in (by decide) mf324 (Nat.le_of_ble_eq_true rfl) ?_) (fun _ _ q => q)
  show zGo X l 1 0 0 324 0 [(0, .int a), (1, .int b), (2, .int (1 : Int32)), (3, .int c)] [] zMm _
  refine zs_iload_n (pc := 0) t324_0 rfl ?_
  refine zs_i2l (pc := 1) t324_1 rfl ?_
  refine zs_lconst (pc := 2) t324_2 (v := 1) (by decide) ?_
  refine zs_ldc2_w (pc := 3) t324_3 (v := 200) (by decide) ?_
  refine zs_invS (pc := 6) (as := [.long a.toInt64, .long (1 : Int64), .long (200 : Int64)]) (st := []) t324_6 (by decide) mf228 rfl rfl ⟨by decide, by decide, Nat.le_of_ble_eq_true rfl, Nat.le_of_ble_eq_true rfl⟩ (in_T (zi2l rfl) ll1 ll200 (by omega) (by omega)) ?_
  rintro r Mi ⟨rfl, rfl⟩
  show zGo X l 1 0 0 324 9 [(0, .int a), (1, .int b), (2, .int (1 : Int32)), (3, .int c)] [.int (1 : Int32)] zMm _
  refine zs_if_eqF (pc := 9) t324_9 li1 (by decide) ?_
  refine zs_iload_n (pc := 12) t324_12 rfl ?_
  refine zs_i2l (pc := 13) t324_13 rfl ?_
  refine zs_lconst (pc := 14) t324_14 (v := 1) (by decide) ?_
  refine zs_ldc2_w (pc := 15) t324_15 (v := 999) (by decide) ?_
  refine zs_invS (pc := 18) (as := [.long b.toInt64, .long (1 : Int64), .long (999 : Int64)]) (st := []) t324_18 (by decide) mf228 rfl rfl ⟨by decide, by decide, Nat.le_of_ble_eq_true rfl, Nat.le_of_ble_eq_true rfl⟩ (in_T (zi2l rfl) ll1 ll999 (by omega) (by omega)) ?_
  rintro r Mi ⟨rfl, rfl⟩
  show zGo X l 1 0 0 324 21 [(0, .int a), (1, .int b), (2, .int (1 : Int32)), (3, .int c)] [.int (1 : Int32)] zMm _
  refine zs_if_eqF (pc := 21) t324_21 li1 (by decide) ?_
  refine zs_iload_n (pc := 24) t324_24 rfl ?_
  refine zs_i2l (pc := 25) t324_25 (c := 1) (by decide) ?_
  refine zs_lconst (pc := 26) t324_26 (v := 1) (by decide) ?_
  refine zs_ldc2_w (pc := 27) t324_27 (v := 8) (by decide) ?_
  refine zs_invS (pc := 30) (as := [.long (1 : Int64), .long (1 : Int64), .long (8 : Int64)]) (st := []) t324_30 (by decide) mf228 rfl rfl ⟨by decide, by decide, Nat.le_of_ble_eq_true rfl, Nat.le_of_ble_eq_true rfl⟩ (in_T ll1 ll1 ll8 (by omega) (by omega)) ?_
  rintro r Mi ⟨rfl, rfl⟩
  show zGo X l 1 0 0 324 33 [(0, .int a), (1, .int b), (2, .int (1 : Int32)), (3, .int c)] [.int (1 : Int32)] zMm _
  refine zs_if_eqF (pc := 33) t324_33 li1 (by decide) ?_
  refine zs_iload_n (pc := 36) t324_36 rfl ?_
  refine zs_i2l (pc := 37) t324_37 rfl ?_
  refine zs_lconst (pc := 38) t324_38 (v := 0) (by decide) ?_
  refine zs_ldc2_w (pc := 39) t324_39 (v := 50) (by decide) ?_
  refine zs_invS (pc := 42) (as := [.long c.toInt64, .long (0 : Int64), .long (50 : Int64)]) (st := []) t324_42 (by decide) mf228 rfl rfl ⟨by decide, by decide, Nat.le_of_ble_eq_true rfl, Nat.le_of_ble_eq_true rfl⟩ (in_F (zi2l rfl) ll0 ll50 (by omega)) ?_
  rintro r Mi ⟨rfl, rfl⟩
  show zGo X l 1 0 0 324 45 [(0, .int a), (1, .int b), (2, .int (1 : Int32)), (3, .int c)] [.int (0 : Int32)] zMm _
  refine zs_if_eqT (pc := 45) t324_45 li0 (by decide) ?_
  refine zs_iconst (pc := 52) t324_52 (v := 0) (by decide) ?_
  refine zs_iret (pc := 53) t324_53 mr324 (by decide) ?_
  show zGo X l 9 0 0 326 7 [(0, .ref 336), (1, .int a), (2, .int b), (3, .int c)] [.int (0 : Int32)] zMm _
  refine zs_if_neF (pc := 7) t326_7 li0 (by decide) ?_
  refine zs_iconst (pc := 10) t326_10 (v := -1) (by decide) ?_
  exact zs_iret (pc := 11) t326_11 mr326 (by decide) rfl
theorem c22_6 {X : zX} {l : Launch} {a b c : Int32} (la : 1 ≤ a.toInt) (ua : a.toInt ≤ 200) (lb : 1 ≤ b.toInt) (ub : b.toInt ≤ 999) (lc : 0 ≤ c.toInt) (uc : c.toInt ≤ 50) : zCall X l 7 0 0 193 [.ref 6, .int a, .int b, .int c] zMc (fun r _ => r = some (.int (1 : Int32))) := by
  have ga := zrg a
  have gb := zrg b
  have gc := zrg c
  refine zs_in (by decide) mf193 (Nat.le_of_ble_eq_true rfl) ?_
  show zGo X l 7 0 0 193 0 [(0, .ref 6), (1, .int a), (2, .int b), (3, .int c)] [] zMc _
  refine zs_iload_n (pc := 0) t193_0 rfl ?_
  refine zs_iload_n (pc := 1) t193_1 rfl ?_
  refine zs_iload_n (pc := 2) t193_2 rfl ?_
  refine zs_invS (pc := 3) (as := [.int a, .int b, .int c]) (st := []) t193_3 (by decide) mf189 rfl rfl ⟨by decide, by decide, Nat.le_of_ble_eq_true rfl, Nat.le_of_ble_eq_true rfl⟩ (zs_in (by decide) mf189 (Nat.le_of_ble_eq_true rfl) ?_) (fun _ _ q => q)
  show zGo X l 1 0 0 189 0 [(0, .int a), (1, .int b), (2, .int c)] [] zMc _
  refine zs_iload_n (pc := 0) t189_0 rfl ?_
  refine zs_iconst (pc := 1) t189_1 (v := 1) (by decide) ?_
  refine zs_sipush (pc := 2) t189_2 (v := 200) (by decide) ?_
  refine zs_invS (pc := 5) (as := [.int a, .int (1 : Int32), .int (200 : Int32)]) (st := []) t189_5 (by decide) mf39 rfl rfl ⟨by decide, by decide, Nat.le_of_ble_eq_true rfl, Nat.le_of_ble_eq_true rfl⟩ (zs_in (by decide) mf39 (Nat.le_of_ble_eq_true rfl) ?_) (fun _ _ q => q)
  show zGo X l 0 0 0 39 0 [(0, .int a), (1, .int (1 : Int32)), (2, .int (200 : Int32))] [] zMc _
  refine zs_iload_n (pc := 0) t39_0 rfl ?_
  refine zs_iload_n (pc := 1) t39_1 rfl ?_
  refine zs_icmp_ltF (pc := 2) t39_2 rfl li1 (by omega) ?_
  refine zs_iload_n (pc := 5) t39_5 rfl ?_
  refine zs_iload_n (pc := 6) t39_6 rfl ?_
  refine zs_icmp_gtF (pc := 7) t39_7 rfl li200 (by omega) ?_
  refine zs_iconst (pc := 10) t39_10 (v := 1) (by decide) ?_
  refine zs_goto (pc := 11) t39_11 ?_
  refine zs_iret (pc := 15) t39_15 mr39 (by decide) ?_
  show zGo X l 1 0 0 189 8 [(0, .int a), (1, .int b), (2, .int c)] [.int (1 : Int32)] zMc _
  refine zs_if_eqF (pc := 8) t189_8 li1 (by decide) ?_
  refine zs_iload_n (pc := 11) t189_11 rfl ?_
  refine zs_iconst (pc := 12) t189_12 (v := 1) (by decide) ?_
  refine zs_sipush (pc := 13) t189_13 (v := 999) (by decide) ?_
  refine zs_invS (pc := 16) (as := [.int b, .int (1 : Int32), .int (999 : Int32)]) (st := []) t189_16 (by decide) mf39 rfl rfl ⟨by decide, by decide, Nat.le_of_ble_eq_true rfl, Nat.le_of_ble_eq_true rfl⟩ (zs_in (by decide) mf39 (Nat.le_of_ble_eq_true rfl) ?_) (fun _ _ q => q)
  show zGo X l 0 0 0 39 0 [(0, .int b), (1, .int (1 : Int32)), (2, .int (999 : Int32))] [] zMc _
  refine zs_iload_n (pc := 0) t39_0 rfl ?_
  refine zs_iload_n (pc := 1) t39_1 rfl ?_
  refine zs_icmp_ltF (pc := 2) t39_2 rfl li1 (by omega) ?_
  refine zs_iload_n (pc := 5) t39_5 rfl ?_
  refine zs_iload_n (pc := 6) t39_6 rfl ?_
  refine zs_icmp_gtF (pc := 7) t39_7 rfl li999 (by omega) ?_
  refine zs_iconst (pc := 10) t39_10 (v := 1) (by decide) ?_
  refine zs_goto (pc := 11) t39_11 ?_
  refine zs_iret (pc := 15) t39_15 mr39 (by decide) ?_
  show zGo X l 1 0 0 189 19 [(0, .int a), (1, .int b), (2, .int c)] [.int (1 : Int32)] zMc _
  refine zs_if_eqF (pc := 19) t189_19 li1 (by decide) ?_
  refine zs_iload_n (pc := 22) t189_22 rfl ?_
  refine zs_iconst (pc := 23) t189_23 (v := 0) (by decide) ?_
  refine zs_bipush (pc := 24) t189_24 (v := 50) (by decide) ?_
  refine zs_invS (pc := 26) (as := [.int c, .int (0 : Int32), .int (50 : Int32)]) (st := []) t189_26 (by decide) mf39 rfl rfl ⟨by decide, by decide, Nat.le_of_ble_eq_true rfl, Nat.le_of_ble_eq_true rfl⟩ (zs_in (by decide) mf39 (Nat.le_of_ble_eq_true rfl) ?_) (fun _ _ q => q)
  show zGo X l 0 0 0 39 0 [(0, .int c), (1, .int (0 : Int32)), (2, .int (50 : Int32))] [] zMc _
  refine zs_iload_n (pc := 0) t39_0 rfl ?_
  refine zs_iload_n (pc := 1) t39_1 rfl ?_
  refine zs_icmp_ltF (pc := 2) t39_2 rfl li0 (by omega) ?_
  refine zs_iload_n (pc := 5) t39_5 rfl ?_
  refine zs_iload_n (pc := 6) t39_6 rfl ?_
  refine zs_icmp_gtF (pc := 7) t39_7 rfl li50 (by omega) ?_
  refine zs_iconst (pc := 10) t39_10 (v := 1) (by decide) ?_
  refine zs_goto (pc := 11) t39_11 ?_
  refine zs_iret (pc := 15) t39_15 mr39 (by decide) ?_
  show zGo X l 1 0 0 189 29 [(0, .int a), (1, .int b), (2, .int c)] [.int (1 : Int32)] zMc _
  refine zs_if_eqF (pc := 29) t189_29 li1 (by decide) ?_
  refine zs_iconst (pc := 32) t189_32 (v := 1) (by decide) ?_
  refine zs_goto (pc := 33) t189_33 ?_
  refine zs_iret (pc := 37) t189_37 mr189 (by decide) ?_
  show zGo X l 7 0 0 193 6 [(0, .ref 6), (1, .int a), (2, .int b), (3, .int c)] [.int (1 : Int32)] zMc _
  refine zs_if_neT (pc := 6) t193_6 li1 (by decide) ?_
  refine zs_aload_n (pc := 11) t193_11 rfl ?_
  refine zs_invV (pc := 12) (k := 6) (as' := []) (st := []) t193_12 mf187 rfl rfl (Or.inl ⟨by decide, (zk1 fk_zMc_6)⟩) ⟨by decide, by decide, Nat.le_of_ble_eq_true rfl, Nat.le_of_ble_eq_true rfl⟩ (ccq1 (X := X) (l := l)) ?_
  rintro r M2 ⟨rfl, M2k6, M2v6_0, M2k7, M2v7_12, M2k17, M2a17_7, M2v6_8, M2a17_8, M2k332, M2k333, M2k334, M2v332_4, M2v332_5, -⟩
  show zGo X l 7 0 0 193 15 [(0, .ref 6), (1, .int a), (2, .int b), (3, .int c)] [.int (0 : Int32)] M2 _
  refine zs_aload_n (pc := 15) t193_15 rfl ?_
  refine zs_get (pc := 16) t193_16 (by decide) (zk1 M2k6) M2v6_0 ?_
  refine zs_bipush (pc := 19) t193_19 (v := 7) (by decide) ?_
  refine zs_invV (pc := 21) (k := 7) (as' := [.int (7 : Int32)]) (st := [.int (0 : Int32)]) t193_21 mf96 rfl rfl (Or.inl ⟨by decide, (zk1 M2k7)⟩) ⟨by decide, by decide, Nat.le_of_ble_eq_true rfl, Nat.le_of_ble_eq_true rfl⟩ (zs_in (by decide) mf96 (Nat.le_of_ble_eq_true rfl) ?_) (fun _ _ q => q)
  show zGo X l 0 0 0 96 0 [(0, .ref 7), (1, .int (7 : Int32))] [] M2 _
  refine zs_iload_n (pc := 0) t96_0 rfl ?_
  refine zs_if_ltF (pc := 1) t96_1 li7 (by decide) ?_
  refine zs_iload_n (pc := 4) t96_4 rfl ?_
  refine zs_bipush (pc := 5) t96_5 (v := 9) (by decide) ?_
  refine zs_icmp_geF (pc := 7) t96_7 li7 li9 (by decide) ?_
  refine zs_aload_n (pc := 10) t96_10 rfl ?_
  refine zs_get (pc := 11) t96_11 (by decide) (zk1 M2k7) M2v7_12 ?_
  refine zs_iload_n (pc := 14) t96_14 rfl ?_
  refine zs_iald (pc := 15) t96_15 (j := 7) (by decide) (zk1 M2k17) (by decide) (zk2 M2k17 (by decide)) M2a17_7 ?_
  refine zs_goto (pc := 16) t96_16 ?_
  refine zs_iret (pc := 20) t96_20 mr96 (by decide) ?_
  show zGo X l 7 0 0 193 24 [(0, .ref 6), (1, .int a), (2, .int b), (3, .int c)] [.int (100 : Int32), .int (0 : Int32)] M2 _
  refine zs_invS (pc := 24) (as := [.int (0 : Int32), .int (100 : Int32)]) (st := []) t193_24 (by decide) mf190 rfl rfl ⟨by decide, by decide, Nat.le_of_ble_eq_true rfl, Nat.le_of_ble_eq_true rfl⟩ (zs_in (by decide) mf190 (Nat.le_of_ble_eq_true rfl) ?_) (fun _ _ q => q)
  show zGo X l 1 0 0 190 0 [(0, .int (0 : Int32)), (1, .int (100 : Int32))] [] M2 _
  refine zs_iload_n (pc := 0) t190_0 rfl ?_
  refine zs_iconst (pc := 1) t190_1 (v := 1) (by decide) ?_
  refine zs_icmp_geT (pc := 2) t190_2 li100 li1 (by decide) ?_
  refine zs_iconst (pc := 9) t190_9 (v := 1) (by decide) ?_
  refine zs_iload_n (pc := 10) t190_10 rfl ?_
  refine zs_iload_n (pc := 11) t190_11 rfl ?_
  refine zs_iadd (pc := 12) t190_12 (c := 100) (by decide) ?_
  refine zs_iconst (pc := 13) t190_13 (v := 1) (by decide) ?_
  refine zs_isub (pc := 14) t190_14 (c := 99) (by decide) ?_
  refine zs_iload_n (pc := 15) t190_15 rfl ?_
  refine zs_idiv (pc := 16) t190_16 (by decide) (c := 0) (by decide) ?_
  refine zs_invS (pc := 17) (as := [.int (1 : Int32), .int (0 : Int32)]) (st := []) t190_17 (by decide) mf21 rfl rfl ⟨by decide, by decide, Nat.le_of_ble_eq_true rfl, Nat.le_of_ble_eq_true rfl⟩ (zs_in (by decide) mf21 (Nat.le_of_ble_eq_true rfl) ?_) (fun _ _ q => q)
  show zGo X l 0 0 0 21 0 [(0, .int (1 : Int32)), (1, .int (0 : Int32))] [] M2 _
  refine zs_iload_n (pc := 0) t21_0 rfl ?_
  refine zs_iload_n (pc := 1) t21_1 rfl ?_
  refine zs_icmp_ltF (pc := 2) t21_2 li1 li0 (by decide) ?_
  refine zs_iload_n (pc := 5) t21_5 rfl ?_
  refine zs_goto (pc := 6) t21_6 ?_
  refine zs_iret (pc := 10) t21_10 mr21 (by decide) ?_
  show zGo X l 1 0 0 190 20 [(0, .int (0 : Int32)), (1, .int (100 : Int32))] [.int (1 : Int32)] M2 _
  refine zs_iret (pc := 20) t190_20 mr190 (by decide) ?_
  show zGo X l 7 0 0 193 27 [(0, .ref 6), (1, .int a), (2, .int b), (3, .int c)] [.int (1 : Int32)] M2 _
  refine zs_istore (pc := 27) t193_27 (ls' := [(4, .int (1 : Int32)), (0, .ref 6), (1, .int a), (2, .int b), (3, .int c)]) (zml mf193 (by decide)) rfl ?_
  refine zs_iconst (pc := 29) t193_29 (v := 1) (by decide) ?_
  refine zs_istore (pc := 30) t193_30 (ls' := [(5, .int (1 : Int32)), (4, .int (1 : Int32)), (0, .ref 6), (1, .int a), (2, .int b), (3, .int c)]) (zml mf193 (by decide)) rfl ?_
  refine zs_iload (pc := 32) t193_32 rfl ?_
  refine zs_bipush (pc := 34) t193_34 (v := 8) (by decide) ?_
  refine zs_icmp_gtF (pc := 36) t193_36 li1 li8 (by decide) ?_
  refine zs_aload_n (pc := 39) t193_39 rfl ?_
  refine zs_get (pc := 40) t193_40 (by decide) (zk1 M2k6) M2v6_8 ?_
  refine zs_iload_n (pc := 43) t193_43 rfl ?_
  refine zs_iload_n (pc := 44) t193_44 rfl ?_
  refine zs_iload (pc := 45) t193_45 rfl ?_
  refine zs_iload_n (pc := 47) t193_47 rfl ?_
  refine zs_iload (pc := 48) t193_48 rfl ?_
  refine zs_aload_n (pc := 50) t193_50 rfl ?_
  refine zs_get (pc := 51) t193_51 (by decide) (zk1 M2k6) M2v6_0 ?_
  refine zs_bipush (pc := 54) t193_54 (v := 8) (by decide) ?_
  refine zs_invV (pc := 56) (k := 7) (as' := [.int (8 : Int32)]) (st := [.int (1 : Int32), .int c, .int (1 : Int32), .int b, .int a, .ref 332]) t193_56 mf96 rfl rfl (Or.inl ⟨by decide, (zk1 M2k7)⟩) ⟨by decide, by decide, Nat.le_of_ble_eq_true rfl, Nat.le_of_ble_eq_true rfl⟩ (zs_in (by decide) mf96 (Nat.le_of_ble_eq_true rfl) ?_) (fun _ _ q => q)
  show zGo X l 0 0 0 96 0 [(0, .ref 7), (1, .int (8 : Int32))] [] M2 _
  refine zs_iload_n (pc := 0) t96_0 rfl ?_
  refine zs_if_ltF (pc := 1) t96_1 li8 (by decide) ?_
  refine zs_iload_n (pc := 4) t96_4 rfl ?_
  refine zs_bipush (pc := 5) t96_5 (v := 9) (by decide) ?_
  refine zs_icmp_geF (pc := 7) t96_7 li8 li9 (by decide) ?_
  refine zs_aload_n (pc := 10) t96_10 rfl ?_
  refine zs_get (pc := 11) t96_11 (by decide) (zk1 M2k7) M2v7_12 ?_
  refine zs_iload_n (pc := 14) t96_14 rfl ?_
  refine zs_iald (pc := 15) t96_15 (j := 8) (by decide) (zk1 M2k17) (by decide) (zk2 M2k17 (by decide)) M2a17_8 ?_
  refine zs_goto (pc := 16) t96_16 ?_
  refine zs_iret (pc := 20) t96_20 mr96 (by decide) ?_
  show zGo X l 7 0 0 193 59 [(5, .int (1 : Int32)), (4, .int (1 : Int32)), (0, .ref 6), (1, .int a), (2, .int b), (3, .int c)] [.int (50 : Int32), .int (1 : Int32), .int c, .int (1 : Int32), .int b, .int a, .ref 332] M2 _
  refine zs_invV (pc := 59) (k := 332) (as' := [.int a, .int b, .int (1 : Int32), .int c, .int (1 : Int32), .int (50 : Int32)]) (st := []) t193_59 mf191 rfl rfl (Or.inl ⟨by decide, (zk1 M2k332)⟩) ⟨by decide, by decide, Nat.le_of_ble_eq_true rfl, Nat.le_of_ble_eq_true rfl⟩ (run_c (n := a.toInt.toNat) (p := b.toInt.toNat) ⟨M2k332, M2k333, M2k334, M2v332_4, M2v332_5⟩ (by omega) (by omega) (by omega) (by omega) (by omega) (by omega)) ?_
  rintro r Mw ⟨rfl, e1, e2, z0, z1, z2, hl⟩
  show zGo X l 7 0 0 193 62 [(5, .int (1 : Int32)), (4, .int (1 : Int32)), (0, .ref 6), (1, .int a), (2, .int b), (3, .int c)] [] Mw _
  refine zs_aload_n (pc := 62) t193_62 rfl ?_
  refine zs_get (pc := 63) t193_63 (by decide) (zk1 ((congrFun e1 6).trans M2k6)) ((zfvP e2 rfl).trans M2v6_8) ?_
  refine zs_get (pc := 66) t193_66 (by decide) (zk1 ((congrFun e1 332).trans M2k332)) (zfvi rfl z0) ?_
  refine zs_if_neF (pc := 69) t193_69 li0 (by decide) ?_
  refine zs_aload_n (pc := 72) t193_72 rfl ?_
  refine zs_get (pc := 73) t193_73 (by decide) (zk1 ((congrFun e1 6).trans M2k6)) ((zfvP e2 rfl).trans M2v6_8) ?_
  refine zs_get (pc := 76) t193_76 (by decide) (zk1 ((congrFun e1 332).trans M2k332)) (zfvi rfl z1) ?_
  refine zs_if_neF (pc := 79) t193_79 li0 (by decide) ?_
  refine zs_iload (pc := 82) t193_82 rfl ?_
  exact zs_iret (pc := 84) t193_84 mr193 (by decide) rfl
theorem m22_6 {X : zX} {l : Launch} {a b c : Int32} (la : 1 ≤ a.toInt) (ua : a.toInt ≤ 200) (lb : 1 ≤ b.toInt) (ub : b.toInt ≤ 999) (lc : 0 ≤ c.toInt) (uc : c.toInt ≤ 50) : zCall X l 9 0 0 326 [.ref 336, .int a, .int b, .int c] zMm (fun r _ => r = some (.int (1 : Int32))) := by
  have ga := zrg a
  have gb := zrg b
  have gc := zrg c
  refine zs_in (by decide) mf326 (Nat.le_of_ble_eq_true rfl) ?_
  show zGo X l 9 0 0 326 0 [(0, .ref 336), (1, .int a), (2, .int b), (3, .int c)] [] zMm _
  refine zs_iload_n (pc := 0) t326_0 rfl ?_
  refine zs_iload_n (pc := 1) t326_1 rfl ?_
  refine zs_iconst (pc := 2) t326_2 (v := 1) (by decide) ?_
  refine zs_iload_n (pc := 3) t326_3 rfl ?_
  refine zs_invS (pc := 4) (as := [.int a, .int b, .int (1 : Int32), .int c]) (st := []) t326_4 (by decide) mf324 rfl rfl ⟨by decide, by decide, Nat.le_of_ble_eq_true rfl, Nat.le_of_ble_eq_true rfl⟩ (zs_in (by decide) mf324 (Nat.le_of_ble_eq_true rfl) ?_) (fun _ _ q => q)
  show zGo X l 1 0 0 324 0 [(0, .int a), (1, .int b), (2, .int (1 : Int32)), (3, .int c)] [] zMm _
  refine zs_iload_n (pc := 0) t324_0 rfl ?_
  refine zs_i2l (pc := 1) t324_1 rfl ?_
  refine zs_lconst (pc := 2) t324_2 (v := 1) (by decide) ?_
  refine zs_ldc2_w (pc := 3) t324_3 (v := 200) (by decide) ?_
  refine zs_invS (pc := 6) (as := [.long a.toInt64, .long (1 : Int64), .long (200 : Int64)]) (st := []) t324_6 (by decide) mf228 rfl rfl ⟨by decide, by decide, Nat.le_of_ble_eq_true rfl, Nat.le_of_ble_eq_true rfl⟩ (in_T (zi2l rfl) ll1 ll200 (by omega) (by omega)) ?_
  rintro r Mi ⟨rfl, rfl⟩
  show zGo X l 1 0 0 324 9 [(0, .int a), (1, .int b), (2, .int (1 : Int32)), (3, .int c)] [.int (1 : Int32)] zMm _
  refine zs_if_eqF (pc := 9) t324_9 li1 (by decide) ?_
  refine zs_iload_n (pc := 12) t324_12 rfl ?_
  refine zs_i2l (pc := 13) t324_13 rfl ?_
  refine zs_lconst (pc := 14) t324_14 (v := 1) (by decide) ?_
  refine zs_ldc2_w (pc := 15) t324_15 (v := 999) (by decide) ?_
  refine zs_invS (pc := 18) (as := [.long b.toInt64, .long (1 : Int64), .long (999 : Int64)]) (st := []) t324_18 (by decide) mf228 rfl rfl ⟨by decide, by decide, Nat.le_of_ble_eq_true rfl, Nat.le_of_ble_eq_true rfl⟩ (in_T (zi2l rfl) ll1 ll999 (by omega) (by omega)) ?_
  rintro r Mi ⟨rfl, rfl⟩
  show zGo X l 1 0 0 324 21 [(0, .int a), (1, .int b), (2, .int (1 : Int32)), (3, .int c)] [.int (1 : Int32)] zMm _
  refine zs_if_eqF (pc := 21) t324_21 li1 (by decide) ?_
  refine zs_iload_n (pc := 24) t324_24 rfl ?_
  refine zs_i2l (pc := 25) t324_25 (c := 1) (by decide) ?_
  refine zs_lconst (pc := 26) t324_26 (v := 1) (by decide) ?_
  refine zs_ldc2_w (pc := 27) t324_27 (v := 8) (by decide) ?_
  refine zs_invS (pc := 30) (as := [.long (1 : Int64), .long (1 : Int64), .long (8 : Int64)]) (st := []) t324_30 (by decide) mf228 rfl rfl ⟨by decide, by decide, Nat.le_of_ble_eq_true rfl, Nat.le_of_ble_eq_true rfl⟩ (in_T ll1 ll1 ll8 (by omega) (by omega)) ?_
  rintro r Mi ⟨rfl, rfl⟩
  show zGo X l 1 0 0 324 33 [(0, .int a), (1, .int b), (2, .int (1 : Int32)), (3, .int c)] [.int (1 : Int32)] zMm _
  refine zs_if_eqF (pc := 33) t324_33 li1 (by decide) ?_
  refine zs_iload_n (pc := 36) t324_36 rfl ?_
  refine zs_i2l (pc := 37) t324_37 rfl ?_
  refine zs_lconst (pc := 38) t324_38 (v := 0) (by decide) ?_
  refine zs_ldc2_w (pc := 39) t324_39 (v := 50) (by decide) ?_
  refine zs_invS (pc := 42) (as := [.long c.toInt64, .long (0 : Int64), .long (50 : Int64)]) (st := []) t324_42 (by decide) mf228 rfl rfl ⟨by decide, by decide, Nat.le_of_ble_eq_true rfl, Nat.le_of_ble_eq_true rfl⟩ (in_T (zi2l rfl) ll0 ll50 (by omega) (by omega)) ?_
  rintro r Mi ⟨rfl, rfl⟩
  show zGo X l 1 0 0 324 45 [(0, .int a), (1, .int b), (2, .int (1 : Int32)), (3, .int c)] [.int (1 : Int32)] zMm _
  refine zs_if_eqF (pc := 45) t324_45 li1 (by decide) ?_
  refine zs_iconst (pc := 48) t324_48 (v := 1) (by decide) ?_
  refine zs_goto (pc := 49) t324_49 ?_
  refine zs_iret (pc := 53) t324_53 mr324 (by decide) ?_
  show zGo X l 9 0 0 326 7 [(0, .ref 336), (1, .int a), (2, .int b), (3, .int c)] [.int (1 : Int32)] zMm _
  refine zs_if_neT (pc := 7) t326_7 li1 (by decide) ?_
  refine zs_iconst (pc := 12) t326_12 (v := 1) (by decide) ?_
  refine zs_istore (pc := 13) t326_13 (ls' := [(4, .int (1 : Int32)), (0, .ref 336), (1, .int a), (2, .int b), (3, .int c)]) (zml mf326 (by decide)) rfl ?_
  refine zs_iload (pc := 15) t326_15 rfl ?_
  refine zs_bipush (pc := 17) t326_17 (v := 8) (by decide) ?_
  refine zs_icmp_gtF (pc := 19) t326_19 li1 li8 (by decide) ?_
  refine zs_aload_n (pc := 22) t326_22 rfl ?_
  refine zs_iload_n (pc := 23) t326_23 rfl ?_
  refine zs_iload_n (pc := 24) t326_24 rfl ?_
  refine zs_iload (pc := 25) t326_25 rfl ?_
  refine zs_iload_n (pc := 27) t326_27 rfl ?_
  refine zs_invV (pc := 28) (k := 336) (as' := [.int a, .int b, .int (1 : Int32), .int c]) (st := []) t326_28 mf325 rfl rfl (Or.inl ⟨by decide, (zk1 fk_zMm_336)⟩) ⟨by decide, by decide, Nat.le_of_ble_eq_true rfl, Nat.le_of_ble_eq_true rfl⟩ (qs_c (n := a.toInt.toNat) (p := b.toInt.toNat) (w := 1) (by omega) (by omega) (by omega) (by omega) (by omega) (by omega) (by decide) (by omega) (by omega)) ?_
  rintro r Mw ⟨rfl, k336, z42, z43, z44, lv, z45, hl⟩
  show zGo X l 9 0 0 326 31 [(4, .int (1 : Int32)), (0, .ref 336), (1, .int a), (2, .int b), (3, .int c)] [] Mw _
  refine zs_aload_n (pc := 31) t326_31 rfl ?_
  refine zs_get (pc := 32) t326_32 (by decide) (zk1 k336) z42 ?_
  refine zs_aload_n (pc := 35) t326_35 rfl ?_
  refine zs_get (pc := 36) t326_36 (by decide) (zk1 k336) z43 ?_
  refine zs_iadd (pc := 39) t326_39 (c := 0) (by decide) ?_
  refine zs_if_neF (pc := 40) t326_40 li0 (by decide) ?_
  refine zs_iload (pc := 43) t326_43 rfl ?_
  exact zs_iret (pc := 45) t326_45 mr326 (by decide) rfl
theorem m36_0 {X : zX} {l : Launch} {a b : Int32} (la : (-2147483648) ≤ a.toInt) (ua : a.toInt ≤ 0) : zCall X l 1 0 0 341 [.ref 336, .int a, .int b] zMm (fun r _ => r = some (.int (-1 : Int32))) := by
  have ga := zrg a
  have gb := zrg b
  refine zs_in (by decide) mf341 (Nat.le_of_ble_eq_true rfl) ?_
  show zGo X l 1 0 0 341 0 [(0, .ref 336), (1, .int a), (2, .int b)] [] zMm _
  refine zs_iload_n (pc := 0) t341_0 rfl ?_
  refine zs_i2l (pc := 1) t341_1 rfl ?_
  refine zs_lconst (pc := 2) t341_2 (v := 1) (by decide) ?_
  refine zs_ldc2_w (pc := 3) t341_3 (v := 1000) (by decide) ?_
  refine zs_invS (pc := 6) (as := [.long a.toInt64, .long (1 : Int64), .long (1000 : Int64)]) (st := []) t341_6 (by decide) mf228 rfl rfl ⟨by decide, by decide, Nat.le_of_ble_eq_true rfl, Nat.le_of_ble_eq_true rfl⟩ (in_F (zi2l rfl) ll1 ll1000 (by omega)) ?_
  rintro r Mi ⟨rfl, rfl⟩
  show zGo X l 1 0 0 341 9 [(0, .ref 336), (1, .int a), (2, .int b)] [.int (0 : Int32)] zMm _
  refine zs_if_eqT (pc := 9) t341_9 li0 (by decide) ?_
  refine zs_iconst (pc := 22) t341_22 (v := -1) (by decide) ?_
  exact zs_iret (pc := 23) t341_23 mr341 (by decide) rfl
theorem m36_1 {X : zX} {l : Launch} {a b : Int32} (la : 1001 ≤ a.toInt) (ua : a.toInt ≤ 2147483647) : zCall X l 1 0 0 341 [.ref 336, .int a, .int b] zMm (fun r _ => r = some (.int (-1 : Int32))) := by
  have ga := zrg a
  have gb := zrg b
  refine zs_in (by decide) mf341 (Nat.le_of_ble_eq_true rfl) ?_
  show zGo X l 1 0 0 341 0 [(0, .ref 336), (1, .int a), (2, .int b)] [] zMm _
  refine zs_iload_n (pc := 0) t341_0 rfl ?_
  refine zs_i2l (pc := 1) t341_1 rfl ?_
  refine zs_lconst (pc := 2) t341_2 (v := 1) (by decide) ?_
  refine zs_ldc2_w (pc := 3) t341_3 (v := 1000) (by decide) ?_
  refine zs_invS (pc := 6) (as := [.long a.toInt64, .long (1 : Int64), .long (1000 : Int64)]) (st := []) t341_6 (by decide) mf228 rfl rfl ⟨by decide, by decide, Nat.le_of_ble_eq_true rfl, Nat.le_of_ble_eq_true rfl⟩ (in_F (zi2l rfl) ll1 ll1000 (by omega)) ?_
  rintro r Mi ⟨rfl, rfl⟩
  show zGo X l 1 0 0 341 9 [(0, .ref 336), (1, .int a), (2, .int b)] [.int (0 : Int32)] zMm _
  refine zs_if_eqT (pc := 9) t341_9 li0 (by decide) ?_
  refine zs_iconst (pc := 22) t341_22 (v := -1) (by decide) ?_
  exact zs_iret (pc := 23) t341_23 mr341 (by decide) rfl
theorem m36_2 {X : zX} {l : Launch} {a b : Int32} (la : 1 ≤ a.toInt) (ua : a.toInt ≤ 1000) (lb : (-2147483648) ≤ b.toInt) (ub : b.toInt ≤ (-1)) : zCall X l 1 0 0 341 [.ref 336, .int a, .int b] zMm (fun r _ => r = some (.int (-1 : Int32))) := by
  have ga := zrg a
  have gb := zrg b
  refine zs_in (by decide) mf341 (Nat.le_of_ble_eq_true rfl) ?_
  show zGo X l 1 0 0 341 0 [(0, .ref 336), (1, .int a), (2, .int b)] [] zMm _
  refine zs_iload_n (pc := 0) t341_0 rfl ?_
  refine zs_i2l (pc := 1) t341_1 rfl ?_
  refine zs_lconst (pc := 2) t341_2 (v := 1) (by decide) ?_
  refine zs_ldc2_w (pc := 3) t341_3 (v := 1000) (by decide) ?_
  refine zs_invS (pc := 6) (as := [.long a.toInt64, .long (1 : Int64), .long (1000 : Int64)]) (st := []) t341_6 (by decide) mf228 rfl rfl ⟨by decide, by decide, Nat.le_of_ble_eq_true rfl, Nat.le_of_ble_eq_true rfl⟩ (in_T (zi2l rfl) ll1 ll1000 (by omega) (by omega)) ?_
  rintro r Mi ⟨rfl, rfl⟩
  show zGo X l 1 0 0 341 9 [(0, .ref 336), (1, .int a), (2, .int b)] [.int (1 : Int32)] zMm _
  refine zs_if_eqF (pc := 9) t341_9 li1 (by decide) ?_
  refine zs_iload_n (pc := 12) t341_12 rfl ?_
  refine zs_i2l (pc := 13) t341_13 rfl ?_
  refine zs_lconst (pc := 14) t341_14 (v := 0) (by decide) ?_
  refine zs_lconst (pc := 15) t341_15 (v := 1) (by decide) ?_
  refine zs_invS (pc := 16) (as := [.long b.toInt64, .long (0 : Int64), .long (1 : Int64)]) (st := []) t341_16 (by decide) mf228 rfl rfl ⟨by decide, by decide, Nat.le_of_ble_eq_true rfl, Nat.le_of_ble_eq_true rfl⟩ (in_F (zi2l rfl) ll0 ll1 (by omega)) ?_
  rintro r Mi ⟨rfl, rfl⟩
  show zGo X l 1 0 0 341 19 [(0, .ref 336), (1, .int a), (2, .int b)] [.int (0 : Int32)] zMm _
  refine zs_if_neF (pc := 19) t341_19 li0 (by decide) ?_
  refine zs_iconst (pc := 22) t341_22 (v := -1) (by decide) ?_
  exact zs_iret (pc := 23) t341_23 mr341 (by decide) rfl
theorem m36_3 {X : zX} {l : Launch} {a b : Int32} (la : 1 ≤ a.toInt) (ua : a.toInt ≤ 1000) (lb : 2 ≤ b.toInt) (ub : b.toInt ≤ 2147483647) : zCall X l 1 0 0 341 [.ref 336, .int a, .int b] zMm (fun r _ => r = some (.int (-1 : Int32))) := by
  have ga := zrg a
  have gb := zrg b
  refine zs_in (by decide) mf341 (Nat.le_of_ble_eq_true rfl) ?_
  show zGo X l 1 0 0 341 0 [(0, .ref 336), (1, .int a), (2, .int b)] [] zMm _
  refine zs_iload_n (pc := 0) t341_0 rfl ?_
  refine zs_i2l (pc := 1) t341_1 rfl ?_
  refine zs_lconst (pc := 2) t341_2 (v := 1) (by decide) ?_
  refine zs_ldc2_w (pc := 3) t341_3 (v := 1000) (by decide) ?_
  refine zs_invS (pc := 6) (as := [.long a.toInt64, .long (1 : Int64), .long (1000 : Int64)]) (st := []) t341_6 (by decide) mf228 rfl rfl ⟨by decide, by decide, Nat.le_of_ble_eq_true rfl, Nat.le_of_ble_eq_true rfl⟩ (in_T (zi2l rfl) ll1 ll1000 (by omega) (by omega)) ?_
  rintro r Mi ⟨rfl, rfl⟩
  show zGo X l 1 0 0 341 9 [(0, .ref 336), (1, .int a), (2, .int b)] [.int (1 : Int32)] zMm _
  refine zs_if_eqF (pc := 9) t341_9 li1 (by decide) ?_
  refine zs_iload_n (pc := 12) t341_12 rfl ?_
  refine zs_i2l (pc := 13) t341_13 rfl ?_
  refine zs_lconst (pc := 14) t341_14 (v := 0) (by decide) ?_
  refine zs_lconst (pc := 15) t341_15 (v := 1) (by decide) ?_
  refine zs_invS (pc := 16) (as := [.long b.toInt64, .long (0 : Int64), .long (1 : Int64)]) (st := []) t341_16 (by decide) mf228 rfl rfl ⟨by decide, by decide, Nat.le_of_ble_eq_true rfl, Nat.le_of_ble_eq_true rfl⟩ (in_F (zi2l rfl) ll0 ll1 (by omega)) ?_
  rintro r Mi ⟨rfl, rfl⟩
  show zGo X l 1 0 0 341 19 [(0, .ref 336), (1, .int a), (2, .int b)] [.int (0 : Int32)] zMm _
  refine zs_if_neF (pc := 19) t341_19 li0 (by decide) ?_
  refine zs_iconst (pc := 22) t341_22 (v := -1) (by decide) ?_
  exact zs_iret (pc := 23) t341_23 mr341 (by decide) rfl
