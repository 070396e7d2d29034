theorem t44_31 : zT 44 31 = some (.iconst 0, 1, 0, 0, 0, 0) := by decide +kernel
theorem t44_32 : zT 44 32 = some (.ireturn, 1, 0, 0, 0, 0) := by decide +kernel
theorem t45_0 : zT 45 0 = some (.iload_n 0, 1, 0, 0, 0, 0) := by decide +kernel
theorem t45_1 : zT 45 1 = some (.lookupswitch 52 #[(103, 45), (113, 49), (115, 43), (119, 47)], 43, 0, 0, 0, 0) := by decide +kernel
theorem t45_44 : zT 45 44 = some (.iconst 0, 1, 0, 0, 0, 0) := by decide +kernel
theorem t45_45 : zT 45 45 = some (.ireturn, 1, 0, 0, 0, 0) := by decide +kernel
theorem t45_46 : zT 45 46 = some (.iconst 4, 1, 0, 0, 4, 0) := by decide +kernel
theorem t45_47 : zT 45 47 = some (.ireturn, 1, 0, 0, 0, 0) := by decide +kernel
theorem t45_48 : zT 45 48 = some (.iconst 5, 1, 0, 0, 5, 0) := by decide +kernel
theorem t45_49 : zT 45 49 = some (.ireturn, 1, 0, 0, 0, 0) := by decide +kernel
theorem t45_50 : zT 45 50 = some (.bipush 7, 2, 0, 0, 7, 0) := by decide +kernel
theorem t45_52 : zT 45 52 = some (.ireturn, 1, 0, 0, 0, 0) := by decide +kernel
theorem t45_53 : zT 45 53 = some (.bipush 9, 2, 0, 0, 9, 0) := by decide +kernel
theorem t45_55 : zT 45 55 = some (.ireturn, 1, 0, 0, 0, 0) := by decide +kernel
theorem t46_0 : zT 46 0 = some (.aload_n 0, 1, 0, 0, 0, 0) := by decide +kernel
theorem t46_1 : zT 46 1 = some (.getfield 28, 3, 7, 5, 0, 265) := by decide +kernel
theorem t46_4 : zT 46 4 = some (.ireturn, 1, 0, 0, 0, 0) := by decide +kernel
theorem t47_0 : zT 47 0 = some (.aload_n 0, 1, 0, 0, 0, 0) := by decide +kernel
theorem t47_1 : zT 47 1 = some (.invokevirtual 40, 3, 31, 0, 0, 709) := by decide +kernel
theorem t47_4 : zT 47 4 = some (.iload_n 1, 1, 1, 0, 0, 0) := by decide +kernel
theorem t47_5 : zT 47 5 = some (.if_icmp .eq 12, 3, 17, 0, 0, 0) := by decide +kernel
theorem t47_8 : zT 47 8 = some (.aload_n 0, 1, 0, 0, 0, 0) := by decide +kernel
theorem t47_9 : zT 47 9 = some (.aload_n 0, 1, 0, 0, 0, 0) := by decide +kernel
theorem t47_10 : zT 47 10 = some (.getfield 19, 3, 7, 2, 0, 262) := by decide +kernel
theorem t47_13 : zT 47 13 = some (.invokevirtual 44, 3, 34, 0, 0, 731) := by decide +kernel
theorem t47_16 : zT 47 16 = some (.ireturn, 1, 0, 0, 0, 0) := by decide +kernel
theorem t47_17 : zT 47 17 = some (.aload_n 0, 1, 0, 0, 0, 0) := by decide +kernel
theorem t47_18 : zT 47 18 = some (.dup, 1, 0, 0, 0, 0) := by decide +kernel
theorem t47_19 : zT 47 19 = some (.getfield 19, 3, 7, 2, 0, 262) := by decide +kernel
theorem t47_22 : zT 47 22 = some (.iconst 1, 1, 0, 0, 1, 0) := by decide +kernel
theorem t47_23 : zT 47 23 = some (.iadd, 1, 0, 0, 0, 0) := by decide +kernel
theorem t47_24 : zT 47 24 = some (.putfield 19, 3, 7, 2, 0, 262) := by decide +kernel
theorem t47_27 : zT 47 27 = some (.iconst 1, 1, 0, 0, 1, 0) := by decide +kernel
theorem t47_28 : zT 47 28 = some (.ireturn, 1, 0, 0, 0, 0) := by decide +kernel
theorem t48_0 : zT 48 0 = some (.iload_n 1, 1, 1, 0, 0, 0) := by decide +kernel
theorem t48_1 : zT 48 1 = some (.lookupswitch 103 #[(104, 46), (112, 80), (114, 35)], 35, 0, 0, 0, 0) := by decide +kernel
theorem t48_36 : zT 48 36 = some (.aload_n 2, 1, 2, 0, 0, 0) := by decide +kernel
theorem t48_37 : zT 48 37 = some (.aload_n 0, 1, 0, 0, 0, 0) := by decide +kernel
theorem t48_38 : zT 48 38 = some (.getfield 11, 3, 3, 0, 0, 285) := by decide +kernel
theorem t48_41 : zT 48 41 = some (.iconst 0, 1, 0, 0, 0, 0) := by decide +kernel
theorem t48_42 : zT 48 42 = some (.iaload, 1, 0, 0, 0, 0) := by decide +kernel
theorem t48_43 : zT 48 43 = some (.invokevirtual 118, 3, 49, 0, 0, 778) := by decide +kernel
theorem t48_46 : zT 48 46 = some (.ireturn, 1, 0, 0, 0, 0) := by decide +kernel
theorem t48_47 : zT 48 47 = some (.aload_n 2, 1, 2, 0, 0, 0) := by decide +kernel
theorem t48_48 : zT 48 48 = some (.aload_n 0, 1, 0, 0, 0, 0) := by decide +kernel
theorem t48_49 : zT 48 49 = some (.getfield 11, 3, 3, 0, 0, 285) := by decide +kernel
theorem t48_52 : zT 48 52 = some (.iconst 0, 1, 0, 0, 0, 0) := by decide +kernel
theorem t48_53 : zT 48 53 = some (.iaload, 1, 0, 0, 0, 0) := by decide +kernel
theorem t48_54 : zT 48 54 = some (.aload_n 0, 1, 0, 0, 0, 0) := by decide +kernel
theorem t48_55 : zT 48 55 = some (.getfield 11, 3, 3, 0, 0, 285) := by decide +kernel
theorem t48_58 : zT 48 58 = some (.iconst 1, 1, 0, 0, 1, 0) := by decide +kernel
theorem t48_59 : zT 48 59 = some (.iaload, 1, 0, 0, 0, 0) := by decide +kernel
theorem t48_60 : zT 48 60 = some (.aload_n 0, 1, 0, 0, 0, 0) := by decide +kernel
theorem t48_61 : zT 48 61 = some (.getfield 11, 3, 3, 0, 0, 285) := by decide +kernel
theorem t48_64 : zT 48 64 = some (.iconst 2, 1, 0, 0, 2, 0) := by decide +kernel
theorem t48_65 : zT 48 65 = some (.iaload, 1, 0, 0, 0, 0) := by decide +kernel
theorem t48_66 : zT 48 66 = some (.bipush (-2), 2, 0, 0, (-2), 0) := by decide +kernel
theorem t48_68 : zT 48 68 = some (.invokevirtual 121, 3, 50, 0, 0, 782) := by decide +kernel
theorem t48_71 : zT 48 71 = some (.iconst (-1), 1, 0, 0, (-1), 0) := by decide +kernel
theorem t48_72 : zT 48 72 = some (.if_icmp .eq 7, 3, 79, 0, 0, 0) := by decide +kernel
theorem t48_75 : zT 48 75 = some (.iconst 1, 1, 0, 0, 1, 0) := by decide +kernel
theorem t48_76 : zT 48 76 = some (.goto 4, 3, 80, 0, 0, 0) := by decide +kernel
theorem t48_79 : zT 48 79 = some (.iconst 0, 1, 0, 0, 0, 0) := by decide +kernel
theorem t48_80 : zT 48 80 = some (.ireturn, 1, 0, 0, 0, 0) := by decide +kernel
theorem t48_81 : zT 48 81 = some (.aload_n 2, 1, 2, 0, 0, 0) := by decide +kernel
theorem t48_82 : zT 48 82 = some (.aload_n 0, 1, 0, 0, 0, 0) := by decide +kernel
theorem t48_83 : zT 48 83 = some (.getfield 11, 3, 3, 0, 0, 285) := by decide +kernel
theorem t48_86 : zT 48 86 = some (.iconst 0, 1, 0, 0, 0, 0) := by decide +kernel
theorem t48_87 : zT 48 87 = some (.iaload, 1, 0, 0, 0, 0) := by decide +kernel
theorem t48_88 : zT 48 88 = some (.aload_n 0, 1, 0, 0, 0, 0) := by decide +kernel
theorem t48_89 : zT 48 89 = some (.getfield 11, 3, 3, 0, 0, 285) := by decide +kernel
theorem t48_92 : zT 48 92 = some (.iconst 1, 1, 0, 0, 1, 0) := by decide +kernel
theorem t48_93 : zT 48 93 = some (.iaload, 1, 0, 0, 0, 0) := by decide +kernel
theorem t48_94 : zT 48 94 = some (.aload_n 0, 1, 0, 0, 0, 0) := by decide +kernel
theorem t48_95 : zT 48 95 = some (.getfield 11, 3, 3, 0, 0, 285) := by decide +kernel
theorem t48_98 : zT 48 98 = some (.iconst 2, 1, 0, 0, 2, 0) := by decide +kernel
theorem t48_99 : zT 48 99 = some (.iaload, 1, 0, 0, 0, 0) := by decide +kernel
theorem t48_100 : zT 48 100 = some (.invokevirtual 125, 3, 52, 0, 0, 793) := by decide +kernel
theorem t48_103 : zT 48 103 = some (.ireturn, 1, 0, 0, 0, 0) := by decide +kernel
theorem t48_104 : zT 48 104 = some (.iconst 0, 1, 0, 0, 0, 0) := by decide +kernel
theorem t48_105 : zT 48 105 = some (.istore_n 3, 1, 3, 0, 0, 0) := by decide +kernel
theorem t48_106 : zT 48 106 = some (.iload_n 3, 1, 3, 0, 0, 0) := by decide +kernel
theorem t48_107 : zT 48 107 = some (.iload_n 1, 1, 1, 0, 0, 0) := by decide +kernel
theorem t48_108 : zT 48 108 = some (.invokestatic 41, 3, 32, 1, 0, 713) := by decide +kernel
theorem t48_111 : zT 48 111 = some (.if_icmp .ge 25, 3, 136, 0, 0, 0) := by decide +kernel
theorem t48_114 : zT 48 114 = some (.aload_n 2, 1, 2, 0, 0, 0) := by decide +kernel
theorem t48_115 : zT 48 115 = some (.iload_n 1, 1, 1, 0, 0, 0) := by decide +kernel
theorem t48_116 : zT 48 116 = some (.invokestatic 103, 3, 45, 1, 0, 763) := by decide +kernel
theorem t48_119 : zT 48 119 = some (.iload_n 3, 1, 3, 0, 0, 0) := by decide +kernel
theorem t48_120 : zT 48 120 = some (.iadd, 1, 0, 0, 0, 0) := by decide +kernel
theorem t48_121 : zT 48 121 = some (.aload_n 0, 1, 0, 0, 0, 0) := by decide +kernel
theorem t48_122 : zT 48 122 = some (.getfield 11, 3, 3, 0, 0, 285) := by decide +kernel
theorem t48_125 : zT 48 125 = some (.iload_n 3, 1, 3, 0, 0, 0) := by decide +kernel
theorem t48_126 : zT 48 126 = some (.iaload, 1, 0, 0, 0, 0) := by decide +kernel
theorem t48_127 : zT 48 127 = some (.invokevirtual 128, 3, 56, 0, 0, 809) := by decide +kernel
theorem t48_130 : zT 48 130 = some (.iinc 3 1, 3, 0, 0, 0, 0) := by decide +kernel
theorem t48_133 : zT 48 133 = some (.goto (-27), 3, 106, 0, 0, 0) := by decide +kernel
theorem t48_136 : zT 48 136 = some (.iconst 1, 1, 0, 0, 1, 0) := by decide +kernel
theorem t48_137 : zT 48 137 = some (.ireturn, 1, 0, 0, 0, 0) := by decide +kernel
theorem t49_0 : zT 49 0 = some (.aload_n 0, 1, 0, 0, 0, 0) := by decide +kernel
theorem t49_1 : zT 49 1 = some (.getfield 9, 3, 6, 0, 0, 151) := by decide +kernel
theorem t49_4 : zT 49 4 = some (.bipush 8, 2, 0, 0, 8, 0) := by decide +kernel
theorem t49_6 : zT 49 6 = some (.if_icmp .lt 5, 3, 11, 0, 0, 0) := by decide +kernel
theorem t49_9 : zT 49 9 = some (.iconst 0, 1, 0, 0, 0, 0) := by decide +kernel
theorem t49_10 : zT 49 10 = some (.ireturn, 1, 0, 0, 0, 0) := by decide +kernel
theorem t49_11 : zT 49 11 = some (.aload_n 0, 1, 0, 0, 0, 0) := by decide +kernel
theorem t49_12 : zT 49 12 = some (.getfield 15, 3, 6, 1, 0, 157) := by decide +kernel
theorem t49_15 : zT 49 15 = some (.aload_n 0, 1, 0, 0, 0, 0) := by decide +kernel
theorem t49_16 : zT 49 16 = some (.getfield 9, 3, 6, 0, 0, 151) := by decide +kernel
theorem t49_19 : zT 49 19 = some (.iload_n 1, 1, 1, 0, 0, 0) := by decide +kernel
theorem t49_20 : zT 49 20 = some (.iastore, 1, 0, 0, 0, 0) := by decide +kernel
theorem t49_21 : zT 49 21 = some (.aload_n 0, 1, 0, 0, 0, 0) := by decide +kernel
theorem t49_22 : zT 49 22 = some (.getfield 19, 3, 6, 2, 0, 161) := by decide +kernel
theorem t49_25 : zT 49 25 = some (.aload_n 0, 1, 0, 0, 0, 0) := by decide +kernel
theorem t49_26 : zT 49 26 = some (.getfield 9, 3, 6, 0, 0, 151) := by decide +kernel
theorem t49_29 : zT 49 29 = some (.iconst 1, 1, 0, 0, 1, 0) := by decide +kernel
theorem t49_30 : zT 49 30 = some (.bastore, 1, 0, 0, 0, 0) := by decide +kernel
theorem t49_31 : zT 49 31 = some (.aload_n 0, 1, 0, 0, 0, 0) := by decide +kernel
theorem t49_32 : zT 49 32 = some (.dup, 1, 0, 0, 0, 0) := by decide +kernel
theorem t49_33 : zT 49 33 = some (.getfield 9, 3, 6, 0, 0, 151) := by decide +kernel
theorem t49_36 : zT 49 36 = some (.iconst 1, 1, 0, 0, 1, 0) := by decide +kernel
theorem t49_37 : zT 49 37 = some (.iadd, 1, 0, 0, 0, 0) := by decide +kernel
theorem t49_38 : zT 49 38 = some (.putfield 9, 3, 6, 0, 0, 151) := by decide +kernel
theorem t49_41 : zT 49 41 = some (.iconst 1, 1, 0, 0, 1, 0) := by decide +kernel
theorem t49_42 : zT 49 42 = some (.ireturn, 1, 0, 0, 0, 0) := by decide +kernel
theorem t50_0 : zT 50 0 = some (.aload_n 0, 1, 0, 0, 0, 0) := by decide +kernel
theorem t50_1 : zT 50 1 = some (.iload_n 1, 1, 1, 0, 0, 0) := by decide +kernel
theorem t50_2 : zT 50 2 = some (.iload_n 2, 1, 2, 0, 0, 0) := by decide +kernel
theorem t50_3 : zT 50 3 = some (.iload_n 3, 1, 3, 0, 0, 0) := by decide +kernel
theorem t50_4 : zT 50 4 = some (.invokevirtual 119, 3, 51, 0, 0, 786) := by decide +kernel
theorem t50_7 : zT 50 7 = some (.ifCond .ne 5, 3, 12, 0, 0, 0) := by decide +kernel
theorem t50_10 : zT 50 10 = some (.iconst (-1), 1, 0, 0, (-1), 0) := by decide +kernel
theorem t50_11 : zT 50 11 = some (.ireturn, 1, 0, 0, 0, 0) := by decide +kernel
theorem t50_12 : zT 50 12 = some (.aload_n 0, 1, 0, 0, 0, 0) := by decide +kernel
theorem t50_13 : zT 50 13 = some (.getfield 26, 3, 6, 4, 0, 168) := by decide +kernel
theorem t50_16 : zT 50 16 = some (.aload_n 0, 1, 0, 0, 0, 0) := by decide +kernel
theorem t50_17 : zT 50 17 = some (.getfield 23, 3, 6, 3, 0, 164) := by decide +kernel
theorem t50_20 : zT 50 20 = some (.iload_n 1, 1, 1, 0, 0, 0) := by decide +kernel
theorem t50_21 : zT 50 21 = some (.iastore, 1, 0, 0, 0, 0) := by decide +kernel
theorem t50_22 : zT 50 22 = some (.aload_n 0, 1, 0, 0, 0, 0) := by decide +kernel
theorem t50_23 : zT 50 23 = some (.getfield 29, 3, 6, 5, 0, 171) := by decide +kernel
theorem t50_26 : zT 50 26 = some (.aload_n 0, 1, 0, 0, 0, 0) := by decide +kernel
theorem t50_27 : zT 50 27 = some (.getfield 23, 3, 6, 3, 0, 164) := by decide +kernel
theorem t50_30 : zT 50 30 = some (.iload_n 2, 1, 2, 0, 0, 0) := by decide +kernel
theorem t50_31 : zT 50 31 = some (.iastore, 1, 0, 0, 0, 0) := by decide +kernel
theorem t50_32 : zT 50 32 = some (.aload_n 0, 1, 0, 0, 0, 0) := by decide +kernel
theorem t50_33 : zT 50 33 = some (.getfield 32, 3, 6, 6, 0, 175) := by decide +kernel
theorem t50_36 : zT 50 36 = some (.aload_n 0, 1, 0, 0, 0, 0) := by decide +kernel
theorem t50_37 : zT 50 37 = some (.getfield 23, 3, 6, 3, 0, 164) := by decide +kernel
theorem t50_40 : zT 50 40 = some (.iload_n 3, 1, 3, 0, 0, 0) := by decide +kernel
theorem t50_41 : zT 50 41 = some (.iastore, 1, 0, 0, 0, 0) := by decide +kernel
theorem t50_42 : zT 50 42 = some (.aload_n 0, 1, 0, 0, 0, 0) := by decide +kernel
theorem t50_43 : zT 50 43 = some (.getfield 35, 3, 6, 7, 0, 177) := by decide +kernel
theorem t50_46 : zT 50 46 = some (.aload_n 0, 1, 0, 0, 0, 0) := by decide +kernel
theorem t50_47 : zT 50 47 = some (.getfield 23, 3, 6, 3, 0, 164) := by decide +kernel
theorem t50_50 : zT 50 50 = some (.iload 4, 2, 0, 0, 0, 0) := by decide +kernel
theorem t50_52 : zT 50 52 = some (.iastore, 1, 0, 0, 0, 0) := by decide +kernel
theorem t50_53 : zT 50 53 = some (.aload_n 0, 1, 0, 0, 0, 0) := by decide +kernel
theorem t50_54 : zT 50 54 = some (.dup, 1, 0, 0, 0, 0) := by decide +kernel
theorem t50_55 : zT 50 55 = some (.getfield 23, 3, 6, 3, 0, 164) := by decide +kernel
theorem t50_58 : zT 50 58 = some (.iconst 1, 1, 0, 0, 1, 0) := by decide +kernel
theorem t50_59 : zT 50 59 = some (.iadd, 1, 0, 0, 0, 0) := by decide +kernel
theorem t50_60 : zT 50 60 = some (.putfield 23, 3, 6, 3, 0, 164) := by decide +kernel
theorem t50_63 : zT 50 63 = some (.aload_n 0, 1, 0, 0, 0, 0) := by decide +kernel
theorem t50_64 : zT 50 64 = some (.getfield 23, 3, 6, 3, 0, 164) := by decide +kernel
theorem t50_67 : zT 50 67 = some (.iconst 1, 1, 0, 0, 1, 0) := by decide +kernel
theorem t50_68 : zT 50 68 = some (.isub, 1, 0, 0, 0, 0) := by decide +kernel
theorem t50_69 : zT 50 69 = some (.ireturn, 1, 0, 0, 0, 0) := by decide +kernel
theorem t51_0 : zT 51 0 = some (.aload_n 0, 1, 0, 0, 0, 0) := by decide +kernel
theorem t51_1 : zT 51 1 = some (.iload_n 1, 1, 1, 0, 0, 0) := by decide +kernel
theorem t51_2 : zT 51 2 = some (.invokevirtual 98, 3, 41, 0, 0, 790) := by decide +kernel
theorem t51_5 : zT 51 5 = some (.ifCond .eq 34, 3, 39, 0, 0, 0) := by decide +kernel
theorem t51_8 : zT 51 8 = some (.iload_n 2, 1, 2, 0, 0, 0) := by decide +kernel
theorem t51_9 : zT 51 9 = some (.invokestatic 116, 3, 42, 2, 0, 791) := by decide +kernel
theorem t51_12 : zT 51 12 = some (.ifCond .eq 27, 3, 39, 0, 0, 0) := by decide +kernel
theorem t51_15 : zT 51 15 = some (.iload_n 3, 1, 3, 0, 0, 0) := by decide +kernel
theorem t51_16 : zT 51 16 = some (.iconst 0, 1, 0, 0, 0, 0) := by decide +kernel
theorem t51_17 : zT 51 17 = some (.sipush 999, 3, 0, 0, 999, 0) := by decide +kernel
theorem t51_20 : zT 51 20 = some (.invokestatic 91, 3, 39, 2, 0, 792) := by decide +kernel
theorem t51_23 : zT 51 23 = some (.ifCond .eq 16, 3, 39, 0, 0, 0) := by decide +kernel
theorem t51_26 : zT 51 26 = some (.aload_n 0, 1, 0, 0, 0, 0) := by decide +kernel
theorem t51_27 : zT 51 27 = some (.getfield 23, 3, 6, 3, 0, 164) := by decide +kernel
theorem t51_30 : zT 51 30 = some (.bipush 60, 2, 0, 0, 60, 0) := by decide +kernel
theorem t51_32 : zT 51 32 = some (.if_icmp .ge 7, 3, 39, 0, 0, 0) := by decide +kernel
theorem t51_35 : zT 51 35 = some (.iconst 1, 1, 0, 0, 1, 0) := by decide +kernel
theorem t51_36 : zT 51 36 = some (.goto 4, 3, 40, 0, 0, 0) := by decide +kernel
theorem t51_39 : zT 51 39 = some (.iconst 0, 1, 0, 0, 0, 0) := by decide +kernel
theorem t51_40 : zT 51 40 = some (.ireturn, 1, 0, 0, 0, 0) := by decide +kernel
theorem t52_0 : zT 52 0 = some (.aload_n 0, 1, 0, 0, 0, 0) := by decide +kernel
theorem t52_1 : zT 52 1 = some (.getfield 38, 3, 6, 8, 0, 180) := by decide +kernel
theorem t52_4 : zT 52 4 = some (.bipush 12, 2, 0, 0, 12, 0) := by decide +kernel
theorem t52_6 : zT 52 6 = some (.if_icmp .lt 5, 3, 11, 0, 0, 0) := by decide +kernel
theorem t52_9 : zT 52 9 = some (.iconst 0, 1, 0, 0, 0, 0) := by decide +kernel
theorem t52_10 : zT 52 10 = some (.ireturn, 1, 0, 0, 0, 0) := by decide +kernel
theorem t52_11 : zT 52 11 = some (.aload_n 0, 1, 0, 0, 0, 0) := by decide +kernel
theorem t52_12 : zT 52 12 = some (.getfield 41, 3, 6, 9, 0, 184) := by decide +kernel
theorem t52_15 : zT 52 15 = some (.aload_n 0, 1, 0, 0, 0, 0) := by decide +kernel
theorem t52_16 : zT 52 16 = some (.getfield 38, 3, 6, 8, 0, 180) := by decide +kernel
theorem t52_19 : zT 52 19 = some (.iload_n 1, 1, 1, 0, 0, 0) := by decide +kernel
theorem t52_20 : zT 52 20 = some (.iastore, 1, 0, 0, 0, 0) := by decide +kernel
theorem t52_21 : zT 52 21 = some (.aload_n 0, 1, 0, 0, 0, 0) := by decide +kernel
theorem t52_22 : zT 52 22 = some (.getfield 44, 3, 6, 10, 0, 186) := by decide +kernel
theorem t52_25 : zT 52 25 = some (.aload_n 0, 1, 0, 0, 0, 0) := by decide +kernel
theorem t52_26 : zT 52 26 = some (.getfield 38, 3, 6, 8, 0, 180) := by decide +kernel
theorem t52_29 : zT 52 29 = some (.iload_n 2, 1, 2, 0, 0, 0) := by decide +kernel
theorem t52_30 : zT 52 30 = some (.iastore, 1, 0, 0, 0, 0) := by decide +kernel
theorem t52_31 : zT 52 31 = some (.aload_n 0, 1, 0, 0, 0, 0) := by decide +kernel
theorem t52_32 : zT 52 32 = some (.getfield 47, 3, 6, 11, 0, 188) := by decide +kernel
theorem t52_35 : zT 52 35 = some (.aload_n 0, 1, 0, 0, 0, 0) := by decide +kernel
theorem t52_36 : zT 52 36 = some (.getfield 38, 3, 6, 8, 0, 180) := by decide +kernel
theorem t52_39 : zT 52 39 = some (.iload_n 3, 1, 3, 0, 0, 0) := by decide +kernel
theorem t52_40 : zT 52 40 = some (.iastore, 1, 0, 0, 0, 0) := by decide +kernel
theorem t52_41 : zT 52 41 = some (.aload_n 0, 1, 0, 0, 0, 0) := by decide +kernel
theorem t52_42 : zT 52 42 = some (.dup, 1, 0, 0, 0, 0) := by decide +kernel
theorem t52_43 : zT 52 43 = some (.getfield 38, 3, 6, 8, 0, 180) := by decide +kernel
theorem t52_46 : zT 52 46 = some (.iconst 1, 1, 0, 0, 1, 0) := by decide +kernel
theorem t52_47 : zT 52 47 = some (.iadd, 1, 0, 0, 0, 0) := by decide +kernel
theorem t52_48 : zT 52 48 = some (.putfield 38, 3, 6, 8, 0, 180) := by decide +kernel
theorem t52_51 : zT 52 51 = some (.iconst 0, 1, 0, 0, 0, 0) := by decide +kernel
theorem t52_52 : zT 52 52 = some (.istore 4, 2, 0, 0, 0, 0) := by decide +kernel
theorem t52_54 : zT 52 54 = some (.iload 4, 2, 0, 0, 0, 0) := by decide +kernel
theorem t52_56 : zT 52 56 = some (.aload_n 0, 1, 0, 0, 0, 0) := by decide +kernel
theorem t52_57 : zT 52 57 = some (.getfield 9, 3, 6, 0, 0, 151) := by decide +kernel
theorem t52_60 : zT 52 60 = some (.if_icmp .ge 66, 3, 126, 0, 0, 0) := by decide +kernel
theorem t52_63 : zT 52 63 = some (.iload_n 1, 1, 1, 0, 0, 0) := by decide +kernel
theorem t52_64 : zT 52 64 = some (.aload_n 0, 1, 0, 0, 0, 0) := by decide +kernel
theorem t52_65 : zT 52 65 = some (.iload 4, 2, 0, 0, 0, 0) := by decide +kernel
theorem t52_67 : zT 52 67 = some (.iload_n 2, 1, 2, 0, 0, 0) := by decide +kernel
theorem t52_68 : zT 52 68 = some (.invokevirtual 104, 3, 53, 0, 0, 797) := by decide +kernel
theorem t52_71 : zT 52 71 = some (.iadd, 1, 0, 0, 0, 0) := by decide +kernel
theorem t52_72 : zT 52 72 = some (.aload_n 0, 1, 0, 0, 0, 0) := by decide +kernel
theorem t52_73 : zT 52 73 = some (.iload 4, 2, 0, 0, 0, 0) := by decide +kernel
theorem t52_75 : zT 52 75 = some (.iload_n 3, 1, 3, 0, 0, 0) := by decide +kernel
theorem t52_76 : zT 52 76 = some (.invokevirtual 107, 3, 55, 0, 0, 804) := by decide +kernel
theorem t52_79 : zT 52 79 = some (.iadd, 1, 0, 0, 0, 0) := by decide +kernel
theorem t52_80 : zT 52 80 = some (.istore 5, 2, 0, 0, 0, 0) := by decide +kernel
theorem t52_82 : zT 52 82 = some (.iload 5, 2, 0, 0, 0, 0) := by decide +kernel
theorem t52_84 : zT 52 84 = some (.invokestatic 116, 3, 42, 2, 0, 791) := by decide +kernel
theorem t52_87 : zT 52 87 = some (.ifCond .eq 33, 3, 120, 0, 0, 0) := by decide +kernel
theorem t52_90 : zT 52 90 = some (.aload_n 0, 1, 0, 0, 0, 0) := by decide +kernel
theorem t52_91 : zT 52 91 = some (.iload 4, 2, 0, 0, 0, 0) := by decide +kernel
theorem t52_93 : zT 52 93 = some (.iload 5, 2, 0, 0, 0, 0) := by decide +kernel
theorem t52_95 : zT 52 95 = some (.aload_n 0, 1, 0, 0, 0, 0) := by decide +kernel
theorem t52_96 : zT 52 96 = some (.getfield 15, 3, 6, 1, 0, 157) := by decide +kernel
theorem t52_99 : zT 52 99 = some (.iload 4, 2, 0, 0, 0, 0) := by decide +kernel
theorem t52_101 : zT 52 101 = some (.iaload, 1, 0, 0, 0, 0) := by decide +kernel
theorem t52_102 : zT 52 102 = some (.bipush 10, 2, 0, 0, 10, 0) := by decide +kernel
theorem t52_104 : zT 52 104 = some (.idiv, 1, 0, 0, 0, 0) := by decide +kernel
theorem t52_105 : zT 52 105 = some (.aload_n 0, 1, 0, 0, 0, 0) := by decide +kernel
theorem t52_106 : zT 52 106 = some (.getfield 38, 3, 6, 8, 0, 180) := by decide +kernel
theorem t52_109 : zT 52 109 = some (.iconst 1, 1, 0, 0, 1, 0) := by decide +kernel
theorem t52_110 : zT 52 110 = some (.isub, 1, 0, 0, 0, 0) := by decide +kernel
theorem t52_111 : zT 52 111 = some (.invokevirtual 122, 3, 50, 0, 0, 808) := by decide +kernel
theorem t52_114 : zT 52 114 = some (.iconst (-1), 1, 0, 0, (-1), 0) := by decide +kernel
theorem t52_115 : zT 52 115 = some (.if_icmp .ne 5, 3, 120, 0, 0, 0) := by decide +kernel
theorem t52_118 : zT 52 118 = some (.iconst 0, 1, 0, 0, 0, 0) := by decide +kernel
theorem t52_119 : zT 52 119 = some (.ireturn, 1, 0, 0, 0, 0) := by decide +kernel
theorem t52_120 : zT 52 120 = some (.iinc 4 1, 3, 0, 0, 0, 0) := by decide +kernel
theorem t52_123 : zT 52 123 = some (.goto (-69), 3, 54, 0, 0, 0) := by decide +kernel
theorem t52_126 : zT 52 126 = some (.iconst 1, 1, 0, 0, 1, 0) := by decide +kernel
theorem t52_127 : zT 52 127 = some (.ireturn, 1, 0, 0, 0, 0) := by decide +kernel
theorem t53_0 : zT 53 0 = some (.aload_n 0, 1, 0, 0, 0, 0) := by decide +kernel
theorem t53_1 : zT 53 1 = some (.iload_n 1, 1, 1, 0, 0, 0) := by decide +kernel
theorem t53_2 : zT 53 2 = some (.invokevirtual 98, 3, 41, 0, 0, 790) := by decide +kernel
theorem t53_5 : zT 53 5 = some (.ifCond .eq 19, 3, 24, 0, 0, 0) := by decide +kernel
theorem t53_8 : zT 53 8 = some (.iload_n 2, 1, 2, 0, 0, 0) := by decide +kernel
theorem t53_9 : zT 53 9 = some (.aload_n 0, 1, 0, 0, 0, 0) := by decide +kernel
theorem t53_10 : zT 53 10 = some (.getfield 15, 3, 6, 1, 0, 157) := by decide +kernel
theorem t53_13 : zT 53 13 = some (.iload_n 1, 1, 1, 0, 0, 0) := by decide +kernel
theorem t53_14 : zT 53 14 = some (.iaload, 1, 0, 0, 0, 0) := by decide +kernel
theorem t53_15 : zT 53 15 = some (.imul, 1, 0, 0, 0, 0) := by decide +kernel
theorem t53_16 : zT 53 16 = some (.bipush 100, 2, 0, 0, 100, 0) := by decide +kernel
theorem t53_18 : zT 53 18 = some (.invokestatic 101, 3, 54, 1, 0, 801) := by decide +kernel
theorem t53_21 : zT 53 21 = some (.goto 4, 3, 25, 0, 0, 0) := by decide +kernel
theorem t53_24 : zT 53 24 = some (.iconst 0, 1, 0, 0, 0, 0) := by decide +kernel
theorem t53_25 : zT 53 25 = some (.ireturn, 1, 0, 0, 0, 0) := by decide +kernel
theorem t54_0 : zT 54 0 = some (.iload_n 0, 1, 0, 0, 0, 0) := by decide +kernel
theorem t54_1 : zT 54 1 = some (.iload_n 1, 1, 1, 0, 0, 0) := by decide +kernel
theorem t54_2 : zT 54 2 = some (.idiv, 1, 0, 0, 0, 0) := by decide +kernel
theorem t54_3 : zT 54 3 = some (.istore_n 2, 1, 2, 0, 0, 0) := by decide +kernel
theorem t54_4 : zT 54 4 = some (.iload_n 0, 1, 0, 0, 0, 0) := by decide +kernel
theorem t54_5 : zT 54 5 = some (.iload_n 1, 1, 1, 0, 0, 0) := by decide +kernel
theorem t54_6 : zT 54 6 = some (.ixor, 1, 0, 0, 0, 0) := by decide +kernel
theorem t54_7 : zT 54 7 = some (.ifCond .ge 14, 3, 21, 0, 0, 0) := by decide +kernel
theorem t54_10 : zT 54 10 = some (.iload_n 2, 1, 2, 0, 0, 0) := by decide +kernel
theorem t54_11 : zT 54 11 = some (.iload_n 1, 1, 1, 0, 0, 0) := by decide +kernel
theorem t54_12 : zT 54 12 = some (.imul, 1, 0, 0, 0, 0) := by decide +kernel
theorem t54_13 : zT 54 13 = some (.iload_n 0, 1, 0, 0, 0, 0) := by decide +kernel
theorem t54_14 : zT 54 14 = some (.if_icmp .eq 7, 3, 21, 0, 0, 0) := by decide +kernel
theorem t54_17 : zT 54 17 = some (.iload_n 2, 1, 2, 0, 0, 0) := by decide +kernel
theorem t54_18 : zT 54 18 = some (.iconst 1, 1, 0, 0, 1, 0) := by decide +kernel
theorem t54_19 : zT 54 19 = some (.isub, 1, 0, 0, 0, 0) := by decide +kernel
theorem t54_20 : zT 54 20 = some (.ireturn, 1, 0, 0, 0, 0) := by decide +kernel
theorem t54_21 : zT 54 21 = some (.iload_n 2, 1, 2, 0, 0, 0) := by decide +kernel
theorem t54_22 : zT 54 22 = some (.ireturn, 1, 0, 0, 0, 0) := by decide +kernel
theorem t55_0 : zT 55 0 = some (.aload_n 0, 1, 0, 0, 0, 0) := by decide +kernel
theorem t55_1 : zT 55 1 = some (.iload_n 1, 1, 1, 0, 0, 0) := by decide +kernel
theorem t55_2 : zT 55 2 = some (.invokevirtual 98, 3, 41, 0, 0, 790) := by decide +kernel
theorem t55_5 : zT 55 5 = some (.ifCond .eq 27, 3, 32, 0, 0, 0) := by decide +kernel
theorem t55_8 : zT 55 8 = some (.iload_n 2, 1, 2, 0, 0, 0) := by decide +kernel
theorem t55_9 : zT 55 9 = some (.aload_n 0, 1, 0, 0, 0, 0) := by decide +kernel
theorem t55_10 : zT 55 10 = some (.getfield 15, 3, 6, 1, 0, 157) := by decide +kernel
theorem t55_13 : zT 55 13 = some (.iload_n 1, 1, 1, 0, 0, 0) := by decide +kernel
theorem t55_14 : zT 55 14 = some (.iaload, 1, 0, 0, 0, 0) := by decide +kernel
theorem t55_15 : zT 55 15 = some (.imul, 1, 0, 0, 0, 0) := by decide +kernel
theorem t55_16 : zT 55 16 = some (.aload_n 0, 1, 0, 0, 0, 0) := by decide +kernel
theorem t55_17 : zT 55 17 = some (.getfield 15, 3, 6, 1, 0, 157) := by decide +kernel
theorem t55_20 : zT 55 20 = some (.iload_n 1, 1, 1, 0, 0, 0) := by decide +kernel
theorem t55_21 : zT 55 21 = some (.iaload, 1, 0, 0, 0, 0) := by decide +kernel
theorem t55_22 : zT 55 22 = some (.imul, 1, 0, 0, 0, 0) := by decide +kernel
theorem t55_23 : zT 55 23 = some (.sipush 10000, 3, 0, 0, 10000, 0) := by decide +kernel
theorem t55_26 : zT 55 26 = some (.invokestatic 101, 3, 54, 1, 0, 801) := by decide +kernel
theorem t55_29 : zT 55 29 = some (.goto 4, 3, 33, 0, 0, 0) := by decide +kernel
theorem t55_32 : zT 55 32 = some (.iconst 0, 1, 0, 0, 0, 0) := by decide +kernel
theorem t55_33 : zT 55 33 = some (.ireturn, 1, 0, 0, 0, 0) := by decide +kernel
theorem t56_0 : zT 56 0 = some (.iload_n 1, 1, 1, 0, 0, 0) := by decide +kernel
theorem t56_1 : zT 56 1 = some (.ifCond .lt 16, 3, 17, 0, 0, 0) := by decide +kernel
theorem t56_4 : zT 56 4 = some (.iload_n 1, 1, 1, 0, 0, 0) := by decide +kernel
theorem t56_5 : zT 56 5 = some (.bipush 9, 2, 0, 0, 9, 0) := by decide +kernel
theorem t56_7 : zT 56 7 = some (.if_icmp .ge 10, 3, 17, 0, 0, 0) := by decide +kernel
theorem t56_10 : zT 56 10 = some (.aload_n 0, 1, 0, 0, 0, 0) := by decide +kernel
theorem t56_11 : zT 56 11 = some (.getfield 58, 3, 6, 12, 0, 190) := by decide +kernel
theorem t56_14 : zT 56 14 = some (.iload_n 1, 1, 1, 0, 0, 0) := by decide +kernel
theorem t56_15 : zT 56 15 = some (.iload_n 2, 1, 2, 0, 0, 0) := by decide +kernel
theorem t56_16 : zT 56 16 = some (.iastore, 1, 0, 0, 0, 0) := by decide +kernel
theorem t56_17 : zT 56 17 = some (.return_, 1, 0, 0, 0, 0) := by decide +kernel
theorem t83_0 : zT 83 0 = some (.aload_n 1, 1, 1, 0, 0, 0) := by decide +kernel
theorem t83_1 : zT 83 1 = some (.invokevirtual 21, 3, 26, 0, 0, 689) := by decide +kernel
theorem t83_4 : zT 83 4 = some (.iconst 0, 1, 0, 0, 0, 0) := by decide +kernel
theorem t83_5 : zT 83 5 = some (.istore_n 2, 1, 2, 0, 0, 0) := by decide +kernel
theorem t83_6 : zT 83 6 = some (.iload_n 2, 1, 2, 0, 0, 0) := by decide +kernel
theorem t83_7 : zT 83 7 = some (.bipush 20, 2, 0, 0, 20, 0) := by decide +kernel
theorem t83_9 : zT 83 9 = some (.if_icmp .ge 27, 3, 36, 0, 0, 0) := by decide +kernel
theorem t83_12 : zT 83 12 = some (.aload_n 1, 1, 1, 0, 0, 0) := by decide +kernel
theorem t83_13 : zT 83 13 = some (.invokevirtual 26, 3, 27, 0, 0, 693) := by decide +kernel
theorem t83_16 : zT 83 16 = some (.ifCond .ne 20, 3, 36, 0, 0, 0) := by decide +kernel
theorem t83_19 : zT 83 19 = some (.aload_n 0, 1, 0, 0, 0, 0) := by decide +kernel
theorem t83_20 : zT 83 20 = some (.aload_n 1, 1, 1, 0, 0, 0) := by decide +kernel
theorem t83_21 : zT 83 21 = some (.iload_n 2, 1, 2, 0, 0, 0) := by decide +kernel
theorem t83_22 : zT 83 22 = some (.invokevirtual 132, 3, 84, 0, 0, 977) := by decide +kernel
theorem t83_25 : zT 83 25 = some (.ifCond .ne 5, 3, 30, 0, 0, 0) := by decide +kernel
theorem t83_28 : zT 83 28 = some (.iconst (-1), 1, 0, 0, (-1), 0) := by decide +kernel
theorem t83_29 : zT 83 29 = some (.ireturn, 1, 0, 0, 0, 0) := by decide +kernel
theorem t83_30 : zT 83 30 = some (.iinc 2 1, 3, 0, 0, 0, 0) := by decide +kernel
theorem t83_33 : zT 83 33 = some (.goto (-27), 3, 6, 0, 0, 0) := by decide +kernel
theorem t83_36 : zT 83 36 = some (.aload_n 1, 1, 1, 0, 0, 0) := by decide +kernel
theorem t83_37 : zT 83 37 = some (.invokevirtual 26, 3, 27, 0, 0, 693) := by decide +kernel
theorem t83_40 : zT 83 40 = some (.ifCond .ne 14, 3, 54, 0, 0, 0) := by decide +kernel
theorem t83_43 : zT 83 43 = some (.aload_n 1, 1, 1, 0, 0, 0) := by decide +kernel
theorem t83_44 : zT 83 44 = some (.aload_n 1, 1, 1, 0, 0, 0) := by decide +kernel
theorem t83_45 : zT 83 45 = some (.invokevirtual 34, 3, 29, 0, 0, 701) := by decide +kernel
theorem t83_48 : zT 83 48 = some (.invokevirtual 49, 3, 34, 0, 0, 719) := by decide +kernel
theorem t83_51 : zT 83 51 = some (.pop, 1, 0, 0, 0, 0) := by decide +kernel
theorem t83_52 : zT 83 52 = some (.iconst (-1), 1, 0, 0, (-1), 0) := by decide +kernel
theorem t83_53 : zT 83 53 = some (.ireturn, 1, 0, 0, 0, 0) := by decide +kernel
theorem t83_54 : zT 83 54 = some (.iload_n 2, 1, 2, 0, 0, 0) := by decide +kernel
theorem t83_55 : zT 83 55 = some (.ireturn, 1, 0, 0, 0, 0) := by decide +kernel
theorem t84_0 : zT 84 0 = some (.aload_n 1, 1, 1, 0, 0, 0) := by decide +kernel
theorem t84_1 : zT 84 1 = some (.invokevirtual 34, 3, 29, 0, 0, 701) := by decide +kernel
theorem t84_4 : zT 84 4 = some (.istore_n 3, 1, 3, 0, 0, 0) := by decide +kernel
theorem t84_5 : zT 84 5 = some (.aload_n 1, 1, 1, 0, 0, 0) := by decide +kernel
theorem t84_6 : zT 84 6 = some (.invokevirtual 38, 3, 30, 0, 0, 705) := by decide +kernel
theorem t84_9 : zT 84 9 = some (.istore 4, 2, 0, 0, 0, 0) := by decide +kernel
theorem t84_11 : zT 84 11 = some (.iload 4, 2, 0, 0, 0, 0) := by decide +kernel
theorem t84_13 : zT 84 13 = some (.invokestatic 136, 3, 85, 1, 0, 981) := by decide +kernel
theorem t84_16 : zT 84 16 = some (.istore 5, 2, 0, 0, 0, 0) := by decide +kernel
theorem t84_18 : zT 84 18 = some (.iload 5, 2, 0, 0, 0, 0) := by decide +kernel
theorem t84_20 : zT 84 20 = some (.ifCond .ne 9, 3, 29, 0, 0, 0) := by decide +kernel
theorem t84_23 : zT 84 23 = some (.aload_n 1, 1, 1, 0, 0, 0) := by decide +kernel
theorem t84_24 : zT 84 24 = some (.iload_n 3, 1, 3, 0, 0, 0) := by decide +kernel
theorem t84_25 : zT 84 25 = some (.invokevirtual 49, 3, 34, 0, 0, 719) := by decide +kernel
theorem t84_28 : zT 84 28 = some (.ireturn, 1, 0, 0, 0, 0) := by decide +kernel
theorem t84_29 : zT 84 29 = some (.aload_n 0, 1, 0, 0, 0, 0) := by decide +kernel
theorem t84_30 : zT 84 30 = some (.getfield 15, 3, 3, 1, 0, 286) := by decide +kernel
theorem t84_33 : zT 84 33 = some (.iload_n 2, 1, 2, 0, 0, 0) := by decide +kernel
theorem t84_34 : zT 84 34 = some (.iload 4, 2, 0, 0, 0, 0) := by decide +kernel
theorem t84_36 : zT 84 36 = some (.iastore, 1, 0, 0, 0, 0) := by decide +kernel
theorem t84_37 : zT 84 37 = some (.iconst 0, 1, 0, 0, 0, 0) := by decide +kernel
theorem t84_38 : zT 84 38 = some (.istore 6, 2, 0, 0, 0, 0) := by decide +kernel
theorem t84_40 : zT 84 40 = some (.iload 6, 2, 0, 0, 0, 0) := by decide +kernel
theorem t84_42 : zT 84 42 = some (.iload 5, 2, 0, 0, 0, 0) := by decide +kernel
theorem t84_44 : zT 84 44 = some (.if_icmp .ge 58, 3, 102, 0, 0, 0) := by decide +kernel
theorem t84_47 : zT 84 47 = some (.aload_n 1, 1, 1, 0, 0, 0) := by decide +kernel
theorem t84_48 : zT 84 48 = some (.invokevirtual 53, 3, 35, 0, 0, 723) := by decide +kernel
theorem t84_51 : zT 84 51 = some (.ifCond .ne 5, 3, 56, 0, 0, 0) := by decide +kernel
theorem t84_54 : zT 84 54 = some (.iconst 0, 1, 0, 0, 0, 0) := by decide +kernel
theorem t84_55 : zT 84 55 = some (.ireturn, 1, 0, 0, 0, 0) := by decide +kernel
theorem t84_56 : zT 84 56 = some (.aload_n 0, 1, 0, 0, 0, 0) := by decide +kernel
theorem t84_57 : zT 84 57 = some (.getfield 18, 3, 3, 2, 0, 287) := by decide +kernel
theorem t84_60 : zT 84 60 = some (.iload_n 2, 1, 2, 0, 0, 0) := by decide +kernel
theorem t84_61 : zT 84 61 = some (.iconst 4, 1, 0, 0, 4, 0) := by decide +kernel
theorem t84_62 : zT 84 62 = some (.imul, 1, 0, 0, 0, 0) := by decide +kernel
theorem t84_63 : zT 84 63 = some (.iload 6, 2, 0, 0, 0, 0) := by decide +kernel
theorem t84_65 : zT 84 65 = some (.iadd, 1, 0, 0, 0, 0) := by decide +kernel
theorem t84_66 : zT 84 66 = some (.aload_n 1, 1, 1, 0, 0, 0) := by decide +kernel
theorem t84_67 : zT 84 67 = some (.invokevirtual 56, 3, 37, 0, 0, 732) := by decide +kernel
theorem t84_70 : zT 84 70 = some (.iastore, 1, 0, 0, 0, 0) := by decide +kernel
theorem t84_71 : zT 84 71 = some (.aload_n 1, 1, 1, 0, 0, 0) := by decide +kernel
theorem t84_72 : zT 84 72 = some (.iload 6, 2, 0, 0, 0, 0) := by decide +kernel
theorem t84_74 : zT 84 74 = some (.iconst 1, 1, 0, 0, 1, 0) := by decide +kernel
theorem t84_75 : zT 84 75 = some (.iadd, 1, 0, 0, 0, 0) := by decide +kernel
theorem t84_76 : zT 84 76 = some (.iload 5, 2, 0, 0, 0, 0) := by decide +kernel
theorem t84_78 : zT 84 78 = some (.if_icmp .ge 8, 3, 86, 0, 0, 0) := by decide +kernel
theorem t84_81 : zT 84 81 = some (.bipush 44, 2, 0, 0, 44, 0) := by decide +kernel
theorem t84_83 : zT 84 83 = some (.goto 5, 3, 88, 0, 0, 0) := by decide +kernel
theorem t84_86 : zT 84 86 = some (.bipush 59, 2, 0, 0, 59, 0) := by decide +kernel
theorem t84_88 : zT 84 88 = some (.invokevirtual 66, 3, 47, 0, 0, 770) := by decide +kernel
theorem t84_91 : zT 84 91 = some (.ifCond .ne 5, 3, 96, 0, 0, 0) := by decide +kernel
theorem t84_94 : zT 84 94 = some (.iconst 0, 1, 0, 0, 0, 0) := by decide +kernel
theorem t84_95 : zT 84 95 = some (.ireturn, 1, 0, 0, 0, 0) := by decide +kernel
theorem t84_96 : zT 84 96 = some (.iinc 6 1, 3, 0, 0, 0, 0) := by decide +kernel
theorem t84_99 : zT 84 99 = some (.goto (-59), 3, 40, 0, 0, 0) := by decide +kernel
theorem t84_102 : zT 84 102 = some (.iconst 1, 1, 0, 0, 1, 0) := by decide +kernel
theorem t84_103 : zT 84 103 = some (.ireturn, 1, 0, 0, 0, 0) := by decide +kernel
theorem t85_0 : zT 85 0 = some (.iload_n 0, 1, 0, 0, 0, 0) := by decide +kernel
theorem t85_1 : zT 85 1 = some (.lookupswitch 47 #[(100, 45), (104, 43), (110, 45), (120, 45)], 43, 0, 0, 0, 0) := by decide +kernel
theorem t85_44 : zT 85 44 = some (.iconst 3, 1, 0, 0, 3, 0) := by decide +kernel
theorem t85_45 : zT 85 45 = some (.ireturn, 1, 0, 0, 0, 0) := by decide +kernel
theorem t85_46 : zT 85 46 = some (.iconst 1, 1, 0, 0, 1, 0) := by decide +kernel
theorem t85_47 : zT 85 47 = some (.ireturn, 1, 0, 0, 0, 0) := by decide +kernel
theorem t85_48 : zT 85 48 = some (.iconst 0, 1, 0, 0, 0, 0) := by decide +kernel
theorem t85_49 : zT 85 49 = some (.ireturn, 1, 0, 0, 0, 0) := by decide +kernel
theorem t91_0 : zT 91 0 = some (.iload_n 1, 1, 1, 0, 0, 0) := by decide +kernel
theorem t91_1 : zT 91 1 = some (.ifCond .lt 15, 3, 16, 0, 0, 0) := by decide +kernel
theorem t91_4 : zT 91 4 = some (.iload_n 1, 1, 1, 0, 0, 0) := by decide +kernel
theorem t91_5 : zT 91 5 = some (.aload_n 0, 1, 0, 0, 0, 0) := by decide +kernel
theorem t91_6 : zT 91 6 = some (.getfield 23, 3, 6, 3, 0, 164) := by decide +kernel
theorem t91_9 : zT 91 9 = some (.if_icmp .ge 7, 3, 16, 0, 0, 0) := by decide +kernel
theorem t91_12 : zT 91 12 = some (.iconst 1, 1, 0, 0, 1, 0) := by decide +kernel
theorem t91_13 : zT 91 13 = some (.goto 4, 3, 17, 0, 0, 0) := by decide +kernel
theorem t91_16 : zT 91 16 = some (.iconst 0, 1, 0, 0, 0, 0) := by decide +kernel
theorem t91_17 : zT 91 17 = some (.ireturn, 1, 0, 0, 0, 0) := by decide +kernel
theorem t92_0 : zT 92 0 = some (.iconst 0, 1, 0, 0, 0, 0) := by decide +kernel
theorem t92_1 : zT 92 1 = some (.istore_n 1, 1, 1, 0, 0, 0) := by decide +kernel
theorem t92_2 : zT 92 2 = some (.iconst 0, 1, 0, 0, 0, 0) := by decide +kernel
theorem t92_3 : zT 92 3 = some (.istore_n 2, 1, 2, 0, 0, 0) := by decide +kernel
theorem t92_4 : zT 92 4 = some (.iload_n 2, 1, 2, 0, 0, 0) := by decide +kernel
theorem t92_5 : zT 92 5 = some (.aload_n 0, 1, 0, 0, 0, 0) := by decide +kernel
theorem t92_6 : zT 92 6 = some (.getfield 23, 3, 6, 3, 0, 164) := by decide +kernel
theorem t92_9 : zT 92 9 = some (.if_icmp .ge 20, 3, 29, 0, 0, 0) := by decide +kernel
theorem t92_12 : zT 92 12 = some (.aload_n 0, 1, 0, 0, 0, 0) := by decide +kernel
theorem t92_13 : zT 92 13 = some (.iload_n 2, 1, 2, 0, 0, 0) := by decide +kernel
theorem t92_14 : zT 92 14 = some (.invokevirtual 95, 3, 93, 0, 0, 1014) := by decide +kernel
theorem t92_17 : zT 92 17 = some (.ifCond .eq 6, 3, 23, 0, 0, 0) := by decide +kernel
theorem t92_20 : zT 92 20 = some (.iinc 1 1, 3, 0, 0, 0, 0) := by decide +kernel
theorem t92_23 : zT 92 23 = some (.iinc 2 1, 3, 0, 0, 0, 0) := by decide +kernel
theorem t92_26 : zT 92 26 = some (.goto (-22), 3, 4, 0, 0, 0) := by decide +kernel
theorem t92_29 : zT 92 29 = some (.iload_n 1, 1, 1, 0, 0, 0) := by decide +kernel
theorem t92_30 : zT 92 30 = some (.ireturn, 1, 0, 0, 0, 0) := by decide +kernel
theorem t93_0 : zT 93 0 = some (.aload_n 0, 1, 0, 0, 0, 0) := by decide +kernel
theorem t93_1 : zT 93 1 = some (.iload_n 1, 1, 1, 0, 0, 0) := by decide +kernel
theorem t93_2 : zT 93 2 = some (.invokevirtual 87, 3, 91, 0, 0, 1018) := by decide +kernel
theorem t93_5 : zT 93 5 = some (.ifCond .eq 46, 3, 51, 0, 0, 0) := by decide +kernel
theorem t93_8 : zT 93 8 = some (.aload_n 0, 1, 0, 0, 0, 0) := by decide +kernel
theorem t93_9 : zT 93 9 = some (.getfield 19, 3, 6, 2, 0, 161) := by decide +kernel
theorem t93_12 : zT 93 12 = some (.aload_n 0, 1, 0, 0, 0, 0) := by decide +kernel
theorem t93_13 : zT 93 13 = some (.getfield 26, 3, 6, 4, 0, 168) := by decide +kernel
theorem t93_16 : zT 93 16 = some (.iload_n 1, 1, 1, 0, 0, 0) := by decide +kernel
theorem t93_17 : zT 93 17 = some (.iaload, 1, 0, 0, 0, 0) := by decide +kernel
theorem t93_18 : zT 93 18 = some (.baload, 1, 0, 0, 0, 0) := by decide +kernel
theorem t93_19 : zT 93 19 = some (.ifCond .eq 32, 3, 51, 0, 0, 0) := by decide +kernel
theorem t93_22 : zT 93 22 = some (.aload_n 0, 1, 0, 0, 0, 0) := by decide +kernel
theorem t93_23 : zT 93 23 = some (.getfield 32, 3, 6, 6, 0, 175) := by decide +kernel
theorem t93_26 : zT 93 26 = some (.iload_n 1, 1, 1, 0, 0, 0) := by decide +kernel
theorem t93_27 : zT 93 27 = some (.iaload, 1, 0, 0, 0, 0) := by decide +kernel
theorem t93_28 : zT 93 28 = some (.aload_n 0, 1, 0, 0, 0, 0) := by decide +kernel
theorem t93_29 : zT 93 29 = some (.getfield 58, 3, 6, 12, 0, 190) := by decide +kernel
theorem t93_32 : zT 93 32 = some (.iconst 5, 1, 0, 0, 5, 0) := by decide +kernel
theorem t93_33 : zT 93 33 = some (.iaload, 1, 0, 0, 0, 0) := by decide +kernel
theorem t93_34 : zT 93 34 = some (.aload_n 0, 1, 0, 0, 0, 0) := by decide +kernel
theorem t93_35 : zT 93 35 = some (.getfield 58, 3, 6, 12, 0, 190) := by decide +kernel
theorem t93_38 : zT 93 38 = some (.bipush 6, 2, 0, 0, 6, 0) := by decide +kernel
theorem t93_40 : zT 93 40 = some (.iaload, 1, 0, 0, 0, 0) := by decide +kernel
theorem t93_41 : zT 93 41 = some (.invokestatic 91, 3, 39, 2, 0, 792) := by decide +kernel
theorem t93_44 : zT 93 44 = some (.ifCond .eq 7, 3, 51, 0, 0, 0) := by decide +kernel
theorem t93_47 : zT 93 47 = some (.iconst 1, 1, 0, 0, 1, 0) := by decide +kernel
theorem t93_48 : zT 93 48 = some (.goto 4, 3, 52, 0, 0, 0) := by decide +kernel
theorem t93_51 : zT 93 51 = some (.iconst 0, 1, 0, 0, 0, 0) := by decide +kernel
theorem t93_52 : zT 93 52 = some (.ireturn, 1, 0, 0, 0, 0) := by decide +kernel
theorem t100_0 : zT 100 0 = some (.iconst 0, 1, 0, 0, 0, 0) := by decide +kernel
theorem t100_1 : zT 100 1 = some (.istore_n 1, 1, 1, 0, 0, 0) := by decide +kernel
theorem t100_2 : zT 100 2 = some (.iconst 0, 1, 0, 0, 0, 0) := by decide +kernel
theorem t100_3 : zT 100 3 = some (.istore_n 2, 1, 2, 0, 0, 0) := by decide +kernel
theorem t100_4 : zT 100 4 = some (.iload_n 2, 1, 2, 0, 0, 0) := by decide +kernel
theorem t100_5 : zT 100 5 = some (.aload_n 0, 1, 0, 0, 0, 0) := by decide +kernel
theorem t100_6 : zT 100 6 = some (.getfield 9, 3, 6, 0, 0, 151) := by decide +kernel
theorem t100_9 : zT 100 9 = some (.if_icmp .ge 21, 3, 30, 0, 0, 0) := by decide +kernel
theorem t100_12 : zT 100 12 = some (.aload_n 0, 1, 0, 0, 0, 0) := by decide +kernel
theorem t100_13 : zT 100 13 = some (.getfield 19, 3, 6, 2, 0, 161) := by decide +kernel
theorem t100_16 : zT 100 16 = some (.iload_n 2, 1, 2, 0, 0, 0) := by decide +kernel
theorem t100_17 : zT 100 17 = some (.baload, 1, 0, 0, 0, 0) := by decide +kernel
theorem t100_18 : zT 100 18 = some (.ifCond .eq 6, 3, 24, 0, 0, 0) := by decide +kernel
theorem t100_21 : zT 100 21 = some (.iinc 1 1, 3, 0, 0, 0, 0) := by decide +kernel
theorem t100_24 : zT 100 24 = some (.iinc 2 1, 3, 0, 0, 0, 0) := by decide +kernel
theorem t100_27 : zT 100 27 = some (.goto (-23), 3, 4, 0, 0, 0) := by decide +kernel
theorem t100_30 : zT 100 30 = some (.iload_n 1, 1, 1, 0, 0, 0) := by decide +kernel
theorem t100_31 : zT 100 31 = some (.ireturn, 1, 0, 0, 0, 0) := by decide +kernel
theorem t103_0 : zT 103 0 = some (.iconst 0, 1, 0, 0, 0, 0) := by decide +kernel
theorem t103_1 : zT 103 1 = some (.istore_n 2, 1, 2, 0, 0, 0) := by decide +kernel
theorem t103_2 : zT 103 2 = some (.iconst 0, 1, 0, 0, 0, 0) := by decide +kernel
theorem t103_3 : zT 103 3 = some (.istore_n 3, 1, 3, 0, 0, 0) := by decide +kernel
theorem t103_4 : zT 103 4 = some (.iload_n 3, 1, 3, 0, 0, 0) := by decide +kernel
theorem t103_5 : zT 103 5 = some (.aload_n 0, 1, 0, 0, 0, 0) := by decide +kernel
theorem t103_6 : zT 103 6 = some (.getfield 23, 3, 6, 3, 0, 164) := by decide +kernel
theorem t103_9 : zT 103 9 = some (.if_icmp .ge 30, 3, 39, 0, 0, 0) := by decide +kernel
theorem t103_12 : zT 103 12 = some (.aload_n 0, 1, 0, 0, 0, 0) := by decide +kernel
theorem t103_13 : zT 103 13 = some (.getfield 26, 3, 6, 4, 0, 168) := by decide +kernel
theorem t103_16 : zT 103 16 = some (.iload_n 3, 1, 3, 0, 0, 0) := by decide +kernel
theorem t103_17 : zT 103 17 = some (.iaload, 1, 0, 0, 0, 0) := by decide +kernel
theorem t103_18 : zT 103 18 = some (.iload_n 1, 1, 1, 0, 0, 0) := by decide +kernel
theorem t103_19 : zT 103 19 = some (.if_icmp .ne 14, 3, 33, 0, 0, 0) := by decide +kernel
theorem t103_22 : zT 103 22 = some (.aload_n 0, 1, 0, 0, 0, 0) := by decide +kernel
theorem t103_23 : zT 103 23 = some (.iload_n 3, 1, 3, 0, 0, 0) := by decide +kernel
theorem t103_24 : zT 103 24 = some (.invokevirtual 95, 3, 93, 0, 0, 1014) := by decide +kernel
theorem t103_27 : zT 103 27 = some (.ifCond .eq 6, 3, 33, 0, 0, 0) := by decide +kernel
theorem t103_30 : zT 103 30 = some (.iinc 2 1, 3, 0, 0, 0, 0) := by decide +kernel
theorem t103_33 : zT 103 33 = some (.iinc 3 1, 3, 0, 0, 0, 0) := by decide +kernel
theorem t103_36 : zT 103 36 = some (.goto (-32), 3, 4, 0, 0, 0) := by decide +kernel
theorem t103_39 : zT 103 39 = some (.iload_n 2, 1, 2, 0, 0, 0) := by decide +kernel
theorem t103_40 : zT 103 40 = some (.ireturn, 1, 0, 0, 0, 0) := by decide +kernel
theorem t128_0 : zT 128 0 = some (.iconst 0, 1, 0, 0, 0, 0) := by decide +kernel
theorem t128_1 : zT 128 1 = some (.istore_n 2, 1, 2, 0, 0, 0) := by decide +kernel
theorem t128_2 : zT 128 2 = some (.iconst 0, 1, 0, 0, 0, 0) := by decide +kernel
theorem t128_3 : zT 128 3 = some (.istore_n 3, 1, 3, 0, 0, 0) := by decide +kernel
theorem t128_4 : zT 128 4 = some (.iload_n 3, 1, 3, 0, 0, 0) := by decide +kernel
theorem t128_5 : zT 128 5 = some (.aload_n 0, 1, 0, 0, 0, 0) := by decide +kernel
theorem t128_6 : zT 128 6 = some (.getfield 23, 3, 6, 3, 0, 164) := by decide +kernel
theorem t128_9 : zT 128 9 = some (.if_icmp .ge 30, 3, 39, 0, 0, 0) := by decide +kernel
theorem t128_12 : zT 128 12 = some (.aload_n 0, 1, 0, 0, 0, 0) := by decide +kernel
theorem t128_13 : zT 128 13 = some (.getfield 35, 3, 6, 7, 0, 177) := by decide +kernel
theorem t128_16 : zT 128 16 = some (.iload_n 3, 1, 3, 0, 0, 0) := by decide +kernel
theorem t128_17 : zT 128 17 = some (.iaload, 1, 0, 0, 0, 0) := by decide +kernel
theorem t128_18 : zT 128 18 = some (.iload_n 1, 1, 1, 0, 0, 0) := by decide +kernel
theorem t128_19 : zT 128 19 = some (.if_icmp .ne 14, 3, 33, 0, 0, 0) := by decide +kernel
theorem t128_22 : zT 128 22 = some (.aload_n 0, 1, 0, 0, 0, 0) := by decide +kernel
theorem t128_23 : zT 128 23 = some (.iload_n 3, 1, 3, 0, 0, 0) := by decide +kernel
theorem t128_24 : zT 128 24 = some (.invokevirtual 95, 3, 93, 0, 0, 1014) := by decide +kernel
theorem t128_27 : zT 128 27 = some (.ifCond .eq 6, 3, 33, 0, 0, 0) := by decide +kernel
theorem t128_30 : zT 128 30 = some (.iinc 2 1, 3, 0, 0, 0, 0) := by decide +kernel
theorem t128_33 : zT 128 33 = some (.iinc 3 1, 3, 0, 0, 0, 0) := by decide +kernel
theorem t128_36 : zT 128 36 = some (.goto (-32), 3, 4, 0, 0, 0) := by decide +kernel
theorem t128_39 : zT 128 39 = some (.iload_n 2, 1, 2, 0, 0, 0) := by decide +kernel
theorem t128_40 : zT 128 40 = some (.ireturn, 1, 0, 0, 0, 0) := by decide +kernel
theorem t185_0 : zT 185 0 = some (.iconst 0, 1, 0, 0, 0, 0) := by decide +kernel
theorem t185_1 : zT 185 1 = some (.istore_n 2, 1, 2, 0, 0, 0) := by decide +kernel
theorem t185_2 : zT 185 2 = some (.iload_n 2, 1, 2, 0, 0, 0) := by decide +kernel
theorem t185_3 : zT 185 3 = some (.aload_n 0, 1, 0, 0, 0, 0) := by decide +kernel
theorem t185_4 : zT 185 4 = some (.getfield 61, 3, 6, 13, 0, 191) := by decide +kernel
theorem t185_7 : zT 185 7 = some (.if_icmp .ge 21, 3, 28, 0, 0, 0) := by decide +kernel
theorem t185_10 : zT 185 10 = some (.aload_n 0, 1, 0, 0, 0, 0) := by decide +kernel
theorem t185_11 : zT 185 11 = some (.getfield 64, 3, 6, 14, 0, 193) := by decide +kernel
theorem t185_14 : zT 185 14 = some (.iload_n 2, 1, 2, 0, 0, 0) := by decide +kernel
theorem t185_15 : zT 185 15 = some (.baload, 1, 0, 0, 0, 0) := by decide +kernel
theorem t185_16 : zT 185 16 = some (.iload_n 1, 1, 1, 0, 0, 0) := by decide +kernel
theorem t185_17 : zT 185 17 = some (.if_icmp .ne 5, 3, 22, 0, 0, 0) := by decide +kernel
theorem t185_20 : zT 185 20 = some (.iconst 1, 1, 0, 0, 1, 0) := by decide +kernel
theorem t185_21 : zT 185 21 = some (.ireturn, 1, 0, 0, 0, 0) := by decide +kernel
theorem t185_22 : zT 185 22 = some (.iinc 2 1, 3, 0, 0, 0, 0) := by decide +kernel
theorem t185_25 : zT 185 25 = some (.goto (-23), 3, 2, 0, 0, 0) := by decide +kernel
theorem t185_28 : zT 185 28 = some (.iconst 0, 1, 0, 0, 0, 0) := by decide +kernel
theorem t185_29 : zT 185 29 = some (.ireturn, 1, 0, 0, 0, 0) := by decide +kernel
theorem t211_0 : zT 211 0 = some (.iconst 0, 1, 0, 0, 0, 0) := by decide +kernel
theorem t211_1 : zT 211 1 = some (.istore_n 3, 1, 3, 0, 0, 0) := by decide +kernel
theorem t211_2 : zT 211 2 = some (.iconst 0, 1, 0, 0, 0, 0) := by decide +kernel
theorem t211_3 : zT 211 3 = some (.istore 4, 2, 0, 0, 0, 0) := by decide +kernel
theorem t211_5 : zT 211 5 = some (.iload 4, 2, 0, 0, 0, 0) := by decide +kernel
theorem t211_7 : zT 211 7 = some (.aload_n 0, 1, 0, 0, 0, 0) := by decide +kernel
theorem t211_8 : zT 211 8 = some (.getfield 23, 3, 6, 3, 0, 164) := by decide +kernel
theorem t211_11 : zT 211 11 = some (.if_icmp .ge 42, 3, 53, 0, 0, 0) := by decide +kernel
theorem t211_14 : zT 211 14 = some (.aload_n 0, 1, 0, 0, 0, 0) := by decide +kernel
theorem t211_15 : zT 211 15 = some (.getfield 19, 3, 6, 2, 0, 161) := by decide +kernel
theorem t211_18 : zT 211 18 = some (.aload_n 0, 1, 0, 0, 0, 0) := by decide +kernel
theorem t211_19 : zT 211 19 = some (.getfield 26, 3, 6, 4, 0, 168) := by decide +kernel
theorem t211_22 : zT 211 22 = some (.iload 4, 2, 0, 0, 0, 0) := by decide +kernel
theorem t211_24 : zT 211 24 = some (.iaload, 1, 0, 0, 0, 0) := by decide +kernel
theorem t211_25 : zT 211 25 = some (.baload, 1, 0, 0, 0, 0) := by decide +kernel
theorem t211_26 : zT 211 26 = some (.ifCond .eq 21, 3, 47, 0, 0, 0) := by decide +kernel
theorem t211_29 : zT 211 29 = some (.aload_n 0, 1, 0, 0, 0, 0) := by decide +kernel
theorem t211_30 : zT 211 30 = some (.getfield 32, 3, 6, 6, 0, 175) := by decide +kernel
theorem t211_33 : zT 211 33 = some (.iload 4, 2, 0, 0, 0, 0) := by decide +kernel
theorem t211_35 : zT 211 35 = some (.iaload, 1, 0, 0, 0, 0) := by decide +kernel
theorem t211_36 : zT 211 36 = some (.iload_n 1, 1, 1, 0, 0, 0) := by decide +kernel
theorem t211_37 : zT 211 37 = some (.iload_n 2, 1, 2, 0, 0, 0) := by decide +kernel
theorem t211_38 : zT 211 38 = some (.invokestatic 91, 3, 39, 2, 0, 792) := by decide +kernel
theorem t211_41 : zT 211 41 = some (.ifCond .eq 6, 3, 47, 0, 0, 0) := by decide +kernel
theorem t211_44 : zT 211 44 = some (.iinc 3 1, 3, 0, 0, 0, 0) := by decide +kernel
theorem t211_47 : zT 211 47 = some (.iinc 4 1, 3, 0, 0, 0, 0) := by decide +kernel
theorem t211_50 : zT 211 50 = some (.goto (-45), 3, 5, 0, 0, 0) := by decide +kernel
theorem t211_53 : zT 211 53 = some (.iload_n 3, 1, 3, 0, 0, 0) := by decide +kernel
theorem t211_54 : zT 211 54 = some (.ireturn, 1, 0, 0, 0, 0) := by decide +kernel
theorem fk_zMc_10 : zK zMc 10 = (20, 60) := by decide +kernel
theorem fk_zMc_100 : zK zMc 100 = (20, 60) := by decide +kernel
theorem fk_zMc_101 : zK zMc 101 = (20, 60) := by decide +kernel
theorem fk_zMc_102 : zK zMc 102 = (20, 12) := by decide +kernel
theorem fk_zMc_103 : zK zMc 103 = (20, 12) := by decide +kernel
theorem fk_zMc_104 : zK zMc 104 = (20, 12) := by decide +kernel
theorem fk_zMc_105 : zK zMc 105 = (20, 9) := by decide +kernel
theorem fk_zMc_106 : zK zMc 106 = (21, 500) := by decide +kernel
theorem fk_zMc_107 : zK zMc 107 = (6, 0) := by decide +kernel
theorem fk_zMc_108 : zK zMc 108 = (20, 8) := by decide +kernel
theorem fk_zMc_109 : zK zMc 109 = (22, 8) := by decide +kernel
theorem fk_zMc_11 : zK zMc 11 = (20, 60) := by decide +kernel
theorem fk_zMc_110 : zK zMc 110 = (20, 60) := by decide +kernel
theorem fk_zMc_111 : zK zMc 111 = (20, 60) := by decide +kernel
theorem fk_zMc_112 : zK zMc 112 = (20, 60) := by decide +kernel
theorem fk_zMc_113 : zK zMc 113 = (20, 60) := by decide +kernel
theorem fk_zMc_114 : zK zMc 114 = (20, 12) := by decide +kernel
theorem fk_zMc_115 : zK zMc 115 = (20, 12) := by decide +kernel
theorem fk_zMc_116 : zK zMc 116 = (20, 12) := by decide +kernel
theorem fk_zMc_117 : zK zMc 117 = (20, 9) := by decide +kernel
theorem fk_zMc_118 : zK zMc 118 = (21, 500) := by decide +kernel
theorem fk_zMc_119 : zK zMc 119 = (6, 0) := by decide +kernel
theorem fk_zMc_12 : zK zMc 12 = (20, 60) := by decide +kernel
theorem fk_zMc_120 : zK zMc 120 = (20, 8) := by decide +kernel
theorem fk_zMc_121 : zK zMc 121 = (22, 8) := by decide +kernel
theorem fk_zMc_122 : zK zMc 122 = (20, 60) := by decide +kernel
theorem fk_zMc_123 : zK zMc 123 = (20, 60) := by decide +kernel
theorem fk_zMc_124 : zK zMc 124 = (20, 60) := by decide +kernel
theorem fk_zMc_125 : zK zMc 125 = (20, 60) := by decide +kernel
theorem fk_zMc_126 : zK zMc 126 = (20, 12) := by decide +kernel
theorem fk_zMc_127 : zK zMc 127 = (20, 12) := by decide +kernel
theorem fk_zMc_128 : zK zMc 128 = (20, 12) := by decide +kernel
theorem fk_zMc_129 : zK zMc 129 = (20, 9) := by decide +kernel
theorem fk_zMc_13 : zK zMc 13 = (20, 60) := by decide +kernel
theorem fk_zMc_130 : zK zMc 130 = (21, 500) := by decide +kernel
theorem fk_zMc_131 : zK zMc 131 = (6, 0) := by decide +kernel
theorem fk_zMc_132 : zK zMc 132 = (20, 8) := by decide +kernel
theorem fk_zMc_133 : zK zMc 133 = (22, 8) := by decide +kernel
theorem fk_zMc_134 : zK zMc 134 = (20, 60) := by decide +kernel
theorem fk_zMc_135 : zK zMc 135 = (20, 60) := by decide +kernel
theorem fk_zMc_136 : zK zMc 136 = (20, 60) := by decide +kernel
theorem fk_zMc_137 : zK zMc 137 = (20, 60) := by decide +kernel
theorem fk_zMc_138 : zK zMc 138 = (20, 12) := by decide +kernel
theorem fk_zMc_139 : zK zMc 139 = (20, 12) := by decide +kernel
theorem fk_zMc_14 : zK zMc 14 = (20, 12) := by decide +kernel
theorem fk_zMc_140 : zK zMc 140 = (20, 12) := by decide +kernel
theorem fk_zMc_141 : zK zMc 141 = (20, 9) := by decide +kernel
theorem fk_zMc_142 : zK zMc 142 = (21, 500) := by decide +kernel
theorem fk_zMc_143 : zK zMc 143 = (6, 0) := by decide +kernel
theorem fk_zMc_144 : zK zMc 144 = (20, 8) := by decide +kernel
theorem fk_zMc_145 : zK zMc 145 = (22, 8) := by decide +kernel
theorem fk_zMc_146 : zK zMc 146 = (20, 60) := by decide +kernel
theorem fk_zMc_147 : zK zMc 147 = (20, 60) := by decide +kernel
theorem fk_zMc_148 : zK zMc 148 = (20, 60) := by decide +kernel
theorem fk_zMc_149 : zK zMc 149 = (20, 60) := by decide +kernel
theorem fk_zMc_15 : zK zMc 15 = (20, 12) := by decide +kernel
theorem fk_zMc_150 : zK zMc 150 = (20, 12) := by decide +kernel
theorem fk_zMc_151 : zK zMc 151 = (20, 12) := by decide +kernel
theorem fk_zMc_152 : zK zMc 152 = (20, 12) := by decide +kernel
theorem fk_zMc_153 : zK zMc 153 = (20, 9) := by decide +kernel
theorem fk_zMc_154 : zK zMc 154 = (21, 500) := by decide +kernel
theorem fk_zMc_155 : zK zMc 155 = (7, 0) := by decide +kernel
theorem fk_zMc_156 : zK zMc 156 = (21, 500) := by decide +kernel
theorem fk_zMc_157 : zK zMc 157 = (3, 0) := by decide +kernel
theorem fk_zMc_158 : zK zMc 158 = (20, 4) := by decide +kernel
theorem fk_zMc_159 : zK zMc 159 = (20, 20) := by decide +kernel
theorem fk_zMc_16 : zK zMc 16 = (20, 12) := by decide +kernel
theorem fk_zMc_160 : zK zMc 160 = (20, 80) := by decide +kernel
theorem fk_zMc_17 : zK zMc 17 = (20, 9) := by decide +kernel
theorem fk_zMc_18 : zK zMc 18 = (21, 500) := by decide +kernel
theorem fk_zMc_19 : zK zMc 19 = (6, 0) := by decide +kernel
theorem fk_zMc_2 : zK zMc 2 = (20, 9) := by decide +kernel
theorem fk_zMc_20 : zK zMc 20 = (20, 8) := by decide +kernel
theorem fk_zMc_21 : zK zMc 21 = (22, 8) := by decide +kernel
theorem fk_zMc_22 : zK zMc 22 = (20, 60) := by decide +kernel
theorem fk_zMc_23 : zK zMc 23 = (20, 60) := by decide +kernel
theorem fk_zMc_24 : zK zMc 24 = (20, 60) := by decide +kernel
theorem fk_zMc_25 : zK zMc 25 = (20, 60) := by decide +kernel
theorem fk_zMc_26 : zK zMc 26 = (20, 12) := by decide +kernel
theorem fk_zMc_27 : zK zMc 27 = (20, 12) := by decide +kernel
theorem fk_zMc_28 : zK zMc 28 = (20, 12) := by decide +kernel
theorem fk_zMc_29 : zK zMc 29 = (20, 9) := by decide +kernel
theorem fk_zMc_3 : zK zMc 3 = (20, 9) := by decide +kernel
theorem fk_zMc_30 : zK zMc 30 = (21, 500) := by decide +kernel
theorem fk_zMc_35 : zK zMc 35 = (6, 0) := by decide +kernel
theorem fk_zMc_36 : zK zMc 36 = (20, 8) := by decide +kernel
theorem fk_zMc_37 : zK zMc 37 = (22, 8) := by decide +kernel
theorem fk_zMc_38 : zK zMc 38 = (20, 60) := by decide +kernel
theorem fk_zMc_39 : zK zMc 39 = (20, 60) := by decide +kernel
theorem fk_zMc_40 : zK zMc 40 = (20, 60) := by decide +kernel
theorem fk_zMc_41 : zK zMc 41 = (20, 60) := by decide +kernel
theorem fk_zMc_42 : zK zMc 42 = (20, 12) := by decide +kernel
theorem fk_zMc_43 : zK zMc 43 = (20, 12) := by decide +kernel
theorem fk_zMc_44 : zK zMc 44 = (20, 12) := by decide +kernel
theorem fk_zMc_45 : zK zMc 45 = (20, 9) := by decide +kernel
theorem fk_zMc_46 : zK zMc 46 = (21, 500) := by decide +kernel
theorem fk_zMc_47 : zK zMc 47 = (6, 0) := by decide +kernel
theorem fk_zMc_48 : zK zMc 48 = (20, 8) := by decide +kernel
theorem fk_zMc_49 : zK zMc 49 = (22, 8) := by decide +kernel
theorem fk_zMc_50 : zK zMc 50 = (20, 60) := by decide +kernel
theorem fk_zMc_51 : zK zMc 51 = (20, 60) := by decide +kernel
theorem fk_zMc_52 : zK zMc 52 = (20, 60) := by decide +kernel
theorem fk_zMc_53 : zK zMc 53 = (20, 60) := by decide +kernel
theorem fk_zMc_54 : zK zMc 54 = (20, 12) := by decide +kernel
theorem fk_zMc_55 : zK zMc 55 = (20, 12) := by decide +kernel
theorem fk_zMc_56 : zK zMc 56 = (20, 12) := by decide +kernel
theorem fk_zMc_57 : zK zMc 57 = (20, 9) := by decide +kernel
theorem fk_zMc_58 : zK zMc 58 = (21, 500) := by decide +kernel
theorem fk_zMc_59 : zK zMc 59 = (6, 0) := by decide +kernel
theorem fk_zMc_60 : zK zMc 60 = (20, 8) := by decide +kernel
