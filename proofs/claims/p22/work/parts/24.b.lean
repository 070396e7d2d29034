theorem li33 : (33 : Int32).toInt = 33 := by decide
theorem li38 : (38 : Int32).toInt = 38 := by decide
theorem li40 : (40 : Int32).toInt = 40 := by decide
theorem li41 : (41 : Int32).toInt = 41 := by decide
theorem li124 : (124 : Int32).toInt = 124 := by decide
theorem mf62 : zmf 62 1 11 99 2 := by unfold zmf; decide +kernel
theorem mf63 : zmf 63 1 7 0 1 := by unfold zmf; decide +kernel
theorem mf64 : zmf 64 3 9 99 4 := by unfold zmf; decide +kernel
theorem mf65 : zmf 65 2 9 99 5 := by unfold zmf; decide +kernel
theorem mf66 : zmf 66 2 9 99 5 := by unfold zmf; decide +kernel
theorem mf67 : zmf 67 2 9 99 4 := by unfold zmf; decide +kernel
theorem mf80 : zmf 80 1 9 0 1 := by unfold zmf; decide +kernel
theorem mf81 : zmf 81 1 9 0 1 := by unfold zmf; decide +kernel
theorem mf180 : zmf 180 1 11 99 2 := by unfold zmf; decide +kernel
theorem mf186 : zmf 186 3 9 0 3 := by unfold zmf; decide +kernel
theorem mr62 : (mt 62).2.2.2.1 = some .int := by decide +kernel
theorem mr63 : (mt 63).2.2.2.1 = some (.array .byte) := by decide +kernel
theorem mr64 : (mt 64).2.2.2.1 = some .boolean := by decide +kernel
theorem mr65 : (mt 65).2.2.2.1 = some .boolean := by decide +kernel
theorem mr66 : (mt 66).2.2.2.1 = some .boolean := by decide +kernel
theorem mr67 : (mt 67).2.2.2.1 = some .boolean := by decide +kernel
theorem mr80 : (mt 80).2.2.2.1 = some .int := by decide +kernel
theorem mr81 : (mt 81).2.2.2.1 = some .int := by decide +kernel
theorem mr180 : (mt 180).2.2.2.1 = some .int := by decide +kernel
theorem mr186 : (mt 186).2.2.2.1 = none := by decide +kernel
theorem t62_0 : zT 62 0 = some (.iconst 0, 1, 0, 0, 0, 0) := (congrArg (fun t => List.lookup 0 t) gt62).trans rfl
theorem t62_1 : zT 62 1 = some (.istore_n 1, 1, 1, 0, 0, 0) := (congrArg (fun t => List.lookup 1 t) gt62).trans rfl
theorem t62_2 : zT 62 2 = some (.aload_n 0, 1, 0, 0, 0, 0) := (congrArg (fun t => List.lookup 2 t) gt62).trans rfl
theorem t62_3 : zT 62 3 = some (.iconst (-1), 1, 0, 0, (-1), 0) := (congrArg (fun t => List.lookup 3 t) gt62).trans rfl
theorem t62_4 : zT 62 4 = some (.putfield 76, 3, 11, 11, 0, 609) := (congrArg (fun t => List.lookup 4 t) gt62).trans rfl
theorem t62_7 : zT 62 7 = some (.aload_n 0, 1, 0, 0, 0, 0) := (congrArg (fun t => List.lookup 7 t) gt62).trans rfl
theorem t62_8 : zT 62 8 = some (.getfield 29, 3, 11, 3, 0, 601) := (congrArg (fun t => List.lookup 8 t) gt62).trans rfl
theorem t62_11 : zT 62 11 = some (.invokevirtual 90, 3, 17, 0, 0, 650) := (congrArg (fun t => List.lookup 11 t) gt62).trans rfl
theorem t62_14 : zT 62 14 = some (.ifCond .le 44, 3, 58, 0, 0, 0) := (congrArg (fun t => List.lookup 14 t) gt62).trans rfl
theorem t62_17 : zT 62 17 = some (.aload_n 0, 1, 0, 0, 0, 0) := (congrArg (fun t => List.lookup 17 t) gt62).trans rfl
theorem t62_18 : zT 62 18 = some (.getfield 43, 3, 11, 5, 0, 603) := (congrArg (fun t => List.lookup 18 t) gt62).trans rfl
theorem t62_21 : zT 62 21 = some (.aload_n 0, 1, 0, 0, 0, 0) := (congrArg (fun t => List.lookup 21 t) gt62).trans rfl
theorem t62_22 : zT 62 22 = some (.getfield 29, 3, 11, 3, 0, 601) := (congrArg (fun t => List.lookup 22 t) gt62).trans rfl
theorem t62_25 : zT 62 25 = some (.invokevirtual 114, 3, 63, 0, 0, 839) := (congrArg (fun t => List.lookup 25 t) gt62).trans rfl
theorem t62_28 : zT 62 28 = some (.aload_n 0, 1, 0, 0, 0, 0) := (congrArg (fun t => List.lookup 28 t) gt62).trans rfl
theorem t62_29 : zT 62 29 = some (.getfield 29, 3, 11, 3, 0, 601) := (congrArg (fun t => List.lookup 29 t) gt62).trans rfl
theorem t62_32 : zT 62 32 = some (.invokevirtual 90, 3, 17, 0, 0, 650) := (congrArg (fun t => List.lookup 32 t) gt62).trans rfl
theorem t62_35 : zT 62 35 = some (.invokevirtual 118, 3, 64, 0, 0, 843) := (congrArg (fun t => List.lookup 35 t) gt62).trans rfl
theorem t62_38 : zT 62 38 = some (.pop, 1, 0, 0, 0, 0) := (congrArg (fun t => List.lookup 38 t) gt62).trans rfl
theorem t62_39 : zT 62 39 = some (.aload_n 0, 1, 0, 0, 0, 0) := (congrArg (fun t => List.lookup 39 t) gt62).trans rfl
theorem t62_40 : zT 62 40 = some (.aload_n 0, 1, 0, 0, 0, 0) := (congrArg (fun t => List.lookup 40 t) gt62).trans rfl
theorem t62_41 : zT 62 41 = some (.getfield 43, 3, 11, 5, 0, 603) := (congrArg (fun t => List.lookup 41 t) gt62).trans rfl
theorem t62_44 : zT 62 44 = some (.invokevirtual 122, 3, 80, 0, 0, 960) := (congrArg (fun t => List.lookup 44 t) gt62).trans rfl
theorem t62_47 : zT 62 47 = some (.putfield 76, 3, 11, 11, 0, 609) := (congrArg (fun t => List.lookup 47 t) gt62).trans rfl
theorem t62_50 : zT 62 50 = some (.aload_n 0, 1, 0, 0, 0, 0) := (congrArg (fun t => List.lookup 50 t) gt62).trans rfl
theorem t62_51 : zT 62 51 = some (.getfield 43, 3, 11, 5, 0, 603) := (congrArg (fun t => List.lookup 51 t) gt62).trans rfl
theorem t62_54 : zT 62 54 = some (.invokevirtual 123, 3, 81, 0, 0, 964) := (congrArg (fun t => List.lookup 54 t) gt62).trans rfl
theorem t62_57 : zT 62 57 = some (.istore_n 1, 1, 1, 0, 0, 0) := (congrArg (fun t => List.lookup 57 t) gt62).trans rfl
theorem t62_58 : zT 62 58 = some (.aload_n 0, 1, 0, 0, 0, 0) := (congrArg (fun t => List.lookup 58 t) gt62).trans rfl
theorem t62_59 : zT 62 59 = some (.getfield 76, 3, 11, 11, 0, 609) := (congrArg (fun t => List.lookup 59 t) gt62).trans rfl
theorem t62_62 : zT 62 62 = some (.iconst (-1), 1, 0, 0, (-1), 0) := (congrArg (fun t => List.lookup 62 t) gt62).trans rfl
theorem t62_63 : zT 62 63 = some (.if_icmp .ne 35, 3, 98, 0, 0, 0) := (congrArg (fun t => List.lookup 63 t) gt62).trans rfl
theorem t62_66 : zT 62 66 = some (.aload_n 0, 1, 0, 0, 0, 0) := (congrArg (fun t => List.lookup 66 t) gt62).trans rfl
theorem t62_67 : zT 62 67 = some (.getfield 22, 3, 11, 2, 0, 600) := (congrArg (fun t => List.lookup 67 t) gt62).trans rfl
theorem t62_70 : zT 62 70 = some (.aload_n 0, 1, 0, 0, 0, 0) := (congrArg (fun t => List.lookup 70 t) gt62).trans rfl
theorem t62_71 : zT 62 71 = some (.getfield 12, 3, 11, 0, 0, 598) := (congrArg (fun t => List.lookup 71 t) gt62).trans rfl
theorem t62_74 : zT 62 74 = some (.invokevirtual 108, 3, 58, 0, 0, 817) := (congrArg (fun t => List.lookup 74 t) gt62).trans rfl
theorem t62_77 : zT 62 77 = some (.aload_n 0, 1, 0, 0, 0, 0) := (congrArg (fun t => List.lookup 77 t) gt62).trans rfl
theorem t62_78 : zT 62 78 = some (.getfield 12, 3, 11, 0, 0, 598) := (congrArg (fun t => List.lookup 78 t) gt62).trans rfl
theorem t62_81 : zT 62 81 = some (.aload_n 0, 1, 0, 0, 0, 0) := (congrArg (fun t => List.lookup 81 t) gt62).trans rfl
theorem t62_82 : zT 62 82 = some (.getfield 29, 3, 11, 3, 0, 601) := (congrArg (fun t => List.lookup 82 t) gt62).trans rfl
theorem t62_85 : zT 62 85 = some (.invokevirtual 114, 3, 63, 0, 0, 839) := (congrArg (fun t => List.lookup 85 t) gt62).trans rfl
theorem t62_88 : zT 62 88 = some (.aload_n 0, 1, 0, 0, 0, 0) := (congrArg (fun t => List.lookup 88 t) gt62).trans rfl
theorem t62_89 : zT 62 89 = some (.getfield 29, 3, 11, 3, 0, 601) := (congrArg (fun t => List.lookup 89 t) gt62).trans rfl
theorem t62_92 : zT 62 92 = some (.invokevirtual 90, 3, 17, 0, 0, 650) := (congrArg (fun t => List.lookup 92 t) gt62).trans rfl
theorem t62_95 : zT 62 95 = some (.invokevirtual 126, 3, 24, 0, 0, 968) := (congrArg (fun t => List.lookup 95 t) gt62).trans rfl
theorem t62_98 : zT 62 98 = some (.aload_n 0, 1, 0, 0, 0, 0) := (congrArg (fun t => List.lookup 98 t) gt62).trans rfl
theorem t62_99 : zT 62 99 = some (.getfield 29, 3, 11, 3, 0, 601) := (congrArg (fun t => List.lookup 99 t) gt62).trans rfl
theorem t62_102 : zT 62 102 = some (.iconst 0, 1, 0, 0, 0, 0) := (congrArg (fun t => List.lookup 102 t) gt62).trans rfl
theorem t62_103 : zT 62 103 = some (.invokevirtual 94, 3, 19, 0, 0, 658) := (congrArg (fun t => List.lookup 103 t) gt62).trans rfl
theorem t62_106 : zT 62 106 = some (.aload_n 0, 1, 0, 0, 0, 0) := (congrArg (fun t => List.lookup 106 t) gt62).trans rfl
theorem t62_107 : zT 62 107 = some (.getfield 76, 3, 11, 11, 0, 609) := (congrArg (fun t => List.lookup 107 t) gt62).trans rfl
theorem t62_110 : zT 62 110 = some (.iconst (-1), 1, 0, 0, (-1), 0) := (congrArg (fun t => List.lookup 110 t) gt62).trans rfl
theorem t62_111 : zT 62 111 = some (.if_icmp .ne 7, 3, 118, 0, 0, 0) := (congrArg (fun t => List.lookup 111 t) gt62).trans rfl
theorem t62_114 : zT 62 114 = some (.iload_n 1, 1, 1, 0, 0, 0) := (congrArg (fun t => List.lookup 114 t) gt62).trans rfl
theorem t62_115 : zT 62 115 = some (.goto 4, 3, 119, 0, 0, 0) := (congrArg (fun t => List.lookup 115 t) gt62).trans rfl
theorem t62_118 : zT 62 118 = some (.iconst (-1), 1, 0, 0, (-1), 0) := (congrArg (fun t => List.lookup 118 t) gt62).trans rfl
theorem t62_119 : zT 62 119 = some (.ireturn, 1, 0, 0, 0, 0) := (congrArg (fun t => List.lookup 119 t) gt62).trans rfl
theorem t63_0 : zT 63 0 = some (.aload_n 0, 1, 0, 0, 0, 0) := (congrArg (fun t => List.lookup 0 t) gt63).trans rfl
theorem t63_1 : zT 63 1 = some (.getfield 9, 3, 7, 0, 0, 260) := (congrArg (fun t => List.lookup 1 t) gt63).trans rfl
theorem t63_4 : zT 63 4 = some (.areturn, 1, 0, 0, 0, 0) := (congrArg (fun t => List.lookup 4 t) gt63).trans rfl
theorem t64_0 : zT 64 0 = some (.aload_n 0, 1, 0, 0, 0, 0) := (congrArg (fun t => List.lookup 0 t) gt64).trans rfl
theorem t64_1 : zT 64 1 = some (.iconst 0, 1, 0, 0, 0, 0) := (congrArg (fun t => List.lookup 1 t) gt64).trans rfl
theorem t64_2 : zT 64 2 = some (.iload_n 2, 1, 2, 0, 0, 0) := (congrArg (fun t => List.lookup 2 t) gt64).trans rfl
theorem t64_3 : zT 64 3 = some (.sipush 500, 3, 0, 0, 500, 0) := (congrArg (fun t => List.lookup 3 t) gt64).trans rfl
theorem t64_6 : zT 64 6 = some (.invokestatic 39, 3, 20, 1, 0, 847) := (congrArg (fun t => List.lookup 6 t) gt64).trans rfl
theorem t64_9 : zT 64 9 = some (.invokestatic 45, 3, 21, 1, 0, 848) := (congrArg (fun t => List.lookup 9 t) gt64).trans rfl
theorem t64_12 : zT 64 12 = some (.putfield 27, 3, 9, 2, 0, 314) := (congrArg (fun t => List.lookup 12 t) gt64).trans rfl
theorem t64_15 : zT 64 15 = some (.aload_n 1, 1, 1, 0, 0, 0) := (congrArg (fun t => List.lookup 15 t) gt64).trans rfl
theorem t64_16 : zT 64 16 = some (.iconst 0, 1, 0, 0, 0, 0) := (congrArg (fun t => List.lookup 16 t) gt64).trans rfl
theorem t64_17 : zT 64 17 = some (.aload_n 0, 1, 0, 0, 0, 0) := (congrArg (fun t => List.lookup 17 t) gt64).trans rfl
theorem t64_18 : zT 64 18 = some (.getfield 23, 3, 9, 1, 0, 313) := (congrArg (fun t => List.lookup 18 t) gt64).trans rfl
theorem t64_21 : zT 64 21 = some (.iconst 0, 1, 0, 0, 0, 0) := (congrArg (fun t => List.lookup 21 t) gt64).trans rfl
theorem t64_22 : zT 64 22 = some (.aload_n 0, 1, 0, 0, 0, 0) := (congrArg (fun t => List.lookup 22 t) gt64).trans rfl
theorem t64_23 : zT 64 23 = some (.getfield 27, 3, 9, 2, 0, 314) := (congrArg (fun t => List.lookup 23 t) gt64).trans rfl
theorem t64_26 : zT 64 26 = some (.invokestatic 48, 3, 0, 6, 0, 849) := (congrArg (fun t => List.lookup 26 t) gt64).trans rfl
theorem t64_29 : zT 64 29 = some (.aload_n 0, 1, 0, 0, 0, 0) := (congrArg (fun t => List.lookup 29 t) gt64).trans rfl
theorem t64_30 : zT 64 30 = some (.iconst 0, 1, 0, 0, 0, 0) := (congrArg (fun t => List.lookup 30 t) gt64).trans rfl
theorem t64_31 : zT 64 31 = some (.putfield 30, 3, 9, 3, 0, 315) := (congrArg (fun t => List.lookup 31 t) gt64).trans rfl
theorem t64_34 : zT 64 34 = some (.aload_n 0, 1, 0, 0, 0, 0) := (congrArg (fun t => List.lookup 34 t) gt64).trans rfl
theorem t64_35 : zT 64 35 = some (.iconst 0, 1, 0, 0, 0, 0) := (congrArg (fun t => List.lookup 35 t) gt64).trans rfl
theorem t64_36 : zT 64 36 = some (.putfield 33, 3, 9, 4, 0, 316) := (congrArg (fun t => List.lookup 36 t) gt64).trans rfl
theorem t64_39 : zT 64 39 = some (.aload_n 0, 1, 0, 0, 0, 0) := (congrArg (fun t => List.lookup 39 t) gt64).trans rfl
theorem t64_40 : zT 64 40 = some (.iconst (-1), 1, 0, 0, (-1), 0) := (congrArg (fun t => List.lookup 40 t) gt64).trans rfl
theorem t64_41 : zT 64 41 = some (.putfield 36, 3, 9, 5, 0, 317) := (congrArg (fun t => List.lookup 41 t) gt64).trans rfl
theorem t64_44 : zT 64 44 = some (.aload_n 0, 1, 0, 0, 0, 0) := (congrArg (fun t => List.lookup 44 t) gt64).trans rfl
theorem t64_45 : zT 64 45 = some (.iconst 0, 1, 0, 0, 0, 0) := (congrArg (fun t => List.lookup 45 t) gt64).trans rfl
theorem t64_46 : zT 64 46 = some (.invokevirtual 54, 3, 65, 0, 0, 850) := (congrArg (fun t => List.lookup 46 t) gt64).trans rfl
theorem t64_49 : zT 64 49 = some (.istore_n 3, 1, 3, 0, 0, 0) := (congrArg (fun t => List.lookup 49 t) gt64).trans rfl
theorem t64_50 : zT 64 50 = some (.aload_n 0, 1, 0, 0, 0, 0) := (congrArg (fun t => List.lookup 50 t) gt64).trans rfl
theorem t64_51 : zT 64 51 = some (.getfield 36, 3, 9, 5, 0, 317) := (congrArg (fun t => List.lookup 51 t) gt64).trans rfl
theorem t64_54 : zT 64 54 = some (.iconst (-1), 1, 0, 0, (-1), 0) := (congrArg (fun t => List.lookup 54 t) gt64).trans rfl
theorem t64_55 : zT 64 55 = some (.if_icmp .ne 22, 3, 77, 0, 0, 0) := (congrArg (fun t => List.lookup 55 t) gt64).trans rfl
theorem t64_58 : zT 64 58 = some (.aload_n 0, 1, 0, 0, 0, 0) := (congrArg (fun t => List.lookup 58 t) gt64).trans rfl
theorem t64_59 : zT 64 59 = some (.getfield 30, 3, 9, 3, 0, 315) := (congrArg (fun t => List.lookup 59 t) gt64).trans rfl
theorem t64_62 : zT 64 62 = some (.aload_n 0, 1, 0, 0, 0, 0) := (congrArg (fun t => List.lookup 62 t) gt64).trans rfl
theorem t64_63 : zT 64 63 = some (.getfield 27, 3, 9, 2, 0, 314) := (congrArg (fun t => List.lookup 63 t) gt64).trans rfl
theorem t64_66 : zT 64 66 = some (.if_icmp .ge 11, 3, 77, 0, 0, 0) := (congrArg (fun t => List.lookup 66 t) gt64).trans rfl
theorem t64_69 : zT 64 69 = some (.aload_n 0, 1, 0, 0, 0, 0) := (congrArg (fun t => List.lookup 69 t) gt64).trans rfl
theorem t64_70 : zT 64 70 = some (.aload_n 0, 1, 0, 0, 0, 0) := (congrArg (fun t => List.lookup 70 t) gt64).trans rfl
theorem t64_71 : zT 64 71 = some (.getfield 30, 3, 9, 3, 0, 315) := (congrArg (fun t => List.lookup 71 t) gt64).trans rfl
theorem t64_74 : zT 64 74 = some (.invokevirtual 58, 3, 78, 0, 0, 952) := (congrArg (fun t => List.lookup 74 t) gt64).trans rfl
theorem t64_77 : zT 64 77 = some (.iload_n 3, 1, 3, 0, 0, 0) := (congrArg (fun t => List.lookup 77 t) gt64).trans rfl
theorem t64_78 : zT 64 78 = some (.ifCond .eq 15, 3, 93, 0, 0, 0) := (congrArg (fun t => List.lookup 78 t) gt64).trans rfl
theorem t64_81 : zT 64 81 = some (.aload_n 0, 1, 0, 0, 0, 0) := (congrArg (fun t => List.lookup 81 t) gt64).trans rfl
theorem t64_82 : zT 64 82 = some (.getfield 36, 3, 9, 5, 0, 317) := (congrArg (fun t => List.lookup 82 t) gt64).trans rfl
theorem t64_85 : zT 64 85 = some (.iconst (-1), 1, 0, 0, (-1), 0) := (congrArg (fun t => List.lookup 85 t) gt64).trans rfl
theorem t64_86 : zT 64 86 = some (.if_icmp .ne 7, 3, 93, 0, 0, 0) := (congrArg (fun t => List.lookup 86 t) gt64).trans rfl
theorem t64_89 : zT 64 89 = some (.iconst 1, 1, 0, 0, 1, 0) := (congrArg (fun t => List.lookup 89 t) gt64).trans rfl
theorem t64_90 : zT 64 90 = some (.goto 4, 3, 94, 0, 0, 0) := (congrArg (fun t => List.lookup 90 t) gt64).trans rfl
theorem t64_93 : zT 64 93 = some (.iconst 0, 1, 0, 0, 0, 0) := (congrArg (fun t => List.lookup 93 t) gt64).trans rfl
theorem t64_94 : zT 64 94 = some (.ireturn, 1, 0, 0, 0, 0) := (congrArg (fun t => List.lookup 94 t) gt64).trans rfl
theorem t65_0 : zT 65 0 = some (.aload_n 0, 1, 0, 0, 0, 0) := (congrArg (fun t => List.lookup 0 t) gt65).trans rfl
theorem t65_1 : zT 65 1 = some (.iload_n 1, 1, 1, 0, 0, 0) := (congrArg (fun t => List.lookup 1 t) gt65).trans rfl
theorem t65_2 : zT 65 2 = some (.invokevirtual 62, 3, 66, 0, 0, 854) := (congrArg (fun t => List.lookup 2 t) gt65).trans rfl
theorem t65_5 : zT 65 5 = some (.istore_n 2, 1, 2, 0, 0, 0) := (congrArg (fun t => List.lookup 5 t) gt65).trans rfl
theorem t65_6 : zT 65 6 = some (.iconst 0, 1, 0, 0, 0, 0) := (congrArg (fun t => List.lookup 6 t) gt65).trans rfl
theorem t65_7 : zT 65 7 = some (.istore_n 3, 1, 3, 0, 0, 0) := (congrArg (fun t => List.lookup 7 t) gt65).trans rfl
theorem t65_8 : zT 65 8 = some (.iload_n 3, 1, 3, 0, 0, 0) := (congrArg (fun t => List.lookup 8 t) gt65).trans rfl
theorem t65_9 : zT 65 9 = some (.bipush 30, 2, 0, 0, 30, 0) := (congrArg (fun t => List.lookup 9 t) gt65).trans rfl
theorem t65_11 : zT 65 11 = some (.if_icmp .ge 50, 3, 61, 0, 0, 0) := (congrArg (fun t => List.lookup 11 t) gt65).trans rfl
theorem t65_14 : zT 65 14 = some (.aload_n 0, 1, 0, 0, 0, 0) := (congrArg (fun t => List.lookup 14 t) gt65).trans rfl
theorem t65_15 : zT 65 15 = some (.invokevirtual 65, 3, 68, 0, 0, 862) := (congrArg (fun t => List.lookup 15 t) gt65).trans rfl
theorem t65_18 : zT 65 18 = some (.bipush 124, 2, 0, 0, 124, 0) := (congrArg (fun t => List.lookup 18 t) gt65).trans rfl
theorem t65_20 : zT 65 20 = some (.if_icmp .ne 41, 3, 61, 0, 0, 0) := (congrArg (fun t => List.lookup 20 t) gt65).trans rfl
theorem t65_23 : zT 65 23 = some (.aload_n 0, 1, 0, 0, 0, 0) := (congrArg (fun t => List.lookup 23 t) gt65).trans rfl
theorem t65_24 : zT 65 24 = some (.dup, 1, 0, 0, 0, 0) := (congrArg (fun t => List.lookup 24 t) gt65).trans rfl
theorem t65_25 : zT 65 25 = some (.getfield 30, 3, 9, 3, 0, 315) := (congrArg (fun t => List.lookup 25 t) gt65).trans rfl
theorem t65_28 : zT 65 28 = some (.iconst 1, 1, 0, 0, 1, 0) := (congrArg (fun t => List.lookup 28 t) gt65).trans rfl
theorem t65_29 : zT 65 29 = some (.iadd, 1, 0, 0, 0, 0) := (congrArg (fun t => List.lookup 29 t) gt65).trans rfl
theorem t65_30 : zT 65 30 = some (.putfield 30, 3, 9, 3, 0, 315) := (congrArg (fun t => List.lookup 30 t) gt65).trans rfl
theorem t65_33 : zT 65 33 = some (.aload_n 0, 1, 0, 0, 0, 0) := (congrArg (fun t => List.lookup 33 t) gt65).trans rfl
theorem t65_34 : zT 65 34 = some (.iload_n 1, 1, 1, 0, 0, 0) := (congrArg (fun t => List.lookup 34 t) gt65).trans rfl
theorem t65_35 : zT 65 35 = some (.invokevirtual 62, 3, 66, 0, 0, 854) := (congrArg (fun t => List.lookup 35 t) gt65).trans rfl
theorem t65_38 : zT 65 38 = some (.istore 4, 2, 0, 0, 0, 0) := (congrArg (fun t => List.lookup 38 t) gt65).trans rfl
theorem t65_40 : zT 65 40 = some (.iload_n 2, 1, 2, 0, 0, 0) := (congrArg (fun t => List.lookup 40 t) gt65).trans rfl
theorem t65_41 : zT 65 41 = some (.ifCond .ne 8, 3, 49, 0, 0, 0) := (congrArg (fun t => List.lookup 41 t) gt65).trans rfl
theorem t65_44 : zT 65 44 = some (.iload 4, 2, 0, 0, 0, 0) := (congrArg (fun t => List.lookup 44 t) gt65).trans rfl
theorem t65_46 : zT 65 46 = some (.ifCond .eq 7, 3, 53, 0, 0, 0) := (congrArg (fun t => List.lookup 46 t) gt65).trans rfl
theorem t65_49 : zT 65 49 = some (.iconst 1, 1, 0, 0, 1, 0) := (congrArg (fun t => List.lookup 49 t) gt65).trans rfl
theorem t65_50 : zT 65 50 = some (.goto 4, 3, 54, 0, 0, 0) := (congrArg (fun t => List.lookup 50 t) gt65).trans rfl
theorem t65_53 : zT 65 53 = some (.iconst 0, 1, 0, 0, 0, 0) := (congrArg (fun t => List.lookup 53 t) gt65).trans rfl
theorem t65_54 : zT 65 54 = some (.istore_n 2, 1, 2, 0, 0, 0) := (congrArg (fun t => List.lookup 54 t) gt65).trans rfl
theorem t65_55 : zT 65 55 = some (.iinc 3 1, 3, 0, 0, 0, 0) := (congrArg (fun t => List.lookup 55 t) gt65).trans rfl
theorem t65_58 : zT 65 58 = some (.goto (-50), 3, 8, 0, 0, 0) := (congrArg (fun t => List.lookup 58 t) gt65).trans rfl
theorem t65_61 : zT 65 61 = some (.iload_n 2, 1, 2, 0, 0, 0) := (congrArg (fun t => List.lookup 61 t) gt65).trans rfl
theorem t65_62 : zT 65 62 = some (.ireturn, 1, 0, 0, 0, 0) := (congrArg (fun t => List.lookup 62 t) gt65).trans rfl
theorem t66_0 : zT 66 0 = some (.aload_n 0, 1, 0, 0, 0, 0) := (congrArg (fun t => List.lookup 0 t) gt66).trans rfl
theorem t66_1 : zT 66 1 = some (.iload_n 1, 1, 1, 0, 0, 0) := (congrArg (fun t => List.lookup 1 t) gt66).trans rfl
theorem t66_2 : zT 66 2 = some (.invokevirtual 68, 3, 67, 0, 0, 858) := (congrArg (fun t => List.lookup 2 t) gt66).trans rfl
theorem t66_5 : zT 66 5 = some (.istore_n 2, 1, 2, 0, 0, 0) := (congrArg (fun t => List.lookup 5 t) gt66).trans rfl
theorem t66_6 : zT 66 6 = some (.iconst 0, 1, 0, 0, 0, 0) := (congrArg (fun t => List.lookup 6 t) gt66).trans rfl
theorem t66_7 : zT 66 7 = some (.istore_n 3, 1, 3, 0, 0, 0) := (congrArg (fun t => List.lookup 7 t) gt66).trans rfl
theorem t66_8 : zT 66 8 = some (.iload_n 3, 1, 3, 0, 0, 0) := (congrArg (fun t => List.lookup 8 t) gt66).trans rfl
theorem t66_9 : zT 66 9 = some (.bipush 30, 2, 0, 0, 30, 0) := (congrArg (fun t => List.lookup 9 t) gt66).trans rfl
theorem t66_11 : zT 66 11 = some (.if_icmp .ge 50, 3, 61, 0, 0, 0) := (congrArg (fun t => List.lookup 11 t) gt66).trans rfl
theorem t66_14 : zT 66 14 = some (.aload_n 0, 1, 0, 0, 0, 0) := (congrArg (fun t => List.lookup 14 t) gt66).trans rfl
theorem t66_15 : zT 66 15 = some (.invokevirtual 65, 3, 68, 0, 0, 862) := (congrArg (fun t => List.lookup 15 t) gt66).trans rfl
theorem t66_18 : zT 66 18 = some (.bipush 38, 2, 0, 0, 38, 0) := (congrArg (fun t => List.lookup 18 t) gt66).trans rfl
theorem t66_20 : zT 66 20 = some (.if_icmp .ne 41, 3, 61, 0, 0, 0) := (congrArg (fun t => List.lookup 20 t) gt66).trans rfl
theorem t66_23 : zT 66 23 = some (.aload_n 0, 1, 0, 0, 0, 0) := (congrArg (fun t => List.lookup 23 t) gt66).trans rfl
theorem t66_24 : zT 66 24 = some (.dup, 1, 0, 0, 0, 0) := (congrArg (fun t => List.lookup 24 t) gt66).trans rfl
theorem t66_25 : zT 66 25 = some (.getfield 30, 3, 9, 3, 0, 315) := (congrArg (fun t => List.lookup 25 t) gt66).trans rfl
theorem t66_28 : zT 66 28 = some (.iconst 1, 1, 0, 0, 1, 0) := (congrArg (fun t => List.lookup 28 t) gt66).trans rfl
theorem t66_29 : zT 66 29 = some (.iadd, 1, 0, 0, 0, 0) := (congrArg (fun t => List.lookup 29 t) gt66).trans rfl
theorem t66_30 : zT 66 30 = some (.putfield 30, 3, 9, 3, 0, 315) := (congrArg (fun t => List.lookup 30 t) gt66).trans rfl
theorem t66_33 : zT 66 33 = some (.aload_n 0, 1, 0, 0, 0, 0) := (congrArg (fun t => List.lookup 33 t) gt66).trans rfl
theorem t66_34 : zT 66 34 = some (.iload_n 1, 1, 1, 0, 0, 0) := (congrArg (fun t => List.lookup 34 t) gt66).trans rfl
theorem t66_35 : zT 66 35 = some (.invokevirtual 68, 3, 67, 0, 0, 858) := (congrArg (fun t => List.lookup 35 t) gt66).trans rfl
theorem t66_38 : zT 66 38 = some (.istore 4, 2, 0, 0, 0, 0) := (congrArg (fun t => List.lookup 38 t) gt66).trans rfl
theorem t66_40 : zT 66 40 = some (.iload_n 2, 1, 2, 0, 0, 0) := (congrArg (fun t => List.lookup 40 t) gt66).trans rfl
theorem t66_41 : zT 66 41 = some (.ifCond .eq 12, 3, 53, 0, 0, 0) := (congrArg (fun t => List.lookup 41 t) gt66).trans rfl
theorem t66_44 : zT 66 44 = some (.iload 4, 2, 0, 0, 0, 0) := (congrArg (fun t => List.lookup 44 t) gt66).trans rfl
theorem t66_46 : zT 66 46 = some (.ifCond .eq 7, 3, 53, 0, 0, 0) := (congrArg (fun t => List.lookup 46 t) gt66).trans rfl
theorem t66_49 : zT 66 49 = some (.iconst 1, 1, 0, 0, 1, 0) := (congrArg (fun t => List.lookup 49 t) gt66).trans rfl
theorem t66_50 : zT 66 50 = some (.goto 4, 3, 54, 0, 0, 0) := (congrArg (fun t => List.lookup 50 t) gt66).trans rfl
theorem t66_53 : zT 66 53 = some (.iconst 0, 1, 0, 0, 0, 0) := (congrArg (fun t => List.lookup 53 t) gt66).trans rfl
theorem t66_54 : zT 66 54 = some (.istore_n 2, 1, 2, 0, 0, 0) := (congrArg (fun t => List.lookup 54 t) gt66).trans rfl
theorem t66_55 : zT 66 55 = some (.iinc 3 1, 3, 0, 0, 0, 0) := (congrArg (fun t => List.lookup 55 t) gt66).trans rfl
theorem t66_58 : zT 66 58 = some (.goto (-50), 3, 8, 0, 0, 0) := (congrArg (fun t => List.lookup 58 t) gt66).trans rfl
theorem t66_61 : zT 66 61 = some (.iload_n 2, 1, 2, 0, 0, 0) := (congrArg (fun t => List.lookup 61 t) gt66).trans rfl
theorem t66_62 : zT 66 62 = some (.ireturn, 1, 0, 0, 0, 0) := (congrArg (fun t => List.lookup 62 t) gt66).trans rfl
theorem t67_0 : zT 67 0 = some (.aload_n 0, 1, 0, 0, 0, 0) := (congrArg (fun t => List.lookup 0 t) gt67).trans rfl
theorem t67_1 : zT 67 1 = some (.invokevirtual 65, 3, 68, 0, 0, 862) := (congrArg (fun t => List.lookup 1 t) gt67).trans rfl
theorem t67_4 : zT 67 4 = some (.istore_n 2, 1, 2, 0, 0, 0) := (congrArg (fun t => List.lookup 4 t) gt67).trans rfl
theorem t67_5 : zT 67 5 = some (.iload_n 2, 1, 2, 0, 0, 0) := (congrArg (fun t => List.lookup 5 t) gt67).trans rfl
theorem t67_6 : zT 67 6 = some (.bipush 33, 2, 0, 0, 33, 0) := (congrArg (fun t => List.lookup 6 t) gt67).trans rfl
theorem t67_8 : zT 67 8 = some (.if_icmp .eq 14, 3, 22, 0, 0, 0) := (congrArg (fun t => List.lookup 8 t) gt67).trans rfl
theorem t67_11 : zT 67 11 = some (.iload_n 2, 1, 2, 0, 0, 0) := (congrArg (fun t => List.lookup 11 t) gt67).trans rfl
theorem t67_12 : zT 67 12 = some (.bipush 40, 2, 0, 0, 40, 0) := (congrArg (fun t => List.lookup 12 t) gt67).trans rfl
theorem t67_14 : zT 67 14 = some (.if_icmp .eq 8, 3, 22, 0, 0, 0) := (congrArg (fun t => List.lookup 14 t) gt67).trans rfl
theorem t67_17 : zT 67 17 = some (.aload_n 0, 1, 0, 0, 0, 0) := (congrArg (fun t => List.lookup 17 t) gt67).trans rfl
theorem t67_18 : zT 67 18 = some (.invokevirtual 71, 3, 69, 0, 0, 866) := (congrArg (fun t => List.lookup 18 t) gt67).trans rfl
theorem t67_21 : zT 67 21 = some (.ireturn, 1, 0, 0, 0, 0) := (congrArg (fun t => List.lookup 21 t) gt67).trans rfl
theorem t67_22 : zT 67 22 = some (.iload_n 1, 1, 1, 0, 0, 0) := (congrArg (fun t => List.lookup 22 t) gt67).trans rfl
theorem t67_23 : zT 67 23 = some (.bipush 6, 2, 0, 0, 6, 0) := (congrArg (fun t => List.lookup 23 t) gt67).trans rfl
theorem t67_25 : zT 67 25 = some (.if_icmp .lt 13, 3, 38, 0, 0, 0) := (congrArg (fun t => List.lookup 25 t) gt67).trans rfl
theorem t67_28 : zT 67 28 = some (.aload_n 0, 1, 0, 0, 0, 0) := (congrArg (fun t => List.lookup 28 t) gt67).trans rfl
theorem t67_29 : zT 67 29 = some (.aload_n 0, 1, 0, 0, 0, 0) := (congrArg (fun t => List.lookup 29 t) gt67).trans rfl
theorem t67_30 : zT 67 30 = some (.getfield 30, 3, 9, 3, 0, 315) := (congrArg (fun t => List.lookup 30 t) gt67).trans rfl
theorem t67_33 : zT 67 33 = some (.invokevirtual 58, 3, 78, 0, 0, 952) := (congrArg (fun t => List.lookup 33 t) gt67).trans rfl
theorem t67_36 : zT 67 36 = some (.iconst 0, 1, 0, 0, 0, 0) := (congrArg (fun t => List.lookup 36 t) gt67).trans rfl
theorem t67_37 : zT 67 37 = some (.ireturn, 1, 0, 0, 0, 0) := (congrArg (fun t => List.lookup 37 t) gt67).trans rfl
theorem t67_38 : zT 67 38 = some (.aload_n 0, 1, 0, 0, 0, 0) := (congrArg (fun t => List.lookup 38 t) gt67).trans rfl
theorem t67_39 : zT 67 39 = some (.dup, 1, 0, 0, 0, 0) := (congrArg (fun t => List.lookup 39 t) gt67).trans rfl
theorem t67_40 : zT 67 40 = some (.getfield 30, 3, 9, 3, 0, 315) := (congrArg (fun t => List.lookup 40 t) gt67).trans rfl
theorem t67_43 : zT 67 43 = some (.iconst 1, 1, 0, 0, 1, 0) := (congrArg (fun t => List.lookup 43 t) gt67).trans rfl
theorem t67_44 : zT 67 44 = some (.iadd, 1, 0, 0, 0, 0) := (congrArg (fun t => List.lookup 44 t) gt67).trans rfl
theorem t67_45 : zT 67 45 = some (.putfield 30, 3, 9, 3, 0, 315) := (congrArg (fun t => List.lookup 45 t) gt67).trans rfl
theorem t67_48 : zT 67 48 = some (.iload_n 2, 1, 2, 0, 0, 0) := (congrArg (fun t => List.lookup 48 t) gt67).trans rfl
theorem t67_49 : zT 67 49 = some (.bipush 33, 2, 0, 0, 33, 0) := (congrArg (fun t => List.lookup 49 t) gt67).trans rfl
theorem t67_51 : zT 67 51 = some (.if_icmp .ne 19, 3, 70, 0, 0, 0) := (congrArg (fun t => List.lookup 51 t) gt67).trans rfl
theorem t67_54 : zT 67 54 = some (.aload_n 0, 1, 0, 0, 0, 0) := (congrArg (fun t => List.lookup 54 t) gt67).trans rfl
theorem t67_55 : zT 67 55 = some (.iload_n 1, 1, 1, 0, 0, 0) := (congrArg (fun t => List.lookup 55 t) gt67).trans rfl
theorem t67_56 : zT 67 56 = some (.iconst 1, 1, 0, 0, 1, 0) := (congrArg (fun t => List.lookup 56 t) gt67).trans rfl
theorem t67_57 : zT 67 57 = some (.iadd, 1, 0, 0, 0, 0) := (congrArg (fun t => List.lookup 57 t) gt67).trans rfl
theorem t67_58 : zT 67 58 = some (.invokevirtual 68, 3, 67, 0, 0, 858) := (congrArg (fun t => List.lookup 58 t) gt67).trans rfl
theorem t67_61 : zT 67 61 = some (.ifCond .ne 7, 3, 68, 0, 0, 0) := (congrArg (fun t => List.lookup 61 t) gt67).trans rfl
theorem t67_64 : zT 67 64 = some (.iconst 1, 1, 0, 0, 1, 0) := (congrArg (fun t => List.lookup 64 t) gt67).trans rfl
theorem t67_65 : zT 67 65 = some (.goto 4, 3, 69, 0, 0, 0) := (congrArg (fun t => List.lookup 65 t) gt67).trans rfl
theorem t67_68 : zT 67 68 = some (.iconst 0, 1, 0, 0, 0, 0) := (congrArg (fun t => List.lookup 68 t) gt67).trans rfl
theorem t67_69 : zT 67 69 = some (.ireturn, 1, 0, 0, 0, 0) := (congrArg (fun t => List.lookup 69 t) gt67).trans rfl
theorem t67_70 : zT 67 70 = some (.aload_n 0, 1, 0, 0, 0, 0) := (congrArg (fun t => List.lookup 70 t) gt67).trans rfl
theorem t67_71 : zT 67 71 = some (.iload_n 1, 1, 1, 0, 0, 0) := (congrArg (fun t => List.lookup 71 t) gt67).trans rfl
theorem t67_72 : zT 67 72 = some (.iconst 1, 1, 0, 0, 1, 0) := (congrArg (fun t => List.lookup 72 t) gt67).trans rfl
theorem t67_73 : zT 67 73 = some (.iadd, 1, 0, 0, 0, 0) := (congrArg (fun t => List.lookup 73 t) gt67).trans rfl
theorem t67_74 : zT 67 74 = some (.invokevirtual 54, 3, 65, 0, 0, 850) := (congrArg (fun t => List.lookup 74 t) gt67).trans rfl
theorem t67_77 : zT 67 77 = some (.istore_n 3, 1, 3, 0, 0, 0) := (congrArg (fun t => List.lookup 77 t) gt67).trans rfl
theorem t67_78 : zT 67 78 = some (.aload_n 0, 1, 0, 0, 0, 0) := (congrArg (fun t => List.lookup 78 t) gt67).trans rfl
theorem t67_79 : zT 67 79 = some (.invokevirtual 65, 3, 68, 0, 0, 862) := (congrArg (fun t => List.lookup 79 t) gt67).trans rfl
theorem t67_82 : zT 67 82 = some (.bipush 41, 2, 0, 0, 41, 0) := (congrArg (fun t => List.lookup 82 t) gt67).trans rfl
theorem t67_84 : zT 67 84 = some (.if_icmp .eq 13, 3, 97, 0, 0, 0) := (congrArg (fun t => List.lookup 84 t) gt67).trans rfl
theorem t67_87 : zT 67 87 = some (.aload_n 0, 1, 0, 0, 0, 0) := (congrArg (fun t => List.lookup 87 t) gt67).trans rfl
theorem t67_88 : zT 67 88 = some (.aload_n 0, 1, 0, 0, 0, 0) := (congrArg (fun t => List.lookup 88 t) gt67).trans rfl
theorem t67_89 : zT 67 89 = some (.getfield 30, 3, 9, 3, 0, 315) := (congrArg (fun t => List.lookup 89 t) gt67).trans rfl
theorem t67_92 : zT 67 92 = some (.invokevirtual 58, 3, 78, 0, 0, 952) := (congrArg (fun t => List.lookup 92 t) gt67).trans rfl
theorem t67_95 : zT 67 95 = some (.iconst 0, 1, 0, 0, 0, 0) := (congrArg (fun t => List.lookup 95 t) gt67).trans rfl
theorem t67_96 : zT 67 96 = some (.ireturn, 1, 0, 0, 0, 0) := (congrArg (fun t => List.lookup 96 t) gt67).trans rfl
theorem t67_97 : zT 67 97 = some (.aload_n 0, 1, 0, 0, 0, 0) := (congrArg (fun t => List.lookup 97 t) gt67).trans rfl
theorem t67_98 : zT 67 98 = some (.dup, 1, 0, 0, 0, 0) := (congrArg (fun t => List.lookup 98 t) gt67).trans rfl
theorem t67_99 : zT 67 99 = some (.getfield 30, 3, 9, 3, 0, 315) := (congrArg (fun t => List.lookup 99 t) gt67).trans rfl
theorem t67_102 : zT 67 102 = some (.iconst 1, 1, 0, 0, 1, 0) := (congrArg (fun t => List.lookup 102 t) gt67).trans rfl
theorem t67_103 : zT 67 103 = some (.iadd, 1, 0, 0, 0, 0) := (congrArg (fun t => List.lookup 103 t) gt67).trans rfl
theorem t67_104 : zT 67 104 = some (.putfield 30, 3, 9, 3, 0, 315) := (congrArg (fun t => List.lookup 104 t) gt67).trans rfl
theorem t67_107 : zT 67 107 = some (.iload_n 3, 1, 3, 0, 0, 0) := (congrArg (fun t => List.lookup 107 t) gt67).trans rfl
theorem t67_108 : zT 67 108 = some (.ireturn, 1, 0, 0, 0, 0) := (congrArg (fun t => List.lookup 108 t) gt67).trans rfl
theorem t80_0 : zT 80 0 = some (.aload_n 0, 1, 0, 0, 0, 0) := (congrArg (fun t => List.lookup 0 t) gt80).trans rfl
theorem t80_1 : zT 80 1 = some (.getfield 36, 3, 9, 5, 0, 317) := (congrArg (fun t => List.lookup 1 t) gt80).trans rfl
theorem t80_4 : zT 80 4 = some (.ireturn, 1, 0, 0, 0, 0) := (congrArg (fun t => List.lookup 4 t) gt80).trans rfl
theorem t81_0 : zT 81 0 = some (.aload_n 0, 1, 0, 0, 0, 0) := (congrArg (fun t => List.lookup 0 t) gt81).trans rfl
theorem t81_1 : zT 81 1 = some (.getfield 33, 3, 9, 4, 0, 316) := (congrArg (fun t => List.lookup 1 t) gt81).trans rfl
theorem t81_4 : zT 81 4 = some (.ireturn, 1, 0, 0, 0, 0) := (congrArg (fun t => List.lookup 4 t) gt81).trans rfl
theorem t180_0 : zT 180 0 = some (.aload_n 0, 1, 0, 0, 0, 0) := (congrArg (fun t => List.lookup 0 t) gt180).trans rfl
theorem t180_1 : zT 180 1 = some (.getfield 12, 3, 11, 0, 0, 598) := (congrArg (fun t => List.lookup 1 t) gt180).trans rfl
theorem t180_4 : zT 180 4 = some (.getfield 321, 3, 6, 13, 0, 192) := (congrArg (fun t => List.lookup 4 t) gt180).trans rfl
theorem t180_7 : zT 180 7 = some (.ifCond .ne 5, 3, 12, 0, 0, 0) := (congrArg (fun t => List.lookup 7 t) gt180).trans rfl
theorem t180_10 : zT 180 10 = some (.iconst 0, 1, 0, 0, 0, 0) := (congrArg (fun t => List.lookup 10 t) gt180).trans rfl
theorem t180_11 : zT 180 11 = some (.ireturn, 1, 0, 0, 0, 0) := (congrArg (fun t => List.lookup 11 t) gt180).trans rfl
theorem t180_12 : zT 180 12 = some (.iconst 0, 1, 0, 0, 0, 0) := (congrArg (fun t => List.lookup 12 t) gt180).trans rfl
theorem t180_13 : zT 180 13 = some (.istore_n 1, 1, 1, 0, 0, 0) := (congrArg (fun t => List.lookup 13 t) gt180).trans rfl
theorem t180_14 : zT 180 14 = some (.iload_n 1, 1, 1, 0, 0, 0) := (congrArg (fun t => List.lookup 14 t) gt180).trans rfl
theorem t180_15 : zT 180 15 = some (.ldc_w 324, 3, 2, 0, 0, 1404) := (congrArg (fun t => List.lookup 15 t) gt180).trans rfl
theorem t180_18 : zT 180 18 = some (.invokevirtual 326, 3, 6, 0, 0, 1405) := (congrArg (fun t => List.lookup 18 t) gt180).trans rfl
theorem t180_21 : zT 180 21 = some (.if_icmp .ge 45, 3, 66, 0, 0, 0) := (congrArg (fun t => List.lookup 21 t) gt180).trans rfl
theorem t180_24 : zT 180 24 = some (.aload_n 0, 1, 0, 0, 0, 0) := (congrArg (fun t => List.lookup 24 t) gt180).trans rfl
theorem t180_25 : zT 180 25 = some (.getfield 12, 3, 11, 0, 0, 598) := (congrArg (fun t => List.lookup 25 t) gt180).trans rfl
theorem t180_28 : zT 180 28 = some (.ldc_w 324, 3, 2, 0, 0, 1404) := (congrArg (fun t => List.lookup 28 t) gt180).trans rfl
theorem t180_31 : zT 180 31 = some (.iload_n 1, 1, 1, 0, 0, 0) := (congrArg (fun t => List.lookup 31 t) gt180).trans rfl
theorem t180_32 : zT 180 32 = some (.invokevirtual 329, 3, 181, 0, 0, 1406) := (congrArg (fun t => List.lookup 32 t) gt180).trans rfl
theorem t180_35 : zT 180 35 = some (.invokevirtual 333, 3, 185, 0, 0, 1426) := (congrArg (fun t => List.lookup 35 t) gt180).trans rfl
theorem t180_38 : zT 180 38 = some (.ifCond .eq 22, 3, 60, 0, 0, 0) := (congrArg (fun t => List.lookup 38 t) gt180).trans rfl
theorem t180_41 : zT 180 41 = some (.aload_n 0, 1, 0, 0, 0, 0) := (congrArg (fun t => List.lookup 41 t) gt180).trans rfl
theorem t180_42 : zT 180 42 = some (.getfield 43, 3, 11, 5, 0, 603) := (congrArg (fun t => List.lookup 42 t) gt180).trans rfl
theorem t180_45 : zT 180 45 = some (.iload_n 1, 1, 1, 0, 0, 0) := (congrArg (fun t => List.lookup 45 t) gt180).trans rfl
theorem t180_46 : zT 180 46 = some (.aload_n 0, 1, 0, 0, 0, 0) := (congrArg (fun t => List.lookup 46 t) gt180).trans rfl
theorem t180_47 : zT 180 47 = some (.ldc_w 324, 3, 2, 0, 0, 1404) := (congrArg (fun t => List.lookup 47 t) gt180).trans rfl
theorem t180_50 : zT 180 50 = some (.iload_n 1, 1, 1, 0, 0, 0) := (congrArg (fun t => List.lookup 50 t) gt180).trans rfl
theorem t180_51 : zT 180 51 = some (.invokevirtual 329, 3, 181, 0, 0, 1406) := (congrArg (fun t => List.lookup 51 t) gt180).trans rfl
theorem t180_54 : zT 180 54 = some (.invokevirtual 253, 3, 151, 0, 0, 1269) := (congrArg (fun t => List.lookup 54 t) gt180).trans rfl
theorem t180_57 : zT 180 57 = some (.invokevirtual 337, 3, 186, 0, 0, 1430) := (congrArg (fun t => List.lookup 57 t) gt180).trans rfl
theorem t180_60 : zT 180 60 = some (.iinc 1 1, 3, 0, 0, 0, 0) := (congrArg (fun t => List.lookup 60 t) gt180).trans rfl
theorem t180_63 : zT 180 63 = some (.goto (-49), 3, 14, 0, 0, 0) := (congrArg (fun t => List.lookup 63 t) gt180).trans rfl
theorem t180_66 : zT 180 66 = some (.aload_n 0, 1, 0, 0, 0, 0) := (congrArg (fun t => List.lookup 66 t) gt180).trans rfl
theorem t180_67 : zT 180 67 = some (.getfield 43, 3, 11, 5, 0, 603) := (congrArg (fun t => List.lookup 67 t) gt180).trans rfl
theorem t180_70 : zT 180 70 = some (.aload_n 0, 1, 0, 0, 0, 0) := (congrArg (fun t => List.lookup 70 t) gt180).trans rfl
theorem t180_71 : zT 180 71 = some (.getfield 12, 3, 11, 0, 0, 598) := (congrArg (fun t => List.lookup 71 t) gt180).trans rfl
theorem t180_74 : zT 180 74 = some (.getfield 341, 3, 6, 14, 0, 194) := (congrArg (fun t => List.lookup 74 t) gt180).trans rfl
theorem t180_77 : zT 180 77 = some (.aload_n 0, 1, 0, 0, 0, 0) := (congrArg (fun t => List.lookup 77 t) gt180).trans rfl
theorem t180_78 : zT 180 78 = some (.getfield 12, 3, 11, 0, 0, 598) := (congrArg (fun t => List.lookup 78 t) gt180).trans rfl
theorem t180_81 : zT 180 81 = some (.getfield 321, 3, 6, 13, 0, 192) := (congrArg (fun t => List.lookup 81 t) gt180).trans rfl
theorem t180_84 : zT 180 84 = some (.invokevirtual 118, 3, 64, 0, 0, 843) := (congrArg (fun t => List.lookup 84 t) gt180).trans rfl
theorem t180_87 : zT 180 87 = some (.ifCond .eq 7, 3, 94, 0, 0, 0) := (congrArg (fun t => List.lookup 87 t) gt180).trans rfl
theorem t180_90 : zT 180 90 = some (.iconst 1, 1, 0, 0, 1, 0) := (congrArg (fun t => List.lookup 90 t) gt180).trans rfl
theorem t180_91 : zT 180 91 = some (.goto 4, 3, 95, 0, 0, 0) := (congrArg (fun t => List.lookup 91 t) gt180).trans rfl
theorem t180_94 : zT 180 94 = some (.iconst 0, 1, 0, 0, 0, 0) := (congrArg (fun t => List.lookup 94 t) gt180).trans rfl
theorem t180_95 : zT 180 95 = some (.ireturn, 1, 0, 0, 0, 0) := (congrArg (fun t => List.lookup 95 t) gt180).trans rfl
theorem t186_0 : zT 186 0 = some (.iload_n 1, 1, 1, 0, 0, 0) := (congrArg (fun t => List.lookup 0 t) gt186).trans rfl
theorem t186_1 : zT 186 1 = some (.ifCond .lt 19, 3, 20, 0, 0, 0) := (congrArg (fun t => List.lookup 1 t) gt186).trans rfl
theorem t186_4 : zT 186 4 = some (.iload_n 1, 1, 1, 0, 0, 0) := (congrArg (fun t => List.lookup 4 t) gt186).trans rfl
theorem t186_5 : zT 186 5 = some (.aload_n 0, 1, 0, 0, 0, 0) := (congrArg (fun t => List.lookup 5 t) gt186).trans rfl
theorem t186_6 : zT 186 6 = some (.getfield 17, 3, 9, 0, 0, 312) := (congrArg (fun t => List.lookup 6 t) gt186).trans rfl
theorem t186_9 : zT 186 9 = some (.arraylength, 1, 0, 0, 0, 0) := (congrArg (fun t => List.lookup 9 t) gt186).trans rfl
theorem t186_10 : zT 186 10 = some (.if_icmp .ge 10, 3, 20, 0, 0, 0) := (congrArg (fun t => List.lookup 10 t) gt186).trans rfl
theorem t186_13 : zT 186 13 = some (.aload_n 0, 1, 0, 0, 0, 0) := (congrArg (fun t => List.lookup 13 t) gt186).trans rfl
theorem t186_14 : zT 186 14 = some (.getfield 17, 3, 9, 0, 0, 312) := (congrArg (fun t => List.lookup 14 t) gt186).trans rfl
theorem t186_17 : zT 186 17 = some (.iload_n 1, 1, 1, 0, 0, 0) := (congrArg (fun t => List.lookup 17 t) gt186).trans rfl
theorem t186_18 : zT 186 18 = some (.iload_n 2, 1, 2, 0, 0, 0) := (congrArg (fun t => List.lookup 18 t) gt186).trans rfl
theorem t186_19 : zT 186 19 = some (.iastore, 1, 0, 0, 0, 0) := (congrArg (fun t => List.lookup 19 t) gt186).trans rfl
theorem t186_20 : zT 186 20 = some (.return_, 1, 0, 0, 0, 0) := (congrArg (fun t => List.lookup 20 t) gt186).trans rfl
theorem fv_zMc_6_5 : zfv zMc 6 (cY 11 5) 5 = .ref 161 := by decide +kernel
theorem zs_inD {X : zX} {l : Launch} {d y : Nat} {M : zM} {Q : Option Value → zM → Prop} {m c h L : Nat} {as : List Value} (hy : y < 350) (mf : zmf y m c h L) (hw : zwd as ≤ L) (hg : zGo X l d 0 0 y 0 (lv_args 0 as) [] M Q) : zCall X l d 0 0 y as M Q := zintro (zmP hy) (by rw [mf.2.2.2.2.2]; exact hw) hg
/-- the contract of a reading method of the trigger at every depth from K on, for nesting of at least lo -/
def zTg (X : zX) (l : Launch) (y K : Nat) (lo : Int) : Prop := ∀ (d : Nat) (Q : Option Value → zM → Prop) (M : zM) (a : Int32), K ≤ d → zSk zMc M → zIv cLo cHi M → lo ≤ a.toInt → a.toInt ≤ 6 → (∀ (M' : zM) (v : Int32), zSk zMc M' → zIv cLo cHi M' → zFr [(161, 161, none)] M M' → 0 ≤ v.toInt → v.toInt ≤ 1 → Q (some (.int v)) M') → zCall X l d 0 0 y [.ref 161, .int a] M Q
theorem zTg.le {X : zX} {l : Launch} {y K K' : Nat} {lo : Int} (h : zTg X l y K lo) (hk : K ≤ K') : zTg X l y K' lo := fun d Q M a hd => h d Q M a (Nat.le_trans hk hd)
theorem zTg.no {X : zX} {l : Launch} {y K : Nat} : zTg X l y K 7 := fun _ _ _ a _ _ _ h1 h2 => absurd h2 (by omega)
theorem RB {X : zX} {l : Launch} {K : Nat} {lo : Int} (hK : 8 ≤ K) (hT : zTg X l 67 K lo) : zTg X l 66 (K + 1) lo := by
  intro d Q M a hd hs hI ha ha6 hQ
  have ga := zrg a
  refine zs_inD (by decide) mf66 (Nat.le_of_ble_eq_true rfl) ?_
  show zGo X l d 0 0 66 0 [(0, .ref 161), (1, .int a)] [] M _
  refine zs_aload_n (pc := 0) t66_0 rfl ?_
  refine zs_iload_n (pc := 1) t66_1 rfl ?_
  refine zs_invV9 (pc := 2) (k := 161) (as' := [.int a]) (st := []) t66_2 mf67 rfl rfl (Or.inl ⟨by decide, (zk1 (hs.k fk_zMc_161))⟩) ⟨by omega, Nat.le_of_ble_eq_true rfl, Nat.le_of_ble_eq_true rfl⟩ (hT _ _ _ _ (by omega) hs hI (by omega) (by omega) ?_) (fun _ _ q => q)
  intro w1M w1v w1s w1I w1F w1a w1b
  show zGo X l d 0 0 66 5 [(0, .ref 161), (1, .int a)] [.int w1v] w1M _
  refine zs_istore_n (pc := 5) t66_5 (ls' := [(2, .int w1v), (0, .ref 161), (1, .int a)]) (zml mf66 (by decide)) rfl ?_
  refine zs_iconst (pc := 6) t66_6 (v := 0) (by decide) ?_
  refine zs_istore_n (pc := 7) t66_7 (ls' := [(3, .int (0 : Int32)), (2, .int w1v), (0, .ref 161), (1, .int a)]) (zml mf66 (by decide)) rfl ?_
  have w2L : ∀ (m : Nat) (w2x2 : Int32) (w2x3 : Int32) (w2M : zM), (0 ≤ w2x2.toInt ∧ w2x2.toInt ≤ 1) → (0 ≤ w2x3.toInt ∧ w2x3.toInt ≤ 30) → zSk zMc w2M → zIv cLo cHi w2M → zFr [(161, 161, none)] w1M w2M → 30 - w2x3.toInt ≤ (m : Int) → zGo X l d 0 0 66 8 [(0, .ref 161), (1, .int a), (2, .int w2x2), (3, .int w2x3)] [] w2M Q := by
    intro m
    induction m using Nat.strongRecOn with
    | ind w2m w2ih =>
      intro w2x2 w2x3 w2M w2b2 w2b3 w2s w2I w2F w2q
      refine zs_iload_n (pc := 8) t66_8 rfl ?_
      refine zs_bipush (pc := 9) t66_9 (v := 30) (by decide) ?_
      by_cases w3 : 30 ≤ w2x3.toInt
      · refine zs_icmp_geT (pc := 11) t66_11 rfl li30 (by omega) ?_
        refine zs_iload_n (pc := 61) t66_61 rfl ?_
        exact zs_iret (pc := 62) t66_62 mr66 (zfb01 (by omega)) (hQ _ _ w2s w2I (((zFr.refl).trans (w1F.mono rfl)).trans (w2F.mono rfl)) (by omega) (by omega))
      · refine zs_icmp_geF (pc := 11) t66_11 rfl li30 (by omega) ?_
        refine zs_aload_n (pc := 14) t66_14 rfl ?_
        refine zs_invV (pc := 15) (k := 161) (as' := []) (st := []) t66_15 mf68 rfl rfl (Or.inl ⟨by decide, (zk1 (w2s.k fk_zMc_161))⟩) ⟨by decide, by omega, Nat.le_of_ble_eq_true rfl, Nat.le_of_ble_eq_true rfl⟩ (zs_in (by decide) mf68 (Nat.le_of_ble_eq_true rfl) ?_) (fun _ _ q => q)
        show zGo X l 0 0 0 68 0 [(0, .ref 161)] [] w2M _
        refine zs_aload_n (pc := 0) t68_0 rfl ?_
        have w4 := ib161_5 w2I
        refine zs_get (pc := 1) t68_1 (by decide) (zk1 (w2s.k fk_zMc_161)) (zfvi rfl rfl) ?_
        refine zs_iconst (pc := 4) t68_4 (v := -1) (by decide) ?_
        by_cases w5 : (zI w2M 161 5).toInt ≠ (-1)
        · refine zs_icmp_neT (pc := 5) t68_5 rfl lin1 (by omega) ?_
          refine zs_iconst (pc := 35) t68_35 (v := -1) (by decide) ?_
          refine zs_iret (pc := 36) t68_36 mr68 (by decide) ?_
          show zGo X l d 0 0 66 18 [(0, .ref 161), (1, .int a), (2, .int w2x2), (3, .int w2x3)] [.int (-1 : Int32)] w2M _
          refine zs_bipush (pc := 18) t66_18 (v := 38) (by decide) ?_
          refine zs_icmp_neT (pc := 20) t66_20 lin1 li38 (by decide) ?_
          refine zs_iload_n (pc := 61) t66_61 rfl ?_
          exact zs_iret (pc := 62) t66_62 mr66 (zfb01 (by omega)) (hQ _ _ w2s w2I (((zFr.refl).trans (w1F.mono rfl)).trans (w2F.mono rfl)) (by omega) (by omega))
        · refine zs_icmp_neF (pc := 5) t68_5 rfl lin1 (by omega) ?_
          refine zs_aload_n (pc := 8) t68_8 rfl ?_
          have w6 := ib161_3 w2I
          refine zs_get (pc := 9) t68_9 (by decide) (zk1 (w2s.k fk_zMc_161)) (zfvi rfl rfl) ?_
          refine zs_aload_n (pc := 12) t68_12 rfl ?_
          have w7 := ib161_2 w2I
          refine zs_get (pc := 13) t68_13 (by decide) (zk1 (w2s.k fk_zMc_161)) (zfvi rfl rfl) ?_
          by_cases w8 : (zI w2M 161 2).toInt ≤ (zI w2M 161 3).toInt
          · refine zs_icmp_geT (pc := 16) t68_16 rfl rfl (by omega) ?_
            refine zs_iconst (pc := 35) t68_35 (v := -1) (by decide) ?_
            refine zs_iret (pc := 36) t68_36 mr68 (by decide) ?_
            show zGo X l d 0 0 66 18 [(0, .ref 161), (1, .int a), (2, .int w2x2), (3, .int w2x3)] [.int (-1 : Int32)] w2M _
            refine zs_bipush (pc := 18) t66_18 (v := 38) (by decide) ?_
            refine zs_icmp_neT (pc := 20) t66_20 lin1 li38 (by decide) ?_
            refine zs_iload_n (pc := 61) t66_61 rfl ?_
            exact zs_iret (pc := 62) t66_62 mr66 (zfb01 (by omega)) (hQ _ _ w2s w2I (((zFr.refl).trans (w1F.mono rfl)).trans (w2F.mono rfl)) (by omega) (by omega))
          · refine zs_icmp_geF (pc := 16) t68_16 rfl rfl (by omega) ?_
            refine zs_aload_n (pc := 19) t68_19 rfl ?_
            refine zs_get (pc := 20) t68_20 (by decide) (zk1 (w2s.k fk_zMc_161)) (w2s.p rfl fv_zMc_161_1) ?_
            refine zs_aload_n (pc := 23) t68_23 rfl ?_
            refine zs_get (pc := 24) t68_24 (by decide) (zk1 (w2s.k fk_zMc_161)) (zfvi rfl rfl) ?_
            obtain ⟨w9n, w9⟩ : ∃ n : Nat, (zI w2M 161 3).toInt = (n : Int) := ⟨(zI w2M 161 3).toInt.toNat, by omega⟩
            have w10 := ib163 hI w9n
            refine zs_bald (pc := 27) t68_27 (j := w9n) (Or.inl (zk1 (w2s.k fk_zMc_163))) w9 (zk2 (w2s.k fk_zMc_163) (by omega)) ((w2F 163 w9n rfl).trans ((w1F 163 w9n rfl).trans rfl)) ?_
            refine zs_sipush (pc := 28) t68_28 (v := 255) (by decide) ?_
            obtain ⟨w11v, w11⟩ : ∃ v, (zI M 163 w9n) &&& (255 : Int32) = v := ⟨_, rfl⟩
            have w11g : 0 ≤ w11v.toInt ∧ w11v.toInt ≤ 255 := by rw [← w11]; exact zand li255 (by decide)
            refine zs_iand (pc := 31) t68_31 (c := w11v) w11 ?_
            refine zs_goto (pc := 32) t68_32 ?_
            refine zs_iret (pc := 36) t68_36 mr68 rfl ?_
            show zGo X l d 0 0 66 18 [(0, .ref 161), (1, .int a), (2, .int w2x2), (3, .int w2x3)] [.int w11v] w2M _
            refine zs_bipush (pc := 18) t66_18 (v := 38) (by decide) ?_
            by_cases w12 : w11v.toInt ≠ 38
            · refine zs_icmp_neT (pc := 20) t66_20 rfl li38 (by omega) ?_
              refine zs_iload_n (pc := 61) t66_61 rfl ?_
              exact zs_iret (pc := 62) t66_62 mr66 (zfb01 (by omega)) (hQ _ _ w2s w2I (((zFr.refl).trans (w1F.mono rfl)).trans (w2F.mono rfl)) (by omega) (by omega))
            · refine zs_icmp_neF (pc := 20) t66_20 rfl li38 (by omega) ?_
              refine zs_aload_n (pc := 23) t66_23 rfl ?_
              refine zs_dup (pc := 24) t66_24 rfl ?_
              refine zs_get (pc := 25) t66_25 (by decide) (zk1 (w2s.k fk_zMc_161)) (zfvi rfl rfl) ?_
              refine zs_iconst (pc := 28) t66_28 (v := 1) (by decide) ?_
              obtain ⟨w13v, w13e, w13⟩ := ziadd (a := (zI w2M 161 3)) (b := (1 : Int32)) rfl li1 (by omega) (by omega)
              refine zs_iadd (pc := 29) t66_29 (c := w13v) w13e ?_
              have w14 : zIv cLo cHi (zsI w2M 161 3 w13v) := zIv.put w2I (show 0 ≤ w13v.toInt ∧ w13v.toInt ≤ 500 from ⟨by omega, by omega⟩)
              refine zs_putI (pc := 30) t66_30 (zk1 (w2s.k fk_zMc_161)) rfl ?_
              refine zs_aload_n (pc := 33) t66_33 rfl ?_
              refine zs_iload_n (pc := 34) t66_34 rfl ?_
              refine zs_invV9 (pc := 35) (k := 161) (as' := [.int a]) (st := []) t66_35 mf67 rfl rfl (Or.inl ⟨by decide, (zk1 (w2s.k fk_zMc_161))⟩) ⟨by omega, Nat.le_of_ble_eq_true rfl, Nat.le_of_ble_eq_true rfl⟩ (hT _ _ _ _ (by omega) w2s w14 (by omega) (by omega) ?_) (fun _ _ q => q)
              intro w15M w15v w15s w15I w15F w15a w15b
              show zGo X l d 0 0 66 38 [(0, .ref 161), (1, .int a), (2, .int w2x2), (3, .int w2x3)] [.int w15v] w15M _
              refine zs_istore (pc := 38) t66_38 (ls' := [(4, .int w15v), (0, .ref 161), (1, .int a), (2, .int w2x2), (3, .int w2x3)]) (zml mf66 (by decide)) rfl ?_
              refine zs_iload_n (pc := 40) t66_40 rfl ?_
              by_cases w16 : w2x2.toInt = 0
              · refine zs_if_eqT (pc := 41) t66_41 rfl (by omega) ?_
                refine zs_iconst (pc := 53) t66_53 (v := 0) (by decide) ?_
                refine zs_istore_n (pc := 54) t66_54 (ls' := [(2, .int (0 : Int32)), (4, .int w15v), (0, .ref 161), (1, .int a), (3, .int w2x3)]) (zml mf66 (by decide)) rfl ?_
                obtain ⟨w17v, w17e, w17⟩ := ziadd (a := w2x3) (b := Int32.ofInt 1) rfl (show (Int32.ofInt 1).toInt = 1 by decide) (by omega) (by omega)
                refine zs_iinc (pc := 55) t66_55 (ls' := [(3, .int w17v), (2, .int (0 : Int32)), (4, .int w15v), (0, .ref 161), (1, .int a)]) (zml mf66 (by decide)) rfl (c := w17v) w17e rfl ?_
                refine zs_goto (pc := 58) t66_58 ?_
                refine zGo.locals (ls' := [(0, .ref 161), (1, .int a), (2, .int (0 : Int32)), (3, .int w17v)]) (by simp) ?_
                have w18 := li0
                exact w2ih (w2m - 1) (by omega) (0 : Int32) w17v w15M ⟨by decide, by decide⟩ ⟨by omega, by omega⟩ w15s w15I ((((zFr.refl).trans (w2F.mono rfl)).put rfl).trans (w15F.mono rfl)) (by omega)
              · refine zs_if_eqF (pc := 41) t66_41 rfl (by omega) ?_
                refine zs_iload (pc := 44) t66_44 rfl ?_
                by_cases w19 : w15v.toInt = 0
                · refine zs_if_eqT (pc := 46) t66_46 rfl (by omega) ?_
                  refine zs_iconst (pc := 53) t66_53 (v := 0) (by decide) ?_
                  refine zs_istore_n (pc := 54) t66_54 (ls' := [(2, .int (0 : Int32)), (4, .int w15v), (0, .ref 161), (1, .int a), (3, .int w2x3)]) (zml mf66 (by decide)) rfl ?_
                  obtain ⟨w20v, w20e, w20⟩ := ziadd (a := w2x3) (b := Int32.ofInt 1) rfl (show (Int32.ofInt 1).toInt = 1 by decide) (by omega) (by omega)
                  refine zs_iinc (pc := 55) t66_55 (ls' := [(3, .int w20v), (2, .int (0 : Int32)), (4, .int w15v), (0, .ref 161), (1, .int a)]) (zml mf66 (by decide)) rfl (c := w20v) w20e rfl ?_
                  refine zs_goto (pc := 58) t66_58 ?_
                  refine zGo.locals (ls' := [(0, .ref 161), (1, .int a), (2, .int (0 : Int32)), (3, .int w20v)]) (by simp) ?_
                  have w21 := li0
                  exact w2ih (w2m - 1) (by omega) (0 : Int32) w20v w15M ⟨by decide, by decide⟩ ⟨by omega, by omega⟩ w15s w15I ((((zFr.refl).trans (w2F.mono rfl)).put rfl).trans (w15F.mono rfl)) (by omega)
                · refine zs_if_eqF (pc := 46) t66_46 rfl (by omega) ?_
                  refine zs_iconst (pc := 49) t66_49 (v := 1) (by decide) ?_
                  refine zs_goto (pc := 50) t66_50 ?_
                  refine zs_istore_n (pc := 54) t66_54 (ls' := [(2, .int (1 : Int32)), (4, .int w15v), (0, .ref 161), (1, .int a), (3, .int w2x3)]) (zml mf66 (by decide)) rfl ?_
                  obtain ⟨w22v, w22e, w22⟩ := ziadd (a := w2x3) (b := Int32.ofInt 1) rfl (show (Int32.ofInt 1).toInt = 1 by decide) (by omega) (by omega)
                  refine zs_iinc (pc := 55) t66_55 (ls' := [(3, .int w22v), (2, .int (1 : Int32)), (4, .int w15v), (0, .ref 161), (1, .int a)]) (zml mf66 (by decide)) rfl (c := w22v) w22e rfl ?_
                  refine zs_goto (pc := 58) t66_58 ?_
                  refine zGo.locals (ls' := [(0, .ref 161), (1, .int a), (2, .int (1 : Int32)), (3, .int w22v)]) (by simp) ?_
                  have w23 := li1
                  exact w2ih (w2m - 1) (by omega) (1 : Int32) w22v w15M ⟨by decide, by decide⟩ ⟨by omega, by omega⟩ w15s w15I ((((zFr.refl).trans (w2F.mono rfl)).put rfl).trans (w15F.mono rfl)) (by omega)
  refine zGo.locals (ls' := [(0, .ref 161), (1, .int a), (2, .int w1v), (3, .int (0 : Int32))]) (by simp) ?_
  have w24 := li0
  exact w2L ((30 - 0 : Int).toNat) w1v (0 : Int32) w1M ⟨by omega, by omega⟩ ⟨by decide, by decide⟩ w1s w1I zFr.refl (by omega)
theorem RC {X : zX} {l : Launch} {K : Nat} {lo : Int} (hK : 8 ≤ K) (hB : zTg X l 66 K lo) : zTg X l 65 (K + 1) lo := by
  intro d Q M a hd hs hI ha ha6 hQ
  have ga := zrg a
  refine zs_inD (by decide) mf65 (Nat.le_of_ble_eq_true rfl) ?_
  show zGo X l d 0 0 65 0 [(0, .ref 161), (1, .int a)] [] M _
  refine zs_aload_n (pc := 0) t65_0 rfl ?_
  refine zs_iload_n (pc := 1) t65_1 rfl ?_
  refine zs_invV9 (pc := 2) (k := 161) (as' := [.int a]) (st := []) t65_2 mf66 rfl rfl (Or.inl ⟨by decide, (zk1 (hs.k fk_zMc_161))⟩) ⟨by omega, Nat.le_of_ble_eq_true rfl, Nat.le_of_ble_eq_true rfl⟩ (hB _ _ _ _ (by omega) hs hI (by omega) (by omega) ?_) (fun _ _ q => q)
  intro w1M w1v w1s w1I w1F w1a w1b
  show zGo X l d 0 0 65 5 [(0, .ref 161), (1, .int a)] [.int w1v] w1M _
  refine zs_istore_n (pc := 5) t65_5 (ls' := [(2, .int w1v), (0, .ref 161), (1, .int a)]) (zml mf65 (by decide)) rfl ?_
  refine zs_iconst (pc := 6) t65_6 (v := 0) (by decide) ?_
  refine zs_istore_n (pc := 7) t65_7 (ls' := [(3, .int (0 : Int32)), (2, .int w1v), (0, .ref 161), (1, .int a)]) (zml mf65 (by decide)) rfl ?_
  have w2L : ∀ (m : Nat) (w2x2 : Int32) (w2x3 : Int32) (w2M : zM), (0 ≤ w2x2.toInt ∧ w2x2.toInt ≤ 1) → (0 ≤ w2x3.toInt ∧ w2x3.toInt ≤ 30) → zSk zMc w2M → zIv cLo cHi w2M → zFr [(161, 161, none)] w1M w2M → 30 - w2x3.toInt ≤ (m : Int) → zGo X l d 0 0 65 8 [(0, .ref 161), (1, .int a), (2, .int w2x2), (3, .int w2x3)] [] w2M Q := by
    intro m
    induction m using Nat.strongRecOn with
    | ind w2m w2ih =>
      intro w2x2 w2x3 w2M w2b2 w2b3 w2s w2I w2F w2q
      refine zs_iload_n (pc := 8) t65_8 rfl ?_
      refine zs_bipush (pc := 9) t65_9 (v := 30) (by decide) ?_
      by_cases w3 : 30 ≤ w2x3.toInt
      · refine zs_icmp_geT (pc := 11) t65_11 rfl li30 (by omega) ?_
        refine zs_iload_n (pc := 61) t65_61 rfl ?_
        exact zs_iret (pc := 62) t65_62 mr65 (zfb01 (by omega)) (hQ _ _ w2s w2I (((zFr.refl).trans (w1F.mono rfl)).trans (w2F.mono rfl)) (by omega) (by omega))
      · refine zs_icmp_geF (pc := 11) t65_11 rfl li30 (by omega) ?_
        refine zs_aload_n (pc := 14) t65_14 rfl ?_
        refine zs_invV (pc := 15) (k := 161) (as' := []) (st := []) t65_15 mf68 rfl rfl (Or.inl ⟨by decide, (zk1 (w2s.k fk_zMc_161))⟩) ⟨by decide, by omega, Nat.le_of_ble_eq_true rfl, Nat.le_of_ble_eq_true rfl⟩ (zs_in (by decide) mf68 (Nat.le_of_ble_eq_true rfl) ?_) (fun _ _ q => q)
        show zGo X l 0 0 0 68 0 [(0, .ref 161)] [] w2M _
        refine zs_aload_n (pc := 0) t68_0 rfl ?_
        have w4 := ib161_5 w2I
        refine zs_get (pc := 1) t68_1 (by decide) (zk1 (w2s.k fk_zMc_161)) (zfvi rfl rfl) ?_
        refine zs_iconst (pc := 4) t68_4 (v := -1) (by decide) ?_
        by_cases w5 : (zI w2M 161 5).toInt ≠ (-1)
        · refine zs_icmp_neT (pc := 5) t68_5 rfl lin1 (by omega) ?_
          refine zs_iconst (pc := 35) t68_35 (v := -1) (by decide) ?_
          refine zs_iret (pc := 36) t68_36 mr68 (by decide) ?_
          show zGo X l d 0 0 65 18 [(0, .ref 161), (1, .int a), (2, .int w2x2), (3, .int w2x3)] [.int (-1 : Int32)] w2M _
          refine zs_bipush (pc := 18) t65_18 (v := 124) (by decide) ?_
          refine zs_icmp_neT (pc := 20) t65_20 lin1 li124 (by decide) ?_
          refine zs_iload_n (pc := 61) t65_61 rfl ?_
          exact zs_iret (pc := 62) t65_62 mr65 (zfb01 (by omega)) (hQ _ _ w2s w2I (((zFr.refl).trans (w1F.mono rfl)).trans (w2F.mono rfl)) (by omega) (by omega))
        · refine zs_icmp_neF (pc := 5) t68_5 rfl lin1 (by omega) ?_
          refine zs_aload_n (pc := 8) t68_8 rfl ?_
          have w6 := ib161_3 w2I
          refine zs_get (pc := 9) t68_9 (by decide) (zk1 (w2s.k fk_zMc_161)) (zfvi rfl rfl) ?_
          refine zs_aload_n (pc := 12) t68_12 rfl ?_
          have w7 := ib161_2 w2I
          refine zs_get (pc := 13) t68_13 (by decide) (zk1 (w2s.k fk_zMc_161)) (zfvi rfl rfl) ?_
          by_cases w8 : (zI w2M 161 2).toInt ≤ (zI w2M 161 3).toInt
          · refine zs_icmp_geT (pc := 16) t68_16 rfl rfl (by omega) ?_
            refine zs_iconst (pc := 35) t68_35 (v := -1) (by decide) ?_
            refine zs_iret (pc := 36) t68_36 mr68 (by decide) ?_
            show zGo X l d 0 0 65 18 [(0, .ref 161), (1, .int a), (2, .int w2x2), (3, .int w2x3)] [.int (-1 : Int32)] w2M _
            refine zs_bipush (pc := 18) t65_18 (v := 124) (by decide) ?_
            refine zs_icmp_neT (pc := 20) t65_20 lin1 li124 (by decide) ?_
            refine zs_iload_n (pc := 61) t65_61 rfl ?_
            exact zs_iret (pc := 62) t65_62 mr65 (zfb01 (by omega)) (hQ _ _ w2s w2I (((zFr.refl).trans (w1F.mono rfl)).trans (w2F.mono rfl)) (by omega) (by omega))
          · refine zs_icmp_geF (pc := 16) t68_16 rfl rfl (by omega) ?_
            refine zs_aload_n (pc := 19) t68_19 rfl ?_
            refine zs_get (pc := 20) t68_20 (by decide) (zk1 (w2s.k fk_zMc_161)) (w2s.p rfl fv_zMc_161_1) ?_
            refine zs_aload_n (pc := 23) t68_23 rfl ?_
            refine zs_get (pc := 24) t68_24 (by decide) (zk1 (w2s.k fk_zMc_161)) (zfvi rfl rfl) ?_
            obtain ⟨w9n, w9⟩ : ∃ n : Nat, (zI w2M 161 3).toInt = (n : Int) := ⟨(zI w2M 161 3).toInt.toNat, by omega⟩
            have w10 := ib163 hI w9n
            refine zs_bald (pc := 27) t68_27 (j := w9n) (Or.inl (zk1 (w2s.k fk_zMc_163))) w9 (zk2 (w2s.k fk_zMc_163) (by omega)) ((w2F 163 w9n rfl).trans ((w1F 163 w9n rfl).trans rfl)) ?_
            refine zs_sipush (pc := 28) t68_28 (v := 255) (by decide) ?_
            obtain ⟨w11v, w11⟩ : ∃ v, (zI M 163 w9n) &&& (255 : Int32) = v := ⟨_, rfl⟩
            have w11g : 0 ≤ w11v.toInt ∧ w11v.toInt ≤ 255 := by rw [← w11]; exact zand li255 (by decide)
            refine zs_iand (pc := 31) t68_31 (c := w11v) w11 ?_
            refine zs_goto (pc := 32) t68_32 ?_
            refine zs_iret (pc := 36) t68_36 mr68 rfl ?_
            show zGo X l d 0 0 65 18 [(0, .ref 161), (1, .int a), (2, .int w2x2), (3, .int w2x3)] [.int w11v] w2M _
            refine zs_bipush (pc := 18) t65_18 (v := 124) (by decide) ?_
            by_cases w12 : w11v.toInt ≠ 124
            · refine zs_icmp_neT (pc := 20) t65_20 rfl li124 (by omega) ?_
              refine zs_iload_n (pc := 61) t65_61 rfl ?_
              exact zs_iret (pc := 62) t65_62 mr65 (zfb01 (by omega)) (hQ _ _ w2s w2I (((zFr.refl).trans (w1F.mono rfl)).trans (w2F.mono rfl)) (by omega) (by omega))
            · refine zs_icmp_neF (pc := 20) t65_20 rfl li124 (by omega) ?_
              refine zs_aload_n (pc := 23) t65_23 rfl ?_
              refine zs_dup (pc := 24) t65_24 rfl ?_
              refine zs_get (pc := 25) t65_25 (by decide) (zk1 (w2s.k fk_zMc_161)) (zfvi rfl rfl) ?_
              refine zs_iconst (pc := 28) t65_28 (v := 1) (by decide) ?_
              obtain ⟨w13v, w13e, w13⟩ := ziadd (a := (zI w2M 161 3)) (b := (1 : Int32)) rfl li1 (by omega) (by omega)
              refine zs_iadd (pc := 29) t65_29 (c := w13v) w13e ?_
              have w14 : zIv cLo cHi (zsI w2M 161 3 w13v) := zIv.put w2I (show 0 ≤ w13v.toInt ∧ w13v.toInt ≤ 500 from ⟨by omega, by omega⟩)
              refine zs_putI (pc := 30) t65_30 (zk1 (w2s.k fk_zMc_161)) rfl ?_
              refine zs_aload_n (pc := 33) t65_33 rfl ?_
              refine zs_iload_n (pc := 34) t65_34 rfl ?_
              refine zs_invV9 (pc := 35) (k := 161) (as' := [.int a]) (st := []) t65_35 mf66 rfl rfl (Or.inl ⟨by decide, (zk1 (w2s.k fk_zMc_161))⟩) ⟨by omega, Nat.le_of_ble_eq_true rfl, Nat.le_of_ble_eq_true rfl⟩ (hB _ _ _ _ (by omega) w2s w14 (by omega) (by omega) ?_) (fun _ _ q => q)
              intro w15M w15v w15s w15I w15F w15a w15b
              show zGo X l d 0 0 65 38 [(0, .ref 161), (1, .int a), (2, .int w2x2), (3, .int w2x3)] [.int w15v] w15M _
              refine zs_istore (pc := 38) t65_38 (ls' := [(4, .int w15v), (0, .ref 161), (1, .int a), (2, .int w2x2), (3, .int w2x3)]) (zml mf65 (by decide)) rfl ?_
              refine zs_iload_n (pc := 40) t65_40 rfl ?_
              by_cases w16 : w2x2.toInt ≠ 0
              · refine zs_if_neT (pc := 41) t65_41 rfl (by omega) ?_
                refine zs_iconst (pc := 49) t65_49 (v := 1) (by decide) ?_
                refine zs_goto (pc := 50) t65_50 ?_
                refine zs_istore_n (pc := 54) t65_54 (ls' := [(2, .int (1 : Int32)), (4, .int w15v), (0, .ref 161), (1, .int a), (3, .int w2x3)]) (zml mf65 (by decide)) rfl ?_
                obtain ⟨w17v, w17e, w17⟩ := ziadd (a := w2x3) (b := Int32.ofInt 1) rfl (show (Int32.ofInt 1).toInt = 1 by decide) (by omega) (by omega)
                refine zs_iinc (pc := 55) t65_55 (ls' := [(3, .int w17v), (2, .int (1 : Int32)), (4, .int w15v), (0, .ref 161), (1, .int a)]) (zml mf65 (by decide)) rfl (c := w17v) w17e rfl ?_
                refine zs_goto (pc := 58) t65_58 ?_
                refine zGo.locals (ls' := [(0, .ref 161), (1, .int a), (2, .int (1 : Int32)), (3, .int w17v)]) (by simp) ?_
                have w18 := li1
                exact w2ih (w2m - 1) (by omega) (1 : Int32) w17v w15M ⟨by decide, by decide⟩ ⟨by omega, by omega⟩ w15s w15I ((((zFr.refl).trans (w2F.mono rfl)).put rfl).trans (w15F.mono rfl)) (by omega)
              · refine zs_if_neF (pc := 41) t65_41 rfl (by omega) ?_
                refine zs_iload (pc := 44) t65_44 rfl ?_
                by_cases w19 : w15v.toInt = 0
                · refine zs_if_eqT (pc := 46) t65_46 rfl (by omega) ?_
                  refine zs_iconst (pc := 53) t65_53 (v := 0) (by decide) ?_
                  refine zs_istore_n (pc := 54) t65_54 (ls' := [(2, .int (0 : Int32)), (4, .int w15v), (0, .ref 161), (1, .int a), (3, .int w2x3)]) (zml mf65 (by decide)) rfl ?_
                  obtain ⟨w20v, w20e, w20⟩ := ziadd (a := w2x3) (b := Int32.ofInt 1) rfl (show (Int32.ofInt 1).toInt = 1 by decide) (by omega) (by omega)
                  refine zs_iinc (pc := 55) t65_55 (ls' := [(3, .int w20v), (2, .int (0 : Int32)), (4, .int w15v), (0, .ref 161), (1, .int a)]) (zml mf65 (by decide)) rfl (c := w20v) w20e rfl ?_
                  refine zs_goto (pc := 58) t65_58 ?_
                  refine zGo.locals (ls' := [(0, .ref 161), (1, .int a), (2, .int (0 : Int32)), (3, .int w20v)]) (by simp) ?_
                  have w21 := li0
                  exact w2ih (w2m - 1) (by omega) (0 : Int32) w20v w15M ⟨by decide, by decide⟩ ⟨by omega, by omega⟩ w15s w15I ((((zFr.refl).trans (w2F.mono rfl)).put rfl).trans (w15F.mono rfl)) (by omega)
                · refine zs_if_eqF (pc := 46) t65_46 rfl (by omega) ?_
                  refine zs_iconst (pc := 49) t65_49 (v := 1) (by decide) ?_
                  refine zs_goto (pc := 50) t65_50 ?_
                  refine zs_istore_n (pc := 54) t65_54 (ls' := [(2, .int (1 : Int32)), (4, .int w15v), (0, .ref 161), (1, .int a), (3, .int w2x3)]) (zml mf65 (by decide)) rfl ?_
                  obtain ⟨w22v, w22e, w22⟩ := ziadd (a := w2x3) (b := Int32.ofInt 1) rfl (show (Int32.ofInt 1).toInt = 1 by decide) (by omega) (by omega)
                  refine zs_iinc (pc := 55) t65_55 (ls' := [(3, .int w22v), (2, .int (1 : Int32)), (4, .int w15v), (0, .ref 161), (1, .int a)]) (zml mf65 (by decide)) rfl (c := w22v) w22e rfl ?_
                  refine zs_goto (pc := 58) t65_58 ?_
                  refine zGo.locals (ls' := [(0, .ref 161), (1, .int a), (2, .int (1 : Int32)), (3, .int w22v)]) (by simp) ?_
                  have w23 := li1
                  exact w2ih (w2m - 1) (by omega) (1 : Int32) w22v w15M ⟨by decide, by decide⟩ ⟨by omega, by omega⟩ w15s w15I ((((zFr.refl).trans (w2F.mono rfl)).put rfl).trans (w15F.mono rfl)) (by omega)
  refine zGo.locals (ls' := [(0, .ref 161), (1, .int a), (2, .int w1v), (3, .int (0 : Int32))]) (by simp) ?_
  have w24 := li0
  exact w2L ((30 - 0 : Int).toNat) w1v (0 : Int32) w1M ⟨by omega, by omega⟩ ⟨by decide, by decide⟩ w1s w1I zFr.refl (by omega)
theorem RT {X : zX} {l : Launch} {K : Nat} {lo : Int} (hK : 8 ≤ K) (hC : zTg X l 65 K lo) (hT : zTg X l 67 K lo) : zTg X l 67 (K + 1) (lo - 1) := by
  intro d Q M a hd hs hI ha ha6 hQ
  have ga := zrg a
  refine zs_inD (by decide) mf67 (Nat.le_of_ble_eq_true rfl) ?_
  show zGo X l d 0 0 67 0 [(0, .ref 161), (1, .int a)] [] M _
  refine zs_aload_n (pc := 0) t67_0 rfl ?_
  refine zs_invV (pc := 1) (k := 161) (as' := []) (st := []) t67_1 mf68 rfl rfl (Or.inl ⟨by decide, (zk1 (hs.k fk_zMc_161))⟩) ⟨by decide, by omega, Nat.le_of_ble_eq_true rfl, Nat.le_of_ble_eq_true rfl⟩ (zs_in (by decide) mf68 (Nat.le_of_ble_eq_true rfl) ?_) (fun _ _ q => q)
  show zGo X l 0 0 0 68 0 [(0, .ref 161)] [] M _
  refine zs_aload_n (pc := 0) t68_0 rfl ?_
  have w1 := ib161_5 hI
  refine zs_get (pc := 1) t68_1 (by decide) (zk1 (hs.k fk_zMc_161)) (zfvi rfl rfl) ?_
  refine zs_iconst (pc := 4) t68_4 (v := -1) (by decide) ?_
  by_cases w2 : (zI M 161 5).toInt ≠ (-1)
  · refine zs_icmp_neT (pc := 5) t68_5 rfl lin1 (by omega) ?_
    refine zs_iconst (pc := 35) t68_35 (v := -1) (by decide) ?_
    refine zs_iret (pc := 36) t68_36 mr68 (by decide) ?_
    show zGo X l d 0 0 67 4 [(0, .ref 161), (1, .int a)] [.int (-1 : Int32)] M _
    refine zs_istore_n (pc := 4) t67_4 (ls' := [(2, .int (-1 : Int32)), (0, .ref 161), (1, .int a)]) (zml mf67 (by decide)) rfl ?_
    refine zs_iload_n (pc := 5) t67_5 rfl ?_
    refine zs_bipush (pc := 6) t67_6 (v := 33) (by decide) ?_
    refine zs_icmp_eqF (pc := 8) t67_8 lin1 li33 (by decide) ?_
    refine zs_iload_n (pc := 11) t67_11 rfl ?_
    refine zs_bipush (pc := 12) t67_12 (v := 40) (by decide) ?_
    refine zs_icmp_eqF (pc := 14) t67_14 lin1 li40 (by decide) ?_
    refine zs_aload_n (pc := 17) t67_17 rfl ?_
    refine zs_invV (pc := 18) (k := 161) (as' := []) (st := []) t67_18 mf69 rfl rfl (Or.inl ⟨by decide, (zk1 (hs.k fk_zMc_161))⟩) ⟨by decide, by omega, Nat.le_of_ble_eq_true rfl, Nat.le_of_ble_eq_true rfl⟩ (C69_161 hs hI ?_) (fun _ _ q => q)
    intro w3M w3v w3s w3I w3F w3a w3b
    show zGo X l d 0 0 67 21 [(2, .int (-1 : Int32)), (0, .ref 161), (1, .int a)] [.int w3v] w3M _
    exact zs_iret (pc := 21) t67_21 mr67 (zfb01 (by omega)) (hQ _ _ w3s w3I ((zFr.refl).trans (w3F.mono rfl)) (by omega) (by omega))
  · refine zs_icmp_neF (pc := 5) t68_5 rfl lin1 (by omega) ?_
    refine zs_aload_n (pc := 8) t68_8 rfl ?_
    have w4 := ib161_3 hI
    refine zs_get (pc := 9) t68_9 (by decide) (zk1 (hs.k fk_zMc_161)) (zfvi rfl rfl) ?_
    refine zs_aload_n (pc := 12) t68_12 rfl ?_
    have w5 := ib161_2 hI
    refine zs_get (pc := 13) t68_13 (by decide) (zk1 (hs.k fk_zMc_161)) (zfvi rfl rfl) ?_
    by_cases w6 : (zI M 161 2).toInt ≤ (zI M 161 3).toInt
    · refine zs_icmp_geT (pc := 16) t68_16 rfl rfl (by omega) ?_
      refine zs_iconst (pc := 35) t68_35 (v := -1) (by decide) ?_
      refine zs_iret (pc := 36) t68_36 mr68 (by decide) ?_
      show zGo X l d 0 0 67 4 [(0, .ref 161), (1, .int a)] [.int (-1 : Int32)] M _
      refine zs_istore_n (pc := 4) t67_4 (ls' := [(2, .int (-1 : Int32)), (0, .ref 161), (1, .int a)]) (zml mf67 (by decide)) rfl ?_
      refine zs_iload_n (pc := 5) t67_5 rfl ?_
      refine zs_bipush (pc := 6) t67_6 (v := 33) (by decide) ?_
      refine zs_icmp_eqF (pc := 8) t67_8 lin1 li33 (by decide) ?_
      refine zs_iload_n (pc := 11) t67_11 rfl ?_
      refine zs_bipush (pc := 12) t67_12 (v := 40) (by decide) ?_
      refine zs_icmp_eqF (pc := 14) t67_14 lin1 li40 (by decide) ?_
      refine zs_aload_n (pc := 17) t67_17 rfl ?_
      refine zs_invV (pc := 18) (k := 161) (as' := []) (st := []) t67_18 mf69 rfl rfl (Or.inl ⟨by decide, (zk1 (hs.k fk_zMc_161))⟩) ⟨by decide, by omega, Nat.le_of_ble_eq_true rfl, Nat.le_of_ble_eq_true rfl⟩ (C69_161 hs hI ?_) (fun _ _ q => q)
      intro w7M w7v w7s w7I w7F w7a w7b
      show zGo X l d 0 0 67 21 [(2, .int (-1 : Int32)), (0, .ref 161), (1, .int a)] [.int w7v] w7M _
      exact zs_iret (pc := 21) t67_21 mr67 (zfb01 (by omega)) (hQ _ _ w7s w7I ((zFr.refl).trans (w7F.mono rfl)) (by omega) (by omega))
    · refine zs_icmp_geF (pc := 16) t68_16 rfl rfl (by omega) ?_
      refine zs_aload_n (pc := 19) t68_19 rfl ?_
      refine zs_get (pc := 20) t68_20 (by decide) (zk1 (hs.k fk_zMc_161)) (hs.p rfl fv_zMc_161_1) ?_
      refine zs_aload_n (pc := 23) t68_23 rfl ?_
      refine zs_get (pc := 24) t68_24 (by decide) (zk1 (hs.k fk_zMc_161)) (zfvi rfl rfl) ?_
      obtain ⟨w8n, w8⟩ : ∃ n : Nat, (zI M 161 3).toInt = (n : Int) := ⟨(zI M 161 3).toInt.toNat, by omega⟩
      have w9 := ib163 hI w8n
      refine zs_bald (pc := 27) t68_27 (j := w8n) (Or.inl (zk1 (hs.k fk_zMc_163))) w8 (zk2 (hs.k fk_zMc_163) (by omega)) rfl ?_
      refine zs_sipush (pc := 28) t68_28 (v := 255) (by decide) ?_
      obtain ⟨w10v, w10⟩ : ∃ v, (zI M 163 w8n) &&& (255 : Int32) = v := ⟨_, rfl⟩
      have w10g : 0 ≤ w10v.toInt ∧ w10v.toInt ≤ 255 := by rw [← w10]; exact zand li255 (by decide)
      refine zs_iand (pc := 31) t68_31 (c := w10v) w10 ?_
      refine zs_goto (pc := 32) t68_32 ?_
      refine zs_iret (pc := 36) t68_36 mr68 rfl ?_
      show zGo X l d 0 0 67 4 [(0, .ref 161), (1, .int a)] [.int w10v] M _
      refine zs_istore_n (pc := 4) t67_4 (ls' := [(2, .int w10v), (0, .ref 161), (1, .int a)]) (zml mf67 (by decide)) rfl ?_
      refine zs_iload_n (pc := 5) t67_5 rfl ?_
      refine zs_bipush (pc := 6) t67_6 (v := 33) (by decide) ?_
      by_cases w11 : w10v.toInt = 33
      · refine zs_icmp_eqT (pc := 8) t67_8 rfl li33 (by omega) ?_
        refine zs_iload_n (pc := 22) t67_22 rfl ?_
        refine zs_bipush (pc := 23) t67_23 (v := 6) (by decide) ?_
        by_cases w12 : a.toInt < 6
        · refine zs_icmp_ltT (pc := 25) t67_25 rfl li6 (by omega) ?_
          refine zs_aload_n (pc := 38) t67_38 rfl ?_
          refine zs_dup (pc := 39) t67_39 rfl ?_
          refine zs_get (pc := 40) t67_40 (by decide) (zk1 (hs.k fk_zMc_161)) (zfvi rfl rfl) ?_
          refine zs_iconst (pc := 43) t67_43 (v := 1) (by decide) ?_
          obtain ⟨w13v, w13e, w13⟩ := ziadd (a := (zI M 161 3)) (b := (1 : Int32)) rfl li1 (by omega) (by omega)
          refine zs_iadd (pc := 44) t67_44 (c := w13v) w13e ?_
          have w14 : zIv cLo cHi (zsI M 161 3 w13v) := zIv.put hI (show 0 ≤ w13v.toInt ∧ w13v.toInt ≤ 500 from ⟨by omega, by omega⟩)
          refine zs_putI (pc := 45) t67_45 (zk1 (hs.k fk_zMc_161)) rfl ?_
          refine zs_iload_n (pc := 48) t67_48 rfl ?_
          refine zs_bipush (pc := 49) t67_49 (v := 33) (by decide) ?_
          refine zs_icmp_neF (pc := 51) t67_51 rfl li33 (by omega) ?_
          refine zs_aload_n (pc := 54) t67_54 rfl ?_
          refine zs_iload_n (pc := 55) t67_55 rfl ?_
          refine zs_iconst (pc := 56) t67_56 (v := 1) (by decide) ?_
          obtain ⟨w15v, w15e, w15⟩ := ziadd (a := a) (b := (1 : Int32)) rfl li1 (by omega) (by omega)
          refine zs_iadd (pc := 57) t67_57 (c := w15v) w15e ?_
          refine zs_invV9 (pc := 58) (k := 161) (as' := [.int w15v]) (st := []) t67_58 mf67 rfl rfl (Or.inl ⟨by decide, (zk1 (hs.k fk_zMc_161))⟩) ⟨by omega, Nat.le_of_ble_eq_true rfl, Nat.le_of_ble_eq_true rfl⟩ (hT _ _ _ _ (by omega) hs w14 (by omega) (by omega) ?_) (fun _ _ q => q)
          intro w16M w16v w16s w16I w16F w16a w16b
          show zGo X l d 0 0 67 61 [(2, .int w10v), (0, .ref 161), (1, .int a)] [.int w16v] w16M _
          by_cases w17 : w16v.toInt ≠ 0
          · refine zs_if_neT (pc := 61) t67_61 rfl (by omega) ?_
            refine zs_iconst (pc := 68) t67_68 (v := 0) (by decide) ?_
            exact zs_iret (pc := 69) t67_69 mr67 (by decide) (hQ _ _ w16s w16I (((zFr.refl).put rfl).trans (w16F.mono rfl)) (by decide) (by decide))
          · refine zs_if_neF (pc := 61) t67_61 rfl (by omega) ?_
            refine zs_iconst (pc := 64) t67_64 (v := 1) (by decide) ?_
            refine zs_goto (pc := 65) t67_65 ?_
            exact zs_iret (pc := 69) t67_69 mr67 (by decide) (hQ _ _ w16s w16I (((zFr.refl).put rfl).trans (w16F.mono rfl)) (by decide) (by decide))
        · refine zs_icmp_ltF (pc := 25) t67_25 rfl li6 (by omega) ?_
          refine zs_aload_n (pc := 28) t67_28 rfl ?_
          refine zs_aload_n (pc := 29) t67_29 rfl ?_
          refine zs_get (pc := 30) t67_30 (by decide) (zk1 (hs.k fk_zMc_161)) (zfvi rfl rfl) ?_
          refine zs_invV (pc := 33) (k := 161) (as' := [.int (zI M 161 3)]) (st := []) t67_33 mf78 rfl rfl (Or.inl ⟨by decide, (zk1 (hs.k fk_zMc_161))⟩) ⟨by decide, by omega, Nat.le_of_ble_eq_true rfl, Nat.le_of_ble_eq_true rfl⟩ (zs_in (by decide) mf78 (Nat.le_of_ble_eq_true rfl) ?_) (fun _ _ q => q)
          show zGo X l 0 0 0 78 0 [(0, .ref 161), (1, .int (zI M 161 3))] [] M _
          refine zs_aload_n (pc := 0) t78_0 rfl ?_
          refine zs_get (pc := 1) t78_1 (by decide) (zk1 (hs.k fk_zMc_161)) (zfvi rfl rfl) ?_
          refine zs_iconst (pc := 4) t78_4 (v := -1) (by decide) ?_
          refine zs_icmp_neF (pc := 5) t78_5 rfl lin1 (by omega) ?_
          refine zs_aload_n (pc := 8) t78_8 rfl ?_
          refine zs_iload_n (pc := 9) t78_9 rfl ?_
          have w18 : zIv cLo cHi (zsI M 161 5 (zI M 161 3)) := zIv.put hI (show (-2147483648) ≤ (zI M 161 3).toInt ∧ (zI M 161 3).toInt ≤ 2147483647 from (zrg (zI M 161 3)))
          refine zs_putI (pc := 10) t78_10 (zk1 (hs.k fk_zMc_161)) rfl ?_
          refine zs_vret (pc := 13) t78_13 mr78 ?_
          show zGo X l d 0 0 67 36 [(2, .int w10v), (0, .ref 161), (1, .int a)] [] (zsI M 161 5 (zI M 161 3)) _
          refine zs_iconst (pc := 36) t67_36 (v := 0) (by decide) ?_
          exact zs_iret (pc := 37) t67_37 mr67 (by decide) (hQ _ _ hs w18 ((zFr.refl).put rfl) (by decide) (by decide))
      · refine zs_icmp_eqF (pc := 8) t67_8 rfl li33 (by omega) ?_
        refine zs_iload_n (pc := 11) t67_11 rfl ?_
        refine zs_bipush (pc := 12) t67_12 (v := 40) (by decide) ?_
        by_cases w19 : w10v.toInt = 40
        · refine zs_icmp_eqT (pc := 14) t67_14 rfl li40 (by omega) ?_
          refine zs_iload_n (pc := 22) t67_22 rfl ?_
          refine zs_bipush (pc := 23) t67_23 (v := 6) (by decide) ?_
          by_cases w20 : a.toInt < 6
          · refine zs_icmp_ltT (pc := 25) t67_25 rfl li6 (by omega) ?_
            refine zs_aload_n (pc := 38) t67_38 rfl ?_
            refine zs_dup (pc := 39) t67_39 rfl ?_
            refine zs_get (pc := 40) t67_40 (by decide) (zk1 (hs.k fk_zMc_161)) (zfvi rfl rfl) ?_
            refine zs_iconst (pc := 43) t67_43 (v := 1) (by decide) ?_
            obtain ⟨w21v, w21e, w21⟩ := ziadd (a := (zI M 161 3)) (b := (1 : Int32)) rfl li1 (by omega) (by omega)
            refine zs_iadd (pc := 44) t67_44 (c := w21v) w21e ?_
            have w22 : zIv cLo cHi (zsI M 161 3 w21v) := zIv.put hI (show 0 ≤ w21v.toInt ∧ w21v.toInt ≤ 500 from ⟨by omega, by omega⟩)
            refine zs_putI (pc := 45) t67_45 (zk1 (hs.k fk_zMc_161)) rfl ?_
            refine zs_iload_n (pc := 48) t67_48 rfl ?_
            refine zs_bipush (pc := 49) t67_49 (v := 33) (by decide) ?_
            refine zs_icmp_neT (pc := 51) t67_51 rfl li33 (by omega) ?_
            refine zs_aload_n (pc := 70) t67_70 rfl ?_
            refine zs_iload_n (pc := 71) t67_71 rfl ?_
            refine zs_iconst (pc := 72) t67_72 (v := 1) (by decide) ?_
            obtain ⟨w23v, w23e, w23⟩ := ziadd (a := a) (b := (1 : Int32)) rfl li1 (by omega) (by omega)
            refine zs_iadd (pc := 73) t67_73 (c := w23v) w23e ?_
            refine zs_invV9 (pc := 74) (k := 161) (as' := [.int w23v]) (st := []) t67_74 mf65 rfl rfl (Or.inl ⟨by decide, (zk1 (hs.k fk_zMc_161))⟩) ⟨by omega, Nat.le_of_ble_eq_true rfl, Nat.le_of_ble_eq_true rfl⟩ (hC _ _ _ _ (by omega) hs w22 (by omega) (by omega) ?_) (fun _ _ q => q)
            intro w24M w24v w24s w24I w24F w24a w24b
            show zGo X l d 0 0 67 77 [(2, .int w10v), (0, .ref 161), (1, .int a)] [.int w24v] w24M _
            refine zs_istore_n (pc := 77) t67_77 (ls' := [(3, .int w24v), (2, .int w10v), (0, .ref 161), (1, .int a)]) (zml mf67 (by decide)) rfl ?_
            refine zs_aload_n (pc := 78) t67_78 rfl ?_
            refine zs_invV (pc := 79) (k := 161) (as' := []) (st := []) t67_79 mf68 rfl rfl (Or.inl ⟨by decide, (zk1 (w24s.k fk_zMc_161))⟩) ⟨by decide, by omega, Nat.le_of_ble_eq_true rfl, Nat.le_of_ble_eq_true rfl⟩ (zs_in (by decide) mf68 (Nat.le_of_ble_eq_true rfl) ?_) (fun _ _ q => q)
            show zGo X l 0 0 0 68 0 [(0, .ref 161)] [] w24M _
            refine zs_aload_n (pc := 0) t68_0 rfl ?_
            have w25 := ib161_5 w24I
            refine zs_get (pc := 1) t68_1 (by decide) (zk1 (w24s.k fk_zMc_161)) (zfvi rfl rfl) ?_
            refine zs_iconst (pc := 4) t68_4 (v := -1) (by decide) ?_
            by_cases w26 : (zI w24M 161 5).toInt ≠ (-1)
            · refine zs_icmp_neT (pc := 5) t68_5 rfl lin1 (by omega) ?_
              refine zs_iconst (pc := 35) t68_35 (v := -1) (by decide) ?_
              refine zs_iret (pc := 36) t68_36 mr68 (by decide) ?_
              show zGo X l d 0 0 67 82 [(3, .int w24v), (2, .int w10v), (0, .ref 161), (1, .int a)] [.int (-1 : Int32)] w24M _
              refine zs_bipush (pc := 82) t67_82 (v := 41) (by decide) ?_
              refine zs_icmp_eqF (pc := 84) t67_84 lin1 li41 (by decide) ?_
              refine zs_aload_n (pc := 87) t67_87 rfl ?_
              refine zs_aload_n (pc := 88) t67_88 rfl ?_
              have w27 := ib161_3 w24I
              refine zs_get (pc := 89) t67_89 (by decide) (zk1 (w24s.k fk_zMc_161)) (zfvi rfl rfl) ?_
              refine zs_invV (pc := 92) (k := 161) (as' := [.int (zI w24M 161 3)]) (st := []) t67_92 mf78 rfl rfl (Or.inl ⟨by decide, (zk1 (w24s.k fk_zMc_161))⟩) ⟨by decide, by omega, Nat.le_of_ble_eq_true rfl, Nat.le_of_ble_eq_true rfl⟩ (zs_in (by decide) mf78 (Nat.le_of_ble_eq_true rfl) ?_) (fun _ _ q => q)
              show zGo X l 0 0 0 78 0 [(0, .ref 161), (1, .int (zI w24M 161 3))] [] w24M _
              refine zs_aload_n (pc := 0) t78_0 rfl ?_
              refine zs_get (pc := 1) t78_1 (by decide) (zk1 (w24s.k fk_zMc_161)) (zfvi rfl rfl) ?_
              refine zs_iconst (pc := 4) t78_4 (v := -1) (by decide) ?_
              refine zs_icmp_neT (pc := 5) t78_5 rfl lin1 (by omega) ?_
              refine zs_vret (pc := 13) t78_13 mr78 ?_
              show zGo X l d 0 0 67 95 [(3, .int w24v), (2, .int w10v), (0, .ref 161), (1, .int a)] [] w24M _
              refine zs_iconst (pc := 95) t67_95 (v := 0) (by decide) ?_
              exact zs_iret (pc := 96) t67_96 mr67 (by decide) (hQ _ _ w24s w24I (((zFr.refl).put rfl).trans (w24F.mono rfl)) (by decide) (by decide))
            · refine zs_icmp_neF (pc := 5) t68_5 rfl lin1 (by omega) ?_
              refine zs_aload_n (pc := 8) t68_8 rfl ?_
              have w28 := ib161_3 w24I
              refine zs_get (pc := 9) t68_9 (by decide) (zk1 (w24s.k fk_zMc_161)) (zfvi rfl rfl) ?_
              refine zs_aload_n (pc := 12) t68_12 rfl ?_
              have w29 := ib161_2 w24I
              refine zs_get (pc := 13) t68_13 (by decide) (zk1 (w24s.k fk_zMc_161)) (zfvi rfl rfl) ?_
              by_cases w30 : (zI w24M 161 2).toInt ≤ (zI w24M 161 3).toInt
              · refine zs_icmp_geT (pc := 16) t68_16 rfl rfl (by omega) ?_
                refine zs_iconst (pc := 35) t68_35 (v := -1) (by decide) ?_
                refine zs_iret (pc := 36) t68_36 mr68 (by decide) ?_
                show zGo X l d 0 0 67 82 [(3, .int w24v), (2, .int w10v), (0, .ref 161), (1, .int a)] [.int (-1 : Int32)] w24M _
                refine zs_bipush (pc := 82) t67_82 (v := 41) (by decide) ?_
                refine zs_icmp_eqF (pc := 84) t67_84 lin1 li41 (by decide) ?_
                refine zs_aload_n (pc := 87) t67_87 rfl ?_
                refine zs_aload_n (pc := 88) t67_88 rfl ?_
                refine zs_get (pc := 89) t67_89 (by decide) (zk1 (w24s.k fk_zMc_161)) (zfvi rfl rfl) ?_
                refine zs_invV (pc := 92) (k := 161) (as' := [.int (zI w24M 161 3)]) (st := []) t67_92 mf78 rfl rfl (Or.inl ⟨by decide, (zk1 (w24s.k fk_zMc_161))⟩) ⟨by decide, by omega, Nat.le_of_ble_eq_true rfl, Nat.le_of_ble_eq_true rfl⟩ (zs_in (by decide) mf78 (Nat.le_of_ble_eq_true rfl) ?_) (fun _ _ q => q)
                show zGo X l 0 0 0 78 0 [(0, .ref 161), (1, .int (zI w24M 161 3))] [] w24M _
                refine zs_aload_n (pc := 0) t78_0 rfl ?_
                refine zs_get (pc := 1) t78_1 (by decide) (zk1 (w24s.k fk_zMc_161)) (zfvi rfl rfl) ?_
                refine zs_iconst (pc := 4) t78_4 (v := -1) (by decide) ?_
                refine zs_icmp_neF (pc := 5) t78_5 rfl lin1 (by omega) ?_
                refine zs_aload_n (pc := 8) t78_8 rfl ?_
                refine zs_iload_n (pc := 9) t78_9 rfl ?_
                have w31 : zIv cLo cHi (zsI w24M 161 5 (zI w24M 161 3)) := zIv.put w24I (show (-2147483648) ≤ (zI w24M 161 3).toInt ∧ (zI w24M 161 3).toInt ≤ 2147483647 from (zrg (zI w24M 161 3)))
                refine zs_putI (pc := 10) t78_10 (zk1 (w24s.k fk_zMc_161)) rfl ?_
                refine zs_vret (pc := 13) t78_13 mr78 ?_
                show zGo X l d 0 0 67 95 [(3, .int w24v), (2, .int w10v), (0, .ref 161), (1, .int a)] [] (zsI w24M 161 5 (zI w24M 161 3)) _
                refine zs_iconst (pc := 95) t67_95 (v := 0) (by decide) ?_
                exact zs_iret (pc := 96) t67_96 mr67 (by decide) (hQ _ _ w24s w31 ((((zFr.refl).put rfl).trans (w24F.mono rfl)).put rfl) (by decide) (by decide))
              · refine zs_icmp_geF (pc := 16) t68_16 rfl rfl (by omega) ?_
                refine zs_aload_n (pc := 19) t68_19 rfl ?_
                refine zs_get (pc := 20) t68_20 (by decide) (zk1 (w24s.k fk_zMc_161)) (w24s.p rfl fv_zMc_161_1) ?_
                refine zs_aload_n (pc := 23) t68_23 rfl ?_
                refine zs_get (pc := 24) t68_24 (by decide) (zk1 (w24s.k fk_zMc_161)) (zfvi rfl rfl) ?_
                obtain ⟨w32n, w32⟩ : ∃ n : Nat, (zI w24M 161 3).toInt = (n : Int) := ⟨(zI w24M 161 3).toInt.toNat, by omega⟩
                have w33 := ib163 hI w32n
                refine zs_bald (pc := 27) t68_27 (j := w32n) (Or.inl (zk1 (w24s.k fk_zMc_163))) w32 (zk2 (w24s.k fk_zMc_163) (by omega)) ((w24F 163 w32n rfl).trans ((zIo (by decide)).trans rfl)) ?_
                refine zs_sipush (pc := 28) t68_28 (v := 255) (by decide) ?_
                obtain ⟨w34v, w34⟩ : ∃ v, (zI M 163 w32n) &&& (255 : Int32) = v := ⟨_, rfl⟩
                have w34g : 0 ≤ w34v.toInt ∧ w34v.toInt ≤ 255 := by rw [← w34]; exact zand li255 (by decide)
                refine zs_iand (pc := 31) t68_31 (c := w34v) w34 ?_
                refine zs_goto (pc := 32) t68_32 ?_
                refine zs_iret (pc := 36) t68_36 mr68 rfl ?_
                show zGo X l d 0 0 67 82 [(3, .int w24v), (2, .int w10v), (0, .ref 161), (1, .int a)] [.int w34v] w24M _
                refine zs_bipush (pc := 82) t67_82 (v := 41) (by decide) ?_
                by_cases w35 : w34v.toInt = 41
                · refine zs_icmp_eqT (pc := 84) t67_84 rfl li41 (by omega) ?_
                  refine zs_aload_n (pc := 97) t67_97 rfl ?_
                  refine zs_dup (pc := 98) t67_98 rfl ?_
                  refine zs_get (pc := 99) t67_99 (by decide) (zk1 (w24s.k fk_zMc_161)) (zfvi rfl rfl) ?_
                  refine zs_iconst (pc := 102) t67_102 (v := 1) (by decide) ?_
                  obtain ⟨w36v, w36e, w36⟩ := ziadd (a := (zI w24M 161 3)) (b := (1 : Int32)) rfl li1 (by omega) (by omega)
                  refine zs_iadd (pc := 103) t67_103 (c := w36v) w36e ?_
                  have w37 : zIv cLo cHi (zsI w24M 161 3 w36v) := zIv.put w24I (show 0 ≤ w36v.toInt ∧ w36v.toInt ≤ 500 from ⟨by omega, by omega⟩)
                  refine zs_putI (pc := 104) t67_104 (zk1 (w24s.k fk_zMc_161)) rfl ?_
                  refine zs_iload_n (pc := 107) t67_107 rfl ?_
                  exact zs_iret (pc := 108) t67_108 mr67 (zfb01 (by omega)) (hQ _ _ w24s w37 ((((zFr.refl).put rfl).trans (w24F.mono rfl)).put rfl) (by omega) (by omega))
                · refine zs_icmp_eqF (pc := 84) t67_84 rfl li41 (by omega) ?_
                  refine zs_aload_n (pc := 87) t67_87 rfl ?_
                  refine zs_aload_n (pc := 88) t67_88 rfl ?_
                  refine zs_get (pc := 89) t67_89 (by decide) (zk1 (w24s.k fk_zMc_161)) (zfvi rfl rfl) ?_
                  refine zs_invV (pc := 92) (k := 161) (as' := [.int (zI w24M 161 3)]) (st := []) t67_92 mf78 rfl rfl (Or.inl ⟨by decide, (zk1 (w24s.k fk_zMc_161))⟩) ⟨by decide, by omega, Nat.le_of_ble_eq_true rfl, Nat.le_of_ble_eq_true rfl⟩ (zs_in (by decide) mf78 (Nat.le_of_ble_eq_true rfl) ?_) (fun _ _ q => q)
                  show zGo X l 0 0 0 78 0 [(0, .ref 161), (1, .int (zI w24M 161 3))] [] w24M _
                  refine zs_aload_n (pc := 0) t78_0 rfl ?_
                  refine zs_get (pc := 1) t78_1 (by decide) (zk1 (w24s.k fk_zMc_161)) (zfvi rfl rfl) ?_
                  refine zs_iconst (pc := 4) t78_4 (v := -1) (by decide) ?_
                  refine zs_icmp_neF (pc := 5) t78_5 rfl lin1 (by omega) ?_
                  refine zs_aload_n (pc := 8) t78_8 rfl ?_
                  refine zs_iload_n (pc := 9) t78_9 rfl ?_
                  have w38 : zIv cLo cHi (zsI w24M 161 5 (zI w24M 161 3)) := zIv.put w24I (show (-2147483648) ≤ (zI w24M 161 3).toInt ∧ (zI w24M 161 3).toInt ≤ 2147483647 from (zrg (zI w24M 161 3)))
                  refine zs_putI (pc := 10) t78_10 (zk1 (w24s.k fk_zMc_161)) rfl ?_
                  refine zs_vret (pc := 13) t78_13 mr78 ?_
                  show zGo X l d 0 0 67 95 [(3, .int w24v), (2, .int w10v), (0, .ref 161), (1, .int a)] [] (zsI w24M 161 5 (zI w24M 161 3)) _
                  refine zs_iconst (pc := 95) t67_95 (v := 0) (by decide) ?_
                  exact zs_iret (pc := 96) t67_96 mr67 (by decide) (hQ _ _ w24s w38 ((((zFr.refl).put rfl).trans (w24F.mono rfl)).put rfl) (by decide) (by decide))
          · refine zs_icmp_ltF (pc := 25) t67_25 rfl li6 (by omega) ?_
            refine zs_aload_n (pc := 28) t67_28 rfl ?_
            refine zs_aload_n (pc := 29) t67_29 rfl ?_
            refine zs_get (pc := 30) t67_30 (by decide) (zk1 (hs.k fk_zMc_161)) (zfvi rfl rfl) ?_
            refine zs_invV (pc := 33) (k := 161) (as' := [.int (zI M 161 3)]) (st := []) t67_33 mf78 rfl rfl (Or.inl ⟨by decide, (zk1 (hs.k fk_zMc_161))⟩) ⟨by decide, by omega, Nat.le_of_ble_eq_true rfl, Nat.le_of_ble_eq_true rfl⟩ (zs_in (by decide) mf78 (Nat.le_of_ble_eq_true rfl) ?_) (fun _ _ q => q)
            show zGo X l 0 0 0 78 0 [(0, .ref 161), (1, .int (zI M 161 3))] [] M _
            refine zs_aload_n (pc := 0) t78_0 rfl ?_
            refine zs_get (pc := 1) t78_1 (by decide) (zk1 (hs.k fk_zMc_161)) (zfvi rfl rfl) ?_
            refine zs_iconst (pc := 4) t78_4 (v := -1) (by decide) ?_
            refine zs_icmp_neF (pc := 5) t78_5 rfl lin1 (by omega) ?_
            refine zs_aload_n (pc := 8) t78_8 rfl ?_
            refine zs_iload_n (pc := 9) t78_9 rfl ?_
            have w39 : zIv cLo cHi (zsI M 161 5 (zI M 161 3)) := zIv.put hI (show (-2147483648) ≤ (zI M 161 3).toInt ∧ (zI M 161 3).toInt ≤ 2147483647 from (zrg (zI M 161 3)))
            refine zs_putI (pc := 10) t78_10 (zk1 (hs.k fk_zMc_161)) rfl ?_
            refine zs_vret (pc := 13) t78_13 mr78 ?_
            show zGo X l d 0 0 67 36 [(2, .int w10v), (0, .ref 161), (1, .int a)] [] (zsI M 161 5 (zI M 161 3)) _
            refine zs_iconst (pc := 36) t67_36 (v := 0) (by decide) ?_
            exact zs_iret (pc := 37) t67_37 mr67 (by decide) (hQ _ _ hs w39 ((zFr.refl).put rfl) (by decide) (by decide))
        · refine zs_icmp_eqF (pc := 14) t67_14 rfl li40 (by omega) ?_
          refine zs_aload_n (pc := 17) t67_17 rfl ?_
          refine zs_invV (pc := 18) (k := 161) (as' := []) (st := []) t67_18 mf69 rfl rfl (Or.inl ⟨by decide, (zk1 (hs.k fk_zMc_161))⟩) ⟨by decide, by omega, Nat.le_of_ble_eq_true rfl, Nat.le_of_ble_eq_true rfl⟩ (C69_161 hs hI ?_) (fun _ _ q => q)
          intro w40M w40v w40s w40I w40F w40a w40b
          show zGo X l d 0 0 67 21 [(2, .int w10v), (0, .ref 161), (1, .int a)] [.int w40v] w40M _
          exact zs_iret (pc := 21) t67_21 mr67 (zfb01 (by omega)) (hQ _ _ w40s w40I ((zFr.refl).trans (w40F.mono rfl)) (by omega) (by omega))
theorem RCall {X : zX} {l : Launch} : zTg X l 65 32 0 := by
  have stp : ∀ (K : Nat) (lo : Int), 8 ≤ K → zTg X l 67 K lo → zTg X l 67 (K + 3) (lo - 1) := fun K lo hK hT => RT (by omega) (RC (by omega) (RB hK hT)) (hT.le (by omega))
  have t6 : zTg X l 67 9 6 := RT (K := 8) (lo := 7) (Nat.le_refl _) zTg.no zTg.no
  have t5 : zTg X l 67 12 5 := stp 9 6 (by decide) t6
  have t4 : zTg X l 67 15 4 := stp 12 5 (by decide) t5
  have t3 : zTg X l 67 18 3 := stp 15 4 (by decide) t4
  have t2 : zTg X l 67 21 2 := stp 18 3 (by decide) t3
  have t1 : zTg X l 67 24 1 := stp 21 2 (by decide) t2
  have t0 : zTg X l 67 27 0 := stp 24 1 (by decide) t1
  exact (RC (by decide) (RB (by decide) t0)).le (by decide)
theorem C64_161_18 {X : zX} {l : Launch} {M : zM} {Q : Option Value → zM → Prop} {a : Int32} (hs : zSk zMc M) (hI : zIv cLo cHi M) (hQ : ∀ (M' : zM) (v : Int32), zSk zMc M' → zIv cLo cHi M' → zFr [(161, 161, none), (163, 163, none)] M M' → 0 ≤ v.toInt → v.toInt ≤ 1 → Q (some (.int v)) M') : zCall X l 98 0 0 64 [.ref 161, .ref 18, .int a] M Q := by
  have ga := zrg a
  refine zs_inD (by decide) mf64 (Nat.le_of_ble_eq_true rfl) ?_
  show zGo X l 98 0 0 64 0 [(0, .ref 161), (1, .ref 18), (2, .int a)] [] M _
  refine zs_aload_n (pc := 0) t64_0 rfl ?_
  refine zs_iconst (pc := 1) t64_1 (v := 0) (by decide) ?_
  refine zs_iload_n (pc := 2) t64_2 rfl ?_
  refine zs_sipush (pc := 3) t64_3 (v := 500) (by decide) ?_
  refine zs_invS (pc := 6) (as := [.int a, .int (500 : Int32)]) (st := [.int (0 : Int32), .ref 161]) t64_6 (by decide) mf20 rfl rfl ⟨by decide, by decide, Nat.le_of_ble_eq_true rfl, Nat.le_of_ble_eq_true rfl⟩ (zs_in (by decide) mf20 (Nat.le_of_ble_eq_true rfl) ?_) (fun _ _ q => q)
  show zGo X l 0 0 0 20 0 [(0, .int a), (1, .int (500 : Int32))] [] M _
  refine zs_iload_n (pc := 0) t20_0 rfl ?_
  refine zs_iload_n (pc := 1) t20_1 rfl ?_
  by_cases w1 : 500 < a.toInt
  · refine zs_icmp_gtT (pc := 2) t20_2 rfl li500 (by omega) ?_
    refine zs_iload_n (pc := 9) t20_9 rfl ?_
    refine zs_iret (pc := 10) t20_10 mr20 (by decide) ?_
    show zGo X l 98 0 0 64 9 [(0, .ref 161), (1, .ref 18), (2, .int a)] [.int (500 : Int32), .int (0 : Int32), .ref 161] M _
    refine zs_invS (pc := 9) (as := [.int (0 : Int32), .int (500 : Int32)]) (st := [.ref 161]) t64_9 (by decide) mf21 rfl rfl ⟨by decide, by decide, Nat.le_of_ble_eq_true rfl, Nat.le_of_ble_eq_true rfl⟩ (zs_in (by decide) mf21 (Nat.le_of_ble_eq_true rfl) ?_) (fun _ _ q => q)
    show zGo X l 0 0 0 21 0 [(0, .int (0 : Int32)), (1, .int (500 : Int32))] [] M _
    refine zs_iload_n (pc := 0) t21_0 rfl ?_
    refine zs_iload_n (pc := 1) t21_1 rfl ?_
    refine zs_icmp_ltT (pc := 2) t21_2 li0 li500 (by decide) ?_
    refine zs_iload_n (pc := 9) t21_9 rfl ?_
    refine zs_iret (pc := 10) t21_10 mr21 (by decide) ?_
    show zGo X l 98 0 0 64 12 [(0, .ref 161), (1, .ref 18), (2, .int a)] [.int (500 : Int32), .ref 161] M _
    have w2 : zIv cLo cHi (zsI M 161 2 (500 : Int32)) := zIv.put hI (show 0 ≤ (500 : Int32).toInt ∧ (500 : Int32).toInt ≤ 500 from ⟨by decide, by decide⟩)
    refine zs_putI (pc := 12) t64_12 (zk1 (hs.k fk_zMc_161)) rfl ?_
    refine zs_aload_n (pc := 15) t64_15 rfl ?_
    refine zs_iconst (pc := 16) t64_16 (v := 0) (by decide) ?_
    refine zs_aload_n (pc := 17) t64_17 rfl ?_
    refine zs_get (pc := 18) t64_18 (by decide) (zk1 (hs.k fk_zMc_161)) (hs.p rfl fv_zMc_161_1) ?_
    refine zs_iconst (pc := 21) t64_21 (v := 0) (by decide) ?_
    refine zs_aload_n (pc := 22) t64_22 rfl ?_
    refine zs_get (pc := 23) t64_23 (by decide) (zk1 (hs.k fk_zMc_161)) (zfvi rfl zIs) ?_
    have w3 := li500
    have w4 := li0
    have w5 := li0
    refine zs_copy (pc := 26) t64_26 (hs.k fk_zMc_18) (hs.k fk_zMc_163) (by decide) (by decide) (by decide) ⟨by omega, by omega, by omega⟩ (by omega) (by omega) ⟨Nat.le_of_ble_eq_true rfl, by decide⟩ ?_
    obtain ⟨w6M, w6e⟩ : ∃ N, N = zsR (zsI M 161 2 (500 : Int32)) 163 (va_cpy (zI (zsI M 161 2 (500 : Int32)) 18) (zI (zsI M 161 2 (500 : Int32)) 163) (0 : Int32).toNatClampNeg (0 : Int32).toNatClampNeg (500 : Int32).toNatClampNeg) := ⟨_, rfl⟩
    have w6s : zSk zMc w6M := by rw [w6e]; exact hs
    have w6I : zIv cLo cHi w6M := by rw [w6e]; exact zIv.row w2 (fun _ => zcpyB (fun j => ib18 w2 j) (fun j => ib163 w2 j))
    have w6F : zFr [(163, 163, none)] (zsI M 161 2 (500 : Int32)) w6M := by rw [w6e]; exact zFr.row zFr.refl (fun _ => rfl)
    rw [← w6e]
    refine zs_aload_n (pc := 29) t64_29 rfl ?_
    refine zs_iconst (pc := 30) t64_30 (v := 0) (by decide) ?_
    have w7 : zIv cLo cHi (zsI w6M 161 3 (0 : Int32)) := zIv.put w6I (show 0 ≤ (0 : Int32).toInt ∧ (0 : Int32).toInt ≤ 500 from ⟨by decide, by decide⟩)
    refine zs_putI (pc := 31) t64_31 (zk1 (w6s.k fk_zMc_161)) rfl ?_
    refine zs_aload_n (pc := 34) t64_34 rfl ?_
    refine zs_iconst (pc := 35) t64_35 (v := 0) (by decide) ?_
    have w8 : zIv cLo cHi (zsI (zsI w6M 161 3 (0 : Int32)) 161 4 (0 : Int32)) := zIv.put w7 (show 0 ≤ (0 : Int32).toInt ∧ (0 : Int32).toInt ≤ 30 from ⟨by decide, by decide⟩)
    refine zs_putI (pc := 36) t64_36 (zk1 (w6s.k fk_zMc_161)) rfl ?_
    refine zs_aload_n (pc := 39) t64_39 rfl ?_
    refine zs_iconst (pc := 40) t64_40 (v := -1) (by decide) ?_
    have w9 : zIv cLo cHi (zsI (zsI (zsI w6M 161 3 (0 : Int32)) 161 4 (0 : Int32)) 161 5 (-1 : Int32)) := zIv.put w8 (show (-2147483648) ≤ (-1 : Int32).toInt ∧ (-1 : Int32).toInt ≤ 2147483647 from (zrg (-1 : Int32)))
    refine zs_putI (pc := 41) t64_41 (zk1 (w6s.k fk_zMc_161)) rfl ?_
    refine zs_aload_n (pc := 44) t64_44 rfl ?_
    refine zs_iconst (pc := 45) t64_45 (v := 0) (by decide) ?_
    refine zs_invV9 (pc := 46) (k := 161) (as' := [.int (0 : Int32)]) (st := []) t64_46 mf65 rfl rfl (Or.inl ⟨by decide, (zk1 (w6s.k fk_zMc_161))⟩) ⟨by decide, Nat.le_of_ble_eq_true rfl, Nat.le_of_ble_eq_true rfl⟩ (RCall _ _ _ _ (by decide) w6s w9 (by decide) (by decide) ?_) (fun _ _ q => q)
    intro w10M w10v w10s w10I w10F w10a w10b
    show zGo X l 98 0 0 64 49 [(0, .ref 161), (1, .ref 18), (2, .int a)] [.int w10v] w10M _
    refine zs_istore_n (pc := 49) t64_49 (ls' := [(3, .int w10v), (0, .ref 161), (1, .ref 18), (2, .int a)]) (zml mf64 (by decide)) rfl ?_
    refine zs_aload_n (pc := 50) t64_50 rfl ?_
    have w11 := ib161_5 w10I
    refine zs_get (pc := 51) t64_51 (by decide) (zk1 (w10s.k fk_zMc_161)) (zfvi rfl rfl) ?_
    refine zs_iconst (pc := 54) t64_54 (v := -1) (by decide) ?_
    by_cases w12 : (zI w10M 161 5).toInt ≠ (-1)
    · refine zs_icmp_neT (pc := 55) t64_55 rfl lin1 (by omega) ?_
      refine zs_iload_n (pc := 77) t64_77 rfl ?_
      by_cases w13 : w10v.toInt = 0
      · refine zs_if_eqT (pc := 78) t64_78 rfl (by omega) ?_
        refine zs_iconst (pc := 93) t64_93 (v := 0) (by decide) ?_
        exact zs_iret (pc := 94) t64_94 mr64 (by decide) (hQ _ _ w10s w10I (((((((zFr.refl).put rfl).trans (w6F.mono rfl)).put rfl).put rfl).put rfl).trans (w10F.mono rfl)) (by decide) (by decide))
      · refine zs_if_eqF (pc := 78) t64_78 rfl (by omega) ?_
        refine zs_aload_n (pc := 81) t64_81 rfl ?_
        refine zs_get (pc := 82) t64_82 (by decide) (zk1 (w10s.k fk_zMc_161)) (zfvi rfl rfl) ?_
        refine zs_iconst (pc := 85) t64_85 (v := -1) (by decide) ?_
        refine zs_icmp_neT (pc := 86) t64_86 rfl lin1 (by omega) ?_
        refine zs_iconst (pc := 93) t64_93 (v := 0) (by decide) ?_
        exact zs_iret (pc := 94) t64_94 mr64 (by decide) (hQ _ _ w10s w10I (((((((zFr.refl).put rfl).trans (w6F.mono rfl)).put rfl).put rfl).put rfl).trans (w10F.mono rfl)) (by decide) (by decide))
    · refine zs_icmp_neF (pc := 55) t64_55 rfl lin1 (by omega) ?_
      refine zs_aload_n (pc := 58) t64_58 rfl ?_
      have w14 := ib161_3 w10I
      refine zs_get (pc := 59) t64_59 (by decide) (zk1 (w10s.k fk_zMc_161)) (zfvi rfl rfl) ?_
      refine zs_aload_n (pc := 62) t64_62 rfl ?_
      have w15 := ib161_2 w10I
      refine zs_get (pc := 63) t64_63 (by decide) (zk1 (w10s.k fk_zMc_161)) (zfvi rfl rfl) ?_
      by_cases w16 : (zI w10M 161 2).toInt ≤ (zI w10M 161 3).toInt
      · refine zs_icmp_geT (pc := 66) t64_66 rfl rfl (by omega) ?_
        refine zs_iload_n (pc := 77) t64_77 rfl ?_
        by_cases w17 : w10v.toInt = 0
        · refine zs_if_eqT (pc := 78) t64_78 rfl (by omega) ?_
          refine zs_iconst (pc := 93) t64_93 (v := 0) (by decide) ?_
          exact zs_iret (pc := 94) t64_94 mr64 (by decide) (hQ _ _ w10s w10I (((((((zFr.refl).put rfl).trans (w6F.mono rfl)).put rfl).put rfl).put rfl).trans (w10F.mono rfl)) (by decide) (by decide))
        · refine zs_if_eqF (pc := 78) t64_78 rfl (by omega) ?_
          refine zs_aload_n (pc := 81) t64_81 rfl ?_
          refine zs_get (pc := 82) t64_82 (by decide) (zk1 (w10s.k fk_zMc_161)) (zfvi rfl rfl) ?_
          refine zs_iconst (pc := 85) t64_85 (v := -1) (by decide) ?_
          refine zs_icmp_neF (pc := 86) t64_86 rfl lin1 (by omega) ?_
          refine zs_iconst (pc := 89) t64_89 (v := 1) (by decide) ?_
          refine zs_goto (pc := 90) t64_90 ?_
          exact zs_iret (pc := 94) t64_94 mr64 (by decide) (hQ _ _ w10s w10I (((((((zFr.refl).put rfl).trans (w6F.mono rfl)).put rfl).put rfl).put rfl).trans (w10F.mono rfl)) (by decide) (by decide))
      · refine zs_icmp_geF (pc := 66) t64_66 rfl rfl (by omega) ?_
        refine zs_aload_n (pc := 69) t64_69 rfl ?_
        refine zs_aload_n (pc := 70) t64_70 rfl ?_
        refine zs_get (pc := 71) t64_71 (by decide) (zk1 (w10s.k fk_zMc_161)) (zfvi rfl rfl) ?_
        refine zs_invV (pc := 74) (k := 161) (as' := [.int (zI w10M 161 3)]) (st := []) t64_74 mf78 rfl rfl (Or.inl ⟨by decide, (zk1 (w10s.k fk_zMc_161))⟩) ⟨by decide, by decide, Nat.le_of_ble_eq_true rfl, Nat.le_of_ble_eq_true rfl⟩ (zs_in (by decide) mf78 (Nat.le_of_ble_eq_true rfl) ?_) (fun _ _ q => q)
        show zGo X l 0 0 0 78 0 [(0, .ref 161), (1, .int (zI w10M 161 3))] [] w10M _
        refine zs_aload_n (pc := 0) t78_0 rfl ?_
        refine zs_get (pc := 1) t78_1 (by decide) (zk1 (w10s.k fk_zMc_161)) (zfvi rfl rfl) ?_
        refine zs_iconst (pc := 4) t78_4 (v := -1) (by decide) ?_
        refine zs_icmp_neF (pc := 5) t78_5 rfl lin1 (by omega) ?_
        refine zs_aload_n (pc := 8) t78_8 rfl ?_
        refine zs_iload_n (pc := 9) t78_9 rfl ?_
        have w18 : zIv cLo cHi (zsI w10M 161 5 (zI w10M 161 3)) := zIv.put w10I (show (-2147483648) ≤ (zI w10M 161 3).toInt ∧ (zI w10M 161 3).toInt ≤ 2147483647 from (zrg (zI w10M 161 3)))
        refine zs_putI (pc := 10) t78_10 (zk1 (w10s.k fk_zMc_161)) rfl ?_
        refine zs_vret (pc := 13) t78_13 mr78 ?_
        show zGo X l 98 0 0 64 77 [(3, .int w10v), (0, .ref 161), (1, .ref 18), (2, .int a)] [] (zsI w10M 161 5 (zI w10M 161 3)) _
        refine zs_iload_n (pc := 77) t64_77 rfl ?_
        by_cases w19 : w10v.toInt = 0
        · refine zs_if_eqT (pc := 78) t64_78 rfl (by omega) ?_
          refine zs_iconst (pc := 93) t64_93 (v := 0) (by decide) ?_
          exact zs_iret (pc := 94) t64_94 mr64 (by decide) (hQ _ _ w10s w18 ((((((((zFr.refl).put rfl).trans (w6F.mono rfl)).put rfl).put rfl).put rfl).trans (w10F.mono rfl)).put rfl) (by decide) (by decide))
        · refine zs_if_eqF (pc := 78) t64_78 rfl (by omega) ?_
          refine zs_aload_n (pc := 81) t64_81 rfl ?_
          refine zs_get (pc := 82) t64_82 (by decide) (zk1 (w10s.k fk_zMc_161)) (zfvi rfl zIs) ?_
          refine zs_iconst (pc := 85) t64_85 (v := -1) (by decide) ?_
          refine zs_icmp_neT (pc := 86) t64_86 rfl lin1 (by omega) ?_
          refine zs_iconst (pc := 93) t64_93 (v := 0) (by decide) ?_
          exact zs_iret (pc := 94) t64_94 mr64 (by decide) (hQ _ _ w10s w18 ((((((((zFr.refl).put rfl).trans (w6F.mono rfl)).put rfl).put rfl).put rfl).trans (w10F.mono rfl)).put rfl) (by decide) (by decide))
  · refine zs_icmp_gtF (pc := 2) t20_2 rfl li500 (by omega) ?_
    refine zs_iload_n (pc := 5) t20_5 rfl ?_
    refine zs_goto (pc := 6) t20_6 ?_
    refine zs_iret (pc := 10) t20_10 mr20 rfl ?_
    show zGo X l 98 0 0 64 9 [(0, .ref 161), (1, .ref 18), (2, .int a)] [.int a, .int (0 : Int32), .ref 161] M _
    refine zs_invS (pc := 9) (as := [.int (0 : Int32), .int a]) (st := [.ref 161]) t64_9 (by decide) mf21 rfl rfl ⟨by decide, by decide, Nat.le_of_ble_eq_true rfl, Nat.le_of_ble_eq_true rfl⟩ (zs_in (by decide) mf21 (Nat.le_of_ble_eq_true rfl) ?_) (fun _ _ q => q)
    show zGo X l 0 0 0 21 0 [(0, .int (0 : Int32)), (1, .int a)] [] M _
    refine zs_iload_n (pc := 0) t21_0 rfl ?_
    refine zs_iload_n (pc := 1) t21_1 rfl ?_
    by_cases w20 : 0 < a.toInt
    · refine zs_icmp_ltT (pc := 2) t21_2 li0 rfl (by omega) ?_
      refine zs_iload_n (pc := 9) t21_9 rfl ?_
      refine zs_iret (pc := 10) t21_10 mr21 rfl ?_
      show zGo X l 98 0 0 64 12 [(0, .ref 161), (1, .ref 18), (2, .int a)] [.int a, .ref 161] M _
      have w21 : zIv cLo cHi (zsI M 161 2 a) := zIv.put hI (show 0 ≤ a.toInt ∧ a.toInt ≤ 500 from ⟨by omega, by omega⟩)
      refine zs_putI (pc := 12) t64_12 (zk1 (hs.k fk_zMc_161)) rfl ?_
      refine zs_aload_n (pc := 15) t64_15 rfl ?_
      refine zs_iconst (pc := 16) t64_16 (v := 0) (by decide) ?_
      refine zs_aload_n (pc := 17) t64_17 rfl ?_
      refine zs_get (pc := 18) t64_18 (by decide) (zk1 (hs.k fk_zMc_161)) (hs.p rfl fv_zMc_161_1) ?_
      refine zs_iconst (pc := 21) t64_21 (v := 0) (by decide) ?_
      refine zs_aload_n (pc := 22) t64_22 rfl ?_
      refine zs_get (pc := 23) t64_23 (by decide) (zk1 (hs.k fk_zMc_161)) (zfvi rfl zIs) ?_
      have w22 := li0
      have w23 := li0
      refine zs_copy (pc := 26) t64_26 (hs.k fk_zMc_18) (hs.k fk_zMc_163) (by decide) (by decide) (by decide) ⟨by omega, by omega, by omega⟩ (by omega) (by omega) ⟨Nat.le_of_ble_eq_true rfl, by decide⟩ ?_
      obtain ⟨w24M, w24e⟩ : ∃ N, N = zsR (zsI M 161 2 a) 163 (va_cpy (zI (zsI M 161 2 a) 18) (zI (zsI M 161 2 a) 163) (0 : Int32).toNatClampNeg (0 : Int32).toNatClampNeg a.toNatClampNeg) := ⟨_, rfl⟩
      have w24s : zSk zMc w24M := by rw [w24e]; exact hs
      have w24I : zIv cLo cHi w24M := by rw [w24e]; exact zIv.row w21 (fun _ => zcpyB (fun j => ib18 w21 j) (fun j => ib163 w21 j))
      have w24F : zFr [(163, 163, none)] (zsI M 161 2 a) w24M := by rw [w24e]; exact zFr.row zFr.refl (fun _ => rfl)
      rw [← w24e]
      refine zs_aload_n (pc := 29) t64_29 rfl ?_
      refine zs_iconst (pc := 30) t64_30 (v := 0) (by decide) ?_
      have w25 : zIv cLo cHi (zsI w24M 161 3 (0 : Int32)) := zIv.put w24I (show 0 ≤ (0 : Int32).toInt ∧ (0 : Int32).toInt ≤ 500 from ⟨by decide, by decide⟩)
      refine zs_putI (pc := 31) t64_31 (zk1 (w24s.k fk_zMc_161)) rfl ?_
      refine zs_aload_n (pc := 34) t64_34 rfl ?_
      refine zs_iconst (pc := 35) t64_35 (v := 0) (by decide) ?_
      have w26 : zIv cLo cHi (zsI (zsI w24M 161 3 (0 : Int32)) 161 4 (0 : Int32)) := zIv.put w25 (show 0 ≤ (0 : Int32).toInt ∧ (0 : Int32).toInt ≤ 30 from ⟨by decide, by decide⟩)
      refine zs_putI (pc := 36) t64_36 (zk1 (w24s.k fk_zMc_161)) rfl ?_
      refine zs_aload_n (pc := 39) t64_39 rfl ?_
      refine zs_iconst (pc := 40) t64_40 (v := -1) (by decide) ?_
      have w27 : zIv cLo cHi (zsI (zsI (zsI w24M 161 3 (0 : Int32)) 161 4 (0 : Int32)) 161 5 (-1 : Int32)) := zIv.put w26 (show (-2147483648) ≤ (-1 : Int32).toInt ∧ (-1 : Int32).toInt ≤ 2147483647 from (zrg (-1 : Int32)))
      refine zs_putI (pc := 41) t64_41 (zk1 (w24s.k fk_zMc_161)) rfl ?_
      refine zs_aload_n (pc := 44) t64_44 rfl ?_
      refine zs_iconst (pc := 45) t64_45 (v := 0) (by decide) ?_
      refine zs_invV9 (pc := 46) (k := 161) (as' := [.int (0 : Int32)]) (st := []) t64_46 mf65 rfl rfl (Or.inl ⟨by decide, (zk1 (w24s.k fk_zMc_161))⟩) ⟨by decide, Nat.le_of_ble_eq_true rfl, Nat.le_of_ble_eq_true rfl⟩ (RCall _ _ _ _ (by decide) w24s w27 (by decide) (by decide) ?_) (fun _ _ q => q)
      intro w28M w28v w28s w28I w28F w28a w28b
      show zGo X l 98 0 0 64 49 [(0, .ref 161), (1, .ref 18), (2, .int a)] [.int w28v] w28M _
      refine zs_istore_n (pc := 49) t64_49 (ls' := [(3, .int w28v), (0, .ref 161), (1, .ref 18), (2, .int a)]) (zml mf64 (by decide)) rfl ?_
      refine zs_aload_n (pc := 50) t64_50 rfl ?_
      have w29 := ib161_5 w28I
      refine zs_get (pc := 51) t64_51 (by decide) (zk1 (w28s.k fk_zMc_161)) (zfvi rfl rfl) ?_
      refine zs_iconst (pc := 54) t64_54 (v := -1) (by decide) ?_
      by_cases w30 : (zI w28M 161 5).toInt ≠ (-1)
      · refine zs_icmp_neT (pc := 55) t64_55 rfl lin1 (by omega) ?_
        refine zs_iload_n (pc := 77) t64_77 rfl ?_
        by_cases w31 : w28v.toInt = 0
        · refine zs_if_eqT (pc := 78) t64_78 rfl (by omega) ?_
          refine zs_iconst (pc := 93) t64_93 (v := 0) (by decide) ?_
          exact zs_iret (pc := 94) t64_94 mr64 (by decide) (hQ _ _ w28s w28I (((((((zFr.refl).put rfl).trans (w24F.mono rfl)).put rfl).put rfl).put rfl).trans (w28F.mono rfl)) (by decide) (by decide))
        · refine zs_if_eqF (pc := 78) t64_78 rfl (by omega) ?_
          refine zs_aload_n (pc := 81) t64_81 rfl ?_
          refine zs_get (pc := 82) t64_82 (by decide) (zk1 (w28s.k fk_zMc_161)) (zfvi rfl rfl) ?_
          refine zs_iconst (pc := 85) t64_85 (v := -1) (by decide) ?_
          refine zs_icmp_neT (pc := 86) t64_86 rfl lin1 (by omega) ?_
          refine zs_iconst (pc := 93) t64_93 (v := 0) (by decide) ?_
          exact zs_iret (pc := 94) t64_94 mr64 (by decide) (hQ _ _ w28s w28I (((((((zFr.refl).put rfl).trans (w24F.mono rfl)).put rfl).put rfl).put rfl).trans (w28F.mono rfl)) (by decide) (by decide))
      · refine zs_icmp_neF (pc := 55) t64_55 rfl lin1 (by omega) ?_
        refine zs_aload_n (pc := 58) t64_58 rfl ?_
        have w32 := ib161_3 w28I
        refine zs_get (pc := 59) t64_59 (by decide) (zk1 (w28s.k fk_zMc_161)) (zfvi rfl rfl) ?_
        refine zs_aload_n (pc := 62) t64_62 rfl ?_
        have w33 := ib161_2 w28I
        refine zs_get (pc := 63) t64_63 (by decide) (zk1 (w28s.k fk_zMc_161)) (zfvi rfl rfl) ?_
        by_cases w34 : (zI w28M 161 2).toInt ≤ (zI w28M 161 3).toInt
        · refine zs_icmp_geT (pc := 66) t64_66 rfl rfl (by omega) ?_
          refine zs_iload_n (pc := 77) t64_77 rfl ?_
          by_cases w35 : w28v.toInt = 0
          · refine zs_if_eqT (pc := 78) t64_78 rfl (by omega) ?_
            refine zs_iconst (pc := 93) t64_93 (v := 0) (by decide) ?_
            exact zs_iret (pc := 94) t64_94 mr64 (by decide) (hQ _ _ w28s w28I (((((((zFr.refl).put rfl).trans (w24F.mono rfl)).put rfl).put rfl).put rfl).trans (w28F.mono rfl)) (by decide) (by decide))
          · refine zs_if_eqF (pc := 78) t64_78 rfl (by omega) ?_
            refine zs_aload_n (pc := 81) t64_81 rfl ?_
            refine zs_get (pc := 82) t64_82 (by decide) (zk1 (w28s.k fk_zMc_161)) (zfvi rfl rfl) ?_
            refine zs_iconst (pc := 85) t64_85 (v := -1) (by decide) ?_
            refine zs_icmp_neF (pc := 86) t64_86 rfl lin1 (by omega) ?_
            refine zs_iconst (pc := 89) t64_89 (v := 1) (by decide) ?_
            refine zs_goto (pc := 90) t64_90 ?_
            exact zs_iret (pc := 94) t64_94 mr64 (by decide) (hQ _ _ w28s w28I (((((((zFr.refl).put rfl).trans (w24F.mono rfl)).put rfl).put rfl).put rfl).trans (w28F.mono rfl)) (by decide) (by decide))
        · refine zs_icmp_geF (pc := 66) t64_66 rfl rfl (by omega) ?_
          refine zs_aload_n (pc := 69) t64_69 rfl ?_
          refine zs_aload_n (pc := 70) t64_70 rfl ?_
          refine zs_get (pc := 71) t64_71 (by decide) (zk1 (w28s.k fk_zMc_161)) (zfvi rfl rfl) ?_
          refine zs_invV (pc := 74) (k := 161) (as' := [.int (zI w28M 161 3)]) (st := []) t64_74 mf78 rfl rfl (Or.inl ⟨by decide, (zk1 (w28s.k fk_zMc_161))⟩) ⟨by decide, by decide, Nat.le_of_ble_eq_true rfl, Nat.le_of_ble_eq_true rfl⟩ (zs_in (by decide) mf78 (Nat.le_of_ble_eq_true rfl) ?_) (fun _ _ q => q)
          show zGo X l 0 0 0 78 0 [(0, .ref 161), (1, .int (zI w28M 161 3))] [] w28M _
          refine zs_aload_n (pc := 0) t78_0 rfl ?_
          refine zs_get (pc := 1) t78_1 (by decide) (zk1 (w28s.k fk_zMc_161)) (zfvi rfl rfl) ?_
          refine zs_iconst (pc := 4) t78_4 (v := -1) (by decide) ?_
          refine zs_icmp_neF (pc := 5) t78_5 rfl lin1 (by omega) ?_
          refine zs_aload_n (pc := 8) t78_8 rfl ?_
          refine zs_iload_n (pc := 9) t78_9 rfl ?_
          have w36 : zIv cLo cHi (zsI w28M 161 5 (zI w28M 161 3)) := zIv.put w28I (show (-2147483648) ≤ (zI w28M 161 3).toInt ∧ (zI w28M 161 3).toInt ≤ 2147483647 from (zrg (zI w28M 161 3)))
          refine zs_putI (pc := 10) t78_10 (zk1 (w28s.k fk_zMc_161)) rfl ?_
          refine zs_vret (pc := 13) t78_13 mr78 ?_
          show zGo X l 98 0 0 64 77 [(3, .int w28v), (0, .ref 161), (1, .ref 18), (2, .int a)] [] (zsI w28M 161 5 (zI w28M 161 3)) _
          refine zs_iload_n (pc := 77) t64_77 rfl ?_
          by_cases w37 : w28v.toInt = 0
          · refine zs_if_eqT (pc := 78) t64_78 rfl (by omega) ?_
            refine zs_iconst (pc := 93) t64_93 (v := 0) (by decide) ?_
            exact zs_iret (pc := 94) t64_94 mr64 (by decide) (hQ _ _ w28s w36 ((((((((zFr.refl).put rfl).trans (w24F.mono rfl)).put rfl).put rfl).put rfl).trans (w28F.mono rfl)).put rfl) (by decide) (by decide))
          · refine zs_if_eqF (pc := 78) t64_78 rfl (by omega) ?_
            refine zs_aload_n (pc := 81) t64_81 rfl ?_
            refine zs_get (pc := 82) t64_82 (by decide) (zk1 (w28s.k fk_zMc_161)) (zfvi rfl zIs) ?_
            refine zs_iconst (pc := 85) t64_85 (v := -1) (by decide) ?_
            refine zs_icmp_neT (pc := 86) t64_86 rfl lin1 (by omega) ?_
            refine zs_iconst (pc := 93) t64_93 (v := 0) (by decide) ?_
            exact zs_iret (pc := 94) t64_94 mr64 (by decide) (hQ _ _ w28s w36 ((((((((zFr.refl).put rfl).trans (w24F.mono rfl)).put rfl).put rfl).put rfl).trans (w28F.mono rfl)).put rfl) (by decide) (by decide))
    · refine zs_icmp_ltF (pc := 2) t21_2 li0 rfl (by omega) ?_
      refine zs_iload_n (pc := 5) t21_5 rfl ?_
      refine zs_goto (pc := 6) t21_6 ?_
      refine zs_iret (pc := 10) t21_10 mr21 (by decide) ?_
      show zGo X l 98 0 0 64 12 [(0, .ref 161), (1, .ref 18), (2, .int a)] [.int (0 : Int32), .ref 161] M _
      have w38 : zIv cLo cHi (zsI M 161 2 (0 : Int32)) := zIv.put hI (show 0 ≤ (0 : Int32).toInt ∧ (0 : Int32).toInt ≤ 500 from ⟨by decide, by decide⟩)
      refine zs_putI (pc := 12) t64_12 (zk1 (hs.k fk_zMc_161)) rfl ?_
      refine zs_aload_n (pc := 15) t64_15 rfl ?_
      refine zs_iconst (pc := 16) t64_16 (v := 0) (by decide) ?_
      refine zs_aload_n (pc := 17) t64_17 rfl ?_
      refine zs_get (pc := 18) t64_18 (by decide) (zk1 (hs.k fk_zMc_161)) (hs.p rfl fv_zMc_161_1) ?_
      refine zs_iconst (pc := 21) t64_21 (v := 0) (by decide) ?_
      refine zs_aload_n (pc := 22) t64_22 rfl ?_
      refine zs_get (pc := 23) t64_23 (by decide) (zk1 (hs.k fk_zMc_161)) (zfvi rfl zIs) ?_
      have w39 := li0
      have w40 := li0
      have w41 := li0
      refine zs_copy (pc := 26) t64_26 (hs.k fk_zMc_18) (hs.k fk_zMc_163) (by decide) (by decide) (by decide) ⟨by omega, by omega, by omega⟩ (by omega) (by omega) ⟨Nat.le_of_ble_eq_true rfl, by decide⟩ ?_
      obtain ⟨w42M, w42e⟩ : ∃ N, N = zsR (zsI M 161 2 (0 : Int32)) 163 (va_cpy (zI (zsI M 161 2 (0 : Int32)) 18) (zI (zsI M 161 2 (0 : Int32)) 163) (0 : Int32).toNatClampNeg (0 : Int32).toNatClampNeg (0 : Int32).toNatClampNeg) := ⟨_, rfl⟩
      have w42s : zSk zMc w42M := by rw [w42e]; exact hs
      have w42I : zIv cLo cHi w42M := by rw [w42e]; exact zIv.row w38 (fun _ => zcpyB (fun j => ib18 w38 j) (fun j => ib163 w38 j))
      have w42F : zFr [(163, 163, none)] (zsI M 161 2 (0 : Int32)) w42M := by rw [w42e]; exact zFr.row zFr.refl (fun _ => rfl)
      rw [← w42e]
      refine zs_aload_n (pc := 29) t64_29 rfl ?_
      refine zs_iconst (pc := 30) t64_30 (v := 0) (by decide) ?_
      have w43 : zIv cLo cHi (zsI w42M 161 3 (0 : Int32)) := zIv.put w42I (show 0 ≤ (0 : Int32).toInt ∧ (0 : Int32).toInt ≤ 500 from ⟨by decide, by decide⟩)
      refine zs_putI (pc := 31) t64_31 (zk1 (w42s.k fk_zMc_161)) rfl ?_
      refine zs_aload_n (pc := 34) t64_34 rfl ?_
      refine zs_iconst (pc := 35) t64_35 (v := 0) (by decide) ?_
      have w44 : zIv cLo cHi (zsI (zsI w42M 161 3 (0 : Int32)) 161 4 (0 : Int32)) := zIv.put w43 (show 0 ≤ (0 : Int32).toInt ∧ (0 : Int32).toInt ≤ 30 from ⟨by decide, by decide⟩)
      refine zs_putI (pc := 36) t64_36 (zk1 (w42s.k fk_zMc_161)) rfl ?_
      refine zs_aload_n (pc := 39) t64_39 rfl ?_
      refine zs_iconst (pc := 40) t64_40 (v := -1) (by decide) ?_
      have w45 : zIv cLo cHi (zsI (zsI (zsI w42M 161 3 (0 : Int32)) 161 4 (0 : Int32)) 161 5 (-1 : Int32)) := zIv.put w44 (show (-2147483648) ≤ (-1 : Int32).toInt ∧ (-1 : Int32).toInt ≤ 2147483647 from (zrg (-1 : Int32)))
      refine zs_putI (pc := 41) t64_41 (zk1 (w42s.k fk_zMc_161)) rfl ?_
      refine zs_aload_n (pc := 44) t64_44 rfl ?_
      refine zs_iconst (pc := 45) t64_45 (v := 0) (by decide) ?_
      refine zs_invV9 (pc := 46) (k := 161) (as' := [.int (0 : Int32)]) (st := []) t64_46 mf65 rfl rfl (Or.inl ⟨by decide, (zk1 (w42s.k fk_zMc_161))⟩) ⟨by decide, Nat.le_of_ble_eq_true rfl, Nat.le_of_ble_eq_true rfl⟩ (RCall _ _ _ _ (by decide) w42s w45 (by decide) (by decide) ?_) (fun _ _ q => q)
      intro w46M w46v w46s w46I w46F w46a w46b
      show zGo X l 98 0 0 64 49 [(0, .ref 161), (1, .ref 18), (2, .int a)] [.int w46v] w46M _
      refine zs_istore_n (pc := 49) t64_49 (ls' := [(3, .int w46v), (0, .ref 161), (1, .ref 18), (2, .int a)]) (zml mf64 (by decide)) rfl ?_
      refine zs_aload_n (pc := 50) t64_50 rfl ?_
      have w47 := ib161_5 w46I
      refine zs_get (pc := 51) t64_51 (by decide) (zk1 (w46s.k fk_zMc_161)) (zfvi rfl rfl) ?_
      refine zs_iconst (pc := 54) t64_54 (v := -1) (by decide) ?_
      by_cases w48 : (zI w46M 161 5).toInt ≠ (-1)
      · refine zs_icmp_neT (pc := 55) t64_55 rfl lin1 (by omega) ?_
        refine zs_iload_n (pc := 77) t64_77 rfl ?_
        by_cases w49 : w46v.toInt = 0
        · refine zs_if_eqT (pc := 78) t64_78 rfl (by omega) ?_
          refine zs_iconst (pc := 93) t64_93 (v := 0) (by decide) ?_
          exact zs_iret (pc := 94) t64_94 mr64 (by decide) (hQ _ _ w46s w46I (((((((zFr.refl).put rfl).trans (w42F.mono rfl)).put rfl).put rfl).put rfl).trans (w46F.mono rfl)) (by decide) (by decide))
        · refine zs_if_eqF (pc := 78) t64_78 rfl (by omega) ?_
          refine zs_aload_n (pc := 81) t64_81 rfl ?_
          refine zs_get (pc := 82) t64_82 (by decide) (zk1 (w46s.k fk_zMc_161)) (zfvi rfl rfl) ?_
          refine zs_iconst (pc := 85) t64_85 (v := -1) (by decide) ?_
          refine zs_icmp_neT (pc := 86) t64_86 rfl lin1 (by omega) ?_
          refine zs_iconst (pc := 93) t64_93 (v := 0) (by decide) ?_
          exact zs_iret (pc := 94) t64_94 mr64 (by decide) (hQ _ _ w46s w46I (((((((zFr.refl).put rfl).trans (w42F.mono rfl)).put rfl).put rfl).put rfl).trans (w46F.mono rfl)) (by decide) (by decide))
      · refine zs_icmp_neF (pc := 55) t64_55 rfl lin1 (by omega) ?_
        refine zs_aload_n (pc := 58) t64_58 rfl ?_
        have w50 := ib161_3 w46I
        refine zs_get (pc := 59) t64_59 (by decide) (zk1 (w46s.k fk_zMc_161)) (zfvi rfl rfl) ?_
        refine zs_aload_n (pc := 62) t64_62 rfl ?_
        have w51 := ib161_2 w46I
        refine zs_get (pc := 63) t64_63 (by decide) (zk1 (w46s.k fk_zMc_161)) (zfvi rfl rfl) ?_
        by_cases w52 : (zI w46M 161 2).toInt ≤ (zI w46M 161 3).toInt
        · refine zs_icmp_geT (pc := 66) t64_66 rfl rfl (by omega) ?_
          refine zs_iload_n (pc := 77) t64_77 rfl ?_
          by_cases w53 : w46v.toInt = 0
          · refine zs_if_eqT (pc := 78) t64_78 rfl (by omega) ?_
            refine zs_iconst (pc := 93) t64_93 (v := 0) (by decide) ?_
            exact zs_iret (pc := 94) t64_94 mr64 (by decide) (hQ _ _ w46s w46I (((((((zFr.refl).put rfl).trans (w42F.mono rfl)).put rfl).put rfl).put rfl).trans (w46F.mono rfl)) (by decide) (by decide))
          · refine zs_if_eqF (pc := 78) t64_78 rfl (by omega) ?_
            refine zs_aload_n (pc := 81) t64_81 rfl ?_
            refine zs_get (pc := 82) t64_82 (by decide) (zk1 (w46s.k fk_zMc_161)) (zfvi rfl rfl) ?_
            refine zs_iconst (pc := 85) t64_85 (v := -1) (by decide) ?_
            refine zs_icmp_neF (pc := 86) t64_86 rfl lin1 (by omega) ?_
            refine zs_iconst (pc := 89) t64_89 (v := 1) (by decide) ?_
            refine zs_goto (pc := 90) t64_90 ?_
            exact zs_iret (pc := 94) t64_94 mr64 (by decide) (hQ _ _ w46s w46I (((((((zFr.refl).put rfl).trans (w42F.mono rfl)).put rfl).put rfl).put rfl).trans (w46F.mono rfl)) (by decide) (by decide))
        · refine zs_icmp_geF (pc := 66) t64_66 rfl rfl (by omega) ?_
          refine zs_aload_n (pc := 69) t64_69 rfl ?_
          refine zs_aload_n (pc := 70) t64_70 rfl ?_
          refine zs_get (pc := 71) t64_71 (by decide) (zk1 (w46s.k fk_zMc_161)) (zfvi rfl rfl) ?_
          refine zs_invV (pc := 74) (k := 161) (as' := [.int (zI w46M 161 3)]) (st := []) t64_74 mf78 rfl rfl (Or.inl ⟨by decide, (zk1 (w46s.k fk_zMc_161))⟩) ⟨by decide, by decide, Nat.le_of_ble_eq_true rfl, Nat.le_of_ble_eq_true rfl⟩ (zs_in (by decide) mf78 (Nat.le_of_ble_eq_true rfl) ?_) (fun _ _ q => q)
          show zGo X l 0 0 0 78 0 [(0, .ref 161), (1, .int (zI w46M 161 3))] [] w46M _
          refine zs_aload_n (pc := 0) t78_0 rfl ?_
          refine zs_get (pc := 1) t78_1 (by decide) (zk1 (w46s.k fk_zMc_161)) (zfvi rfl rfl) ?_
          refine zs_iconst (pc := 4) t78_4 (v := -1) (by decide) ?_
          refine zs_icmp_neF (pc := 5) t78_5 rfl lin1 (by omega) ?_
          refine zs_aload_n (pc := 8) t78_8 rfl ?_
          refine zs_iload_n (pc := 9) t78_9 rfl ?_
          have w54 : zIv cLo cHi (zsI w46M 161 5 (zI w46M 161 3)) := zIv.put w46I (show (-2147483648) ≤ (zI w46M 161 3).toInt ∧ (zI w46M 161 3).toInt ≤ 2147483647 from (zrg (zI w46M 161 3)))
          refine zs_putI (pc := 10) t78_10 (zk1 (w46s.k fk_zMc_161)) rfl ?_
          refine zs_vret (pc := 13) t78_13 mr78 ?_
          show zGo X l 98 0 0 64 77 [(3, .int w46v), (0, .ref 161), (1, .ref 18), (2, .int a)] [] (zsI w46M 161 5 (zI w46M 161 3)) _
          refine zs_iload_n (pc := 77) t64_77 rfl ?_
          by_cases w55 : w46v.toInt = 0
          · refine zs_if_eqT (pc := 78) t64_78 rfl (by omega) ?_
            refine zs_iconst (pc := 93) t64_93 (v := 0) (by decide) ?_
            exact zs_iret (pc := 94) t64_94 mr64 (by decide) (hQ _ _ w46s w54 ((((((((zFr.refl).put rfl).trans (w42F.mono rfl)).put rfl).put rfl).put rfl).trans (w46F.mono rfl)).put rfl) (by decide) (by decide))
          · refine zs_if_eqF (pc := 78) t64_78 rfl (by omega) ?_
            refine zs_aload_n (pc := 81) t64_81 rfl ?_
            refine zs_get (pc := 82) t64_82 (by decide) (zk1 (w46s.k fk_zMc_161)) (zfvi rfl zIs) ?_
            refine zs_iconst (pc := 85) t64_85 (v := -1) (by decide) ?_
            refine zs_icmp_neT (pc := 86) t64_86 rfl lin1 (by omega) ?_
            refine zs_iconst (pc := 93) t64_93 (v := 0) (by decide) ?_
            exact zs_iret (pc := 94) t64_94 mr64 (by decide) (hQ _ _ w46s w54 ((((((((zFr.refl).put rfl).trans (w42F.mono rfl)).put rfl).put rfl).put rfl).trans (w46F.mono rfl)).put rfl) (by decide) (by decide))
