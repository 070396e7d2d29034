theorem li42 : (42 : Int32).toInt = 42 := by decide
theorem li43 : (43 : Int32).toInt = 43 := by decide
theorem li61 : (61 : Int32).toInt = 61 := by decide
theorem li62 : (62 : Int32).toInt = 62 := by decide
theorem mf6 : zmf 6 1 30 1 1 := by unfold zmf; decide +kernel
theorem mf7 : zmf 7 1 30 0 1 := by unfold zmf; decide +kernel
theorem mf68 : zmf 68 1 9 0 1 := by unfold zmf; decide +kernel
theorem mf69 : zmf 69 1 9 6 4 := by unfold zmf; decide +kernel
theorem mf70 : zmf 70 1 9 5 5 := by unfold zmf; decide +kernel
theorem mf71 : zmf 71 1 9 4 3 := by unfold zmf; decide +kernel
theorem mf72 : zmf 72 2 30 3 2 := by unfold zmf; decide +kernel
theorem mf73 : zmf 73 3 30 2 3 := by unfold zmf; decide +kernel
theorem mf74 : zmf 74 1 30 0 1 := by unfold zmf; decide +kernel
theorem mf75 : zmf 75 4 99 1 4 := by unfold zmf; decide +kernel
theorem mf76 : zmf 76 1 99 0 1 := by unfold zmf; decide +kernel
theorem mf77 : zmf 77 4 99 0 6 := by unfold zmf; decide +kernel
theorem mf78 : zmf 78 2 9 0 2 := by unfold zmf; decide +kernel
theorem mf79 : zmf 79 1 9 1 3 := by unfold zmf; decide +kernel
theorem mf181 : zmf 181 2 30 3 2 := by unfold zmf; decide +kernel
theorem mf182 : zmf 182 2 99 2 2 := by unfold zmf; decide +kernel
theorem mf183 : zmf 183 2 30 1 2 := by unfold zmf; decide +kernel
theorem mf184 : zmf 184 3 99 0 3 := by unfold zmf; decide +kernel
theorem mr6 : (mt 6).2.2.2.1 = some .int := by decide +kernel
theorem mr7 : (mt 7).2.2.2.1 = some .byte := by decide +kernel
theorem mr68 : (mt 68).2.2.2.1 = some .int := by decide +kernel
theorem mr69 : (mt 69).2.2.2.1 = some .boolean := by decide +kernel
theorem mr70 : (mt 70).2.2.2.1 = some .int := by decide +kernel
theorem mr71 : (mt 71).2.2.2.1 = some .int := by decide +kernel
theorem mr72 : (mt 72).2.2.2.1 = some .int := by decide +kernel
theorem mr73 : (mt 73).2.2.2.1 = some .int := by decide +kernel
theorem mr74 : (mt 74).2.2.2.1 = some .boolean := by decide +kernel
theorem mr75 : (mt 75).2.2.2.1 = some .int := by decide +kernel
theorem mr76 : (mt 76).2.2.2.1 = some .boolean := by decide +kernel
theorem mr77 : (mt 77).2.2.2.1 = some .int := by decide +kernel
theorem mr78 : (mt 78).2.2.2.1 = none := by decide +kernel
theorem mr79 : (mt 79).2.2.2.1 = some .int := by decide +kernel
theorem mr181 : (mt 181).2.2.2.1 = some .char := by decide +kernel
theorem mr182 : (mt 182).2.2.2.1 = some .char := by decide +kernel
theorem mr183 : (mt 183).2.2.2.1 = none := by decide +kernel
theorem mr184 : (mt 184).2.2.2.1 = some .int := by decide +kernel
theorem t6_0 : zT 6 0 = some (.aload_n 0, 1, 0, 0, 0, 0) := (congrArg (fun t => List.lookup 0 t) gt6).trans rfl
theorem t6_1 : zT 6 1 = some (.getfield 9, 3, 30, 0, 0, 2273) := (congrArg (fun t => List.lookup 1 t) gt6).trans rfl
theorem t6_4 : zT 6 4 = some (.arraylength, 1, 0, 0, 0, 0) := (congrArg (fun t => List.lookup 4 t) gt6).trans rfl
theorem t6_5 : zT 6 5 = some (.aload_n 0, 1, 0, 0, 0, 0) := (congrArg (fun t => List.lookup 5 t) gt6).trans rfl
theorem t6_6 : zT 6 6 = some (.invokevirtual 335, 3, 7, 0, 0, 306) := (congrArg (fun t => List.lookup 6 t) gt6).trans rfl
theorem t6_9 : zT 6 9 = some (.ishr, 1, 0, 0, 0, 0) := (congrArg (fun t => List.lookup 9 t) gt6).trans rfl
theorem t6_10 : zT 6 10 = some (.ireturn, 1, 0, 0, 0, 0) := (congrArg (fun t => List.lookup 10 t) gt6).trans rfl
theorem t7_0 : zT 7 0 = some (.getstatic 38, 3, 3, 0, 0, 310) := (congrArg (fun t => List.lookup 0 t) gt7).trans rfl
theorem t7_3 : zT 7 3 = some (.ifCond .eq 10, 3, 13, 0, 0, 0) := (congrArg (fun t => List.lookup 3 t) gt7).trans rfl
theorem t7_6 : zT 7 6 = some (.aload_n 0, 1, 0, 0, 0, 0) := (congrArg (fun t => List.lookup 6 t) gt7).trans rfl
theorem t7_7 : zT 7 7 = some (.getfield 15, 3, 30, 1, 0, 2274) := (congrArg (fun t => List.lookup 7 t) gt7).trans rfl
theorem t7_10 : zT 7 10 = some (.goto 4, 3, 14, 0, 0, 0) := (congrArg (fun t => List.lookup 10 t) gt7).trans rfl
theorem t7_14 : zT 7 14 = some (.ireturn, 1, 0, 0, 0, 0) := (congrArg (fun t => List.lookup 14 t) gt7).trans rfl
theorem t68_0 : zT 68 0 = some (.aload_n 0, 1, 0, 0, 0, 0) := (congrArg (fun t => List.lookup 0 t) gt68).trans rfl
theorem t68_1 : zT 68 1 = some (.getfield 36, 3, 9, 5, 0, 317) := (congrArg (fun t => List.lookup 1 t) gt68).trans rfl
theorem t68_4 : zT 68 4 = some (.iconst (-1), 1, 0, 0, (-1), 0) := (congrArg (fun t => List.lookup 4 t) gt68).trans rfl
theorem t68_5 : zT 68 5 = some (.if_icmp .ne 30, 3, 35, 0, 0, 0) := (congrArg (fun t => List.lookup 5 t) gt68).trans rfl
theorem t68_8 : zT 68 8 = some (.aload_n 0, 1, 0, 0, 0, 0) := (congrArg (fun t => List.lookup 8 t) gt68).trans rfl
theorem t68_9 : zT 68 9 = some (.getfield 30, 3, 9, 3, 0, 315) := (congrArg (fun t => List.lookup 9 t) gt68).trans rfl
theorem t68_12 : zT 68 12 = some (.aload_n 0, 1, 0, 0, 0, 0) := (congrArg (fun t => List.lookup 12 t) gt68).trans rfl
theorem t68_13 : zT 68 13 = some (.getfield 27, 3, 9, 2, 0, 314) := (congrArg (fun t => List.lookup 13 t) gt68).trans rfl
theorem t68_16 : zT 68 16 = some (.if_icmp .ge 19, 3, 35, 0, 0, 0) := (congrArg (fun t => List.lookup 16 t) gt68).trans rfl
theorem t68_19 : zT 68 19 = some (.aload_n 0, 1, 0, 0, 0, 0) := (congrArg (fun t => List.lookup 19 t) gt68).trans rfl
theorem t68_20 : zT 68 20 = some (.getfield 23, 3, 9, 1, 0, 313) := (congrArg (fun t => List.lookup 20 t) gt68).trans rfl
theorem t68_23 : zT 68 23 = some (.aload_n 0, 1, 0, 0, 0, 0) := (congrArg (fun t => List.lookup 23 t) gt68).trans rfl
theorem t68_24 : zT 68 24 = some (.getfield 30, 3, 9, 3, 0, 315) := (congrArg (fun t => List.lookup 24 t) gt68).trans rfl
theorem t68_27 : zT 68 27 = some (.baload, 1, 0, 0, 0, 0) := (congrArg (fun t => List.lookup 27 t) gt68).trans rfl
theorem t68_28 : zT 68 28 = some (.sipush 255, 3, 0, 0, 255, 0) := (congrArg (fun t => List.lookup 28 t) gt68).trans rfl
theorem t68_31 : zT 68 31 = some (.iand, 1, 0, 0, 0, 0) := (congrArg (fun t => List.lookup 31 t) gt68).trans rfl
theorem t68_32 : zT 68 32 = some (.goto 4, 3, 36, 0, 0, 0) := (congrArg (fun t => List.lookup 32 t) gt68).trans rfl
theorem t68_35 : zT 68 35 = some (.iconst (-1), 1, 0, 0, (-1), 0) := (congrArg (fun t => List.lookup 35 t) gt68).trans rfl
theorem t68_36 : zT 68 36 = some (.ireturn, 1, 0, 0, 0, 0) := (congrArg (fun t => List.lookup 36 t) gt68).trans rfl
theorem t69_0 : zT 69 0 = some (.aload_n 0, 1, 0, 0, 0, 0) := (congrArg (fun t => List.lookup 0 t) gt69).trans rfl
theorem t69_1 : zT 69 1 = some (.invokevirtual 75, 3, 70, 0, 0, 870) := (congrArg (fun t => List.lookup 1 t) gt69).trans rfl
theorem t69_4 : zT 69 4 = some (.istore_n 1, 1, 1, 0, 0, 0) := (congrArg (fun t => List.lookup 4 t) gt69).trans rfl
theorem t69_5 : zT 69 5 = some (.aload_n 0, 1, 0, 0, 0, 0) := (congrArg (fun t => List.lookup 5 t) gt69).trans rfl
theorem t69_6 : zT 69 6 = some (.invokevirtual 65, 3, 68, 0, 0, 862) := (congrArg (fun t => List.lookup 6 t) gt69).trans rfl
theorem t69_9 : zT 69 9 = some (.istore_n 2, 1, 2, 0, 0, 0) := (congrArg (fun t => List.lookup 9 t) gt69).trans rfl
theorem t69_10 : zT 69 10 = some (.iload_n 2, 1, 2, 0, 0, 0) := (congrArg (fun t => List.lookup 10 t) gt69).trans rfl
theorem t69_11 : zT 69 11 = some (.bipush 60, 2, 0, 0, 60, 0) := (congrArg (fun t => List.lookup 11 t) gt69).trans rfl
theorem t69_13 : zT 69 13 = some (.if_icmp .eq 25, 3, 38, 0, 0, 0) := (congrArg (fun t => List.lookup 13 t) gt69).trans rfl
theorem t69_16 : zT 69 16 = some (.iload_n 2, 1, 2, 0, 0, 0) := (congrArg (fun t => List.lookup 16 t) gt69).trans rfl
theorem t69_17 : zT 69 17 = some (.bipush 62, 2, 0, 0, 62, 0) := (congrArg (fun t => List.lookup 17 t) gt69).trans rfl
theorem t69_19 : zT 69 19 = some (.if_icmp .eq 19, 3, 38, 0, 0, 0) := (congrArg (fun t => List.lookup 19 t) gt69).trans rfl
theorem t69_22 : zT 69 22 = some (.iload_n 2, 1, 2, 0, 0, 0) := (congrArg (fun t => List.lookup 22 t) gt69).trans rfl
theorem t69_23 : zT 69 23 = some (.bipush 61, 2, 0, 0, 61, 0) := (congrArg (fun t => List.lookup 23 t) gt69).trans rfl
theorem t69_25 : zT 69 25 = some (.if_icmp .eq 13, 3, 38, 0, 0, 0) := (congrArg (fun t => List.lookup 25 t) gt69).trans rfl
theorem t69_28 : zT 69 28 = some (.aload_n 0, 1, 0, 0, 0, 0) := (congrArg (fun t => List.lookup 28 t) gt69).trans rfl
theorem t69_29 : zT 69 29 = some (.aload_n 0, 1, 0, 0, 0, 0) := (congrArg (fun t => List.lookup 29 t) gt69).trans rfl
theorem t69_30 : zT 69 30 = some (.getfield 30, 3, 9, 3, 0, 315) := (congrArg (fun t => List.lookup 30 t) gt69).trans rfl
theorem t69_33 : zT 69 33 = some (.invokevirtual 58, 3, 78, 0, 0, 952) := (congrArg (fun t => List.lookup 33 t) gt69).trans rfl
theorem t69_36 : zT 69 36 = some (.iconst 0, 1, 0, 0, 0, 0) := (congrArg (fun t => List.lookup 36 t) gt69).trans rfl
theorem t69_37 : zT 69 37 = some (.ireturn, 1, 0, 0, 0, 0) := (congrArg (fun t => List.lookup 37 t) gt69).trans rfl
theorem t69_38 : zT 69 38 = some (.aload_n 0, 1, 0, 0, 0, 0) := (congrArg (fun t => List.lookup 38 t) gt69).trans rfl
theorem t69_39 : zT 69 39 = some (.dup, 1, 0, 0, 0, 0) := (congrArg (fun t => List.lookup 39 t) gt69).trans rfl
theorem t69_40 : zT 69 40 = some (.getfield 30, 3, 9, 3, 0, 315) := (congrArg (fun t => List.lookup 40 t) gt69).trans rfl
theorem t69_43 : zT 69 43 = some (.iconst 1, 1, 0, 0, 1, 0) := (congrArg (fun t => List.lookup 43 t) gt69).trans rfl
theorem t69_44 : zT 69 44 = some (.iadd, 1, 0, 0, 0, 0) := (congrArg (fun t => List.lookup 44 t) gt69).trans rfl
theorem t69_45 : zT 69 45 = some (.putfield 30, 3, 9, 3, 0, 315) := (congrArg (fun t => List.lookup 45 t) gt69).trans rfl
theorem t69_48 : zT 69 48 = some (.aload_n 0, 1, 0, 0, 0, 0) := (congrArg (fun t => List.lookup 48 t) gt69).trans rfl
theorem t69_49 : zT 69 49 = some (.invokevirtual 75, 3, 70, 0, 0, 870) := (congrArg (fun t => List.lookup 49 t) gt69).trans rfl
theorem t69_52 : zT 69 52 = some (.istore_n 3, 1, 3, 0, 0, 0) := (congrArg (fun t => List.lookup 52 t) gt69).trans rfl
theorem t69_53 : zT 69 53 = some (.iload_n 2, 1, 2, 0, 0, 0) := (congrArg (fun t => List.lookup 53 t) gt69).trans rfl
theorem t69_54 : zT 69 54 = some (.bipush 61, 2, 0, 0, 61, 0) := (congrArg (fun t => List.lookup 54 t) gt69).trans rfl
theorem t69_56 : zT 69 56 = some (.if_icmp .ne 14, 3, 70, 0, 0, 0) := (congrArg (fun t => List.lookup 56 t) gt69).trans rfl
theorem t69_59 : zT 69 59 = some (.iload_n 1, 1, 1, 0, 0, 0) := (congrArg (fun t => List.lookup 59 t) gt69).trans rfl
theorem t69_60 : zT 69 60 = some (.iload_n 3, 1, 3, 0, 0, 0) := (congrArg (fun t => List.lookup 60 t) gt69).trans rfl
theorem t69_61 : zT 69 61 = some (.if_icmp .ne 7, 3, 68, 0, 0, 0) := (congrArg (fun t => List.lookup 61 t) gt69).trans rfl
theorem t69_64 : zT 69 64 = some (.iconst 1, 1, 0, 0, 1, 0) := (congrArg (fun t => List.lookup 64 t) gt69).trans rfl
theorem t69_65 : zT 69 65 = some (.goto 4, 3, 69, 0, 0, 0) := (congrArg (fun t => List.lookup 65 t) gt69).trans rfl
theorem t69_68 : zT 69 68 = some (.iconst 0, 1, 0, 0, 0, 0) := (congrArg (fun t => List.lookup 68 t) gt69).trans rfl
theorem t69_69 : zT 69 69 = some (.ireturn, 1, 0, 0, 0, 0) := (congrArg (fun t => List.lookup 69 t) gt69).trans rfl
theorem t69_70 : zT 69 70 = some (.iload_n 2, 1, 2, 0, 0, 0) := (congrArg (fun t => List.lookup 70 t) gt69).trans rfl
theorem t69_71 : zT 69 71 = some (.bipush 60, 2, 0, 0, 60, 0) := (congrArg (fun t => List.lookup 71 t) gt69).trans rfl
theorem t69_73 : zT 69 73 = some (.if_icmp .ne 16, 3, 89, 0, 0, 0) := (congrArg (fun t => List.lookup 73 t) gt69).trans rfl
theorem t69_76 : zT 69 76 = some (.iload_n 1, 1, 1, 0, 0, 0) := (congrArg (fun t => List.lookup 76 t) gt69).trans rfl
theorem t69_77 : zT 69 77 = some (.iload_n 3, 1, 3, 0, 0, 0) := (congrArg (fun t => List.lookup 77 t) gt69).trans rfl
theorem t69_78 : zT 69 78 = some (.if_icmp .ge 7, 3, 85, 0, 0, 0) := (congrArg (fun t => List.lookup 78 t) gt69).trans rfl
theorem t69_81 : zT 69 81 = some (.iconst 1, 1, 0, 0, 1, 0) := (congrArg (fun t => List.lookup 81 t) gt69).trans rfl
theorem t69_82 : zT 69 82 = some (.goto 17, 3, 99, 0, 0, 0) := (congrArg (fun t => List.lookup 82 t) gt69).trans rfl
theorem t69_85 : zT 69 85 = some (.iconst 0, 1, 0, 0, 0, 0) := (congrArg (fun t => List.lookup 85 t) gt69).trans rfl
theorem t69_86 : zT 69 86 = some (.goto 13, 3, 99, 0, 0, 0) := (congrArg (fun t => List.lookup 86 t) gt69).trans rfl
theorem t69_89 : zT 69 89 = some (.iload_n 1, 1, 1, 0, 0, 0) := (congrArg (fun t => List.lookup 89 t) gt69).trans rfl
theorem t69_90 : zT 69 90 = some (.iload_n 3, 1, 3, 0, 0, 0) := (congrArg (fun t => List.lookup 90 t) gt69).trans rfl
theorem t69_91 : zT 69 91 = some (.if_icmp .le 7, 3, 98, 0, 0, 0) := (congrArg (fun t => List.lookup 91 t) gt69).trans rfl
theorem t69_94 : zT 69 94 = some (.iconst 1, 1, 0, 0, 1, 0) := (congrArg (fun t => List.lookup 94 t) gt69).trans rfl
theorem t69_95 : zT 69 95 = some (.goto 4, 3, 99, 0, 0, 0) := (congrArg (fun t => List.lookup 95 t) gt69).trans rfl
theorem t69_98 : zT 69 98 = some (.iconst 0, 1, 0, 0, 0, 0) := (congrArg (fun t => List.lookup 98 t) gt69).trans rfl
theorem t69_99 : zT 69 99 = some (.ireturn, 1, 0, 0, 0, 0) := (congrArg (fun t => List.lookup 99 t) gt69).trans rfl
theorem t70_0 : zT 70 0 = some (.aload_n 0, 1, 0, 0, 0, 0) := (congrArg (fun t => List.lookup 0 t) gt70).trans rfl
theorem t70_1 : zT 70 1 = some (.invokevirtual 78, 3, 71, 0, 0, 874) := (congrArg (fun t => List.lookup 1 t) gt70).trans rfl
theorem t70_4 : zT 70 4 = some (.istore_n 1, 1, 1, 0, 0, 0) := (congrArg (fun t => List.lookup 4 t) gt70).trans rfl
theorem t70_5 : zT 70 5 = some (.iconst 0, 1, 0, 0, 0, 0) := (congrArg (fun t => List.lookup 5 t) gt70).trans rfl
theorem t70_6 : zT 70 6 = some (.istore_n 2, 1, 2, 0, 0, 0) := (congrArg (fun t => List.lookup 6 t) gt70).trans rfl
theorem t70_7 : zT 70 7 = some (.iload_n 2, 1, 2, 0, 0, 0) := (congrArg (fun t => List.lookup 7 t) gt70).trans rfl
theorem t70_8 : zT 70 8 = some (.bipush 30, 2, 0, 0, 30, 0) := (congrArg (fun t => List.lookup 8 t) gt70).trans rfl
theorem t70_10 : zT 70 10 = some (.if_icmp .ge 82, 3, 92, 0, 0, 0) := (congrArg (fun t => List.lookup 10 t) gt70).trans rfl
theorem t70_13 : zT 70 13 = some (.aload_n 0, 1, 0, 0, 0, 0) := (congrArg (fun t => List.lookup 13 t) gt70).trans rfl
theorem t70_14 : zT 70 14 = some (.invokevirtual 65, 3, 68, 0, 0, 862) := (congrArg (fun t => List.lookup 14 t) gt70).trans rfl
theorem t70_17 : zT 70 17 = some (.istore_n 3, 1, 3, 0, 0, 0) := (congrArg (fun t => List.lookup 17 t) gt70).trans rfl
theorem t70_18 : zT 70 18 = some (.iload_n 3, 1, 3, 0, 0, 0) := (congrArg (fun t => List.lookup 18 t) gt70).trans rfl
theorem t70_19 : zT 70 19 = some (.bipush 43, 2, 0, 0, 43, 0) := (congrArg (fun t => List.lookup 19 t) gt70).trans rfl
theorem t70_21 : zT 70 21 = some (.if_icmp .eq 18, 3, 39, 0, 0, 0) := (congrArg (fun t => List.lookup 21 t) gt70).trans rfl
theorem t70_24 : zT 70 24 = some (.iload_n 3, 1, 3, 0, 0, 0) := (congrArg (fun t => List.lookup 24 t) gt70).trans rfl
theorem t70_25 : zT 70 25 = some (.bipush 45, 2, 0, 0, 45, 0) := (congrArg (fun t => List.lookup 25 t) gt70).trans rfl
theorem t70_27 : zT 70 27 = some (.if_icmp .eq 12, 3, 39, 0, 0, 0) := (congrArg (fun t => List.lookup 27 t) gt70).trans rfl
theorem t70_30 : zT 70 30 = some (.iload_n 3, 1, 3, 0, 0, 0) := (congrArg (fun t => List.lookup 30 t) gt70).trans rfl
theorem t70_31 : zT 70 31 = some (.bipush 42, 2, 0, 0, 42, 0) := (congrArg (fun t => List.lookup 31 t) gt70).trans rfl
theorem t70_33 : zT 70 33 = some (.if_icmp .eq 6, 3, 39, 0, 0, 0) := (congrArg (fun t => List.lookup 33 t) gt70).trans rfl
theorem t70_36 : zT 70 36 = some (.goto 56, 3, 92, 0, 0, 0) := (congrArg (fun t => List.lookup 36 t) gt70).trans rfl
theorem t70_39 : zT 70 39 = some (.aload_n 0, 1, 0, 0, 0, 0) := (congrArg (fun t => List.lookup 39 t) gt70).trans rfl
theorem t70_40 : zT 70 40 = some (.dup, 1, 0, 0, 0, 0) := (congrArg (fun t => List.lookup 40 t) gt70).trans rfl
theorem t70_41 : zT 70 41 = some (.getfield 30, 3, 9, 3, 0, 315) := (congrArg (fun t => List.lookup 41 t) gt70).trans rfl
theorem t70_44 : zT 70 44 = some (.iconst 1, 1, 0, 0, 1, 0) := (congrArg (fun t => List.lookup 44 t) gt70).trans rfl
theorem t70_45 : zT 70 45 = some (.iadd, 1, 0, 0, 0, 0) := (congrArg (fun t => List.lookup 45 t) gt70).trans rfl
theorem t70_46 : zT 70 46 = some (.putfield 30, 3, 9, 3, 0, 315) := (congrArg (fun t => List.lookup 46 t) gt70).trans rfl
theorem t70_49 : zT 70 49 = some (.aload_n 0, 1, 0, 0, 0, 0) := (congrArg (fun t => List.lookup 49 t) gt70).trans rfl
theorem t70_50 : zT 70 50 = some (.invokevirtual 78, 3, 71, 0, 0, 874) := (congrArg (fun t => List.lookup 50 t) gt70).trans rfl
theorem t70_53 : zT 70 53 = some (.istore 4, 2, 0, 0, 0, 0) := (congrArg (fun t => List.lookup 53 t) gt70).trans rfl
theorem t70_55 : zT 70 55 = some (.iload_n 3, 1, 3, 0, 0, 0) := (congrArg (fun t => List.lookup 55 t) gt70).trans rfl
theorem t70_56 : zT 70 56 = some (.bipush 42, 2, 0, 0, 42, 0) := (congrArg (fun t => List.lookup 56 t) gt70).trans rfl
theorem t70_58 : zT 70 58 = some (.if_icmp .ne 11, 3, 69, 0, 0, 0) := (congrArg (fun t => List.lookup 58 t) gt70).trans rfl
theorem t70_61 : zT 70 61 = some (.iload_n 1, 1, 1, 0, 0, 0) := (congrArg (fun t => List.lookup 61 t) gt70).trans rfl
theorem t70_62 : zT 70 62 = some (.iload 4, 2, 0, 0, 0, 0) := (congrArg (fun t => List.lookup 62 t) gt70).trans rfl
theorem t70_64 : zT 70 64 = some (.imul, 1, 0, 0, 0, 0) := (congrArg (fun t => List.lookup 64 t) gt70).trans rfl
theorem t70_65 : zT 70 65 = some (.istore_n 1, 1, 1, 0, 0, 0) := (congrArg (fun t => List.lookup 65 t) gt70).trans rfl
theorem t70_66 : zT 70 66 = some (.goto 20, 3, 86, 0, 0, 0) := (congrArg (fun t => List.lookup 66 t) gt70).trans rfl
theorem t70_69 : zT 70 69 = some (.iload_n 1, 1, 1, 0, 0, 0) := (congrArg (fun t => List.lookup 69 t) gt70).trans rfl
theorem t70_70 : zT 70 70 = some (.iload_n 3, 1, 3, 0, 0, 0) := (congrArg (fun t => List.lookup 70 t) gt70).trans rfl
theorem t70_71 : zT 70 71 = some (.bipush 43, 2, 0, 0, 43, 0) := (congrArg (fun t => List.lookup 71 t) gt70).trans rfl
theorem t70_73 : zT 70 73 = some (.if_icmp .ne 8, 3, 81, 0, 0, 0) := (congrArg (fun t => List.lookup 73 t) gt70).trans rfl
theorem t70_76 : zT 70 76 = some (.iload 4, 2, 0, 0, 0, 0) := (congrArg (fun t => List.lookup 76 t) gt70).trans rfl
theorem t70_78 : zT 70 78 = some (.goto 6, 3, 84, 0, 0, 0) := (congrArg (fun t => List.lookup 78 t) gt70).trans rfl
theorem t70_81 : zT 70 81 = some (.iload 4, 2, 0, 0, 0, 0) := (congrArg (fun t => List.lookup 81 t) gt70).trans rfl
theorem t70_83 : zT 70 83 = some (.ineg, 1, 0, 0, 0, 0) := (congrArg (fun t => List.lookup 83 t) gt70).trans rfl
theorem t70_84 : zT 70 84 = some (.iadd, 1, 0, 0, 0, 0) := (congrArg (fun t => List.lookup 84 t) gt70).trans rfl
theorem t70_85 : zT 70 85 = some (.istore_n 1, 1, 1, 0, 0, 0) := (congrArg (fun t => List.lookup 85 t) gt70).trans rfl
theorem t70_86 : zT 70 86 = some (.iinc 2 1, 3, 0, 0, 0, 0) := (congrArg (fun t => List.lookup 86 t) gt70).trans rfl
theorem t70_89 : zT 70 89 = some (.goto (-82), 3, 7, 0, 0, 0) := (congrArg (fun t => List.lookup 89 t) gt70).trans rfl
theorem t70_92 : zT 70 92 = some (.iload_n 1, 1, 1, 0, 0, 0) := (congrArg (fun t => List.lookup 92 t) gt70).trans rfl
theorem t70_93 : zT 70 93 = some (.ireturn, 1, 0, 0, 0, 0) := (congrArg (fun t => List.lookup 93 t) gt70).trans rfl
theorem t71_0 : zT 71 0 = some (.aload_n 0, 1, 0, 0, 0, 0) := (congrArg (fun t => List.lookup 0 t) gt71).trans rfl
theorem t71_1 : zT 71 1 = some (.invokevirtual 65, 3, 68, 0, 0, 862) := (congrArg (fun t => List.lookup 1 t) gt71).trans rfl
theorem t71_4 : zT 71 4 = some (.istore_n 1, 1, 1, 0, 0, 0) := (congrArg (fun t => List.lookup 4 t) gt71).trans rfl
theorem t71_5 : zT 71 5 = some (.iload_n 1, 1, 1, 0, 0, 0) := (congrArg (fun t => List.lookup 5 t) gt71).trans rfl
theorem t71_6 : zT 71 6 = some (.iconst (-1), 1, 0, 0, (-1), 0) := (congrArg (fun t => List.lookup 6 t) gt71).trans rfl
theorem t71_7 : zT 71 7 = some (.if_icmp .ne 7, 3, 14, 0, 0, 0) := (congrArg (fun t => List.lookup 7 t) gt71).trans rfl
theorem t71_10 : zT 71 10 = some (.iconst (-1), 1, 0, 0, (-1), 0) := (congrArg (fun t => List.lookup 10 t) gt71).trans rfl
theorem t71_11 : zT 71 11 = some (.goto 10, 3, 21, 0, 0, 0) := (congrArg (fun t => List.lookup 11 t) gt71).trans rfl
theorem t71_14 : zT 71 14 = some (.ldc 9, 2, 2, 0, 0, 301) := (congrArg (fun t => List.lookup 14 t) gt71).trans rfl
theorem t71_16 : zT 71 16 = some (.iload_n 1, 1, 1, 0, 0, 0) := (congrArg (fun t => List.lookup 16 t) gt71).trans rfl
theorem t71_17 : zT 71 17 = some (.i2c, 1, 0, 0, 0, 0) := (congrArg (fun t => List.lookup 17 t) gt71).trans rfl
theorem t71_18 : zT 71 18 = some (.invokevirtual 81, 3, 72, 0, 0, 878) := (congrArg (fun t => List.lookup 18 t) gt71).trans rfl
theorem t71_21 : zT 71 21 = some (.istore_n 2, 1, 2, 0, 0, 0) := (congrArg (fun t => List.lookup 21 t) gt71).trans rfl
theorem t71_22 : zT 71 22 = some (.aload_n 0, 1, 0, 0, 0, 0) := (congrArg (fun t => List.lookup 22 t) gt71).trans rfl
theorem t71_23 : zT 71 23 = some (.getfield 33, 3, 9, 4, 0, 316) := (congrArg (fun t => List.lookup 23 t) gt71).trans rfl
theorem t71_26 : zT 71 26 = some (.bipush 30, 2, 0, 0, 30, 0) := (congrArg (fun t => List.lookup 26 t) gt71).trans rfl
theorem t71_28 : zT 71 28 = some (.if_icmp .ge 14, 3, 42, 0, 0, 0) := (congrArg (fun t => List.lookup 28 t) gt71).trans rfl
theorem t71_31 : zT 71 31 = some (.iload_n 2, 1, 2, 0, 0, 0) := (congrArg (fun t => List.lookup 31 t) gt71).trans rfl
theorem t71_32 : zT 71 32 = some (.ifCond .ge 20, 3, 52, 0, 0, 0) := (congrArg (fun t => List.lookup 32 t) gt71).trans rfl
theorem t71_35 : zT 71 35 = some (.iload_n 1, 1, 1, 0, 0, 0) := (congrArg (fun t => List.lookup 35 t) gt71).trans rfl
theorem t71_36 : zT 71 36 = some (.invokestatic 85, 3, 36, 2, 0, 951) := (congrArg (fun t => List.lookup 36 t) gt71).trans rfl
theorem t71_39 : zT 71 39 = some (.ifCond .ne 13, 3, 52, 0, 0, 0) := (congrArg (fun t => List.lookup 39 t) gt71).trans rfl
theorem t71_42 : zT 71 42 = some (.aload_n 0, 1, 0, 0, 0, 0) := (congrArg (fun t => List.lookup 42 t) gt71).trans rfl
theorem t71_43 : zT 71 43 = some (.aload_n 0, 1, 0, 0, 0, 0) := (congrArg (fun t => List.lookup 43 t) gt71).trans rfl
theorem t71_44 : zT 71 44 = some (.getfield 30, 3, 9, 3, 0, 315) := (congrArg (fun t => List.lookup 44 t) gt71).trans rfl
theorem t71_47 : zT 71 47 = some (.invokevirtual 58, 3, 78, 0, 0, 952) := (congrArg (fun t => List.lookup 47 t) gt71).trans rfl
theorem t71_50 : zT 71 50 = some (.iconst 0, 1, 0, 0, 0, 0) := (congrArg (fun t => List.lookup 50 t) gt71).trans rfl
theorem t71_51 : zT 71 51 = some (.ireturn, 1, 0, 0, 0, 0) := (congrArg (fun t => List.lookup 51 t) gt71).trans rfl
theorem t71_52 : zT 71 52 = some (.aload_n 0, 1, 0, 0, 0, 0) := (congrArg (fun t => List.lookup 52 t) gt71).trans rfl
theorem t71_53 : zT 71 53 = some (.dup, 1, 0, 0, 0, 0) := (congrArg (fun t => List.lookup 53 t) gt71).trans rfl
theorem t71_54 : zT 71 54 = some (.getfield 33, 3, 9, 4, 0, 316) := (congrArg (fun t => List.lookup 54 t) gt71).trans rfl
theorem t71_57 : zT 71 57 = some (.iconst 1, 1, 0, 0, 1, 0) := (congrArg (fun t => List.lookup 57 t) gt71).trans rfl
theorem t71_58 : zT 71 58 = some (.iadd, 1, 0, 0, 0, 0) := (congrArg (fun t => List.lookup 58 t) gt71).trans rfl
theorem t71_59 : zT 71 59 = some (.putfield 33, 3, 9, 4, 0, 316) := (congrArg (fun t => List.lookup 59 t) gt71).trans rfl
theorem t71_62 : zT 71 62 = some (.iload_n 2, 1, 2, 0, 0, 0) := (congrArg (fun t => List.lookup 62 t) gt71).trans rfl
theorem t71_63 : zT 71 63 = some (.ifCond .ge 8, 3, 71, 0, 0, 0) := (congrArg (fun t => List.lookup 63 t) gt71).trans rfl
theorem t71_66 : zT 71 66 = some (.aload_n 0, 1, 0, 0, 0, 0) := (congrArg (fun t => List.lookup 66 t) gt71).trans rfl
theorem t71_67 : zT 71 67 = some (.invokevirtual 88, 3, 79, 0, 0, 956) := (congrArg (fun t => List.lookup 67 t) gt71).trans rfl
theorem t71_70 : zT 71 70 = some (.ireturn, 1, 0, 0, 0, 0) := (congrArg (fun t => List.lookup 70 t) gt71).trans rfl
theorem t71_71 : zT 71 71 = some (.aload_n 0, 1, 0, 0, 0, 0) := (congrArg (fun t => List.lookup 71 t) gt71).trans rfl
theorem t71_72 : zT 71 72 = some (.dup, 1, 0, 0, 0, 0) := (congrArg (fun t => List.lookup 72 t) gt71).trans rfl
theorem t71_73 : zT 71 73 = some (.getfield 30, 3, 9, 3, 0, 315) := (congrArg (fun t => List.lookup 73 t) gt71).trans rfl
theorem t71_76 : zT 71 76 = some (.iconst 1, 1, 0, 0, 1, 0) := (congrArg (fun t => List.lookup 76 t) gt71).trans rfl
theorem t71_77 : zT 71 77 = some (.iadd, 1, 0, 0, 0, 0) := (congrArg (fun t => List.lookup 77 t) gt71).trans rfl
theorem t71_78 : zT 71 78 = some (.putfield 30, 3, 9, 3, 0, 315) := (congrArg (fun t => List.lookup 78 t) gt71).trans rfl
theorem t71_81 : zT 71 81 = some (.iload_n 2, 1, 2, 0, 0, 0) := (congrArg (fun t => List.lookup 81 t) gt71).trans rfl
theorem t71_82 : zT 71 82 = some (.aload_n 0, 1, 0, 0, 0, 0) := (congrArg (fun t => List.lookup 82 t) gt71).trans rfl
theorem t71_83 : zT 71 83 = some (.getfield 17, 3, 9, 0, 0, 312) := (congrArg (fun t => List.lookup 83 t) gt71).trans rfl
theorem t71_86 : zT 71 86 = some (.arraylength, 1, 0, 0, 0, 0) := (congrArg (fun t => List.lookup 86 t) gt71).trans rfl
theorem t71_87 : zT 71 87 = some (.if_icmp .ge 12, 3, 99, 0, 0, 0) := (congrArg (fun t => List.lookup 87 t) gt71).trans rfl
theorem t71_90 : zT 71 90 = some (.aload_n 0, 1, 0, 0, 0, 0) := (congrArg (fun t => List.lookup 90 t) gt71).trans rfl
theorem t71_91 : zT 71 91 = some (.getfield 17, 3, 9, 0, 0, 312) := (congrArg (fun t => List.lookup 91 t) gt71).trans rfl
theorem t71_94 : zT 71 94 = some (.iload_n 2, 1, 2, 0, 0, 0) := (congrArg (fun t => List.lookup 94 t) gt71).trans rfl
theorem t71_95 : zT 71 95 = some (.iaload, 1, 0, 0, 0, 0) := (congrArg (fun t => List.lookup 95 t) gt71).trans rfl
theorem t71_96 : zT 71 96 = some (.goto 4, 3, 100, 0, 0, 0) := (congrArg (fun t => List.lookup 96 t) gt71).trans rfl
theorem t71_100 : zT 71 100 = some (.ireturn, 1, 0, 0, 0, 0) := (congrArg (fun t => List.lookup 100 t) gt71).trans rfl
theorem t72_0 : zT 72 0 = some (.aload_n 0, 1, 0, 0, 0, 0) := (congrArg (fun t => List.lookup 0 t) gt72).trans rfl
theorem t72_1 : zT 72 1 = some (.iload_n 1, 1, 1, 0, 0, 0) := (congrArg (fun t => List.lookup 1 t) gt72).trans rfl
theorem t72_2 : zT 72 2 = some (.iconst 0, 1, 0, 0, 0, 0) := (congrArg (fun t => List.lookup 2 t) gt72).trans rfl
theorem t72_3 : zT 72 3 = some (.invokevirtual 633, 3, 73, 0, 0, 882) := (congrArg (fun t => List.lookup 3 t) gt72).trans rfl
theorem t72_6 : zT 72 6 = some (.ireturn, 1, 0, 0, 0, 0) := (congrArg (fun t => List.lookup 6 t) gt72).trans rfl
theorem t73_0 : zT 73 0 = some (.aload_n 0, 1, 0, 0, 0, 0) := (congrArg (fun t => List.lookup 0 t) gt73).trans rfl
theorem t73_1 : zT 73 1 = some (.invokevirtual 492, 3, 74, 0, 0, 886) := (congrArg (fun t => List.lookup 1 t) gt73).trans rfl
theorem t73_4 : zT 73 4 = some (.ifCond .eq 19, 3, 23, 0, 0, 0) := (congrArg (fun t => List.lookup 4 t) gt73).trans rfl
theorem t73_7 : zT 73 7 = some (.aload_n 0, 1, 0, 0, 0, 0) := (congrArg (fun t => List.lookup 7 t) gt73).trans rfl
theorem t73_8 : zT 73 8 = some (.getfield 9, 3, 30, 0, 0, 2273) := (congrArg (fun t => List.lookup 8 t) gt73).trans rfl
theorem t73_11 : zT 73 11 = some (.iload_n 1, 1, 1, 0, 0, 0) := (congrArg (fun t => List.lookup 11 t) gt73).trans rfl
theorem t73_12 : zT 73 12 = some (.iload_n 2, 1, 2, 0, 0, 0) := (congrArg (fun t => List.lookup 12 t) gt73).trans rfl
theorem t73_13 : zT 73 13 = some (.aload_n 0, 1, 0, 0, 0, 0) := (congrArg (fun t => List.lookup 13 t) gt73).trans rfl
theorem t73_14 : zT 73 14 = some (.invokevirtual 505, 3, 6, 0, 0, 890) := (congrArg (fun t => List.lookup 14 t) gt73).trans rfl
theorem t73_17 : zT 73 17 = some (.invokestatic 637, 3, 75, 1, 0, 891) := (congrArg (fun t => List.lookup 17 t) gt73).trans rfl
theorem t73_20 : zT 73 20 = some (.goto 16, 3, 36, 0, 0, 0) := (congrArg (fun t => List.lookup 20 t) gt73).trans rfl
theorem t73_36 : zT 73 36 = some (.ireturn, 1, 0, 0, 0, 0) := (congrArg (fun t => List.lookup 36 t) gt73).trans rfl
theorem t74_0 : zT 74 0 = some (.getstatic 38, 3, 3, 0, 0, 310) := (congrArg (fun t => List.lookup 0 t) gt74).trans rfl
theorem t74_3 : zT 74 3 = some (.ifCond .eq 14, 3, 17, 0, 0, 0) := (congrArg (fun t => List.lookup 3 t) gt74).trans rfl
theorem t74_6 : zT 74 6 = some (.aload_n 0, 1, 0, 0, 0, 0) := (congrArg (fun t => List.lookup 6 t) gt74).trans rfl
theorem t74_7 : zT 74 7 = some (.getfield 15, 3, 30, 1, 0, 2274) := (congrArg (fun t => List.lookup 7 t) gt74).trans rfl
theorem t74_10 : zT 74 10 = some (.ifCond .ne 7, 3, 17, 0, 0, 0) := (congrArg (fun t => List.lookup 10 t) gt74).trans rfl
theorem t74_13 : zT 74 13 = some (.iconst 1, 1, 0, 0, 1, 0) := (congrArg (fun t => List.lookup 13 t) gt74).trans rfl
theorem t74_14 : zT 74 14 = some (.goto 4, 3, 18, 0, 0, 0) := (congrArg (fun t => List.lookup 14 t) gt74).trans rfl
theorem t74_18 : zT 74 18 = some (.ireturn, 1, 0, 0, 0, 0) := (congrArg (fun t => List.lookup 18 t) gt74).trans rfl
theorem t75_0 : zT 75 0 = some (.iload_n 1, 1, 1, 0, 0, 0) := (congrArg (fun t => List.lookup 0 t) gt75).trans rfl
theorem t75_1 : zT 75 1 = some (.invokestatic 88, 3, 76, 1, 0, 894) := (congrArg (fun t => List.lookup 1 t) gt75).trans rfl
theorem t75_4 : zT 75 4 = some (.ifCond .ne 5, 3, 9, 0, 0, 0) := (congrArg (fun t => List.lookup 4 t) gt75).trans rfl
theorem t75_7 : zT 75 7 = some (.iconst (-1), 1, 0, 0, (-1), 0) := (congrArg (fun t => List.lookup 7 t) gt75).trans rfl
theorem t75_8 : zT 75 8 = some (.ireturn, 1, 0, 0, 0, 0) := (congrArg (fun t => List.lookup 8 t) gt75).trans rfl
theorem t75_9 : zT 75 9 = some (.iload_n 2, 1, 2, 0, 0, 0) := (congrArg (fun t => List.lookup 9 t) gt75).trans rfl
theorem t75_10 : zT 75 10 = some (.iconst 0, 1, 0, 0, 0, 0) := (congrArg (fun t => List.lookup 10 t) gt75).trans rfl
theorem t75_11 : zT 75 11 = some (.invokestatic 92, 3, 21, 1, 0, 897) := (congrArg (fun t => List.lookup 11 t) gt75).trans rfl
theorem t75_14 : zT 75 14 = some (.istore_n 2, 1, 2, 0, 0, 0) := (congrArg (fun t => List.lookup 14 t) gt75).trans rfl
theorem t75_15 : zT 75 15 = some (.iload_n 3, 1, 3, 0, 0, 0) := (congrArg (fun t => List.lookup 15 t) gt75).trans rfl
theorem t75_16 : zT 75 16 = some (.aload_n 0, 1, 0, 0, 0, 0) := (congrArg (fun t => List.lookup 16 t) gt75).trans rfl
theorem t75_17 : zT 75 17 = some (.arraylength, 1, 0, 0, 0, 0) := (congrArg (fun t => List.lookup 17 t) gt75).trans rfl
theorem t75_18 : zT 75 18 = some (.invokestatic 38, 3, 20, 1, 0, 898) := (congrArg (fun t => List.lookup 18 t) gt75).trans rfl
theorem t75_21 : zT 75 21 = some (.istore_n 3, 1, 3, 0, 0, 0) := (congrArg (fun t => List.lookup 21 t) gt75).trans rfl
theorem t75_22 : zT 75 22 = some (.iload_n 2, 1, 2, 0, 0, 0) := (congrArg (fun t => List.lookup 22 t) gt75).trans rfl
theorem t75_23 : zT 75 23 = some (.iload_n 3, 1, 3, 0, 0, 0) := (congrArg (fun t => List.lookup 23 t) gt75).trans rfl
theorem t75_24 : zT 75 24 = some (.if_icmp .lt 5, 3, 29, 0, 0, 0) := (congrArg (fun t => List.lookup 24 t) gt75).trans rfl
theorem t75_29 : zT 75 29 = some (.aload_n 0, 1, 0, 0, 0, 0) := (congrArg (fun t => List.lookup 29 t) gt75).trans rfl
theorem t75_30 : zT 75 30 = some (.iload_n 1, 1, 1, 0, 0, 0) := (congrArg (fun t => List.lookup 30 t) gt75).trans rfl
theorem t75_31 : zT 75 31 = some (.iload_n 2, 1, 2, 0, 0, 0) := (congrArg (fun t => List.lookup 31 t) gt75).trans rfl
theorem t75_32 : zT 75 32 = some (.iload_n 3, 1, 3, 0, 0, 0) := (congrArg (fun t => List.lookup 32 t) gt75).trans rfl
theorem t75_33 : zT 75 33 = some (.invokestatic 95, 3, 77, 1, 0, 899) := (congrArg (fun t => List.lookup 33 t) gt75).trans rfl
theorem t75_36 : zT 75 36 = some (.ireturn, 1, 0, 0, 0, 0) := (congrArg (fun t => List.lookup 36 t) gt75).trans rfl
theorem t76_0 : zT 76 0 = some (.iload_n 0, 1, 0, 0, 0, 0) := (congrArg (fun t => List.lookup 0 t) gt76).trans rfl
theorem t76_1 : zT 76 1 = some (.ifCond .lt 14, 3, 15, 0, 0, 0) := (congrArg (fun t => List.lookup 1 t) gt76).trans rfl
theorem t76_4 : zT 76 4 = some (.iload_n 0, 1, 0, 0, 0, 0) := (congrArg (fun t => List.lookup 4 t) gt76).trans rfl
theorem t76_5 : zT 76 5 = some (.sipush 255, 3, 0, 0, 255, 0) := (congrArg (fun t => List.lookup 5 t) gt76).trans rfl
theorem t76_8 : zT 76 8 = some (.if_icmp .gt 7, 3, 15, 0, 0, 0) := (congrArg (fun t => List.lookup 8 t) gt76).trans rfl
theorem t76_11 : zT 76 11 = some (.iconst 1, 1, 0, 0, 1, 0) := (congrArg (fun t => List.lookup 11 t) gt76).trans rfl
theorem t76_12 : zT 76 12 = some (.goto 4, 3, 16, 0, 0, 0) := (congrArg (fun t => List.lookup 12 t) gt76).trans rfl
theorem t76_15 : zT 76 15 = some (.iconst 0, 1, 0, 0, 0, 0) := (congrArg (fun t => List.lookup 15 t) gt76).trans rfl
theorem t76_16 : zT 76 16 = some (.ireturn, 1, 0, 0, 0, 0) := (congrArg (fun t => List.lookup 16 t) gt76).trans rfl
theorem t77_0 : zT 77 0 = some (.iload_n 1, 1, 1, 0, 0, 0) := (congrArg (fun t => List.lookup 0 t) gt77).trans rfl
theorem t77_1 : zT 77 1 = some (.i2b, 1, 0, 0, 0, 0) := (congrArg (fun t => List.lookup 1 t) gt77).trans rfl
theorem t77_2 : zT 77 2 = some (.istore 4, 2, 0, 0, 0, 0) := (congrArg (fun t => List.lookup 2 t) gt77).trans rfl
theorem t77_4 : zT 77 4 = some (.iload_n 2, 1, 2, 0, 0, 0) := (congrArg (fun t => List.lookup 4 t) gt77).trans rfl
theorem t77_5 : zT 77 5 = some (.istore 5, 2, 0, 0, 0, 0) := (congrArg (fun t => List.lookup 5 t) gt77).trans rfl
theorem t77_7 : zT 77 7 = some (.iload 5, 2, 0, 0, 0, 0) := (congrArg (fun t => List.lookup 7 t) gt77).trans rfl
theorem t77_9 : zT 77 9 = some (.iload_n 3, 1, 3, 0, 0, 0) := (congrArg (fun t => List.lookup 9 t) gt77).trans rfl
theorem t77_10 : zT 77 10 = some (.if_icmp .ge 21, 3, 31, 0, 0, 0) := (congrArg (fun t => List.lookup 10 t) gt77).trans rfl
theorem t77_13 : zT 77 13 = some (.aload_n 0, 1, 0, 0, 0, 0) := (congrArg (fun t => List.lookup 13 t) gt77).trans rfl
theorem t77_14 : zT 77 14 = some (.iload 5, 2, 0, 0, 0, 0) := (congrArg (fun t => List.lookup 14 t) gt77).trans rfl
theorem t77_16 : zT 77 16 = some (.baload, 1, 0, 0, 0, 0) := (congrArg (fun t => List.lookup 16 t) gt77).trans rfl
theorem t77_17 : zT 77 17 = some (.iload 4, 2, 0, 0, 0, 0) := (congrArg (fun t => List.lookup 17 t) gt77).trans rfl
theorem t77_19 : zT 77 19 = some (.if_icmp .ne 6, 3, 25, 0, 0, 0) := (congrArg (fun t => List.lookup 19 t) gt77).trans rfl
theorem t77_22 : zT 77 22 = some (.iload 5, 2, 0, 0, 0, 0) := (congrArg (fun t => List.lookup 22 t) gt77).trans rfl
theorem t77_24 : zT 77 24 = some (.ireturn, 1, 0, 0, 0, 0) := (congrArg (fun t => List.lookup 24 t) gt77).trans rfl
theorem t77_25 : zT 77 25 = some (.iinc 5 1, 3, 0, 0, 0, 0) := (congrArg (fun t => List.lookup 25 t) gt77).trans rfl
theorem t77_28 : zT 77 28 = some (.goto (-21), 3, 7, 0, 0, 0) := (congrArg (fun t => List.lookup 28 t) gt77).trans rfl
theorem t77_31 : zT 77 31 = some (.iconst (-1), 1, 0, 0, (-1), 0) := (congrArg (fun t => List.lookup 31 t) gt77).trans rfl
theorem t77_32 : zT 77 32 = some (.ireturn, 1, 0, 0, 0, 0) := (congrArg (fun t => List.lookup 32 t) gt77).trans rfl
theorem t78_0 : zT 78 0 = some (.aload_n 0, 1, 0, 0, 0, 0) := (congrArg (fun t => List.lookup 0 t) gt78).trans rfl
theorem t78_1 : zT 78 1 = some (.getfield 36, 3, 9, 5, 0, 317) := (congrArg (fun t => List.lookup 1 t) gt78).trans rfl
theorem t78_4 : zT 78 4 = some (.iconst (-1), 1, 0, 0, (-1), 0) := (congrArg (fun t => List.lookup 4 t) gt78).trans rfl
theorem t78_5 : zT 78 5 = some (.if_icmp .ne 8, 3, 13, 0, 0, 0) := (congrArg (fun t => List.lookup 5 t) gt78).trans rfl
theorem t78_8 : zT 78 8 = some (.aload_n 0, 1, 0, 0, 0, 0) := (congrArg (fun t => List.lookup 8 t) gt78).trans rfl
theorem t78_9 : zT 78 9 = some (.iload_n 1, 1, 1, 0, 0, 0) := (congrArg (fun t => List.lookup 9 t) gt78).trans rfl
theorem t78_10 : zT 78 10 = some (.putfield 36, 3, 9, 5, 0, 317) := (congrArg (fun t => List.lookup 10 t) gt78).trans rfl
theorem t78_13 : zT 78 13 = some (.return_, 1, 0, 0, 0, 0) := (congrArg (fun t => List.lookup 13 t) gt78).trans rfl
theorem t79_0 : zT 79 0 = some (.iconst 0, 1, 0, 0, 0, 0) := (congrArg (fun t => List.lookup 0 t) gt79).trans rfl
theorem t79_1 : zT 79 1 = some (.istore_n 1, 1, 1, 0, 0, 0) := (congrArg (fun t => List.lookup 1 t) gt79).trans rfl
theorem t79_2 : zT 79 2 = some (.iconst 0, 1, 0, 0, 0, 0) := (congrArg (fun t => List.lookup 2 t) gt79).trans rfl
theorem t79_3 : zT 79 3 = some (.istore_n 2, 1, 2, 0, 0, 0) := (congrArg (fun t => List.lookup 3 t) gt79).trans rfl
theorem t79_4 : zT 79 4 = some (.iload_n 2, 1, 2, 0, 0, 0) := (congrArg (fun t => List.lookup 4 t) gt79).trans rfl
theorem t79_5 : zT 79 5 = some (.iconst 4, 1, 0, 0, 4, 0) := (congrArg (fun t => List.lookup 5 t) gt79).trans rfl
theorem t79_6 : zT 79 6 = some (.if_icmp .ge 42, 3, 48, 0, 0, 0) := (congrArg (fun t => List.lookup 6 t) gt79).trans rfl
theorem t79_9 : zT 79 9 = some (.aload_n 0, 1, 0, 0, 0, 0) := (congrArg (fun t => List.lookup 9 t) gt79).trans rfl
theorem t79_10 : zT 79 10 = some (.invokevirtual 65, 3, 68, 0, 0, 862) := (congrArg (fun t => List.lookup 10 t) gt79).trans rfl
theorem t79_13 : zT 79 13 = some (.invokestatic 85, 3, 36, 2, 0, 951) := (congrArg (fun t => List.lookup 13 t) gt79).trans rfl
theorem t79_16 : zT 79 16 = some (.ifCond .eq 32, 3, 48, 0, 0, 0) := (congrArg (fun t => List.lookup 16 t) gt79).trans rfl
theorem t79_19 : zT 79 19 = some (.iload_n 1, 1, 1, 0, 0, 0) := (congrArg (fun t => List.lookup 19 t) gt79).trans rfl
theorem t79_20 : zT 79 20 = some (.bipush 10, 2, 0, 0, 10, 0) := (congrArg (fun t => List.lookup 20 t) gt79).trans rfl
theorem t79_22 : zT 79 22 = some (.imul, 1, 0, 0, 0, 0) := (congrArg (fun t => List.lookup 22 t) gt79).trans rfl
theorem t79_23 : zT 79 23 = some (.aload_n 0, 1, 0, 0, 0, 0) := (congrArg (fun t => List.lookup 23 t) gt79).trans rfl
theorem t79_24 : zT 79 24 = some (.invokevirtual 65, 3, 68, 0, 0, 862) := (congrArg (fun t => List.lookup 24 t) gt79).trans rfl
theorem t79_27 : zT 79 27 = some (.iadd, 1, 0, 0, 0, 0) := (congrArg (fun t => List.lookup 27 t) gt79).trans rfl
theorem t79_28 : zT 79 28 = some (.bipush 48, 2, 0, 0, 48, 0) := (congrArg (fun t => List.lookup 28 t) gt79).trans rfl
theorem t79_30 : zT 79 30 = some (.isub, 1, 0, 0, 0, 0) := (congrArg (fun t => List.lookup 30 t) gt79).trans rfl
theorem t79_31 : zT 79 31 = some (.istore_n 1, 1, 1, 0, 0, 0) := (congrArg (fun t => List.lookup 31 t) gt79).trans rfl
theorem t79_32 : zT 79 32 = some (.aload_n 0, 1, 0, 0, 0, 0) := (congrArg (fun t => List.lookup 32 t) gt79).trans rfl
theorem t79_33 : zT 79 33 = some (.dup, 1, 0, 0, 0, 0) := (congrArg (fun t => List.lookup 33 t) gt79).trans rfl
theorem t79_34 : zT 79 34 = some (.getfield 30, 3, 9, 3, 0, 315) := (congrArg (fun t => List.lookup 34 t) gt79).trans rfl
theorem t79_37 : zT 79 37 = some (.iconst 1, 1, 0, 0, 1, 0) := (congrArg (fun t => List.lookup 37 t) gt79).trans rfl
theorem t79_38 : zT 79 38 = some (.iadd, 1, 0, 0, 0, 0) := (congrArg (fun t => List.lookup 38 t) gt79).trans rfl
theorem t79_39 : zT 79 39 = some (.putfield 30, 3, 9, 3, 0, 315) := (congrArg (fun t => List.lookup 39 t) gt79).trans rfl
theorem t79_42 : zT 79 42 = some (.iinc 2 1, 3, 0, 0, 0, 0) := (congrArg (fun t => List.lookup 42 t) gt79).trans rfl
theorem t79_45 : zT 79 45 = some (.goto (-41), 3, 4, 0, 0, 0) := (congrArg (fun t => List.lookup 45 t) gt79).trans rfl
theorem t79_48 : zT 79 48 = some (.aload_n 0, 1, 0, 0, 0, 0) := (congrArg (fun t => List.lookup 48 t) gt79).trans rfl
theorem t79_49 : zT 79 49 = some (.invokevirtual 65, 3, 68, 0, 0, 862) := (congrArg (fun t => List.lookup 49 t) gt79).trans rfl
theorem t79_52 : zT 79 52 = some (.invokestatic 85, 3, 36, 2, 0, 951) := (congrArg (fun t => List.lookup 52 t) gt79).trans rfl
theorem t79_55 : zT 79 55 = some (.ifCond .eq 11, 3, 66, 0, 0, 0) := (congrArg (fun t => List.lookup 55 t) gt79).trans rfl
theorem t79_58 : zT 79 58 = some (.aload_n 0, 1, 0, 0, 0, 0) := (congrArg (fun t => List.lookup 58 t) gt79).trans rfl
theorem t79_59 : zT 79 59 = some (.aload_n 0, 1, 0, 0, 0, 0) := (congrArg (fun t => List.lookup 59 t) gt79).trans rfl
theorem t79_60 : zT 79 60 = some (.getfield 30, 3, 9, 3, 0, 315) := (congrArg (fun t => List.lookup 60 t) gt79).trans rfl
theorem t79_63 : zT 79 63 = some (.invokevirtual 58, 3, 78, 0, 0, 952) := (congrArg (fun t => List.lookup 63 t) gt79).trans rfl
theorem t79_66 : zT 79 66 = some (.iload_n 1, 1, 1, 0, 0, 0) := (congrArg (fun t => List.lookup 66 t) gt79).trans rfl
theorem t79_67 : zT 79 67 = some (.ireturn, 1, 0, 0, 0, 0) := (congrArg (fun t => List.lookup 67 t) gt79).trans rfl
theorem t181_0 : zT 181 0 = some (.aload_n 0, 1, 0, 0, 0, 0) := (congrArg (fun t => List.lookup 0 t) gt181).trans rfl
theorem t181_1 : zT 181 1 = some (.invokevirtual 492, 3, 74, 0, 0, 886) := (congrArg (fun t => List.lookup 1 t) gt181).trans rfl
theorem t181_4 : zT 181 4 = some (.ifCond .eq 12, 3, 16, 0, 0, 0) := (congrArg (fun t => List.lookup 4 t) gt181).trans rfl
theorem t181_7 : zT 181 7 = some (.aload_n 0, 1, 0, 0, 0, 0) := (congrArg (fun t => List.lookup 7 t) gt181).trans rfl
theorem t181_8 : zT 181 8 = some (.getfield 9, 3, 30, 0, 0, 2273) := (congrArg (fun t => List.lookup 8 t) gt181).trans rfl
theorem t181_11 : zT 181 11 = some (.iload_n 1, 1, 1, 0, 0, 0) := (congrArg (fun t => List.lookup 11 t) gt181).trans rfl
theorem t181_12 : zT 181 12 = some (.invokestatic 495, 3, 182, 1, 0, 1410) := (congrArg (fun t => List.lookup 12 t) gt181).trans rfl
theorem t181_15 : zT 181 15 = some (.ireturn, 1, 0, 0, 0, 0) := (congrArg (fun t => List.lookup 15 t) gt181).trans rfl
theorem t182_0 : zT 182 0 = some (.iload_n 1, 1, 1, 0, 0, 0) := (congrArg (fun t => List.lookup 0 t) gt182).trans rfl
theorem t182_1 : zT 182 1 = some (.aload_n 0, 1, 0, 0, 0, 0) := (congrArg (fun t => List.lookup 1 t) gt182).trans rfl
theorem t182_2 : zT 182 2 = some (.arraylength, 1, 0, 0, 0, 0) := (congrArg (fun t => List.lookup 2 t) gt182).trans rfl
theorem t182_3 : zT 182 3 = some (.invokestatic 9, 3, 183, 1, 0, 1413) := (congrArg (fun t => List.lookup 3 t) gt182).trans rfl
theorem t182_6 : zT 182 6 = some (.aload_n 0, 1, 0, 0, 0, 0) := (congrArg (fun t => List.lookup 6 t) gt182).trans rfl
theorem t182_7 : zT 182 7 = some (.iload_n 1, 1, 1, 0, 0, 0) := (congrArg (fun t => List.lookup 7 t) gt182).trans rfl
theorem t182_8 : zT 182 8 = some (.baload, 1, 0, 0, 0, 0) := (congrArg (fun t => List.lookup 8 t) gt182).trans rfl
theorem t182_9 : zT 182 9 = some (.sipush 255, 3, 0, 0, 255, 0) := (congrArg (fun t => List.lookup 9 t) gt182).trans rfl
theorem t182_12 : zT 182 12 = some (.iand, 1, 0, 0, 0, 0) := (congrArg (fun t => List.lookup 12 t) gt182).trans rfl
theorem t182_13 : zT 182 13 = some (.i2c, 1, 0, 0, 0, 0) := (congrArg (fun t => List.lookup 13 t) gt182).trans rfl
theorem t182_14 : zT 182 14 = some (.ireturn, 1, 0, 0, 0, 0) := (congrArg (fun t => List.lookup 14 t) gt182).trans rfl
theorem t183_0 : zT 183 0 = some (.iload_n 0, 1, 0, 0, 0, 0) := (congrArg (fun t => List.lookup 0 t) gt183).trans rfl
theorem t183_1 : zT 183 1 = some (.iload_n 1, 1, 1, 0, 0, 0) := (congrArg (fun t => List.lookup 1 t) gt183).trans rfl
theorem t183_2 : zT 183 2 = some (.getstatic 1053, 3, 4, 0, 0, 920) := (congrArg (fun t => List.lookup 2 t) gt183).trans rfl
theorem t183_5 : zT 183 5 = some (.invokestatic 1059, 3, 184, 1, 0, 1416) := (congrArg (fun t => List.lookup 5 t) gt183).trans rfl
theorem t183_8 : zT 183 8 = some (.pop, 1, 0, 0, 0, 0) := (congrArg (fun t => List.lookup 8 t) gt183).trans rfl
theorem t183_9 : zT 183 9 = some (.return_, 1, 0, 0, 0, 0) := (congrArg (fun t => List.lookup 9 t) gt183).trans rfl
theorem t184_0 : zT 184 0 = some (.iload_n 0, 1, 0, 0, 0, 0) := (congrArg (fun t => List.lookup 0 t) gt184).trans rfl
theorem t184_1 : zT 184 1 = some (.ifCond .lt 8, 3, 9, 0, 0, 0) := (congrArg (fun t => List.lookup 1 t) gt184).trans rfl
theorem t184_4 : zT 184 4 = some (.iload_n 0, 1, 0, 0, 0, 0) := (congrArg (fun t => List.lookup 4 t) gt184).trans rfl
theorem t184_5 : zT 184 5 = some (.iload_n 1, 1, 1, 0, 0, 0) := (congrArg (fun t => List.lookup 5 t) gt184).trans rfl
theorem t184_6 : zT 184 6 = some (.if_icmp .lt 10, 3, 16, 0, 0, 0) := (congrArg (fun t => List.lookup 6 t) gt184).trans rfl
theorem t184_16 : zT 184 16 = some (.iload_n 0, 1, 0, 0, 0, 0) := (congrArg (fun t => List.lookup 16 t) gt184).trans rfl
theorem t184_17 : zT 184 17 = some (.ireturn, 1, 0, 0, 0, 0) := (congrArg (fun t => List.lookup 17 t) gt184).trans rfl
theorem fk_zMc_161 : zK zMc 161 = (9, 0) := by decide +kernel
theorem fk_zMc_162 : zK zMc 162 = (20, 8) := by decide +kernel
theorem fk_zMc_163 : zK zMc 163 = (21, 500) := by decide +kernel
theorem fk_zMc_5 : zK zMc 5 = (21, 8) := by decide +kernel
theorem fv_zMc_161_0 : zfv zMc 161 (cY 9 0) 0 = .ref 162 := by decide +kernel
theorem fv_zMc_161_1 : zfv zMc 161 (cY 9 1) 1 = .ref 163 := by decide +kernel
theorem ib161_2 {M : zM} (h : zIv cLo cHi M) : 0 ≤ (zI M 161 2).toInt ∧ (zI M 161 2).toInt ≤ 500 := h 161 2
theorem ib161_3 {M : zM} (h : zIv cLo cHi M) : 0 ≤ (zI M 161 3).toInt ∧ (zI M 161 3).toInt ≤ 500 := h 161 3
theorem ib161_4 {M : zM} (h : zIv cLo cHi M) : 0 ≤ (zI M 161 4).toInt ∧ (zI M 161 4).toInt ≤ 30 := h 161 4
theorem ib161_5 {M : zM} (h : zIv cLo cHi M) : (-2147483648) ≤ (zI M 161 5).toInt ∧ (zI M 161 5).toInt ≤ 2147483647 := h 161 5
theorem ib162 {M : zM} (h : zIv cLo cHi M) (j : Nat) : (-2147483648) ≤ (zI M 162 j).toInt ∧ (zI M 162 j).toInt ≤ 2147483647 := h 162 j
theorem ib163 {M : zM} (h : zIv cLo cHi M) (j : Nat) : (-128) ≤ (zI M 163 j).toInt ∧ (zI M 163 j).toInt ≤ 127 := h 163 j
theorem ib5 {M : zM} (h : zIv cLo cHi M) (j : Nat) : (-2147483648) ≤ (zI M 5 j).toInt ∧ (zI M 5 j).toInt ≤ 2147483647 := h 5 j
theorem C77_5 {X : zX} {l : Launch} {M : zM} {Q : Option Value → zM → Prop} {a b c : Int32} (hs : zSk zMc M) (hI : zIv cLo cHi M) (hb : 0 ≤ b.toInt ∧ b.toInt ≤ 8) (hc : 0 ≤ c.toInt ∧ c.toInt ≤ 8) (hQ : ∀ v : Int32, (-1) ≤ v.toInt → v.toInt ≤ 7 → Q (some (.int v)) M) : zCall X l 0 0 0 77 [.ref 5, .int a, .int b, .int c] M Q := by
  have ga := zrg a
  have gb := zrg b
  have gc := zrg c
  refine zs_in (by decide) mf77 (Nat.le_of_ble_eq_true rfl) ?_
  show zGo X l 0 0 0 77 0 [(0, .ref 5), (1, .int a), (2, .int b), (3, .int c)] [] M _
  refine zs_iload_n (pc := 0) t77_0 rfl ?_
  obtain ⟨w1v, w1e⟩ : ∃ v, a.toInt8.toInt32 = v := ⟨_, rfl⟩
  have w1 : (-128) ≤ w1v.toInt ∧ w1v.toInt ≤ 127 := by rw [← w1e]; exact znb _
  refine zs_i2b (pc := 1) t77_1 (c := w1v) w1e ?_
  refine zs_istore (pc := 2) t77_2 (ls' := [(4, .int w1v), (0, .ref 5), (1, .int a), (2, .int b), (3, .int c)]) (zml mf77 (by decide)) rfl ?_
  refine zs_iload_n (pc := 4) t77_4 rfl ?_
  refine zs_istore (pc := 5) t77_5 (ls' := [(5, .int b), (4, .int w1v), (0, .ref 5), (1, .int a), (2, .int b), (3, .int c)]) (zml mf77 (by decide)) rfl ?_
  have w2L : ∀ (m : Nat) (w2x5 : Int32), (0 ≤ w2x5.toInt ∧ w2x5.toInt ≤ 8) → 8 - w2x5.toInt ≤ (m : Int) → zGo X l 0 0 0 77 7 [(0, .ref 5), (1, .int a), (2, .int b), (3, .int c), (4, .int w1v), (5, .int w2x5)] [] M Q := by
    intro m
    induction m using Nat.strongRecOn with
    | ind w2m w2ih =>
      intro w2x5 w2b5 w2q
      refine zs_iload (pc := 7) t77_7 rfl ?_
      refine zs_iload_n (pc := 9) t77_9 rfl ?_
      by_cases w3 : c.toInt ≤ w2x5.toInt
      · refine zs_icmp_geT (pc := 10) t77_10 rfl rfl (by omega) ?_
        refine zs_iconst (pc := 31) t77_31 (v := -1) (by decide) ?_
        exact zs_iret (pc := 32) t77_32 mr77 (by decide) (hQ _ (by decide) (by decide))
      · refine zs_icmp_geF (pc := 10) t77_10 rfl rfl (by omega) ?_
        refine zs_aload_n (pc := 13) t77_13 rfl ?_
        refine zs_iload (pc := 14) t77_14 rfl ?_
        obtain ⟨w4n, w4⟩ : ∃ n : Nat, w2x5.toInt = (n : Int) := ⟨w2x5.toInt.toNat, by omega⟩
        have w5 := ib5 hI w4n
        refine zs_bald (pc := 16) t77_16 (j := w4n) (Or.inl (zk1 (hs.k fk_zMc_5))) w4 (zk2 (hs.k fk_zMc_5) (by omega)) rfl ?_
        refine zs_iload (pc := 17) t77_17 rfl ?_
        by_cases w6 : (zI M 5 w4n).toInt ≠ w1v.toInt
        · refine zs_icmp_neT (pc := 19) t77_19 rfl rfl (by omega) ?_
          obtain ⟨w7v, w7e, w7⟩ := ziadd (a := w2x5) (b := Int32.ofInt 1) rfl (show (Int32.ofInt 1).toInt = 1 by decide) (by omega) (by omega)
          refine zs_iinc (pc := 25) t77_25 (ls' := [(5, .int w7v), (0, .ref 5), (1, .int a), (2, .int b), (3, .int c), (4, .int w1v)]) (zml mf77 (by decide)) rfl (c := w7v) w7e rfl ?_
          refine zs_goto (pc := 28) t77_28 ?_
          refine zGo.locals (ls' := [(0, .ref 5), (1, .int a), (2, .int b), (3, .int c), (4, .int w1v), (5, .int w7v)]) (by simp) ?_
          exact w2ih (w2m - 1) (by omega) w7v ⟨by omega, by omega⟩ (by omega)
        · refine zs_icmp_neF (pc := 19) t77_19 rfl rfl (by omega) ?_
          refine zs_iload (pc := 22) t77_22 rfl ?_
          exact zs_iret (pc := 24) t77_24 mr77 rfl (hQ _ (by omega) (by omega))
  refine zGo.locals (ls' := [(0, .ref 5), (1, .int a), (2, .int b), (3, .int c), (4, .int w1v), (5, .int b)]) (by simp) ?_
  exact w2L ((8 - b.toInt : Int).toNat) b ⟨by omega, by omega⟩ (by omega)
theorem C72_4 {X : zX} {l : Launch} {M : zM} {Q : Option Value → zM → Prop} {a : Int32} (hs : zSk zMc M) (hI : zIv cLo cHi M) (hQ : ∀ v : Int32, (-1) ≤ v.toInt → v.toInt ≤ 7 → Q (some (.int v)) M) : zCall X l 3 0 0 72 [.ref 4, .int a] M Q := by
  have ga := zrg a
  refine zs_in (by decide) mf72 (Nat.le_of_ble_eq_true rfl) ?_
  show zGo X l 3 0 0 72 0 [(0, .ref 4), (1, .int a)] [] M _
  refine zs_aload_n (pc := 0) t72_0 rfl ?_
  refine zs_iload_n (pc := 1) t72_1 rfl ?_
  refine zs_iconst (pc := 2) t72_2 (v := 0) (by decide) ?_
  refine zs_invV (pc := 3) (k := 4) (as' := [.int a, .int (0 : Int32)]) (st := []) t72_3 mf73 rfl rfl (Or.inr ⟨rfl, rfl⟩) ⟨by decide, by decide, Nat.le_of_ble_eq_true rfl, Nat.le_of_ble_eq_true rfl⟩ (zs_in (by decide) mf73 (Nat.le_of_ble_eq_true rfl) ?_) (fun _ _ q => q)
  show zGo X l 2 0 0 73 0 [(0, .ref 4), (1, .int a), (2, .int (0 : Int32))] [] M _
  refine zs_aload_n (pc := 0) t73_0 rfl ?_
  refine zs_invV (pc := 1) (k := 4) (as' := []) (st := []) t73_1 mf74 rfl rfl (Or.inr ⟨rfl, rfl⟩) ⟨by decide, by decide, Nat.le_of_ble_eq_true rfl, Nat.le_of_ble_eq_true rfl⟩ (zs_in (by decide) mf74 (Nat.le_of_ble_eq_true rfl) ?_) (fun _ _ q => q)
  show zGo X l 0 0 0 74 0 [(0, .ref 4)] [] M _
  refine zs_getstatic (pc := 0) t74_0 (v := .int 1) rfl ?_
  refine zs_if_eqF (pc := 3) t74_3 li1 (by decide) ?_
  refine zs_aload_n (pc := 6) t74_6 rfl ?_
  refine zs_gets (pc := 7) t74_7 (v := .int (0 : Int32)) rfl ?_
  refine zs_if_neF (pc := 10) t74_10 li0 (by decide) ?_
  refine zs_iconst (pc := 13) t74_13 (v := 1) (by decide) ?_
  refine zs_goto (pc := 14) t74_14 ?_
  refine zs_iret (pc := 18) t74_18 mr74 (by decide) ?_
  show zGo X l 2 0 0 73 4 [(0, .ref 4), (1, .int a), (2, .int (0 : Int32))] [.int (1 : Int32)] M _
  refine zs_if_eqF (pc := 4) t73_4 li1 (by decide) ?_
  refine zs_aload_n (pc := 7) t73_7 rfl ?_
  refine zs_gets (pc := 8) t73_8 (v := .ref 5) rfl ?_
  refine zs_iload_n (pc := 11) t73_11 rfl ?_
  refine zs_iload_n (pc := 12) t73_12 rfl ?_
  refine zs_aload_n (pc := 13) t73_13 rfl ?_
  refine zs_invV (pc := 14) (k := 4) (as' := []) (st := [.int (0 : Int32), .int a, .ref 5]) t73_14 mf6 rfl rfl (Or.inr ⟨rfl, rfl⟩) ⟨by decide, by decide, Nat.le_of_ble_eq_true rfl, Nat.le_of_ble_eq_true rfl⟩ (zs_in (by decide) mf6 (Nat.le_of_ble_eq_true rfl) ?_) (fun _ _ q => q)
  show zGo X l 1 0 0 6 0 [(0, .ref 4)] [] M _
  refine zs_aload_n (pc := 0) t6_0 rfl ?_
  refine zs_gets (pc := 1) t6_1 (v := .ref 5) rfl ?_
  refine zs_alen (pc := 4) t6_4 (by decide) (zk3 (hs.k fk_zMc_5) (by decide)) (zk4 (hs.k fk_zMc_5)) (v := 8) (by decide) ?_
  refine zs_aload_n (pc := 5) t6_5 rfl ?_
  refine zs_invV (pc := 6) (k := 4) (as' := []) (st := [.int (8 : Int32)]) t6_6 mf7 rfl rfl (Or.inr ⟨rfl, rfl⟩) ⟨by decide, by decide, Nat.le_of_ble_eq_true rfl, Nat.le_of_ble_eq_true rfl⟩ (zs_in (by decide) mf7 (Nat.le_of_ble_eq_true rfl) ?_) (fun _ _ q => q)
  show zGo X l 0 0 0 7 0 [(0, .ref 4)] [] M _
  refine zs_getstatic (pc := 0) t7_0 (v := .int 1) rfl ?_
  refine zs_if_eqF (pc := 3) t7_3 li1 (by decide) ?_
  refine zs_aload_n (pc := 6) t7_6 rfl ?_
  refine zs_gets (pc := 7) t7_7 (v := .int (0 : Int32)) rfl ?_
  refine zs_goto (pc := 10) t7_10 ?_
  refine zs_iret (pc := 14) t7_14 mr7 (by decide) ?_
  show zGo X l 1 0 0 6 9 [(0, .ref 4)] [.int (0 : Int32), .int (8 : Int32)] M _
  refine zs_ishr (pc := 9) t6_9 (c := 8) (by decide) ?_
  refine zs_iret (pc := 10) t6_10 mr6 (by decide) ?_
  show zGo X l 2 0 0 73 17 [(0, .ref 4), (1, .int a), (2, .int (0 : Int32))] [.int (8 : Int32), .int (0 : Int32), .int a, .ref 5] M _
  refine zs_invS (pc := 17) (as := [.ref 5, .int a, .int (0 : Int32), .int (8 : Int32)]) (st := []) t73_17 (by decide) mf75 rfl rfl ⟨by decide, by decide, Nat.le_of_ble_eq_true rfl, Nat.le_of_ble_eq_true rfl⟩ (zs_in (by decide) mf75 (Nat.le_of_ble_eq_true rfl) ?_) (fun _ _ q => q)
  show zGo X l 1 0 0 75 0 [(0, .ref 5), (1, .int a), (2, .int (0 : Int32)), (3, .int (8 : Int32))] [] M _
  refine zs_iload_n (pc := 0) t75_0 rfl ?_
  refine zs_invS (pc := 1) (as := [.int a]) (st := []) t75_1 (by decide) mf76 rfl rfl ⟨by decide, by decide, Nat.le_of_ble_eq_true rfl, Nat.le_of_ble_eq_true rfl⟩ (zs_in (by decide) mf76 (Nat.le_of_ble_eq_true rfl) ?_) (fun _ _ q => q)
  show zGo X l 0 0 0 76 0 [(0, .int a)] [] M _
  refine zs_iload_n (pc := 0) t76_0 rfl ?_
  by_cases w1 : a.toInt < 0
  · refine zs_if_ltT (pc := 1) t76_1 rfl (by omega) ?_
    refine zs_iconst (pc := 15) t76_15 (v := 0) (by decide) ?_
    refine zs_iret (pc := 16) t76_16 mr76 (by decide) ?_
    show zGo X l 1 0 0 75 4 [(0, .ref 5), (1, .int a), (2, .int (0 : Int32)), (3, .int (8 : Int32))] [.int (0 : Int32)] M _
    refine zs_if_neF (pc := 4) t75_4 li0 (by decide) ?_
    refine zs_iconst (pc := 7) t75_7 (v := -1) (by decide) ?_
    refine zs_iret (pc := 8) t75_8 mr75 (by decide) ?_
    show zGo X l 2 0 0 73 20 [(0, .ref 4), (1, .int a), (2, .int (0 : Int32))] [.int (-1 : Int32)] M _
    refine zs_goto (pc := 20) t73_20 ?_
    refine zs_iret (pc := 36) t73_36 mr73 (by decide) ?_
    show zGo X l 3 0 0 72 6 [(0, .ref 4), (1, .int a)] [.int (-1 : Int32)] M _
    exact zs_iret (pc := 6) t72_6 mr72 (by decide) (hQ _ (by decide) (by decide))
  · refine zs_if_ltF (pc := 1) t76_1 rfl (by omega) ?_
    refine zs_iload_n (pc := 4) t76_4 rfl ?_
    refine zs_sipush (pc := 5) t76_5 (v := 255) (by decide) ?_
    by_cases w2 : 255 < a.toInt
    · refine zs_icmp_gtT (pc := 8) t76_8 rfl li255 (by omega) ?_
      refine zs_iconst (pc := 15) t76_15 (v := 0) (by decide) ?_
      refine zs_iret (pc := 16) t76_16 mr76 (by decide) ?_
      show zGo X l 1 0 0 75 4 [(0, .ref 5), (1, .int a), (2, .int (0 : Int32)), (3, .int (8 : Int32))] [.int (0 : Int32)] M _
      refine zs_if_neF (pc := 4) t75_4 li0 (by decide) ?_
      refine zs_iconst (pc := 7) t75_7 (v := -1) (by decide) ?_
      refine zs_iret (pc := 8) t75_8 mr75 (by decide) ?_
      show zGo X l 2 0 0 73 20 [(0, .ref 4), (1, .int a), (2, .int (0 : Int32))] [.int (-1 : Int32)] M _
      refine zs_goto (pc := 20) t73_20 ?_
      refine zs_iret (pc := 36) t73_36 mr73 (by decide) ?_
      show zGo X l 3 0 0 72 6 [(0, .ref 4), (1, .int a)] [.int (-1 : Int32)] M _
      exact zs_iret (pc := 6) t72_6 mr72 (by decide) (hQ _ (by decide) (by decide))
    · refine zs_icmp_gtF (pc := 8) t76_8 rfl li255 (by omega) ?_
      refine zs_iconst (pc := 11) t76_11 (v := 1) (by decide) ?_
      refine zs_goto (pc := 12) t76_12 ?_
      refine zs_iret (pc := 16) t76_16 mr76 (by decide) ?_
      show zGo X l 1 0 0 75 4 [(0, .ref 5), (1, .int a), (2, .int (0 : Int32)), (3, .int (8 : Int32))] [.int (1 : Int32)] M _
      refine zs_if_neT (pc := 4) t75_4 li1 (by decide) ?_
      refine zs_iload_n (pc := 9) t75_9 rfl ?_
      refine zs_iconst (pc := 10) t75_10 (v := 0) (by decide) ?_
      refine zs_invS (pc := 11) (as := [.int (0 : Int32), .int (0 : Int32)]) (st := []) t75_11 (by decide) mf21 rfl rfl ⟨by decide, by decide, Nat.le_of_ble_eq_true rfl, Nat.le_of_ble_eq_true rfl⟩ (zs_in (by decide) mf21 (Nat.le_of_ble_eq_true rfl) ?_) (fun _ _ q => q)
      show zGo X l 0 0 0 21 0 [(0, .int (0 : Int32)), (1, .int (0 : Int32))] [] M _
      refine zs_iload_n (pc := 0) t21_0 rfl ?_
      refine zs_iload_n (pc := 1) t21_1 rfl ?_
      refine zs_icmp_ltF (pc := 2) t21_2 li0 li0 (by decide) ?_
      refine zs_iload_n (pc := 5) t21_5 rfl ?_
      refine zs_goto (pc := 6) t21_6 ?_
      refine zs_iret (pc := 10) t21_10 mr21 (by decide) ?_
      show zGo X l 1 0 0 75 14 [(0, .ref 5), (1, .int a), (2, .int (0 : Int32)), (3, .int (8 : Int32))] [.int (0 : Int32)] M _
      refine zs_istore_n (pc := 14) t75_14 (ls' := [(2, .int (0 : Int32)), (0, .ref 5), (1, .int a), (3, .int (8 : Int32))]) (zml mf75 (by decide)) rfl ?_
      refine zs_iload_n (pc := 15) t75_15 rfl ?_
      refine zs_aload_n (pc := 16) t75_16 rfl ?_
      refine zs_alen (pc := 17) t75_17 (by decide) (zk3 (hs.k fk_zMc_5) (by decide)) (zk4 (hs.k fk_zMc_5)) (v := 8) (by decide) ?_
      refine zs_invS (pc := 18) (as := [.int (8 : Int32), .int (8 : Int32)]) (st := []) t75_18 (by decide) mf20 rfl rfl ⟨by decide, by decide, Nat.le_of_ble_eq_true rfl, Nat.le_of_ble_eq_true rfl⟩ (zs_in (by decide) mf20 (Nat.le_of_ble_eq_true rfl) ?_) (fun _ _ q => q)
      show zGo X l 0 0 0 20 0 [(0, .int (8 : Int32)), (1, .int (8 : Int32))] [] M _
      refine zs_iload_n (pc := 0) t20_0 rfl ?_
      refine zs_iload_n (pc := 1) t20_1 rfl ?_
      refine zs_icmp_gtF (pc := 2) t20_2 li8 li8 (by decide) ?_
      refine zs_iload_n (pc := 5) t20_5 rfl ?_
      refine zs_goto (pc := 6) t20_6 ?_
      refine zs_iret (pc := 10) t20_10 mr20 (by decide) ?_
      show zGo X l 1 0 0 75 21 [(2, .int (0 : Int32)), (0, .ref 5), (1, .int a), (3, .int (8 : Int32))] [.int (8 : Int32)] M _
      refine zs_istore_n (pc := 21) t75_21 (ls' := [(3, .int (8 : Int32)), (2, .int (0 : Int32)), (0, .ref 5), (1, .int a)]) (zml mf75 (by decide)) rfl ?_
      refine zs_iload_n (pc := 22) t75_22 rfl ?_
      refine zs_iload_n (pc := 23) t75_23 rfl ?_
      refine zs_icmp_ltT (pc := 24) t75_24 li0 li8 (by decide) ?_
      refine zs_aload_n (pc := 29) t75_29 rfl ?_
      refine zs_iload_n (pc := 30) t75_30 rfl ?_
      refine zs_iload_n (pc := 31) t75_31 rfl ?_
      refine zs_iload_n (pc := 32) t75_32 rfl ?_
      refine zs_invS (pc := 33) (as := [.ref 5, .int a, .int (0 : Int32), .int (8 : Int32)]) (st := []) t75_33 (by decide) mf77 rfl rfl ⟨by decide, by decide, Nat.le_of_ble_eq_true rfl, Nat.le_of_ble_eq_true rfl⟩ (C77_5 hs hI ⟨by decide, by decide⟩ ⟨by decide, by decide⟩ ?_) (fun _ _ q => q)
      intro w3v w3a w3b
      show zGo X l 1 0 0 75 36 [(3, .int (8 : Int32)), (2, .int (0 : Int32)), (0, .ref 5), (1, .int a)] [.int w3v] M _
      refine zs_iret (pc := 36) t75_36 mr75 rfl ?_
      show zGo X l 2 0 0 73 20 [(0, .ref 4), (1, .int a), (2, .int (0 : Int32))] [.int w3v] M _
      refine zs_goto (pc := 20) t73_20 ?_
      refine zs_iret (pc := 36) t73_36 mr73 rfl ?_
      show zGo X l 3 0 0 72 6 [(0, .ref 4), (1, .int a)] [.int w3v] M _
      exact zs_iret (pc := 6) t72_6 mr72 rfl (hQ _ (by omega) (by omega))
theorem C181_4 {X : zX} {l : Launch} {M : zM} {Q : Option Value → zM → Prop} {a : Int32} (hs : zSk zMc M) (hI : zIv cLo cHi M) (ha : 0 ≤ a.toInt ∧ a.toInt ≤ 7) (hQ : ∀ v : Int32, 0 ≤ v.toInt → v.toInt ≤ 65535 → Q (some (.int v)) M) : zCall X l 3 0 0 181 [.ref 4, .int a] M Q := by
  have ga := zrg a
  refine zs_in (by decide) mf181 (Nat.le_of_ble_eq_true rfl) ?_
  show zGo X l 3 0 0 181 0 [(0, .ref 4), (1, .int a)] [] M _
  refine zs_aload_n (pc := 0) t181_0 rfl ?_
  refine zs_invV (pc := 1) (k := 4) (as' := []) (st := []) t181_1 mf74 rfl rfl (Or.inr ⟨rfl, rfl⟩) ⟨by decide, by decide, Nat.le_of_ble_eq_true rfl, Nat.le_of_ble_eq_true rfl⟩ (zs_in (by decide) mf74 (Nat.le_of_ble_eq_true rfl) ?_) (fun _ _ q => q)
  show zGo X l 0 0 0 74 0 [(0, .ref 4)] [] M _
  refine zs_getstatic (pc := 0) t74_0 (v := .int 1) rfl ?_
  refine zs_if_eqF (pc := 3) t74_3 li1 (by decide) ?_
  refine zs_aload_n (pc := 6) t74_6 rfl ?_
  refine zs_gets (pc := 7) t74_7 (v := .int (0 : Int32)) rfl ?_
  refine zs_if_neF (pc := 10) t74_10 li0 (by decide) ?_
  refine zs_iconst (pc := 13) t74_13 (v := 1) (by decide) ?_
  refine zs_goto (pc := 14) t74_14 ?_
  refine zs_iret (pc := 18) t74_18 mr74 (by decide) ?_
  show zGo X l 3 0 0 181 4 [(0, .ref 4), (1, .int a)] [.int (1 : Int32)] M _
  refine zs_if_eqF (pc := 4) t181_4 li1 (by decide) ?_
  refine zs_aload_n (pc := 7) t181_7 rfl ?_
  refine zs_gets (pc := 8) t181_8 (v := .ref 5) rfl ?_
  refine zs_iload_n (pc := 11) t181_11 rfl ?_
  refine zs_invS (pc := 12) (as := [.ref 5, .int a]) (st := []) t181_12 (by decide) mf182 rfl rfl ⟨by decide, by decide, Nat.le_of_ble_eq_true rfl, Nat.le_of_ble_eq_true rfl⟩ (zs_in (by decide) mf182 (Nat.le_of_ble_eq_true rfl) ?_) (fun _ _ q => q)
  show zGo X l 2 0 0 182 0 [(0, .ref 5), (1, .int a)] [] M _
  refine zs_iload_n (pc := 0) t182_0 rfl ?_
  refine zs_aload_n (pc := 1) t182_1 rfl ?_
  refine zs_alen (pc := 2) t182_2 (by decide) (zk3 (hs.k fk_zMc_5) (by decide)) (zk4 (hs.k fk_zMc_5)) (v := 8) (by decide) ?_
  refine zs_invS (pc := 3) (as := [.int a, .int (8 : Int32)]) (st := []) t182_3 (by decide) mf183 rfl rfl ⟨by decide, by decide, Nat.le_of_ble_eq_true rfl, Nat.le_of_ble_eq_true rfl⟩ (zs_in (by decide) mf183 (Nat.le_of_ble_eq_true rfl) ?_) (fun _ _ q => q)
  show zGo X l 1 0 0 183 0 [(0, .int a), (1, .int (8 : Int32))] [] M _
  refine zs_iload_n (pc := 0) t183_0 rfl ?_
  refine zs_iload_n (pc := 1) t183_1 rfl ?_
  refine zs_getstatic (pc := 2) t183_2 (v := .retAddr 0) rfl ?_
  refine zs_invS (pc := 5) (as := [.int a, .int (8 : Int32), .retAddr 0]) (st := []) t183_5 (by decide) mf184 rfl rfl ⟨by decide, by decide, Nat.le_of_ble_eq_true rfl, Nat.le_of_ble_eq_true rfl⟩ (zs_in (by decide) mf184 (Nat.le_of_ble_eq_true rfl) ?_) (fun _ _ q => q)
  show zGo X l 0 0 0 184 0 [(0, .int a), (1, .int (8 : Int32)), (2, .retAddr 0)] [] M _
  refine zs_iload_n (pc := 0) t184_0 rfl ?_
  refine zs_if_ltF (pc := 1) t184_1 rfl (by omega) ?_
  refine zs_iload_n (pc := 4) t184_4 rfl ?_
  refine zs_iload_n (pc := 5) t184_5 rfl ?_
  refine zs_icmp_ltT (pc := 6) t184_6 rfl li8 (by omega) ?_
  refine zs_iload_n (pc := 16) t184_16 rfl ?_
  refine zs_iret (pc := 17) t184_17 mr184 rfl ?_
  show zGo X l 1 0 0 183 8 [(0, .int a), (1, .int (8 : Int32))] [.int a] M _
  refine zs_pop (pc := 8) t183_8 rfl ?_
  refine zs_vret (pc := 9) t183_9 mr183 ?_
  show zGo X l 2 0 0 182 6 [(0, .ref 5), (1, .int a)] [] M _
  refine zs_aload_n (pc := 6) t182_6 rfl ?_
  refine zs_iload_n (pc := 7) t182_7 rfl ?_
  obtain ⟨w1n, w1⟩ : ∃ n : Nat, a.toInt = (n : Int) := ⟨a.toInt.toNat, by omega⟩
  have w2 := ib5 hI w1n
  refine zs_bald (pc := 8) t182_8 (j := w1n) (Or.inl (zk1 (hs.k fk_zMc_5))) w1 (zk2 (hs.k fk_zMc_5) (by omega)) rfl ?_
  refine zs_sipush (pc := 9) t182_9 (v := 255) (by decide) ?_
  obtain ⟨w3v, w3⟩ : ∃ v, (zI M 5 w1n) &&& (255 : Int32) = v := ⟨_, rfl⟩
  have w3g : 0 ≤ w3v.toInt ∧ w3v.toInt ≤ 255 := by rw [← w3]; exact zand li255 (by decide)
  refine zs_iand (pc := 12) t182_12 (c := w3v) w3 ?_
  obtain ⟨w4v, w4e⟩ : ∃ v, (w3v.toUInt32 % 65536).toInt32 = v := ⟨_, rfl⟩
  have w4 : 0 ≤ w4v.toInt ∧ w4v.toInt ≤ 65535 := by rw [← w4e]; exact znc16 _
  refine zs_i2c (pc := 13) t182_13 (c := w4v) w4e ?_
  refine zs_iret (pc := 14) t182_14 mr182 (zfbC (by omega)) ?_
  show zGo X l 3 0 0 181 15 [(0, .ref 4), (1, .int a)] [.int w4v] M _
  exact zs_iret (pc := 15) t181_15 mr181 (zfbC (by omega)) (hQ _ (by omega) (by omega))
theorem C79_161 {X : zX} {l : Launch} {M : zM} {Q : Option Value → zM → Prop} (hs : zSk zMc M) (hI : zIv cLo cHi M) (hQ : ∀ (M' : zM) (v : Int32), zSk zMc M' → zIv cLo cHi M' → zFr [(161, 161, none)] M M' → (-2147483648) ≤ v.toInt → v.toInt ≤ 2147483647 → Q (some (.int v)) M') : zCall X l 1 0 0 79 [.ref 161] M Q := by
  refine zs_in (by decide) mf79 (Nat.le_of_ble_eq_true rfl) ?_
  show zGo X l 1 0 0 79 0 [(0, .ref 161)] [] M _
  refine zs_iconst (pc := 0) t79_0 (v := 0) (by decide) ?_
  refine zs_istore_n (pc := 1) t79_1 (ls' := [(1, .int (0 : Int32)), (0, .ref 161)]) (zml mf79 (by decide)) rfl ?_
  refine zs_iconst (pc := 2) t79_2 (v := 0) (by decide) ?_
  refine zs_istore_n (pc := 3) t79_3 (ls' := [(2, .int (0 : Int32)), (1, .int (0 : Int32)), (0, .ref 161)]) (zml mf79 (by decide)) rfl ?_
  have w1L : ∀ (m : Nat) (w1x1 : Int32) (w1x2 : Int32) (w1M : zM), (0 ≤ w1x2.toInt ∧ w1x2.toInt ≤ 4) → zSk zMc w1M → zIv cLo cHi w1M → zFr [(161, 161, none)] M w1M → 4 - w1x2.toInt ≤ (m : Int) → zGo X l 1 0 0 79 4 [(0, .ref 161), (1, .int w1x1), (2, .int w1x2)] [] w1M Q := by
    intro m
    induction m using Nat.strongRecOn with
    | ind w1m w1ih =>
      intro w1x1 w1x2 w1M w1b2 w1s w1I w1F w1q
      have w1g1 := zrg w1x1
      refine zs_iload_n (pc := 4) t79_4 rfl ?_
      refine zs_iconst (pc := 5) t79_5 (v := 4) (by decide) ?_
      by_cases w2 : 4 ≤ w1x2.toInt
      · refine zs_icmp_geT (pc := 6) t79_6 rfl li4 (by omega) ?_
        refine zs_aload_n (pc := 48) t79_48 rfl ?_
        refine zs_invV (pc := 49) (k := 161) (as' := []) (st := []) t79_49 mf68 rfl rfl (Or.inl ⟨by decide, (zk1 (w1s.k fk_zMc_161))⟩) ⟨by decide, by decide, Nat.le_of_ble_eq_true rfl, Nat.le_of_ble_eq_true rfl⟩ (zs_in (by decide) mf68 (Nat.le_of_ble_eq_true rfl) ?_) (fun _ _ q => q)
        show zGo X l 0 0 0 68 0 [(0, .ref 161)] [] w1M _
        refine zs_aload_n (pc := 0) t68_0 rfl ?_
        have w3 := ib161_5 w1I
        refine zs_get (pc := 1) t68_1 (by decide) (zk1 (w1s.k fk_zMc_161)) (zfvi rfl rfl) ?_
        refine zs_iconst (pc := 4) t68_4 (v := -1) (by decide) ?_
        by_cases w4 : (zI w1M 161 5).toInt ≠ (-1)
        · refine zs_icmp_neT (pc := 5) t68_5 rfl lin1 (by omega) ?_
          refine zs_iconst (pc := 35) t68_35 (v := -1) (by decide) ?_
          refine zs_iret (pc := 36) t68_36 mr68 (by decide) ?_
          show zGo X l 1 0 0 79 52 [(0, .ref 161), (1, .int w1x1), (2, .int w1x2)] [.int (-1 : Int32)] w1M _
          refine zs_invS (pc := 52) (as := [.int (-1 : Int32)]) (st := []) t79_52 (by decide) mf36 rfl rfl ⟨by decide, by decide, Nat.le_of_ble_eq_true rfl, Nat.le_of_ble_eq_true rfl⟩ (zs_in (by decide) mf36 (Nat.le_of_ble_eq_true rfl) ?_) (fun _ _ q => q)
          show zGo X l 0 0 0 36 0 [(0, .int (-1 : Int32))] [] w1M _
          refine zs_iload_n (pc := 0) t36_0 rfl ?_
          refine zs_bipush (pc := 1) t36_1 (v := 48) (by decide) ?_
          refine zs_icmp_ltT (pc := 3) t36_3 lin1 li48 (by decide) ?_
          refine zs_iconst (pc := 16) t36_16 (v := 0) (by decide) ?_
          refine zs_iret (pc := 17) t36_17 mr36 (by decide) ?_
          show zGo X l 1 0 0 79 55 [(0, .ref 161), (1, .int w1x1), (2, .int w1x2)] [.int (0 : Int32)] w1M _
          refine zs_if_eqT (pc := 55) t79_55 li0 (by decide) ?_
          refine zs_iload_n (pc := 66) t79_66 rfl ?_
          exact zs_iret (pc := 67) t79_67 mr79 rfl (hQ _ _ w1s w1I ((zFr.refl).trans (w1F.mono rfl)) (zrg _).1 (zrg _).2)
        · refine zs_icmp_neF (pc := 5) t68_5 rfl lin1 (by omega) ?_
          refine zs_aload_n (pc := 8) t68_8 rfl ?_
          have w5 := ib161_3 w1I
          refine zs_get (pc := 9) t68_9 (by decide) (zk1 (w1s.k fk_zMc_161)) (zfvi rfl rfl) ?_
          refine zs_aload_n (pc := 12) t68_12 rfl ?_
          have w6 := ib161_2 w1I
          refine zs_get (pc := 13) t68_13 (by decide) (zk1 (w1s.k fk_zMc_161)) (zfvi rfl rfl) ?_
          by_cases w7 : (zI w1M 161 2).toInt ≤ (zI w1M 161 3).toInt
          · refine zs_icmp_geT (pc := 16) t68_16 rfl rfl (by omega) ?_
            refine zs_iconst (pc := 35) t68_35 (v := -1) (by decide) ?_
            refine zs_iret (pc := 36) t68_36 mr68 (by decide) ?_
            show zGo X l 1 0 0 79 52 [(0, .ref 161), (1, .int w1x1), (2, .int w1x2)] [.int (-1 : Int32)] w1M _
            refine zs_invS (pc := 52) (as := [.int (-1 : Int32)]) (st := []) t79_52 (by decide) mf36 rfl rfl ⟨by decide, by decide, Nat.le_of_ble_eq_true rfl, Nat.le_of_ble_eq_true rfl⟩ (zs_in (by decide) mf36 (Nat.le_of_ble_eq_true rfl) ?_) (fun _ _ q => q)
            show zGo X l 0 0 0 36 0 [(0, .int (-1 : Int32))] [] w1M _
            refine zs_iload_n (pc := 0) t36_0 rfl ?_
            refine zs_bipush (pc := 1) t36_1 (v := 48) (by decide) ?_
            refine zs_icmp_ltT (pc := 3) t36_3 lin1 li48 (by decide) ?_
            refine zs_iconst (pc := 16) t36_16 (v := 0) (by decide) ?_
            refine zs_iret (pc := 17) t36_17 mr36 (by decide) ?_
            show zGo X l 1 0 0 79 55 [(0, .ref 161), (1, .int w1x1), (2, .int w1x2)] [.int (0 : Int32)] w1M _
            refine zs_if_eqT (pc := 55) t79_55 li0 (by decide) ?_
            refine zs_iload_n (pc := 66) t79_66 rfl ?_
            exact zs_iret (pc := 67) t79_67 mr79 rfl (hQ _ _ w1s w1I ((zFr.refl).trans (w1F.mono rfl)) (zrg _).1 (zrg _).2)
          · refine zs_icmp_geF (pc := 16) t68_16 rfl rfl (by omega) ?_
            refine zs_aload_n (pc := 19) t68_19 rfl ?_
            refine zs_get (pc := 20) t68_20 (by decide) (zk1 (w1s.k fk_zMc_161)) (w1s.p rfl fv_zMc_161_1) ?_
            refine zs_aload_n (pc := 23) t68_23 rfl ?_
            refine zs_get (pc := 24) t68_24 (by decide) (zk1 (w1s.k fk_zMc_161)) (zfvi rfl rfl) ?_
            obtain ⟨w8n, w8⟩ : ∃ n : Nat, (zI w1M 161 3).toInt = (n : Int) := ⟨(zI w1M 161 3).toInt.toNat, by omega⟩
            have w9 := ib163 hI w8n
            refine zs_bald (pc := 27) t68_27 (j := w8n) (Or.inl (zk1 (w1s.k fk_zMc_163))) w8 (zk2 (w1s.k fk_zMc_163) (by omega)) ((w1F 163 w8n rfl).trans rfl) ?_
            refine zs_sipush (pc := 28) t68_28 (v := 255) (by decide) ?_
            obtain ⟨w10v, w10⟩ : ∃ v, (zI M 163 w8n) &&& (255 : Int32) = v := ⟨_, rfl⟩
            have w10g : 0 ≤ w10v.toInt ∧ w10v.toInt ≤ 255 := by rw [← w10]; exact zand li255 (by decide)
            refine zs_iand (pc := 31) t68_31 (c := w10v) w10 ?_
            refine zs_goto (pc := 32) t68_32 ?_
            refine zs_iret (pc := 36) t68_36 mr68 rfl ?_
            show zGo X l 1 0 0 79 52 [(0, .ref 161), (1, .int w1x1), (2, .int w1x2)] [.int w10v] w1M _
            refine zs_invS (pc := 52) (as := [.int w10v]) (st := []) t79_52 (by decide) mf36 rfl rfl ⟨by decide, by decide, Nat.le_of_ble_eq_true rfl, Nat.le_of_ble_eq_true rfl⟩ (zs_in (by decide) mf36 (Nat.le_of_ble_eq_true rfl) ?_) (fun _ _ q => q)
            show zGo X l 0 0 0 36 0 [(0, .int w10v)] [] w1M _
            refine zs_iload_n (pc := 0) t36_0 rfl ?_
            refine zs_bipush (pc := 1) t36_1 (v := 48) (by decide) ?_
            by_cases w11 : w10v.toInt < 48
            · refine zs_icmp_ltT (pc := 3) t36_3 rfl li48 (by omega) ?_
              refine zs_iconst (pc := 16) t36_16 (v := 0) (by decide) ?_
              refine zs_iret (pc := 17) t36_17 mr36 (by decide) ?_
              show zGo X l 1 0 0 79 55 [(0, .ref 161), (1, .int w1x1), (2, .int w1x2)] [.int (0 : Int32)] w1M _
              refine zs_if_eqT (pc := 55) t79_55 li0 (by decide) ?_
              refine zs_iload_n (pc := 66) t79_66 rfl ?_
              exact zs_iret (pc := 67) t79_67 mr79 rfl (hQ _ _ w1s w1I ((zFr.refl).trans (w1F.mono rfl)) (zrg _).1 (zrg _).2)
            · refine zs_icmp_ltF (pc := 3) t36_3 rfl li48 (by omega) ?_
              refine zs_iload_n (pc := 6) t36_6 rfl ?_
              refine zs_bipush (pc := 7) t36_7 (v := 57) (by decide) ?_
              by_cases w12 : 57 < w10v.toInt
              · refine zs_icmp_gtT (pc := 9) t36_9 rfl li57 (by omega) ?_
                refine zs_iconst (pc := 16) t36_16 (v := 0) (by decide) ?_
                refine zs_iret (pc := 17) t36_17 mr36 (by decide) ?_
                show zGo X l 1 0 0 79 55 [(0, .ref 161), (1, .int w1x1), (2, .int w1x2)] [.int (0 : Int32)] w1M _
                refine zs_if_eqT (pc := 55) t79_55 li0 (by decide) ?_
                refine zs_iload_n (pc := 66) t79_66 rfl ?_
                exact zs_iret (pc := 67) t79_67 mr79 rfl (hQ _ _ w1s w1I ((zFr.refl).trans (w1F.mono rfl)) (zrg _).1 (zrg _).2)
              · refine zs_icmp_gtF (pc := 9) t36_9 rfl li57 (by omega) ?_
                refine zs_iconst (pc := 12) t36_12 (v := 1) (by decide) ?_
                refine zs_goto (pc := 13) t36_13 ?_
                refine zs_iret (pc := 17) t36_17 mr36 (by decide) ?_
                show zGo X l 1 0 0 79 55 [(0, .ref 161), (1, .int w1x1), (2, .int w1x2)] [.int (1 : Int32)] w1M _
                refine zs_if_eqF (pc := 55) t79_55 li1 (by decide) ?_
                refine zs_aload_n (pc := 58) t79_58 rfl ?_
                refine zs_aload_n (pc := 59) t79_59 rfl ?_
                refine zs_get (pc := 60) t79_60 (by decide) (zk1 (w1s.k fk_zMc_161)) (zfvi rfl rfl) ?_
                refine zs_invV (pc := 63) (k := 161) (as' := [.int (zI w1M 161 3)]) (st := []) t79_63 mf78 rfl rfl (Or.inl ⟨by decide, (zk1 (w1s.k fk_zMc_161))⟩) ⟨by decide, by decide, Nat.le_of_ble_eq_true rfl, Nat.le_of_ble_eq_true rfl⟩ (zs_in (by decide) mf78 (Nat.le_of_ble_eq_true rfl) ?_) (fun _ _ q => q)
                show zGo X l 0 0 0 78 0 [(0, .ref 161), (1, .int (zI w1M 161 3))] [] w1M _
                refine zs_aload_n (pc := 0) t78_0 rfl ?_
                refine zs_get (pc := 1) t78_1 (by decide) (zk1 (w1s.k fk_zMc_161)) (zfvi rfl rfl) ?_
                refine zs_iconst (pc := 4) t78_4 (v := -1) (by decide) ?_
                refine zs_icmp_neF (pc := 5) t78_5 rfl lin1 (by omega) ?_
                refine zs_aload_n (pc := 8) t78_8 rfl ?_
                refine zs_iload_n (pc := 9) t78_9 rfl ?_
                have w13 : zIv cLo cHi (zsI w1M 161 5 (zI w1M 161 3)) := zIv.put w1I (show (-2147483648) ≤ (zI w1M 161 3).toInt ∧ (zI w1M 161 3).toInt ≤ 2147483647 from (zrg (zI w1M 161 3)))
                refine zs_putI (pc := 10) t78_10 (zk1 (w1s.k fk_zMc_161)) rfl ?_
                refine zs_vret (pc := 13) t78_13 mr78 ?_
                show zGo X l 1 0 0 79 66 [(0, .ref 161), (1, .int w1x1), (2, .int w1x2)] [] (zsI w1M 161 5 (zI w1M 161 3)) _
                refine zs_iload_n (pc := 66) t79_66 rfl ?_
                exact zs_iret (pc := 67) t79_67 mr79 rfl (hQ _ _ w1s w13 (((zFr.refl).trans (w1F.mono rfl)).put rfl) (zrg _).1 (zrg _).2)
      · refine zs_icmp_geF (pc := 6) t79_6 rfl li4 (by omega) ?_
        refine zs_aload_n (pc := 9) t79_9 rfl ?_
        refine zs_invV (pc := 10) (k := 161) (as' := []) (st := []) t79_10 mf68 rfl rfl (Or.inl ⟨by decide, (zk1 (w1s.k fk_zMc_161))⟩) ⟨by decide, by decide, Nat.le_of_ble_eq_true rfl, Nat.le_of_ble_eq_true rfl⟩ (zs_in (by decide) mf68 (Nat.le_of_ble_eq_true rfl) ?_) (fun _ _ q => q)
        show zGo X l 0 0 0 68 0 [(0, .ref 161)] [] w1M _
        refine zs_aload_n (pc := 0) t68_0 rfl ?_
        have w14 := ib161_5 w1I
        refine zs_get (pc := 1) t68_1 (by decide) (zk1 (w1s.k fk_zMc_161)) (zfvi rfl rfl) ?_
        refine zs_iconst (pc := 4) t68_4 (v := -1) (by decide) ?_
        by_cases w15 : (zI w1M 161 5).toInt ≠ (-1)
        · refine zs_icmp_neT (pc := 5) t68_5 rfl lin1 (by omega) ?_
          refine zs_iconst (pc := 35) t68_35 (v := -1) (by decide) ?_
          refine zs_iret (pc := 36) t68_36 mr68 (by decide) ?_
          show zGo X l 1 0 0 79 13 [(0, .ref 161), (1, .int w1x1), (2, .int w1x2)] [.int (-1 : Int32)] w1M _
          refine zs_invS (pc := 13) (as := [.int (-1 : Int32)]) (st := []) t79_13 (by decide) mf36 rfl rfl ⟨by decide, by decide, Nat.le_of_ble_eq_true rfl, Nat.le_of_ble_eq_true rfl⟩ (zs_in (by decide) mf36 (Nat.le_of_ble_eq_true rfl) ?_) (fun _ _ q => q)
          show zGo X l 0 0 0 36 0 [(0, .int (-1 : Int32))] [] w1M _
          refine zs_iload_n (pc := 0) t36_0 rfl ?_
          refine zs_bipush (pc := 1) t36_1 (v := 48) (by decide) ?_
          refine zs_icmp_ltT (pc := 3) t36_3 lin1 li48 (by decide) ?_
          refine zs_iconst (pc := 16) t36_16 (v := 0) (by decide) ?_
          refine zs_iret (pc := 17) t36_17 mr36 (by decide) ?_
          show zGo X l 1 0 0 79 16 [(0, .ref 161), (1, .int w1x1), (2, .int w1x2)] [.int (0 : Int32)] w1M _
          refine zs_if_eqT (pc := 16) t79_16 li0 (by decide) ?_
          refine zs_aload_n (pc := 48) t79_48 rfl ?_
          refine zs_invV (pc := 49) (k := 161) (as' := []) (st := []) t79_49 mf68 rfl rfl (Or.inl ⟨by decide, (zk1 (w1s.k fk_zMc_161))⟩) ⟨by decide, by decide, Nat.le_of_ble_eq_true rfl, Nat.le_of_ble_eq_true rfl⟩ (zs_in (by decide) mf68 (Nat.le_of_ble_eq_true rfl) ?_) (fun _ _ q => q)
          show zGo X l 0 0 0 68 0 [(0, .ref 161)] [] w1M _
          refine zs_aload_n (pc := 0) t68_0 rfl ?_
          refine zs_get (pc := 1) t68_1 (by decide) (zk1 (w1s.k fk_zMc_161)) (zfvi rfl rfl) ?_
          refine zs_iconst (pc := 4) t68_4 (v := -1) (by decide) ?_
          refine zs_icmp_neT (pc := 5) t68_5 rfl lin1 (by omega) ?_
          refine zs_iconst (pc := 35) t68_35 (v := -1) (by decide) ?_
          refine zs_iret (pc := 36) t68_36 mr68 (by decide) ?_
          show zGo X l 1 0 0 79 52 [(0, .ref 161), (1, .int w1x1), (2, .int w1x2)] [.int (-1 : Int32)] w1M _
          refine zs_invS (pc := 52) (as := [.int (-1 : Int32)]) (st := []) t79_52 (by decide) mf36 rfl rfl ⟨by decide, by decide, Nat.le_of_ble_eq_true rfl, Nat.le_of_ble_eq_true rfl⟩ (zs_in (by decide) mf36 (Nat.le_of_ble_eq_true rfl) ?_) (fun _ _ q => q)
          show zGo X l 0 0 0 36 0 [(0, .int (-1 : Int32))] [] w1M _
          refine zs_iload_n (pc := 0) t36_0 rfl ?_
          refine zs_bipush (pc := 1) t36_1 (v := 48) (by decide) ?_
          refine zs_icmp_ltT (pc := 3) t36_3 lin1 li48 (by decide) ?_
          refine zs_iconst (pc := 16) t36_16 (v := 0) (by decide) ?_
          refine zs_iret (pc := 17) t36_17 mr36 (by decide) ?_
          show zGo X l 1 0 0 79 55 [(0, .ref 161), (1, .int w1x1), (2, .int w1x2)] [.int (0 : Int32)] w1M _
          refine zs_if_eqT (pc := 55) t79_55 li0 (by decide) ?_
          refine zs_iload_n (pc := 66) t79_66 rfl ?_
          exact zs_iret (pc := 67) t79_67 mr79 rfl (hQ _ _ w1s w1I ((zFr.refl).trans (w1F.mono rfl)) (zrg _).1 (zrg _).2)
        · refine zs_icmp_neF (pc := 5) t68_5 rfl lin1 (by omega) ?_
          refine zs_aload_n (pc := 8) t68_8 rfl ?_
          have w16 := ib161_3 w1I
          refine zs_get (pc := 9) t68_9 (by decide) (zk1 (w1s.k fk_zMc_161)) (zfvi rfl rfl) ?_
          refine zs_aload_n (pc := 12) t68_12 rfl ?_
          have w17 := ib161_2 w1I
          refine zs_get (pc := 13) t68_13 (by decide) (zk1 (w1s.k fk_zMc_161)) (zfvi rfl rfl) ?_
          by_cases w18 : (zI w1M 161 2).toInt ≤ (zI w1M 161 3).toInt
          · refine zs_icmp_geT (pc := 16) t68_16 rfl rfl (by omega) ?_
            refine zs_iconst (pc := 35) t68_35 (v := -1) (by decide) ?_
            refine zs_iret (pc := 36) t68_36 mr68 (by decide) ?_
            show zGo X l 1 0 0 79 13 [(0, .ref 161), (1, .int w1x1), (2, .int w1x2)] [.int (-1 : Int32)] w1M _
            refine zs_invS (pc := 13) (as := [.int (-1 : Int32)]) (st := []) t79_13 (by decide) mf36 rfl rfl ⟨by decide, by decide, Nat.le_of_ble_eq_true rfl, Nat.le_of_ble_eq_true rfl⟩ (zs_in (by decide) mf36 (Nat.le_of_ble_eq_true rfl) ?_) (fun _ _ q => q)
            show zGo X l 0 0 0 36 0 [(0, .int (-1 : Int32))] [] w1M _
            refine zs_iload_n (pc := 0) t36_0 rfl ?_
            refine zs_bipush (pc := 1) t36_1 (v := 48) (by decide) ?_
            refine zs_icmp_ltT (pc := 3) t36_3 lin1 li48 (by decide) ?_
            refine zs_iconst (pc := 16) t36_16 (v := 0) (by decide) ?_
            refine zs_iret (pc := 17) t36_17 mr36 (by decide) ?_
            show zGo X l 1 0 0 79 16 [(0, .ref 161), (1, .int w1x1), (2, .int w1x2)] [.int (0 : Int32)] w1M _
            refine zs_if_eqT (pc := 16) t79_16 li0 (by decide) ?_
            refine zs_aload_n (pc := 48) t79_48 rfl ?_
            refine zs_invV (pc := 49) (k := 161) (as' := []) (st := []) t79_49 mf68 rfl rfl (Or.inl ⟨by decide, (zk1 (w1s.k fk_zMc_161))⟩) ⟨by decide, by decide, Nat.le_of_ble_eq_true rfl, Nat.le_of_ble_eq_true rfl⟩ (zs_in (by decide) mf68 (Nat.le_of_ble_eq_true rfl) ?_) (fun _ _ q => q)
            show zGo X l 0 0 0 68 0 [(0, .ref 161)] [] w1M _
            refine zs_aload_n (pc := 0) t68_0 rfl ?_
            refine zs_get (pc := 1) t68_1 (by decide) (zk1 (w1s.k fk_zMc_161)) (zfvi rfl rfl) ?_
            refine zs_iconst (pc := 4) t68_4 (v := -1) (by decide) ?_
            refine zs_icmp_neF (pc := 5) t68_5 rfl lin1 (by omega) ?_
            refine zs_aload_n (pc := 8) t68_8 rfl ?_
            refine zs_get (pc := 9) t68_9 (by decide) (zk1 (w1s.k fk_zMc_161)) (zfvi rfl rfl) ?_
            refine zs_aload_n (pc := 12) t68_12 rfl ?_
            refine zs_get (pc := 13) t68_13 (by decide) (zk1 (w1s.k fk_zMc_161)) (zfvi rfl rfl) ?_
            by_cases w19 : (zI w1M 161 2).toInt ≤ (zI w1M 161 3).toInt
            · refine zs_icmp_geT (pc := 16) t68_16 rfl rfl (by omega) ?_
              refine zs_iconst (pc := 35) t68_35 (v := -1) (by decide) ?_
              refine zs_iret (pc := 36) t68_36 mr68 (by decide) ?_
              show zGo X l 1 0 0 79 52 [(0, .ref 161), (1, .int w1x1), (2, .int w1x2)] [.int (-1 : Int32)] w1M _
              refine zs_invS (pc := 52) (as := [.int (-1 : Int32)]) (st := []) t79_52 (by decide) mf36 rfl rfl ⟨by decide, by decide, Nat.le_of_ble_eq_true rfl, Nat.le_of_ble_eq_true rfl⟩ (zs_in (by decide) mf36 (Nat.le_of_ble_eq_true rfl) ?_) (fun _ _ q => q)
              show zGo X l 0 0 0 36 0 [(0, .int (-1 : Int32))] [] w1M _
              refine zs_iload_n (pc := 0) t36_0 rfl ?_
              refine zs_bipush (pc := 1) t36_1 (v := 48) (by decide) ?_
              refine zs_icmp_ltT (pc := 3) t36_3 lin1 li48 (by decide) ?_
              refine zs_iconst (pc := 16) t36_16 (v := 0) (by decide) ?_
              refine zs_iret (pc := 17) t36_17 mr36 (by decide) ?_
              show zGo X l 1 0 0 79 55 [(0, .ref 161), (1, .int w1x1), (2, .int w1x2)] [.int (0 : Int32)] w1M _
              refine zs_if_eqT (pc := 55) t79_55 li0 (by decide) ?_
              refine zs_iload_n (pc := 66) t79_66 rfl ?_
              exact zs_iret (pc := 67) t79_67 mr79 rfl (hQ _ _ w1s w1I ((zFr.refl).trans (w1F.mono rfl)) (zrg _).1 (zrg _).2)
            · refine zs_icmp_geF (pc := 16) t68_16 rfl rfl (by omega) ?_
              refine zs_aload_n (pc := 19) t68_19 rfl ?_
              refine zs_get (pc := 20) t68_20 (by decide) (zk1 (w1s.k fk_zMc_161)) (w1s.p rfl fv_zMc_161_1) ?_
              refine zs_aload_n (pc := 23) t68_23 rfl ?_
              refine zs_get (pc := 24) t68_24 (by decide) (zk1 (w1s.k fk_zMc_161)) (zfvi rfl rfl) ?_
              obtain ⟨w20n, w20⟩ : ∃ n : Nat, (zI w1M 161 3).toInt = (n : Int) := ⟨(zI w1M 161 3).toInt.toNat, by omega⟩
              have w21 := ib163 hI w20n
              refine zs_bald (pc := 27) t68_27 (j := w20n) (Or.inl (zk1 (w1s.k fk_zMc_163))) w20 (zk2 (w1s.k fk_zMc_163) (by omega)) ((w1F 163 w20n rfl).trans rfl) ?_
              refine zs_sipush (pc := 28) t68_28 (v := 255) (by decide) ?_
              obtain ⟨w22v, w22⟩ : ∃ v, (zI M 163 w20n) &&& (255 : Int32) = v := ⟨_, rfl⟩
              have w22g : 0 ≤ w22v.toInt ∧ w22v.toInt ≤ 255 := by rw [← w22]; exact zand li255 (by decide)
              refine zs_iand (pc := 31) t68_31 (c := w22v) w22 ?_
              refine zs_goto (pc := 32) t68_32 ?_
              refine zs_iret (pc := 36) t68_36 mr68 rfl ?_
              show zGo X l 1 0 0 79 52 [(0, .ref 161), (1, .int w1x1), (2, .int w1x2)] [.int w22v] w1M _
              refine zs_invS (pc := 52) (as := [.int w22v]) (st := []) t79_52 (by decide) mf36 rfl rfl ⟨by decide, by decide, Nat.le_of_ble_eq_true rfl, Nat.le_of_ble_eq_true rfl⟩ (zs_in (by decide) mf36 (Nat.le_of_ble_eq_true rfl) ?_) (fun _ _ q => q)
              show zGo X l 0 0 0 36 0 [(0, .int w22v)] [] w1M _
              refine zs_iload_n (pc := 0) t36_0 rfl ?_
              refine zs_bipush (pc := 1) t36_1 (v := 48) (by decide) ?_
              by_cases w23 : w22v.toInt < 48
              · refine zs_icmp_ltT (pc := 3) t36_3 rfl li48 (by omega) ?_
                refine zs_iconst (pc := 16) t36_16 (v := 0) (by decide) ?_
                refine zs_iret (pc := 17) t36_17 mr36 (by decide) ?_
                show zGo X l 1 0 0 79 55 [(0, .ref 161), (1, .int w1x1), (2, .int w1x2)] [.int (0 : Int32)] w1M _
                refine zs_if_eqT (pc := 55) t79_55 li0 (by decide) ?_
                refine zs_iload_n (pc := 66) t79_66 rfl ?_
                exact zs_iret (pc := 67) t79_67 mr79 rfl (hQ _ _ w1s w1I ((zFr.refl).trans (w1F.mono rfl)) (zrg _).1 (zrg _).2)
              · refine zs_icmp_ltF (pc := 3) t36_3 rfl li48 (by omega) ?_
                refine zs_iload_n (pc := 6) t36_6 rfl ?_
                refine zs_bipush (pc := 7) t36_7 (v := 57) (by decide) ?_
                by_cases w24 : 57 < w22v.toInt
                · refine zs_icmp_gtT (pc := 9) t36_9 rfl li57 (by omega) ?_
                  refine zs_iconst (pc := 16) t36_16 (v := 0) (by decide) ?_
                  refine zs_iret (pc := 17) t36_17 mr36 (by decide) ?_
                  show zGo X l 1 0 0 79 55 [(0, .ref 161), (1, .int w1x1), (2, .int w1x2)] [.int (0 : Int32)] w1M _
                  refine zs_if_eqT (pc := 55) t79_55 li0 (by decide) ?_
                  refine zs_iload_n (pc := 66) t79_66 rfl ?_
                  exact zs_iret (pc := 67) t79_67 mr79 rfl (hQ _ _ w1s w1I ((zFr.refl).trans (w1F.mono rfl)) (zrg _).1 (zrg _).2)
                · refine zs_icmp_gtF (pc := 9) t36_9 rfl li57 (by omega) ?_
                  refine zs_iconst (pc := 12) t36_12 (v := 1) (by decide) ?_
                  refine zs_goto (pc := 13) t36_13 ?_
                  refine zs_iret (pc := 17) t36_17 mr36 (by decide) ?_
                  show zGo X l 1 0 0 79 55 [(0, .ref 161), (1, .int w1x1), (2, .int w1x2)] [.int (1 : Int32)] w1M _
                  refine zs_if_eqF (pc := 55) t79_55 li1 (by decide) ?_
                  refine zs_aload_n (pc := 58) t79_58 rfl ?_
                  refine zs_aload_n (pc := 59) t79_59 rfl ?_
                  refine zs_get (pc := 60) t79_60 (by decide) (zk1 (w1s.k fk_zMc_161)) (zfvi rfl rfl) ?_
                  refine zs_invV (pc := 63) (k := 161) (as' := [.int (zI w1M 161 3)]) (st := []) t79_63 mf78 rfl rfl (Or.inl ⟨by decide, (zk1 (w1s.k fk_zMc_161))⟩) ⟨by decide, by decide, Nat.le_of_ble_eq_true rfl, Nat.le_of_ble_eq_true rfl⟩ (zs_in (by decide) mf78 (Nat.le_of_ble_eq_true rfl) ?_) (fun _ _ q => q)
                  show zGo X l 0 0 0 78 0 [(0, .ref 161), (1, .int (zI w1M 161 3))] [] w1M _
                  refine zs_aload_n (pc := 0) t78_0 rfl ?_
                  refine zs_get (pc := 1) t78_1 (by decide) (zk1 (w1s.k fk_zMc_161)) (zfvi rfl rfl) ?_
                  refine zs_iconst (pc := 4) t78_4 (v := -1) (by decide) ?_
                  refine zs_icmp_neF (pc := 5) t78_5 rfl lin1 (by omega) ?_
                  refine zs_aload_n (pc := 8) t78_8 rfl ?_
                  refine zs_iload_n (pc := 9) t78_9 rfl ?_
                  have w25 : zIv cLo cHi (zsI w1M 161 5 (zI w1M 161 3)) := zIv.put w1I (show (-2147483648) ≤ (zI w1M 161 3).toInt ∧ (zI w1M 161 3).toInt ≤ 2147483647 from (zrg (zI w1M 161 3)))
                  refine zs_putI (pc := 10) t78_10 (zk1 (w1s.k fk_zMc_161)) rfl ?_
                  refine zs_vret (pc := 13) t78_13 mr78 ?_
                  show zGo X l 1 0 0 79 66 [(0, .ref 161), (1, .int w1x1), (2, .int w1x2)] [] (zsI w1M 161 5 (zI w1M 161 3)) _
                  refine zs_iload_n (pc := 66) t79_66 rfl ?_
                  exact zs_iret (pc := 67) t79_67 mr79 rfl (hQ _ _ w1s w25 (((zFr.refl).trans (w1F.mono rfl)).put rfl) (zrg _).1 (zrg _).2)
          · refine zs_icmp_geF (pc := 16) t68_16 rfl rfl (by omega) ?_
            refine zs_aload_n (pc := 19) t68_19 rfl ?_
            refine zs_get (pc := 20) t68_20 (by decide) (zk1 (w1s.k fk_zMc_161)) (w1s.p rfl fv_zMc_161_1) ?_
            refine zs_aload_n (pc := 23) t68_23 rfl ?_
            refine zs_get (pc := 24) t68_24 (by decide) (zk1 (w1s.k fk_zMc_161)) (zfvi rfl rfl) ?_
            obtain ⟨w26n, w26⟩ : ∃ n : Nat, (zI w1M 161 3).toInt = (n : Int) := ⟨(zI w1M 161 3).toInt.toNat, by omega⟩
            have w27 := ib163 hI w26n
            refine zs_bald (pc := 27) t68_27 (j := w26n) (Or.inl (zk1 (w1s.k fk_zMc_163))) w26 (zk2 (w1s.k fk_zMc_163) (by omega)) ((w1F 163 w26n rfl).trans rfl) ?_
            refine zs_sipush (pc := 28) t68_28 (v := 255) (by decide) ?_
            obtain ⟨w28v, w28⟩ : ∃ v, (zI M 163 w26n) &&& (255 : Int32) = v := ⟨_, rfl⟩
            have w28g : 0 ≤ w28v.toInt ∧ w28v.toInt ≤ 255 := by rw [← w28]; exact zand li255 (by decide)
            refine zs_iand (pc := 31) t68_31 (c := w28v) w28 ?_
            refine zs_goto (pc := 32) t68_32 ?_
            refine zs_iret (pc := 36) t68_36 mr68 rfl ?_
            show zGo X l 1 0 0 79 13 [(0, .ref 161), (1, .int w1x1), (2, .int w1x2)] [.int w28v] w1M _
            refine zs_invS (pc := 13) (as := [.int w28v]) (st := []) t79_13 (by decide) mf36 rfl rfl ⟨by decide, by decide, Nat.le_of_ble_eq_true rfl, Nat.le_of_ble_eq_true rfl⟩ (zs_in (by decide) mf36 (Nat.le_of_ble_eq_true rfl) ?_) (fun _ _ q => q)
            show zGo X l 0 0 0 36 0 [(0, .int w28v)] [] w1M _
            refine zs_iload_n (pc := 0) t36_0 rfl ?_
            refine zs_bipush (pc := 1) t36_1 (v := 48) (by decide) ?_
            by_cases w29 : w28v.toInt < 48
            · refine zs_icmp_ltT (pc := 3) t36_3 rfl li48 (by omega) ?_
              refine zs_iconst (pc := 16) t36_16 (v := 0) (by decide) ?_
              refine zs_iret (pc := 17) t36_17 mr36 (by decide) ?_
              show zGo X l 1 0 0 79 16 [(0, .ref 161), (1, .int w1x1), (2, .int w1x2)] [.int (0 : Int32)] w1M _
              refine zs_if_eqT (pc := 16) t79_16 li0 (by decide) ?_
              refine zs_aload_n (pc := 48) t79_48 rfl ?_
              refine zs_invV (pc := 49) (k := 161) (as' := []) (st := []) t79_49 mf68 rfl rfl (Or.inl ⟨by decide, (zk1 (w1s.k fk_zMc_161))⟩) ⟨by decide, by decide, Nat.le_of_ble_eq_true rfl, Nat.le_of_ble_eq_true rfl⟩ (zs_in (by decide) mf68 (Nat.le_of_ble_eq_true rfl) ?_) (fun _ _ q => q)
              show zGo X l 0 0 0 68 0 [(0, .ref 161)] [] w1M _
              refine zs_aload_n (pc := 0) t68_0 rfl ?_
              refine zs_get (pc := 1) t68_1 (by decide) (zk1 (w1s.k fk_zMc_161)) (zfvi rfl rfl) ?_
              refine zs_iconst (pc := 4) t68_4 (v := -1) (by decide) ?_
              refine zs_icmp_neF (pc := 5) t68_5 rfl lin1 (by omega) ?_
              refine zs_aload_n (pc := 8) t68_8 rfl ?_
              refine zs_get (pc := 9) t68_9 (by decide) (zk1 (w1s.k fk_zMc_161)) (zfvi rfl rfl) ?_
              refine zs_aload_n (pc := 12) t68_12 rfl ?_
              refine zs_get (pc := 13) t68_13 (by decide) (zk1 (w1s.k fk_zMc_161)) (zfvi rfl rfl) ?_
              by_cases w30 : (zI w1M 161 2).toInt ≤ (zI w1M 161 3).toInt
              · refine zs_icmp_geT (pc := 16) t68_16 rfl rfl (by omega) ?_
                refine zs_iconst (pc := 35) t68_35 (v := -1) (by decide) ?_
                refine zs_iret (pc := 36) t68_36 mr68 (by decide) ?_
                show zGo X l 1 0 0 79 52 [(0, .ref 161), (1, .int w1x1), (2, .int w1x2)] [.int (-1 : Int32)] w1M _
                refine zs_invS (pc := 52) (as := [.int (-1 : Int32)]) (st := []) t79_52 (by decide) mf36 rfl rfl ⟨by decide, by decide, Nat.le_of_ble_eq_true rfl, Nat.le_of_ble_eq_true rfl⟩ (zs_in (by decide) mf36 (Nat.le_of_ble_eq_true rfl) ?_) (fun _ _ q => q)
                show zGo X l 0 0 0 36 0 [(0, .int (-1 : Int32))] [] w1M _
                refine zs_iload_n (pc := 0) t36_0 rfl ?_
                refine zs_bipush (pc := 1) t36_1 (v := 48) (by decide) ?_
                refine zs_icmp_ltT (pc := 3) t36_3 lin1 li48 (by decide) ?_
                refine zs_iconst (pc := 16) t36_16 (v := 0) (by decide) ?_
                refine zs_iret (pc := 17) t36_17 mr36 (by decide) ?_
                show zGo X l 1 0 0 79 55 [(0, .ref 161), (1, .int w1x1), (2, .int w1x2)] [.int (0 : Int32)] w1M _
                refine zs_if_eqT (pc := 55) t79_55 li0 (by decide) ?_
                refine zs_iload_n (pc := 66) t79_66 rfl ?_
                exact zs_iret (pc := 67) t79_67 mr79 rfl (hQ _ _ w1s w1I ((zFr.refl).trans (w1F.mono rfl)) (zrg _).1 (zrg _).2)
              · refine zs_icmp_geF (pc := 16) t68_16 rfl rfl (by omega) ?_
                refine zs_aload_n (pc := 19) t68_19 rfl ?_
                refine zs_get (pc := 20) t68_20 (by decide) (zk1 (w1s.k fk_zMc_161)) (w1s.p rfl fv_zMc_161_1) ?_
                refine zs_aload_n (pc := 23) t68_23 rfl ?_
                refine zs_get (pc := 24) t68_24 (by decide) (zk1 (w1s.k fk_zMc_161)) (zfvi rfl rfl) ?_
                refine zs_bald (pc := 27) t68_27 (j := w26n) (Or.inl (zk1 (w1s.k fk_zMc_163))) w26 (zk2 (w1s.k fk_zMc_163) (by omega)) ((w1F 163 w26n rfl).trans rfl) ?_
                refine zs_sipush (pc := 28) t68_28 (v := 255) (by decide) ?_
                obtain ⟨w31v, w31⟩ : ∃ v, (zI M 163 w26n) &&& (255 : Int32) = v := ⟨_, rfl⟩
                have w31g : 0 ≤ w31v.toInt ∧ w31v.toInt ≤ 255 := by rw [← w31]; exact zand li255 (by decide)
                refine zs_iand (pc := 31) t68_31 (c := w31v) w31 ?_
                refine zs_goto (pc := 32) t68_32 ?_
                refine zs_iret (pc := 36) t68_36 mr68 rfl ?_
                show zGo X l 1 0 0 79 52 [(0, .ref 161), (1, .int w1x1), (2, .int w1x2)] [.int w31v] w1M _
                refine zs_invS (pc := 52) (as := [.int w31v]) (st := []) t79_52 (by decide) mf36 rfl rfl ⟨by decide, by decide, Nat.le_of_ble_eq_true rfl, Nat.le_of_ble_eq_true rfl⟩ (zs_in (by decide) mf36 (Nat.le_of_ble_eq_true rfl) ?_) (fun _ _ q => q)
                show zGo X l 0 0 0 36 0 [(0, .int w31v)] [] w1M _
                refine zs_iload_n (pc := 0) t36_0 rfl ?_
                refine zs_bipush (pc := 1) t36_1 (v := 48) (by decide) ?_
                by_cases w32 : w31v.toInt < 48
                · refine zs_icmp_ltT (pc := 3) t36_3 rfl li48 (by omega) ?_
                  refine zs_iconst (pc := 16) t36_16 (v := 0) (by decide) ?_
                  refine zs_iret (pc := 17) t36_17 mr36 (by decide) ?_
                  show zGo X l 1 0 0 79 55 [(0, .ref 161), (1, .int w1x1), (2, .int w1x2)] [.int (0 : Int32)] w1M _
                  refine zs_if_eqT (pc := 55) t79_55 li0 (by decide) ?_
                  refine zs_iload_n (pc := 66) t79_66 rfl ?_
                  exact zs_iret (pc := 67) t79_67 mr79 rfl (hQ _ _ w1s w1I ((zFr.refl).trans (w1F.mono rfl)) (zrg _).1 (zrg _).2)
                · refine zs_icmp_ltF (pc := 3) t36_3 rfl li48 (by omega) ?_
                  refine zs_iload_n (pc := 6) t36_6 rfl ?_
                  refine zs_bipush (pc := 7) t36_7 (v := 57) (by decide) ?_
                  by_cases w33 : 57 < w31v.toInt
                  · refine zs_icmp_gtT (pc := 9) t36_9 rfl li57 (by omega) ?_
                    refine zs_iconst (pc := 16) t36_16 (v := 0) (by decide) ?_
                    refine zs_iret (pc := 17) t36_17 mr36 (by decide) ?_
                    show zGo X l 1 0 0 79 55 [(0, .ref 161), (1, .int w1x1), (2, .int w1x2)] [.int (0 : Int32)] w1M _
                    refine zs_if_eqT (pc := 55) t79_55 li0 (by decide) ?_
                    refine zs_iload_n (pc := 66) t79_66 rfl ?_
                    exact zs_iret (pc := 67) t79_67 mr79 rfl (hQ _ _ w1s w1I ((zFr.refl).trans (w1F.mono rfl)) (zrg _).1 (zrg _).2)
                  · refine zs_icmp_gtF (pc := 9) t36_9 rfl li57 (by omega) ?_
                    refine zs_iconst (pc := 12) t36_12 (v := 1) (by decide) ?_
                    refine zs_goto (pc := 13) t36_13 ?_
                    refine zs_iret (pc := 17) t36_17 mr36 (by decide) ?_
                    show zGo X l 1 0 0 79 55 [(0, .ref 161), (1, .int w1x1), (2, .int w1x2)] [.int (1 : Int32)] w1M _
                    refine zs_if_eqF (pc := 55) t79_55 li1 (by decide) ?_
                    refine zs_aload_n (pc := 58) t79_58 rfl ?_
                    refine zs_aload_n (pc := 59) t79_59 rfl ?_
                    refine zs_get (pc := 60) t79_60 (by decide) (zk1 (w1s.k fk_zMc_161)) (zfvi rfl rfl) ?_
                    refine zs_invV (pc := 63) (k := 161) (as' := [.int (zI w1M 161 3)]) (st := []) t79_63 mf78 rfl rfl (Or.inl ⟨by decide, (zk1 (w1s.k fk_zMc_161))⟩) ⟨by decide, by decide, Nat.le_of_ble_eq_true rfl, Nat.le_of_ble_eq_true rfl⟩ (zs_in (by decide) mf78 (Nat.le_of_ble_eq_true rfl) ?_) (fun _ _ q => q)
                    show zGo X l 0 0 0 78 0 [(0, .ref 161), (1, .int (zI w1M 161 3))] [] w1M _
                    refine zs_aload_n (pc := 0) t78_0 rfl ?_
                    refine zs_get (pc := 1) t78_1 (by decide) (zk1 (w1s.k fk_zMc_161)) (zfvi rfl rfl) ?_
                    refine zs_iconst (pc := 4) t78_4 (v := -1) (by decide) ?_
                    refine zs_icmp_neF (pc := 5) t78_5 rfl lin1 (by omega) ?_
                    refine zs_aload_n (pc := 8) t78_8 rfl ?_
                    refine zs_iload_n (pc := 9) t78_9 rfl ?_
                    have w34 : zIv cLo cHi (zsI w1M 161 5 (zI w1M 161 3)) := zIv.put w1I (show (-2147483648) ≤ (zI w1M 161 3).toInt ∧ (zI w1M 161 3).toInt ≤ 2147483647 from (zrg (zI w1M 161 3)))
                    refine zs_putI (pc := 10) t78_10 (zk1 (w1s.k fk_zMc_161)) rfl ?_
                    refine zs_vret (pc := 13) t78_13 mr78 ?_
                    show zGo X l 1 0 0 79 66 [(0, .ref 161), (1, .int w1x1), (2, .int w1x2)] [] (zsI w1M 161 5 (zI w1M 161 3)) _
                    refine zs_iload_n (pc := 66) t79_66 rfl ?_
                    exact zs_iret (pc := 67) t79_67 mr79 rfl (hQ _ _ w1s w34 (((zFr.refl).trans (w1F.mono rfl)).put rfl) (zrg _).1 (zrg _).2)
            · refine zs_icmp_ltF (pc := 3) t36_3 rfl li48 (by omega) ?_
              refine zs_iload_n (pc := 6) t36_6 rfl ?_
              refine zs_bipush (pc := 7) t36_7 (v := 57) (by decide) ?_
              by_cases w35 : 57 < w28v.toInt
              · refine zs_icmp_gtT (pc := 9) t36_9 rfl li57 (by omega) ?_
                refine zs_iconst (pc := 16) t36_16 (v := 0) (by decide) ?_
                refine zs_iret (pc := 17) t36_17 mr36 (by decide) ?_
                show zGo X l 1 0 0 79 16 [(0, .ref 161), (1, .int w1x1), (2, .int w1x2)] [.int (0 : Int32)] w1M _
                refine zs_if_eqT (pc := 16) t79_16 li0 (by decide) ?_
                refine zs_aload_n (pc := 48) t79_48 rfl ?_
                refine zs_invV (pc := 49) (k := 161) (as' := []) (st := []) t79_49 mf68 rfl rfl (Or.inl ⟨by decide, (zk1 (w1s.k fk_zMc_161))⟩) ⟨by decide, by decide, Nat.le_of_ble_eq_true rfl, Nat.le_of_ble_eq_true rfl⟩ (zs_in (by decide) mf68 (Nat.le_of_ble_eq_true rfl) ?_) (fun _ _ q => q)
                show zGo X l 0 0 0 68 0 [(0, .ref 161)] [] w1M _
                refine zs_aload_n (pc := 0) t68_0 rfl ?_
                refine zs_get (pc := 1) t68_1 (by decide) (zk1 (w1s.k fk_zMc_161)) (zfvi rfl rfl) ?_
                refine zs_iconst (pc := 4) t68_4 (v := -1) (by decide) ?_
                refine zs_icmp_neF (pc := 5) t68_5 rfl lin1 (by omega) ?_
                refine zs_aload_n (pc := 8) t68_8 rfl ?_
                refine zs_get (pc := 9) t68_9 (by decide) (zk1 (w1s.k fk_zMc_161)) (zfvi rfl rfl) ?_
                refine zs_aload_n (pc := 12) t68_12 rfl ?_
                refine zs_get (pc := 13) t68_13 (by decide) (zk1 (w1s.k fk_zMc_161)) (zfvi rfl rfl) ?_
                by_cases w36 : (zI w1M 161 2).toInt ≤ (zI w1M 161 3).toInt
                · refine zs_icmp_geT (pc := 16) t68_16 rfl rfl (by omega) ?_
                  refine zs_iconst (pc := 35) t68_35 (v := -1) (by decide) ?_
                  refine zs_iret (pc := 36) t68_36 mr68 (by decide) ?_
                  show zGo X l 1 0 0 79 52 [(0, .ref 161), (1, .int w1x1), (2, .int w1x2)] [.int (-1 : Int32)] w1M _
                  refine zs_invS (pc := 52) (as := [.int (-1 : Int32)]) (st := []) t79_52 (by decide) mf36 rfl rfl ⟨by decide, by decide, Nat.le_of_ble_eq_true rfl, Nat.le_of_ble_eq_true rfl⟩ (zs_in (by decide) mf36 (Nat.le_of_ble_eq_true rfl) ?_) (fun _ _ q => q)
                  show zGo X l 0 0 0 36 0 [(0, .int (-1 : Int32))] [] w1M _
                  refine zs_iload_n (pc := 0) t36_0 rfl ?_
                  refine zs_bipush (pc := 1) t36_1 (v := 48) (by decide) ?_
                  refine zs_icmp_ltT (pc := 3) t36_3 lin1 li48 (by decide) ?_
                  refine zs_iconst (pc := 16) t36_16 (v := 0) (by decide) ?_
                  refine zs_iret (pc := 17) t36_17 mr36 (by decide) ?_
                  show zGo X l 1 0 0 79 55 [(0, .ref 161), (1, .int w1x1), (2, .int w1x2)] [.int (0 : Int32)] w1M _
                  refine zs_if_eqT (pc := 55) t79_55 li0 (by decide) ?_
                  refine zs_iload_n (pc := 66) t79_66 rfl ?_
                  exact zs_iret (pc := 67) t79_67 mr79 rfl (hQ _ _ w1s w1I ((zFr.refl).trans (w1F.mono rfl)) (zrg _).1 (zrg _).2)
                · refine zs_icmp_geF (pc := 16) t68_16 rfl rfl (by omega) ?_
                  refine zs_aload_n (pc := 19) t68_19 rfl ?_
                  refine zs_get (pc := 20) t68_20 (by decide) (zk1 (w1s.k fk_zMc_161)) (w1s.p rfl fv_zMc_161_1) ?_
                  refine zs_aload_n (pc := 23) t68_23 rfl ?_
                  refine zs_get (pc := 24) t68_24 (by decide) (zk1 (w1s.k fk_zMc_161)) (zfvi rfl rfl) ?_
                  refine zs_bald (pc := 27) t68_27 (j := w26n) (Or.inl (zk1 (w1s.k fk_zMc_163))) w26 (zk2 (w1s.k fk_zMc_163) (by omega)) ((w1F 163 w26n rfl).trans rfl) ?_
                  refine zs_sipush (pc := 28) t68_28 (v := 255) (by decide) ?_
                  obtain ⟨w37v, w37⟩ : ∃ v, (zI M 163 w26n) &&& (255 : Int32) = v := ⟨_, rfl⟩
                  have w37g : 0 ≤ w37v.toInt ∧ w37v.toInt ≤ 255 := by rw [← w37]; exact zand li255 (by decide)
                  refine zs_iand (pc := 31) t68_31 (c := w37v) w37 ?_
                  refine zs_goto (pc := 32) t68_32 ?_
                  refine zs_iret (pc := 36) t68_36 mr68 rfl ?_
                  show zGo X l 1 0 0 79 52 [(0, .ref 161), (1, .int w1x1), (2, .int w1x2)] [.int w37v] w1M _
                  refine zs_invS (pc := 52) (as := [.int w37v]) (st := []) t79_52 (by decide) mf36 rfl rfl ⟨by decide, by decide, Nat.le_of_ble_eq_true rfl, Nat.le_of_ble_eq_true rfl⟩ (zs_in (by decide) mf36 (Nat.le_of_ble_eq_true rfl) ?_) (fun _ _ q => q)
                  show zGo X l 0 0 0 36 0 [(0, .int w37v)] [] w1M _
                  refine zs_iload_n (pc := 0) t36_0 rfl ?_
                  refine zs_bipush (pc := 1) t36_1 (v := 48) (by decide) ?_
                  by_cases w38 : w37v.toInt < 48
                  · refine zs_icmp_ltT (pc := 3) t36_3 rfl li48 (by omega) ?_
                    refine zs_iconst (pc := 16) t36_16 (v := 0) (by decide) ?_
                    refine zs_iret (pc := 17) t36_17 mr36 (by decide) ?_
                    show zGo X l 1 0 0 79 55 [(0, .ref 161), (1, .int w1x1), (2, .int w1x2)] [.int (0 : Int32)] w1M _
                    refine zs_if_eqT (pc := 55) t79_55 li0 (by decide) ?_
                    refine zs_iload_n (pc := 66) t79_66 rfl ?_
                    exact zs_iret (pc := 67) t79_67 mr79 rfl (hQ _ _ w1s w1I ((zFr.refl).trans (w1F.mono rfl)) (zrg _).1 (zrg _).2)
                  · refine zs_icmp_ltF (pc := 3) t36_3 rfl li48 (by omega) ?_
                    refine zs_iload_n (pc := 6) t36_6 rfl ?_
                    refine zs_bipush (pc := 7) t36_7 (v := 57) (by decide) ?_
                    by_cases w39 : 57 < w37v.toInt
                    · refine zs_icmp_gtT (pc := 9) t36_9 rfl li57 (by omega) ?_
                      refine zs_iconst (pc := 16) t36_16 (v := 0) (by decide) ?_
                      refine zs_iret (pc := 17) t36_17 mr36 (by decide) ?_
                      show zGo X l 1 0 0 79 55 [(0, .ref 161), (1, .int w1x1), (2, .int w1x2)] [.int (0 : Int32)] w1M _
                      refine zs_if_eqT (pc := 55) t79_55 li0 (by decide) ?_
                      refine zs_iload_n (pc := 66) t79_66 rfl ?_
                      exact zs_iret (pc := 67) t79_67 mr79 rfl (hQ _ _ w1s w1I ((zFr.refl).trans (w1F.mono rfl)) (zrg _).1 (zrg _).2)
                    · refine zs_icmp_gtF (pc := 9) t36_9 rfl li57 (by omega) ?_
                      refine zs_iconst (pc := 12) t36_12 (v := 1) (by decide) ?_
                      refine zs_goto (pc := 13) t36_13 ?_
                      refine zs_iret (pc := 17) t36_17 mr36 (by decide) ?_
                      show zGo X l 1 0 0 79 55 [(0, .ref 161), (1, .int w1x1), (2, .int w1x2)] [.int (1 : Int32)] w1M _
                      refine zs_if_eqF (pc := 55) t79_55 li1 (by decide) ?_
                      refine zs_aload_n (pc := 58) t79_58 rfl ?_
                      refine zs_aload_n (pc := 59) t79_59 rfl ?_
                      refine zs_get (pc := 60) t79_60 (by decide) (zk1 (w1s.k fk_zMc_161)) (zfvi rfl rfl) ?_
                      refine zs_invV (pc := 63) (k := 161) (as' := [.int (zI w1M 161 3)]) (st := []) t79_63 mf78 rfl rfl (Or.inl ⟨by decide, (zk1 (w1s.k fk_zMc_161))⟩) ⟨by decide, by decide, Nat.le_of_ble_eq_true rfl, Nat.le_of_ble_eq_true rfl⟩ (zs_in (by decide) mf78 (Nat.le_of_ble_eq_true rfl) ?_) (fun _ _ q => q)
                      show zGo X l 0 0 0 78 0 [(0, .ref 161), (1, .int (zI w1M 161 3))] [] w1M _
                      refine zs_aload_n (pc := 0) t78_0 rfl ?_
                      refine zs_get (pc := 1) t78_1 (by decide) (zk1 (w1s.k fk_zMc_161)) (zfvi rfl rfl) ?_
                      refine zs_iconst (pc := 4) t78_4 (v := -1) (by decide) ?_
                      refine zs_icmp_neF (pc := 5) t78_5 rfl lin1 (by omega) ?_
                      refine zs_aload_n (pc := 8) t78_8 rfl ?_
                      refine zs_iload_n (pc := 9) t78_9 rfl ?_
                      have w40 : zIv cLo cHi (zsI w1M 161 5 (zI w1M 161 3)) := zIv.put w1I (show (-2147483648) ≤ (zI w1M 161 3).toInt ∧ (zI w1M 161 3).toInt ≤ 2147483647 from (zrg (zI w1M 161 3)))
                      refine zs_putI (pc := 10) t78_10 (zk1 (w1s.k fk_zMc_161)) rfl ?_
                      refine zs_vret (pc := 13) t78_13 mr78 ?_
                      show zGo X l 1 0 0 79 66 [(0, .ref 161), (1, .int w1x1), (2, .int w1x2)] [] (zsI w1M 161 5 (zI w1M 161 3)) _
                      refine zs_iload_n (pc := 66) t79_66 rfl ?_
                      exact zs_iret (pc := 67) t79_67 mr79 rfl (hQ _ _ w1s w40 (((zFr.refl).trans (w1F.mono rfl)).put rfl) (zrg _).1 (zrg _).2)
              · refine zs_icmp_gtF (pc := 9) t36_9 rfl li57 (by omega) ?_
                refine zs_iconst (pc := 12) t36_12 (v := 1) (by decide) ?_
                refine zs_goto (pc := 13) t36_13 ?_
                refine zs_iret (pc := 17) t36_17 mr36 (by decide) ?_
                show zGo X l 1 0 0 79 16 [(0, .ref 161), (1, .int w1x1), (2, .int w1x2)] [.int (1 : Int32)] w1M _
                refine zs_if_eqF (pc := 16) t79_16 li1 (by decide) ?_
                refine zs_iload_n (pc := 19) t79_19 rfl ?_
                refine zs_bipush (pc := 20) t79_20 (v := 10) (by decide) ?_
                obtain ⟨w41v, w41⟩ : ∃ v, w1x1 * (10 : Int32) = v := ⟨_, rfl⟩
                have w41g := zrg w41v
                refine zs_imul (pc := 22) t79_22 (c := w41v) w41 ?_
                refine zs_aload_n (pc := 23) t79_23 rfl ?_
                refine zs_invV (pc := 24) (k := 161) (as' := []) (st := [.int w41v]) t79_24 mf68 rfl rfl (Or.inl ⟨by decide, (zk1 (w1s.k fk_zMc_161))⟩) ⟨by decide, by decide, Nat.le_of_ble_eq_true rfl, Nat.le_of_ble_eq_true rfl⟩ (zs_in (by decide) mf68 (Nat.le_of_ble_eq_true rfl) ?_) (fun _ _ q => q)
                show zGo X l 0 0 0 68 0 [(0, .ref 161)] [] w1M _
                refine zs_aload_n (pc := 0) t68_0 rfl ?_
                refine zs_get (pc := 1) t68_1 (by decide) (zk1 (w1s.k fk_zMc_161)) (zfvi rfl rfl) ?_
                refine zs_iconst (pc := 4) t68_4 (v := -1) (by decide) ?_
                refine zs_icmp_neF (pc := 5) t68_5 rfl lin1 (by omega) ?_
                refine zs_aload_n (pc := 8) t68_8 rfl ?_
                refine zs_get (pc := 9) t68_9 (by decide) (zk1 (w1s.k fk_zMc_161)) (zfvi rfl rfl) ?_
                refine zs_aload_n (pc := 12) t68_12 rfl ?_
                refine zs_get (pc := 13) t68_13 (by decide) (zk1 (w1s.k fk_zMc_161)) (zfvi rfl rfl) ?_
                by_cases w42 : (zI w1M 161 2).toInt ≤ (zI w1M 161 3).toInt
                · refine zs_icmp_geT (pc := 16) t68_16 rfl rfl (by omega) ?_
                  refine zs_iconst (pc := 35) t68_35 (v := -1) (by decide) ?_
                  refine zs_iret (pc := 36) t68_36 mr68 (by decide) ?_
                  show zGo X l 1 0 0 79 27 [(0, .ref 161), (1, .int w1x1), (2, .int w1x2)] [.int (-1 : Int32), .int w41v] w1M _
                  obtain ⟨w43v, w43⟩ : ∃ v, v = w41v + (-1 : Int32) := ⟨_, rfl⟩
                  have w43g := zrg w43v
                  refine zs_iadd (pc := 27) t79_27 (c := w43v) w43.symm ?_
                  refine zs_bipush (pc := 28) t79_28 (v := 48) (by decide) ?_
                  obtain ⟨w44v, w44⟩ : ∃ v, v = w43v - (48 : Int32) := ⟨_, rfl⟩
                  have w44g := zrg w44v
                  refine zs_isub (pc := 30) t79_30 (c := w44v) w44.symm ?_
                  refine zs_istore_n (pc := 31) t79_31 (ls' := [(1, .int w44v), (0, .ref 161), (2, .int w1x2)]) (zml mf79 (by decide)) rfl ?_
                  refine zs_aload_n (pc := 32) t79_32 rfl ?_
                  refine zs_dup (pc := 33) t79_33 rfl ?_
                  refine zs_get (pc := 34) t79_34 (by decide) (zk1 (w1s.k fk_zMc_161)) (zfvi rfl rfl) ?_
                  refine zs_iconst (pc := 37) t79_37 (v := 1) (by decide) ?_
                  obtain ⟨w45v, w45e, w45⟩ := ziadd (a := (zI w1M 161 3)) (b := (1 : Int32)) rfl li1 (by omega) (by omega)
                  refine zs_iadd (pc := 38) t79_38 (c := w45v) w45e ?_
                  have w46 : zIv cLo cHi (zsI w1M 161 3 w45v) := zIv.put w1I (show 0 ≤ w45v.toInt ∧ w45v.toInt ≤ 500 from ⟨by omega, by omega⟩)
                  refine zs_putI (pc := 39) t79_39 (zk1 (w1s.k fk_zMc_161)) rfl ?_
                  obtain ⟨w47v, w47e, w47⟩ := ziadd (a := w1x2) (b := Int32.ofInt 1) rfl (show (Int32.ofInt 1).toInt = 1 by decide) (by omega) (by omega)
                  refine zs_iinc (pc := 42) t79_42 (ls' := [(2, .int w47v), (1, .int w44v), (0, .ref 161)]) (zml mf79 (by decide)) rfl (c := w47v) w47e rfl ?_
                  refine zs_goto (pc := 45) t79_45 ?_
                  refine zGo.locals (ls' := [(0, .ref 161), (1, .int w44v), (2, .int w47v)]) (by simp) ?_
                  exact w1ih (w1m - 1) (by omega) w44v w47v (zsI w1M 161 3 w45v) ⟨by omega, by omega⟩ w1s w46 (((zFr.refl).trans (w1F.mono rfl)).put rfl) (by omega)
                · refine zs_icmp_geF (pc := 16) t68_16 rfl rfl (by omega) ?_
                  refine zs_aload_n (pc := 19) t68_19 rfl ?_
                  refine zs_get (pc := 20) t68_20 (by decide) (zk1 (w1s.k fk_zMc_161)) (w1s.p rfl fv_zMc_161_1) ?_
                  refine zs_aload_n (pc := 23) t68_23 rfl ?_
                  refine zs_get (pc := 24) t68_24 (by decide) (zk1 (w1s.k fk_zMc_161)) (zfvi rfl rfl) ?_
                  refine zs_bald (pc := 27) t68_27 (j := w26n) (Or.inl (zk1 (w1s.k fk_zMc_163))) w26 (zk2 (w1s.k fk_zMc_163) (by omega)) ((w1F 163 w26n rfl).trans rfl) ?_
                  refine zs_sipush (pc := 28) t68_28 (v := 255) (by decide) ?_
                  obtain ⟨w48v, w48⟩ : ∃ v, (zI M 163 w26n) &&& (255 : Int32) = v := ⟨_, rfl⟩
                  have w48g : 0 ≤ w48v.toInt ∧ w48v.toInt ≤ 255 := by rw [← w48]; exact zand li255 (by decide)
                  refine zs_iand (pc := 31) t68_31 (c := w48v) w48 ?_
                  refine zs_goto (pc := 32) t68_32 ?_
                  refine zs_iret (pc := 36) t68_36 mr68 rfl ?_
                  show zGo X l 1 0 0 79 27 [(0, .ref 161), (1, .int w1x1), (2, .int w1x2)] [.int w48v, .int w41v] w1M _
                  obtain ⟨w49v, w49⟩ : ∃ v, v = w41v + w48v := ⟨_, rfl⟩
                  have w49g := zrg w49v
                  refine zs_iadd (pc := 27) t79_27 (c := w49v) w49.symm ?_
                  refine zs_bipush (pc := 28) t79_28 (v := 48) (by decide) ?_
                  obtain ⟨w50v, w50⟩ : ∃ v, v = w49v - (48 : Int32) := ⟨_, rfl⟩
                  have w50g := zrg w50v
                  refine zs_isub (pc := 30) t79_30 (c := w50v) w50.symm ?_
                  refine zs_istore_n (pc := 31) t79_31 (ls' := [(1, .int w50v), (0, .ref 161), (2, .int w1x2)]) (zml mf79 (by decide)) rfl ?_
                  refine zs_aload_n (pc := 32) t79_32 rfl ?_
                  refine zs_dup (pc := 33) t79_33 rfl ?_
                  refine zs_get (pc := 34) t79_34 (by decide) (zk1 (w1s.k fk_zMc_161)) (zfvi rfl rfl) ?_
                  refine zs_iconst (pc := 37) t79_37 (v := 1) (by decide) ?_
                  obtain ⟨w51v, w51e, w51⟩ := ziadd (a := (zI w1M 161 3)) (b := (1 : Int32)) rfl li1 (by omega) (by omega)
                  refine zs_iadd (pc := 38) t79_38 (c := w51v) w51e ?_
                  have w52 : zIv cLo cHi (zsI w1M 161 3 w51v) := zIv.put w1I (show 0 ≤ w51v.toInt ∧ w51v.toInt ≤ 500 from ⟨by omega, by omega⟩)
                  refine zs_putI (pc := 39) t79_39 (zk1 (w1s.k fk_zMc_161)) rfl ?_
                  obtain ⟨w53v, w53e, w53⟩ := ziadd (a := w1x2) (b := Int32.ofInt 1) rfl (show (Int32.ofInt 1).toInt = 1 by decide) (by omega) (by omega)
                  refine zs_iinc (pc := 42) t79_42 (ls' := [(2, .int w53v), (1, .int w50v), (0, .ref 161)]) (zml mf79 (by decide)) rfl (c := w53v) w53e rfl ?_
                  refine zs_goto (pc := 45) t79_45 ?_
                  refine zGo.locals (ls' := [(0, .ref 161), (1, .int w50v), (2, .int w53v)]) (by simp) ?_
                  exact w1ih (w1m - 1) (by omega) w50v w53v (zsI w1M 161 3 w51v) ⟨by omega, by omega⟩ w1s w52 (((zFr.refl).trans (w1F.mono rfl)).put rfl) (by omega)
  refine zGo.locals (ls' := [(0, .ref 161), (1, .int (0 : Int32)), (2, .int (0 : Int32))]) (by simp) ?_
  have w54 := li0
  have w55 := li0
  exact w1L ((4 - 0 : Int).toNat) (0 : Int32) (0 : Int32) M ⟨by decide, by decide⟩ hs hI zFr.refl (by omega)
theorem C71_161 {X : zX} {l : Launch} {M : zM} {Q : Option Value → zM → Prop} (hs : zSk zMc M) (hI : zIv cLo cHi M) (hQ : ∀ (M' : zM) (v : Int32), zSk zMc M' → zIv cLo cHi M' → zFr [(161, 161, none)] M M' → (-2147483648) ≤ v.toInt → v.toInt ≤ 2147483647 → Q (some (.int v)) M') : zCall X l 4 0 0 71 [.ref 161] M Q := by
  refine zs_in (by decide) mf71 (Nat.le_of_ble_eq_true rfl) ?_
  show zGo X l 4 0 0 71 0 [(0, .ref 161)] [] M _
  refine zs_aload_n (pc := 0) t71_0 rfl ?_
  refine zs_invV (pc := 1) (k := 161) (as' := []) (st := []) t71_1 mf68 rfl rfl (Or.inl ⟨by decide, (zk1 (hs.k fk_zMc_161))⟩) ⟨by decide, by decide, Nat.le_of_ble_eq_true rfl, Nat.le_of_ble_eq_true rfl⟩ (zs_in (by decide) mf68 (Nat.le_of_ble_eq_true rfl) ?_) (fun _ _ q => q)
  show zGo X l 0 0 0 68 0 [(0, .ref 161)] [] M _
  refine zs_aload_n (pc := 0) t68_0 rfl ?_
  have w1 := ib161_5 hI
  refine zs_get (pc := 1) t68_1 (by decide) (zk1 (hs.k fk_zMc_161)) (zfvi rfl rfl) ?_
  refine zs_iconst (pc := 4) t68_4 (v := -1) (by decide) ?_
  by_cases w2 : (zI M 161 5).toInt ≠ (-1)
  · refine zs_icmp_neT (pc := 5) t68_5 rfl lin1 (by omega) ?_
    refine zs_iconst (pc := 35) t68_35 (v := -1) (by decide) ?_
    refine zs_iret (pc := 36) t68_36 mr68 (by decide) ?_
    show zGo X l 4 0 0 71 4 [(0, .ref 161)] [.int (-1 : Int32)] M _
    refine zs_istore_n (pc := 4) t71_4 (ls' := [(1, .int (-1 : Int32)), (0, .ref 161)]) (zml mf71 (by decide)) rfl ?_
    refine zs_iload_n (pc := 5) t71_5 rfl ?_
    refine zs_iconst (pc := 6) t71_6 (v := -1) (by decide) ?_
    refine zs_icmp_neF (pc := 7) t71_7 lin1 lin1 (by decide) ?_
    refine zs_iconst (pc := 10) t71_10 (v := -1) (by decide) ?_
    refine zs_goto (pc := 11) t71_11 ?_
    refine zs_istore_n (pc := 21) t71_21 (ls' := [(2, .int (-1 : Int32)), (1, .int (-1 : Int32)), (0, .ref 161)]) (zml mf71 (by decide)) rfl ?_
    refine zs_aload_n (pc := 22) t71_22 rfl ?_
    have w3 := ib161_4 hI
    refine zs_get (pc := 23) t71_23 (by decide) (zk1 (hs.k fk_zMc_161)) (zfvi rfl rfl) ?_
    refine zs_bipush (pc := 26) t71_26 (v := 30) (by decide) ?_
    by_cases w4 : 30 ≤ (zI M 161 4).toInt
    · refine zs_icmp_geT (pc := 28) t71_28 rfl li30 (by omega) ?_
      refine zs_aload_n (pc := 42) t71_42 rfl ?_
      refine zs_aload_n (pc := 43) t71_43 rfl ?_
      have w5 := ib161_3 hI
      refine zs_get (pc := 44) t71_44 (by decide) (zk1 (hs.k fk_zMc_161)) (zfvi rfl rfl) ?_
      refine zs_invV (pc := 47) (k := 161) (as' := [.int (zI M 161 3)]) (st := []) t71_47 mf78 rfl rfl (Or.inl ⟨by decide, (zk1 (hs.k fk_zMc_161))⟩) ⟨by decide, by decide, Nat.le_of_ble_eq_true rfl, Nat.le_of_ble_eq_true rfl⟩ (zs_in (by decide) mf78 (Nat.le_of_ble_eq_true rfl) ?_) (fun _ _ q => q)
      show zGo X l 0 0 0 78 0 [(0, .ref 161), (1, .int (zI M 161 3))] [] M _
      refine zs_aload_n (pc := 0) t78_0 rfl ?_
      refine zs_get (pc := 1) t78_1 (by decide) (zk1 (hs.k fk_zMc_161)) (zfvi rfl rfl) ?_
      refine zs_iconst (pc := 4) t78_4 (v := -1) (by decide) ?_
      refine zs_icmp_neT (pc := 5) t78_5 rfl lin1 (by omega) ?_
      refine zs_vret (pc := 13) t78_13 mr78 ?_
      show zGo X l 4 0 0 71 50 [(2, .int (-1 : Int32)), (1, .int (-1 : Int32)), (0, .ref 161)] [] M _
      refine zs_iconst (pc := 50) t71_50 (v := 0) (by decide) ?_
      exact zs_iret (pc := 51) t71_51 mr71 (by decide) (hQ _ _ hs hI (zFr.refl) (zrg _).1 (zrg _).2)
    · refine zs_icmp_geF (pc := 28) t71_28 rfl li30 (by omega) ?_
      refine zs_iload_n (pc := 31) t71_31 rfl ?_
      refine zs_if_geF (pc := 32) t71_32 lin1 (by decide) ?_
      refine zs_iload_n (pc := 35) t71_35 rfl ?_
      refine zs_invS (pc := 36) (as := [.int (-1 : Int32)]) (st := []) t71_36 (by decide) mf36 rfl rfl ⟨by decide, by decide, Nat.le_of_ble_eq_true rfl, Nat.le_of_ble_eq_true rfl⟩ (zs_in (by decide) mf36 (Nat.le_of_ble_eq_true rfl) ?_) (fun _ _ q => q)
      show zGo X l 0 0 0 36 0 [(0, .int (-1 : Int32))] [] M _
      refine zs_iload_n (pc := 0) t36_0 rfl ?_
      refine zs_bipush (pc := 1) t36_1 (v := 48) (by decide) ?_
      refine zs_icmp_ltT (pc := 3) t36_3 lin1 li48 (by decide) ?_
      refine zs_iconst (pc := 16) t36_16 (v := 0) (by decide) ?_
      refine zs_iret (pc := 17) t36_17 mr36 (by decide) ?_
      show zGo X l 4 0 0 71 39 [(2, .int (-1 : Int32)), (1, .int (-1 : Int32)), (0, .ref 161)] [.int (0 : Int32)] M _
      refine zs_if_neF (pc := 39) t71_39 li0 (by decide) ?_
      refine zs_aload_n (pc := 42) t71_42 rfl ?_
      refine zs_aload_n (pc := 43) t71_43 rfl ?_
      have w6 := ib161_3 hI
      refine zs_get (pc := 44) t71_44 (by decide) (zk1 (hs.k fk_zMc_161)) (zfvi rfl rfl) ?_
      refine zs_invV (pc := 47) (k := 161) (as' := [.int (zI M 161 3)]) (st := []) t71_47 mf78 rfl rfl (Or.inl ⟨by decide, (zk1 (hs.k fk_zMc_161))⟩) ⟨by decide, by decide, Nat.le_of_ble_eq_true rfl, Nat.le_of_ble_eq_true rfl⟩ (zs_in (by decide) mf78 (Nat.le_of_ble_eq_true rfl) ?_) (fun _ _ q => q)
      show zGo X l 0 0 0 78 0 [(0, .ref 161), (1, .int (zI M 161 3))] [] M _
      refine zs_aload_n (pc := 0) t78_0 rfl ?_
      refine zs_get (pc := 1) t78_1 (by decide) (zk1 (hs.k fk_zMc_161)) (zfvi rfl rfl) ?_
      refine zs_iconst (pc := 4) t78_4 (v := -1) (by decide) ?_
      refine zs_icmp_neT (pc := 5) t78_5 rfl lin1 (by omega) ?_
      refine zs_vret (pc := 13) t78_13 mr78 ?_
      show zGo X l 4 0 0 71 50 [(2, .int (-1 : Int32)), (1, .int (-1 : Int32)), (0, .ref 161)] [] M _
      refine zs_iconst (pc := 50) t71_50 (v := 0) (by decide) ?_
      exact zs_iret (pc := 51) t71_51 mr71 (by decide) (hQ _ _ hs hI (zFr.refl) (zrg _).1 (zrg _).2)
  · refine zs_icmp_neF (pc := 5) t68_5 rfl lin1 (by omega) ?_
    refine zs_aload_n (pc := 8) t68_8 rfl ?_
    have w7 := ib161_3 hI
    refine zs_get (pc := 9) t68_9 (by decide) (zk1 (hs.k fk_zMc_161)) (zfvi rfl rfl) ?_
    refine zs_aload_n (pc := 12) t68_12 rfl ?_
    have w8 := ib161_2 hI
    refine zs_get (pc := 13) t68_13 (by decide) (zk1 (hs.k fk_zMc_161)) (zfvi rfl rfl) ?_
    by_cases w9 : (zI M 161 2).toInt ≤ (zI M 161 3).toInt
    · refine zs_icmp_geT (pc := 16) t68_16 rfl rfl (by omega) ?_
      refine zs_iconst (pc := 35) t68_35 (v := -1) (by decide) ?_
      refine zs_iret (pc := 36) t68_36 mr68 (by decide) ?_
      show zGo X l 4 0 0 71 4 [(0, .ref 161)] [.int (-1 : Int32)] M _
      refine zs_istore_n (pc := 4) t71_4 (ls' := [(1, .int (-1 : Int32)), (0, .ref 161)]) (zml mf71 (by decide)) rfl ?_
      refine zs_iload_n (pc := 5) t71_5 rfl ?_
      refine zs_iconst (pc := 6) t71_6 (v := -1) (by decide) ?_
      refine zs_icmp_neF (pc := 7) t71_7 lin1 lin1 (by decide) ?_
      refine zs_iconst (pc := 10) t71_10 (v := -1) (by decide) ?_
      refine zs_goto (pc := 11) t71_11 ?_
      refine zs_istore_n (pc := 21) t71_21 (ls' := [(2, .int (-1 : Int32)), (1, .int (-1 : Int32)), (0, .ref 161)]) (zml mf71 (by decide)) rfl ?_
      refine zs_aload_n (pc := 22) t71_22 rfl ?_
      have w10 := ib161_4 hI
      refine zs_get (pc := 23) t71_23 (by decide) (zk1 (hs.k fk_zMc_161)) (zfvi rfl rfl) ?_
      refine zs_bipush (pc := 26) t71_26 (v := 30) (by decide) ?_
      by_cases w11 : 30 ≤ (zI M 161 4).toInt
      · refine zs_icmp_geT (pc := 28) t71_28 rfl li30 (by omega) ?_
        refine zs_aload_n (pc := 42) t71_42 rfl ?_
        refine zs_aload_n (pc := 43) t71_43 rfl ?_
        refine zs_get (pc := 44) t71_44 (by decide) (zk1 (hs.k fk_zMc_161)) (zfvi rfl rfl) ?_
        refine zs_invV (pc := 47) (k := 161) (as' := [.int (zI M 161 3)]) (st := []) t71_47 mf78 rfl rfl (Or.inl ⟨by decide, (zk1 (hs.k fk_zMc_161))⟩) ⟨by decide, by decide, Nat.le_of_ble_eq_true rfl, Nat.le_of_ble_eq_true rfl⟩ (zs_in (by decide) mf78 (Nat.le_of_ble_eq_true rfl) ?_) (fun _ _ q => q)
        show zGo X l 0 0 0 78 0 [(0, .ref 161), (1, .int (zI M 161 3))] [] M _
        refine zs_aload_n (pc := 0) t78_0 rfl ?_
        refine zs_get (pc := 1) t78_1 (by decide) (zk1 (hs.k fk_zMc_161)) (zfvi rfl rfl) ?_
        refine zs_iconst (pc := 4) t78_4 (v := -1) (by decide) ?_
        refine zs_icmp_neF (pc := 5) t78_5 rfl lin1 (by omega) ?_
        refine zs_aload_n (pc := 8) t78_8 rfl ?_
        refine zs_iload_n (pc := 9) t78_9 rfl ?_
        have w12 : zIv cLo cHi (zsI M 161 5 (zI M 161 3)) := zIv.put hI (show (-2147483648) ≤ (zI M 161 3).toInt ∧ (zI M 161 3).toInt ≤ 2147483647 from (zrg (zI M 161 3)))
        refine zs_putI (pc := 10) t78_10 (zk1 (hs.k fk_zMc_161)) rfl ?_
        refine zs_vret (pc := 13) t78_13 mr78 ?_
        show zGo X l 4 0 0 71 50 [(2, .int (-1 : Int32)), (1, .int (-1 : Int32)), (0, .ref 161)] [] (zsI M 161 5 (zI M 161 3)) _
        refine zs_iconst (pc := 50) t71_50 (v := 0) (by decide) ?_
        exact zs_iret (pc := 51) t71_51 mr71 (by decide) (hQ _ _ hs w12 ((zFr.refl).put rfl) (zrg _).1 (zrg _).2)
      · refine zs_icmp_geF (pc := 28) t71_28 rfl li30 (by omega) ?_
        refine zs_iload_n (pc := 31) t71_31 rfl ?_
        refine zs_if_geF (pc := 32) t71_32 lin1 (by decide) ?_
        refine zs_iload_n (pc := 35) t71_35 rfl ?_
        refine zs_invS (pc := 36) (as := [.int (-1 : Int32)]) (st := []) t71_36 (by decide) mf36 rfl rfl ⟨by decide, by decide, Nat.le_of_ble_eq_true rfl, Nat.le_of_ble_eq_true rfl⟩ (zs_in (by decide) mf36 (Nat.le_of_ble_eq_true rfl) ?_) (fun _ _ q => q)
        show zGo X l 0 0 0 36 0 [(0, .int (-1 : Int32))] [] M _
        refine zs_iload_n (pc := 0) t36_0 rfl ?_
        refine zs_bipush (pc := 1) t36_1 (v := 48) (by decide) ?_
        refine zs_icmp_ltT (pc := 3) t36_3 lin1 li48 (by decide) ?_
        refine zs_iconst (pc := 16) t36_16 (v := 0) (by decide) ?_
        refine zs_iret (pc := 17) t36_17 mr36 (by decide) ?_
        show zGo X l 4 0 0 71 39 [(2, .int (-1 : Int32)), (1, .int (-1 : Int32)), (0, .ref 161)] [.int (0 : Int32)] M _
        refine zs_if_neF (pc := 39) t71_39 li0 (by decide) ?_
        refine zs_aload_n (pc := 42) t71_42 rfl ?_
        refine zs_aload_n (pc := 43) t71_43 rfl ?_
        refine zs_get (pc := 44) t71_44 (by decide) (zk1 (hs.k fk_zMc_161)) (zfvi rfl rfl) ?_
        refine zs_invV (pc := 47) (k := 161) (as' := [.int (zI M 161 3)]) (st := []) t71_47 mf78 rfl rfl (Or.inl ⟨by decide, (zk1 (hs.k fk_zMc_161))⟩) ⟨by decide, by decide, Nat.le_of_ble_eq_true rfl, Nat.le_of_ble_eq_true rfl⟩ (zs_in (by decide) mf78 (Nat.le_of_ble_eq_true rfl) ?_) (fun _ _ q => q)
        show zGo X l 0 0 0 78 0 [(0, .ref 161), (1, .int (zI M 161 3))] [] M _
        refine zs_aload_n (pc := 0) t78_0 rfl ?_
        refine zs_get (pc := 1) t78_1 (by decide) (zk1 (hs.k fk_zMc_161)) (zfvi rfl rfl) ?_
        refine zs_iconst (pc := 4) t78_4 (v := -1) (by decide) ?_
        refine zs_icmp_neF (pc := 5) t78_5 rfl lin1 (by omega) ?_
        refine zs_aload_n (pc := 8) t78_8 rfl ?_
        refine zs_iload_n (pc := 9) t78_9 rfl ?_
        have w13 : zIv cLo cHi (zsI M 161 5 (zI M 161 3)) := zIv.put hI (show (-2147483648) ≤ (zI M 161 3).toInt ∧ (zI M 161 3).toInt ≤ 2147483647 from (zrg (zI M 161 3)))
        refine zs_putI (pc := 10) t78_10 (zk1 (hs.k fk_zMc_161)) rfl ?_
        refine zs_vret (pc := 13) t78_13 mr78 ?_
        show zGo X l 4 0 0 71 50 [(2, .int (-1 : Int32)), (1, .int (-1 : Int32)), (0, .ref 161)] [] (zsI M 161 5 (zI M 161 3)) _
        refine zs_iconst (pc := 50) t71_50 (v := 0) (by decide) ?_
        exact zs_iret (pc := 51) t71_51 mr71 (by decide) (hQ _ _ hs w13 ((zFr.refl).put rfl) (zrg _).1 (zrg _).2)
    · refine zs_icmp_geF (pc := 16) t68_16 rfl rfl (by omega) ?_
      refine zs_aload_n (pc := 19) t68_19 rfl ?_
      refine zs_get (pc := 20) t68_20 (by decide) (zk1 (hs.k fk_zMc_161)) (hs.p rfl fv_zMc_161_1) ?_
      refine zs_aload_n (pc := 23) t68_23 rfl ?_
      refine zs_get (pc := 24) t68_24 (by decide) (zk1 (hs.k fk_zMc_161)) (zfvi rfl rfl) ?_
      obtain ⟨w14n, w14⟩ : ∃ n : Nat, (zI M 161 3).toInt = (n : Int) := ⟨(zI M 161 3).toInt.toNat, by omega⟩
      have w15 := ib163 hI w14n
      refine zs_bald (pc := 27) t68_27 (j := w14n) (Or.inl (zk1 (hs.k fk_zMc_163))) w14 (zk2 (hs.k fk_zMc_163) (by omega)) rfl ?_
      refine zs_sipush (pc := 28) t68_28 (v := 255) (by decide) ?_
      obtain ⟨w16v, w16⟩ : ∃ v, (zI M 163 w14n) &&& (255 : Int32) = v := ⟨_, rfl⟩
      have w16g : 0 ≤ w16v.toInt ∧ w16v.toInt ≤ 255 := by rw [← w16]; exact zand li255 (by decide)
      refine zs_iand (pc := 31) t68_31 (c := w16v) w16 ?_
      refine zs_goto (pc := 32) t68_32 ?_
      refine zs_iret (pc := 36) t68_36 mr68 rfl ?_
      show zGo X l 4 0 0 71 4 [(0, .ref 161)] [.int w16v] M _
      refine zs_istore_n (pc := 4) t71_4 (ls' := [(1, .int w16v), (0, .ref 161)]) (zml mf71 (by decide)) rfl ?_
      refine zs_iload_n (pc := 5) t71_5 rfl ?_
      refine zs_iconst (pc := 6) t71_6 (v := -1) (by decide) ?_
      refine zs_icmp_neT (pc := 7) t71_7 rfl lin1 (by omega) ?_
      refine zs_ldcs (pc := 14) t71_14 (by decide) ?_
      refine zs_iload_n (pc := 16) t71_16 rfl ?_
      obtain ⟨w17v, w17e⟩ : ∃ v, (w16v.toUInt32 % 65536).toInt32 = v := ⟨_, rfl⟩
      have w17 : 0 ≤ w17v.toInt ∧ w17v.toInt ≤ 65535 := by rw [← w17e]; exact znc16 _
      refine zs_i2c (pc := 17) t71_17 (c := w17v) w17e ?_
      refine zs_invV (pc := 18) (k := 4) (as' := [.int w17v]) (st := []) t71_18 mf72 rfl rfl (Or.inr ⟨rfl, rfl⟩) ⟨by decide, by decide, Nat.le_of_ble_eq_true rfl, Nat.le_of_ble_eq_true rfl⟩ (C72_4 hs hI ?_) (fun _ _ q => q)
      intro w18v w18a w18b
      show zGo X l 4 0 0 71 21 [(1, .int w16v), (0, .ref 161)] [.int w18v] M _
      refine zs_istore_n (pc := 21) t71_21 (ls' := [(2, .int w18v), (1, .int w16v), (0, .ref 161)]) (zml mf71 (by decide)) rfl ?_
      refine zs_aload_n (pc := 22) t71_22 rfl ?_
      have w19 := ib161_4 hI
      refine zs_get (pc := 23) t71_23 (by decide) (zk1 (hs.k fk_zMc_161)) (zfvi rfl rfl) ?_
      refine zs_bipush (pc := 26) t71_26 (v := 30) (by decide) ?_
      by_cases w20 : 30 ≤ (zI M 161 4).toInt
      · refine zs_icmp_geT (pc := 28) t71_28 rfl li30 (by omega) ?_
        refine zs_aload_n (pc := 42) t71_42 rfl ?_
        refine zs_aload_n (pc := 43) t71_43 rfl ?_
        refine zs_get (pc := 44) t71_44 (by decide) (zk1 (hs.k fk_zMc_161)) (zfvi rfl rfl) ?_
        refine zs_invV (pc := 47) (k := 161) (as' := [.int (zI M 161 3)]) (st := []) t71_47 mf78 rfl rfl (Or.inl ⟨by decide, (zk1 (hs.k fk_zMc_161))⟩) ⟨by decide, by decide, Nat.le_of_ble_eq_true rfl, Nat.le_of_ble_eq_true rfl⟩ (zs_in (by decide) mf78 (Nat.le_of_ble_eq_true rfl) ?_) (fun _ _ q => q)
        show zGo X l 0 0 0 78 0 [(0, .ref 161), (1, .int (zI M 161 3))] [] M _
        refine zs_aload_n (pc := 0) t78_0 rfl ?_
        refine zs_get (pc := 1) t78_1 (by decide) (zk1 (hs.k fk_zMc_161)) (zfvi rfl rfl) ?_
        refine zs_iconst (pc := 4) t78_4 (v := -1) (by decide) ?_
        refine zs_icmp_neF (pc := 5) t78_5 rfl lin1 (by omega) ?_
        refine zs_aload_n (pc := 8) t78_8 rfl ?_
        refine zs_iload_n (pc := 9) t78_9 rfl ?_
        have w21 : zIv cLo cHi (zsI M 161 5 (zI M 161 3)) := zIv.put hI (show (-2147483648) ≤ (zI M 161 3).toInt ∧ (zI M 161 3).toInt ≤ 2147483647 from (zrg (zI M 161 3)))
        refine zs_putI (pc := 10) t78_10 (zk1 (hs.k fk_zMc_161)) rfl ?_
        refine zs_vret (pc := 13) t78_13 mr78 ?_
        show zGo X l 4 0 0 71 50 [(2, .int w18v), (1, .int w16v), (0, .ref 161)] [] (zsI M 161 5 (zI M 161 3)) _
        refine zs_iconst (pc := 50) t71_50 (v := 0) (by decide) ?_
        exact zs_iret (pc := 51) t71_51 mr71 (by decide) (hQ _ _ hs w21 ((zFr.refl).put rfl) (zrg _).1 (zrg _).2)
      · refine zs_icmp_geF (pc := 28) t71_28 rfl li30 (by omega) ?_
        refine zs_iload_n (pc := 31) t71_31 rfl ?_
        by_cases w22 : 0 ≤ w18v.toInt
        · refine zs_if_geT (pc := 32) t71_32 rfl (by omega) ?_
          refine zs_aload_n (pc := 52) t71_52 rfl ?_
          refine zs_dup (pc := 53) t71_53 rfl ?_
          refine zs_get (pc := 54) t71_54 (by decide) (zk1 (hs.k fk_zMc_161)) (zfvi rfl rfl) ?_
          refine zs_iconst (pc := 57) t71_57 (v := 1) (by decide) ?_
          obtain ⟨w23v, w23e, w23⟩ := ziadd (a := (zI M 161 4)) (b := (1 : Int32)) rfl li1 (by omega) (by omega)
          refine zs_iadd (pc := 58) t71_58 (c := w23v) w23e ?_
          have w24 : zIv cLo cHi (zsI M 161 4 w23v) := zIv.put hI (show 0 ≤ w23v.toInt ∧ w23v.toInt ≤ 30 from ⟨by omega, by omega⟩)
          refine zs_putI (pc := 59) t71_59 (zk1 (hs.k fk_zMc_161)) rfl ?_
          refine zs_iload_n (pc := 62) t71_62 rfl ?_
          refine zs_if_geT (pc := 63) t71_63 rfl (by omega) ?_
          refine zs_aload_n (pc := 71) t71_71 rfl ?_
          refine zs_dup (pc := 72) t71_72 rfl ?_
          refine zs_get (pc := 73) t71_73 (by decide) (zk1 (hs.k fk_zMc_161)) (zfvi rfl ((zIoj (by decide)).trans rfl)) ?_
          refine zs_iconst (pc := 76) t71_76 (v := 1) (by decide) ?_
          obtain ⟨w25v, w25e, w25⟩ := ziadd (a := (zI M 161 3)) (b := (1 : Int32)) rfl li1 (by omega) (by omega)
          refine zs_iadd (pc := 77) t71_77 (c := w25v) w25e ?_
          have w26 : zIv cLo cHi (zsI (zsI M 161 4 w23v) 161 3 w25v) := zIv.put w24 (show 0 ≤ w25v.toInt ∧ w25v.toInt ≤ 500 from ⟨by omega, by omega⟩)
          refine zs_putI (pc := 78) t71_78 (zk1 (hs.k fk_zMc_161)) rfl ?_
          refine zs_iload_n (pc := 81) t71_81 rfl ?_
          refine zs_aload_n (pc := 82) t71_82 rfl ?_
          refine zs_get (pc := 83) t71_83 (by decide) (zk1 (hs.k fk_zMc_161)) (hs.p rfl fv_zMc_161_0) ?_
          refine zs_alen (pc := 86) t71_86 (by decide) (zk3 (hs.k fk_zMc_162) (by decide)) (zk4 (hs.k fk_zMc_162)) (v := 8) (by decide) ?_
          refine zs_icmp_geF (pc := 87) t71_87 rfl li8 (by omega) ?_
          refine zs_aload_n (pc := 90) t71_90 rfl ?_
          refine zs_get (pc := 91) t71_91 (by decide) (zk1 (hs.k fk_zMc_161)) (hs.p rfl fv_zMc_161_0) ?_
          refine zs_iload_n (pc := 94) t71_94 rfl ?_
          obtain ⟨w27n, w27⟩ : ∃ n : Nat, w18v.toInt = (n : Int) := ⟨w18v.toInt.toNat, by omega⟩
          have w28 := ib162 hI w27n
          refine zs_iald (pc := 95) t71_95 (j := w27n) (by decide) (zk1 (hs.k fk_zMc_162)) w27 (zk2 (hs.k fk_zMc_162) (by omega)) ((zIo (by decide)).trans ((zIo (by decide)).trans rfl)) ?_
          refine zs_goto (pc := 96) t71_96 ?_
          exact zs_iret (pc := 100) t71_100 mr71 rfl (hQ _ _ hs w26 (((zFr.refl).put rfl).put rfl) (zrg _).1 (zrg _).2)
        · refine zs_if_geF (pc := 32) t71_32 rfl (by omega) ?_
          refine zs_iload_n (pc := 35) t71_35 rfl ?_
          refine zs_invS (pc := 36) (as := [.int w16v]) (st := []) t71_36 (by decide) mf36 rfl rfl ⟨by decide, by decide, Nat.le_of_ble_eq_true rfl, Nat.le_of_ble_eq_true rfl⟩ (zs_in (by decide) mf36 (Nat.le_of_ble_eq_true rfl) ?_) (fun _ _ q => q)
          show zGo X l 0 0 0 36 0 [(0, .int w16v)] [] M _
          refine zs_iload_n (pc := 0) t36_0 rfl ?_
          refine zs_bipush (pc := 1) t36_1 (v := 48) (by decide) ?_
          by_cases w29 : w16v.toInt < 48
          · refine zs_icmp_ltT (pc := 3) t36_3 rfl li48 (by omega) ?_
            refine zs_iconst (pc := 16) t36_16 (v := 0) (by decide) ?_
            refine zs_iret (pc := 17) t36_17 mr36 (by decide) ?_
            show zGo X l 4 0 0 71 39 [(2, .int w18v), (1, .int w16v), (0, .ref 161)] [.int (0 : Int32)] M _
            refine zs_if_neF (pc := 39) t71_39 li0 (by decide) ?_
            refine zs_aload_n (pc := 42) t71_42 rfl ?_
            refine zs_aload_n (pc := 43) t71_43 rfl ?_
            refine zs_get (pc := 44) t71_44 (by decide) (zk1 (hs.k fk_zMc_161)) (zfvi rfl rfl) ?_
            refine zs_invV (pc := 47) (k := 161) (as' := [.int (zI M 161 3)]) (st := []) t71_47 mf78 rfl rfl (Or.inl ⟨by decide, (zk1 (hs.k fk_zMc_161))⟩) ⟨by decide, by decide, Nat.le_of_ble_eq_true rfl, Nat.le_of_ble_eq_true rfl⟩ (zs_in (by decide) mf78 (Nat.le_of_ble_eq_true rfl) ?_) (fun _ _ q => q)
            show zGo X l 0 0 0 78 0 [(0, .ref 161), (1, .int (zI M 161 3))] [] M _
            refine zs_aload_n (pc := 0) t78_0 rfl ?_
            refine zs_get (pc := 1) t78_1 (by decide) (zk1 (hs.k fk_zMc_161)) (zfvi rfl rfl) ?_
            refine zs_iconst (pc := 4) t78_4 (v := -1) (by decide) ?_
            refine zs_icmp_neF (pc := 5) t78_5 rfl lin1 (by omega) ?_
            refine zs_aload_n (pc := 8) t78_8 rfl ?_
            refine zs_iload_n (pc := 9) t78_9 rfl ?_
            have w30 : zIv cLo cHi (zsI M 161 5 (zI M 161 3)) := zIv.put hI (show (-2147483648) ≤ (zI M 161 3).toInt ∧ (zI M 161 3).toInt ≤ 2147483647 from (zrg (zI M 161 3)))
            refine zs_putI (pc := 10) t78_10 (zk1 (hs.k fk_zMc_161)) rfl ?_
            refine zs_vret (pc := 13) t78_13 mr78 ?_
            show zGo X l 4 0 0 71 50 [(2, .int w18v), (1, .int w16v), (0, .ref 161)] [] (zsI M 161 5 (zI M 161 3)) _
            refine zs_iconst (pc := 50) t71_50 (v := 0) (by decide) ?_
            exact zs_iret (pc := 51) t71_51 mr71 (by decide) (hQ _ _ hs w30 ((zFr.refl).put rfl) (zrg _).1 (zrg _).2)
          · refine zs_icmp_ltF (pc := 3) t36_3 rfl li48 (by omega) ?_
            refine zs_iload_n (pc := 6) t36_6 rfl ?_
            refine zs_bipush (pc := 7) t36_7 (v := 57) (by decide) ?_
            by_cases w31 : 57 < w16v.toInt
            · refine zs_icmp_gtT (pc := 9) t36_9 rfl li57 (by omega) ?_
              refine zs_iconst (pc := 16) t36_16 (v := 0) (by decide) ?_
              refine zs_iret (pc := 17) t36_17 mr36 (by decide) ?_
              show zGo X l 4 0 0 71 39 [(2, .int w18v), (1, .int w16v), (0, .ref 161)] [.int (0 : Int32)] M _
              refine zs_if_neF (pc := 39) t71_39 li0 (by decide) ?_
              refine zs_aload_n (pc := 42) t71_42 rfl ?_
              refine zs_aload_n (pc := 43) t71_43 rfl ?_
              refine zs_get (pc := 44) t71_44 (by decide) (zk1 (hs.k fk_zMc_161)) (zfvi rfl rfl) ?_
              refine zs_invV (pc := 47) (k := 161) (as' := [.int (zI M 161 3)]) (st := []) t71_47 mf78 rfl rfl (Or.inl ⟨by decide, (zk1 (hs.k fk_zMc_161))⟩) ⟨by decide, by decide, Nat.le_of_ble_eq_true rfl, Nat.le_of_ble_eq_true rfl⟩ (zs_in (by decide) mf78 (Nat.le_of_ble_eq_true rfl) ?_) (fun _ _ q => q)
              show zGo X l 0 0 0 78 0 [(0, .ref 161), (1, .int (zI M 161 3))] [] M _
              refine zs_aload_n (pc := 0) t78_0 rfl ?_
              refine zs_get (pc := 1) t78_1 (by decide) (zk1 (hs.k fk_zMc_161)) (zfvi rfl rfl) ?_
              refine zs_iconst (pc := 4) t78_4 (v := -1) (by decide) ?_
              refine zs_icmp_neF (pc := 5) t78_5 rfl lin1 (by omega) ?_
              refine zs_aload_n (pc := 8) t78_8 rfl ?_
              refine zs_iload_n (pc := 9) t78_9 rfl ?_
              have w32 : zIv cLo cHi (zsI M 161 5 (zI M 161 3)) := zIv.put hI (show (-2147483648) ≤ (zI M 161 3).toInt ∧ (zI M 161 3).toInt ≤ 2147483647 from (zrg (zI M 161 3)))
              refine zs_putI (pc := 10) t78_10 (zk1 (hs.k fk_zMc_161)) rfl ?_
              refine zs_vret (pc := 13) t78_13 mr78 ?_
              show zGo X l 4 0 0 71 50 [(2, .int w18v), (1, .int w16v), (0, .ref 161)] [] (zsI M 161 5 (zI M 161 3)) _
              refine zs_iconst (pc := 50) t71_50 (v := 0) (by decide) ?_
              exact zs_iret (pc := 51) t71_51 mr71 (by decide) (hQ _ _ hs w32 ((zFr.refl).put rfl) (zrg _).1 (zrg _).2)
            · refine zs_icmp_gtF (pc := 9) t36_9 rfl li57 (by omega) ?_
              refine zs_iconst (pc := 12) t36_12 (v := 1) (by decide) ?_
              refine zs_goto (pc := 13) t36_13 ?_
              refine zs_iret (pc := 17) t36_17 mr36 (by decide) ?_
              show zGo X l 4 0 0 71 39 [(2, .int w18v), (1, .int w16v), (0, .ref 161)] [.int (1 : Int32)] M _
              refine zs_if_neT (pc := 39) t71_39 li1 (by decide) ?_
              refine zs_aload_n (pc := 52) t71_52 rfl ?_
              refine zs_dup (pc := 53) t71_53 rfl ?_
              refine zs_get (pc := 54) t71_54 (by decide) (zk1 (hs.k fk_zMc_161)) (zfvi rfl rfl) ?_
              refine zs_iconst (pc := 57) t71_57 (v := 1) (by decide) ?_
              obtain ⟨w33v, w33e, w33⟩ := ziadd (a := (zI M 161 4)) (b := (1 : Int32)) rfl li1 (by omega) (by omega)
              refine zs_iadd (pc := 58) t71_58 (c := w33v) w33e ?_
              have w34 : zIv cLo cHi (zsI M 161 4 w33v) := zIv.put hI (show 0 ≤ w33v.toInt ∧ w33v.toInt ≤ 30 from ⟨by omega, by omega⟩)
              refine zs_putI (pc := 59) t71_59 (zk1 (hs.k fk_zMc_161)) rfl ?_
              refine zs_iload_n (pc := 62) t71_62 rfl ?_
              refine zs_if_geF (pc := 63) t71_63 rfl (by omega) ?_
              refine zs_aload_n (pc := 66) t71_66 rfl ?_
              refine zs_invV (pc := 67) (k := 161) (as' := []) (st := []) t71_67 mf79 rfl rfl (Or.inl ⟨by decide, (zk1 (hs.k fk_zMc_161))⟩) ⟨by decide, by decide, Nat.le_of_ble_eq_true rfl, Nat.le_of_ble_eq_true rfl⟩ (C79_161 hs w34 ?_) (fun _ _ q => q)
              intro w35M w35v w35s w35I w35F w35a w35b
              show zGo X l 4 0 0 71 70 [(2, .int w18v), (1, .int w16v), (0, .ref 161)] [.int w35v] w35M _
              exact zs_iret (pc := 70) t71_70 mr71 rfl (hQ _ _ w35s w35I (((zFr.refl).put rfl).trans (w35F.mono rfl)) (zrg _).1 (zrg _).2)
theorem C70_161 {X : zX} {l : Launch} {M : zM} {Q : Option Value → zM → Prop} (hs : zSk zMc M) (hI : zIv cLo cHi M) (hQ : ∀ (M' : zM) (v : Int32), zSk zMc M' → zIv cLo cHi M' → zFr [(161, 161, none)] M M' → (-2147483648) ≤ v.toInt → v.toInt ≤ 2147483647 → Q (some (.int v)) M') : zCall X l 5 0 0 70 [.ref 161] M Q := by
  refine zs_in (by decide) mf70 (Nat.le_of_ble_eq_true rfl) ?_
  show zGo X l 5 0 0 70 0 [(0, .ref 161)] [] M _
  refine zs_aload_n (pc := 0) t70_0 rfl ?_
  refine zs_invV (pc := 1) (k := 161) (as' := []) (st := []) t70_1 mf71 rfl rfl (Or.inl ⟨by decide, (zk1 (hs.k fk_zMc_161))⟩) ⟨by decide, by decide, Nat.le_of_ble_eq_true rfl, Nat.le_of_ble_eq_true rfl⟩ (C71_161 hs hI ?_) (fun _ _ q => q)
  intro w1M w1v w1s w1I w1F w1a w1b
  show zGo X l 5 0 0 70 4 [(0, .ref 161)] [.int w1v] w1M _
  refine zs_istore_n (pc := 4) t70_4 (ls' := [(1, .int w1v), (0, .ref 161)]) (zml mf70 (by decide)) rfl ?_
  refine zs_iconst (pc := 5) t70_5 (v := 0) (by decide) ?_
  refine zs_istore_n (pc := 6) t70_6 (ls' := [(2, .int (0 : Int32)), (1, .int w1v), (0, .ref 161)]) (zml mf70 (by decide)) rfl ?_
  have w2L : ∀ (m : Nat) (w2x1 : Int32) (w2x2 : Int32) (w2M : zM), (0 ≤ w2x2.toInt ∧ w2x2.toInt ≤ 30) → zSk zMc w2M → zIv cLo cHi w2M → zFr [(161, 161, none)] w1M w2M → 30 - w2x2.toInt ≤ (m : Int) → zGo X l 5 0 0 70 7 [(0, .ref 161), (1, .int w2x1), (2, .int w2x2)] [] w2M Q := by
    intro m
    induction m using Nat.strongRecOn with
    | ind w2m w2ih =>
      intro w2x1 w2x2 w2M w2b2 w2s w2I w2F w2q
      have w2g1 := zrg w2x1
      refine zs_iload_n (pc := 7) t70_7 rfl ?_
      refine zs_bipush (pc := 8) t70_8 (v := 30) (by decide) ?_
      by_cases w3 : 30 ≤ w2x2.toInt
      · refine zs_icmp_geT (pc := 10) t70_10 rfl li30 (by omega) ?_
        refine zs_iload_n (pc := 92) t70_92 rfl ?_
        exact zs_iret (pc := 93) t70_93 mr70 rfl (hQ _ _ w2s w2I (((zFr.refl).trans (w1F.mono rfl)).trans (w2F.mono rfl)) (zrg _).1 (zrg _).2)
      · refine zs_icmp_geF (pc := 10) t70_10 rfl li30 (by omega) ?_
        refine zs_aload_n (pc := 13) t70_13 rfl ?_
        refine zs_invV (pc := 14) (k := 161) (as' := []) (st := []) t70_14 mf68 rfl rfl (Or.inl ⟨by decide, (zk1 (w2s.k fk_zMc_161))⟩) ⟨by decide, by decide, Nat.le_of_ble_eq_true rfl, Nat.le_of_ble_eq_true rfl⟩ (zs_in (by decide) mf68 (Nat.le_of_ble_eq_true rfl) ?_) (fun _ _ q => q)
        show zGo X l 0 0 0 68 0 [(0, .ref 161)] [] w2M _
        refine zs_aload_n (pc := 0) t68_0 rfl ?_
        have w4 := ib161_5 w2I
        refine zs_get (pc := 1) t68_1 (by decide) (zk1 (w2s.k fk_zMc_161)) (zfvi rfl rfl) ?_
        refine zs_iconst (pc := 4) t68_4 (v := -1) (by decide) ?_
        by_cases w5 : (zI w2M 161 5).toInt ≠ (-1)
        · refine zs_icmp_neT (pc := 5) t68_5 rfl lin1 (by omega) ?_
          refine zs_iconst (pc := 35) t68_35 (v := -1) (by decide) ?_
          refine zs_iret (pc := 36) t68_36 mr68 (by decide) ?_
          show zGo X l 5 0 0 70 17 [(0, .ref 161), (1, .int w2x1), (2, .int w2x2)] [.int (-1 : Int32)] w2M _
          refine zs_istore_n (pc := 17) t70_17 (ls' := [(3, .int (-1 : Int32)), (0, .ref 161), (1, .int w2x1), (2, .int w2x2)]) (zml mf70 (by decide)) rfl ?_
          refine zs_iload_n (pc := 18) t70_18 rfl ?_
          refine zs_bipush (pc := 19) t70_19 (v := 43) (by decide) ?_
          refine zs_icmp_eqF (pc := 21) t70_21 lin1 li43 (by decide) ?_
          refine zs_iload_n (pc := 24) t70_24 rfl ?_
          refine zs_bipush (pc := 25) t70_25 (v := 45) (by decide) ?_
          refine zs_icmp_eqF (pc := 27) t70_27 lin1 li45 (by decide) ?_
          refine zs_iload_n (pc := 30) t70_30 rfl ?_
          refine zs_bipush (pc := 31) t70_31 (v := 42) (by decide) ?_
          refine zs_icmp_eqF (pc := 33) t70_33 lin1 li42 (by decide) ?_
          refine zs_goto (pc := 36) t70_36 ?_
          refine zs_iload_n (pc := 92) t70_92 rfl ?_
          exact zs_iret (pc := 93) t70_93 mr70 rfl (hQ _ _ w2s w2I (((zFr.refl).trans (w1F.mono rfl)).trans (w2F.mono rfl)) (zrg _).1 (zrg _).2)
        · refine zs_icmp_neF (pc := 5) t68_5 rfl lin1 (by omega) ?_
          refine zs_aload_n (pc := 8) t68_8 rfl ?_
          have w6 := ib161_3 w2I
          refine zs_get (pc := 9) t68_9 (by decide) (zk1 (w2s.k fk_zMc_161)) (zfvi rfl rfl) ?_
          refine zs_aload_n (pc := 12) t68_12 rfl ?_
          have w7 := ib161_2 w2I
          refine zs_get (pc := 13) t68_13 (by decide) (zk1 (w2s.k fk_zMc_161)) (zfvi rfl rfl) ?_
          by_cases w8 : (zI w2M 161 2).toInt ≤ (zI w2M 161 3).toInt
          · refine zs_icmp_geT (pc := 16) t68_16 rfl rfl (by omega) ?_
            refine zs_iconst (pc := 35) t68_35 (v := -1) (by decide) ?_
            refine zs_iret (pc := 36) t68_36 mr68 (by decide) ?_
            show zGo X l 5 0 0 70 17 [(0, .ref 161), (1, .int w2x1), (2, .int w2x2)] [.int (-1 : Int32)] w2M _
            refine zs_istore_n (pc := 17) t70_17 (ls' := [(3, .int (-1 : Int32)), (0, .ref 161), (1, .int w2x1), (2, .int w2x2)]) (zml mf70 (by decide)) rfl ?_
            refine zs_iload_n (pc := 18) t70_18 rfl ?_
            refine zs_bipush (pc := 19) t70_19 (v := 43) (by decide) ?_
            refine zs_icmp_eqF (pc := 21) t70_21 lin1 li43 (by decide) ?_
            refine zs_iload_n (pc := 24) t70_24 rfl ?_
            refine zs_bipush (pc := 25) t70_25 (v := 45) (by decide) ?_
            refine zs_icmp_eqF (pc := 27) t70_27 lin1 li45 (by decide) ?_
            refine zs_iload_n (pc := 30) t70_30 rfl ?_
            refine zs_bipush (pc := 31) t70_31 (v := 42) (by decide) ?_
            refine zs_icmp_eqF (pc := 33) t70_33 lin1 li42 (by decide) ?_
            refine zs_goto (pc := 36) t70_36 ?_
            refine zs_iload_n (pc := 92) t70_92 rfl ?_
            exact zs_iret (pc := 93) t70_93 mr70 rfl (hQ _ _ w2s w2I (((zFr.refl).trans (w1F.mono rfl)).trans (w2F.mono rfl)) (zrg _).1 (zrg _).2)
          · refine zs_icmp_geF (pc := 16) t68_16 rfl rfl (by omega) ?_
            refine zs_aload_n (pc := 19) t68_19 rfl ?_
            refine zs_get (pc := 20) t68_20 (by decide) (zk1 (w2s.k fk_zMc_161)) (w2s.p rfl fv_zMc_161_1) ?_
            refine zs_aload_n (pc := 23) t68_23 rfl ?_
            refine zs_get (pc := 24) t68_24 (by decide) (zk1 (w2s.k fk_zMc_161)) (zfvi rfl rfl) ?_
            obtain ⟨w9n, w9⟩ : ∃ n : Nat, (zI w2M 161 3).toInt = (n : Int) := ⟨(zI w2M 161 3).toInt.toNat, by omega⟩
            have w10 := ib163 hI w9n
            refine zs_bald (pc := 27) t68_27 (j := w9n) (Or.inl (zk1 (w2s.k fk_zMc_163))) w9 (zk2 (w2s.k fk_zMc_163) (by omega)) ((w2F 163 w9n rfl).trans ((w1F 163 w9n rfl).trans rfl)) ?_
            refine zs_sipush (pc := 28) t68_28 (v := 255) (by decide) ?_
            obtain ⟨w11v, w11⟩ : ∃ v, (zI M 163 w9n) &&& (255 : Int32) = v := ⟨_, rfl⟩
            have w11g : 0 ≤ w11v.toInt ∧ w11v.toInt ≤ 255 := by rw [← w11]; exact zand li255 (by decide)
            refine zs_iand (pc := 31) t68_31 (c := w11v) w11 ?_
            refine zs_goto (pc := 32) t68_32 ?_
            refine zs_iret (pc := 36) t68_36 mr68 rfl ?_
            show zGo X l 5 0 0 70 17 [(0, .ref 161), (1, .int w2x1), (2, .int w2x2)] [.int w11v] w2M _
            refine zs_istore_n (pc := 17) t70_17 (ls' := [(3, .int w11v), (0, .ref 161), (1, .int w2x1), (2, .int w2x2)]) (zml mf70 (by decide)) rfl ?_
            refine zs_iload_n (pc := 18) t70_18 rfl ?_
            refine zs_bipush (pc := 19) t70_19 (v := 43) (by decide) ?_
            by_cases w12 : w11v.toInt = 43
            · refine zs_icmp_eqT (pc := 21) t70_21 rfl li43 (by omega) ?_
              refine zs_aload_n (pc := 39) t70_39 rfl ?_
              refine zs_dup (pc := 40) t70_40 rfl ?_
              refine zs_get (pc := 41) t70_41 (by decide) (zk1 (w2s.k fk_zMc_161)) (zfvi rfl rfl) ?_
              refine zs_iconst (pc := 44) t70_44 (v := 1) (by decide) ?_
              obtain ⟨w13v, w13e, w13⟩ := ziadd (a := (zI w2M 161 3)) (b := (1 : Int32)) rfl li1 (by omega) (by omega)
              refine zs_iadd (pc := 45) t70_45 (c := w13v) w13e ?_
              have w14 : zIv cLo cHi (zsI w2M 161 3 w13v) := zIv.put w2I (show 0 ≤ w13v.toInt ∧ w13v.toInt ≤ 500 from ⟨by omega, by omega⟩)
              refine zs_putI (pc := 46) t70_46 (zk1 (w2s.k fk_zMc_161)) rfl ?_
              refine zs_aload_n (pc := 49) t70_49 rfl ?_
              refine zs_invV (pc := 50) (k := 161) (as' := []) (st := []) t70_50 mf71 rfl rfl (Or.inl ⟨by decide, (zk1 (w2s.k fk_zMc_161))⟩) ⟨by decide, by decide, Nat.le_of_ble_eq_true rfl, Nat.le_of_ble_eq_true rfl⟩ (C71_161 w2s w14 ?_) (fun _ _ q => q)
              intro w15M w15v w15s w15I w15F w15a w15b
              show zGo X l 5 0 0 70 53 [(3, .int w11v), (0, .ref 161), (1, .int w2x1), (2, .int w2x2)] [.int w15v] w15M _
              refine zs_istore (pc := 53) t70_53 (ls' := [(4, .int w15v), (3, .int w11v), (0, .ref 161), (1, .int w2x1), (2, .int w2x2)]) (zml mf70 (by decide)) rfl ?_
              refine zs_iload_n (pc := 55) t70_55 rfl ?_
              refine zs_bipush (pc := 56) t70_56 (v := 42) (by decide) ?_
              refine zs_icmp_neT (pc := 58) t70_58 rfl li42 (by omega) ?_
              refine zs_iload_n (pc := 69) t70_69 rfl ?_
              refine zs_iload_n (pc := 70) t70_70 rfl ?_
              refine zs_bipush (pc := 71) t70_71 (v := 43) (by decide) ?_
              refine zs_icmp_neF (pc := 73) t70_73 rfl li43 (by omega) ?_
              refine zs_iload (pc := 76) t70_76 rfl ?_
              refine zs_goto (pc := 78) t70_78 ?_
              obtain ⟨w16v, w16⟩ : ∃ v, v = w2x1 + w15v := ⟨_, rfl⟩
              have w16g := zrg w16v
              refine zs_iadd (pc := 84) t70_84 (c := w16v) w16.symm ?_
              refine zs_istore_n (pc := 85) t70_85 (ls' := [(1, .int w16v), (4, .int w15v), (3, .int w11v), (0, .ref 161), (2, .int w2x2)]) (zml mf70 (by decide)) rfl ?_
              obtain ⟨w17v, w17e, w17⟩ := ziadd (a := w2x2) (b := Int32.ofInt 1) rfl (show (Int32.ofInt 1).toInt = 1 by decide) (by omega) (by omega)
              refine zs_iinc (pc := 86) t70_86 (ls' := [(2, .int w17v), (1, .int w16v), (4, .int w15v), (3, .int w11v), (0, .ref 161)]) (zml mf70 (by decide)) rfl (c := w17v) w17e rfl ?_
              refine zs_goto (pc := 89) t70_89 ?_
              refine zGo.locals (ls' := [(0, .ref 161), (1, .int w16v), (2, .int w17v)]) (by simp) ?_
              exact w2ih (w2m - 1) (by omega) w16v w17v w15M ⟨by omega, by omega⟩ w15s w15I ((((zFr.refl).trans (w2F.mono rfl)).put rfl).trans (w15F.mono rfl)) (by omega)
            · refine zs_icmp_eqF (pc := 21) t70_21 rfl li43 (by omega) ?_
              refine zs_iload_n (pc := 24) t70_24 rfl ?_
              refine zs_bipush (pc := 25) t70_25 (v := 45) (by decide) ?_
              by_cases w18 : w11v.toInt = 45
              · refine zs_icmp_eqT (pc := 27) t70_27 rfl li45 (by omega) ?_
                refine zs_aload_n (pc := 39) t70_39 rfl ?_
                refine zs_dup (pc := 40) t70_40 rfl ?_
                refine zs_get (pc := 41) t70_41 (by decide) (zk1 (w2s.k fk_zMc_161)) (zfvi rfl rfl) ?_
                refine zs_iconst (pc := 44) t70_44 (v := 1) (by decide) ?_
                obtain ⟨w19v, w19e, w19⟩ := ziadd (a := (zI w2M 161 3)) (b := (1 : Int32)) rfl li1 (by omega) (by omega)
                refine zs_iadd (pc := 45) t70_45 (c := w19v) w19e ?_
                have w20 : zIv cLo cHi (zsI w2M 161 3 w19v) := zIv.put w2I (show 0 ≤ w19v.toInt ∧ w19v.toInt ≤ 500 from ⟨by omega, by omega⟩)
                refine zs_putI (pc := 46) t70_46 (zk1 (w2s.k fk_zMc_161)) rfl ?_
                refine zs_aload_n (pc := 49) t70_49 rfl ?_
                refine zs_invV (pc := 50) (k := 161) (as' := []) (st := []) t70_50 mf71 rfl rfl (Or.inl ⟨by decide, (zk1 (w2s.k fk_zMc_161))⟩) ⟨by decide, by decide, Nat.le_of_ble_eq_true rfl, Nat.le_of_ble_eq_true rfl⟩ (C71_161 w2s w20 ?_) (fun _ _ q => q)
                intro w21M w21v w21s w21I w21F w21a w21b
                show zGo X l 5 0 0 70 53 [(3, .int w11v), (0, .ref 161), (1, .int w2x1), (2, .int w2x2)] [.int w21v] w21M _
                refine zs_istore (pc := 53) t70_53 (ls' := [(4, .int w21v), (3, .int w11v), (0, .ref 161), (1, .int w2x1), (2, .int w2x2)]) (zml mf70 (by decide)) rfl ?_
                refine zs_iload_n (pc := 55) t70_55 rfl ?_
                refine zs_bipush (pc := 56) t70_56 (v := 42) (by decide) ?_
                refine zs_icmp_neT (pc := 58) t70_58 rfl li42 (by omega) ?_
                refine zs_iload_n (pc := 69) t70_69 rfl ?_
                refine zs_iload_n (pc := 70) t70_70 rfl ?_
                refine zs_bipush (pc := 71) t70_71 (v := 43) (by decide) ?_
                refine zs_icmp_neT (pc := 73) t70_73 rfl li43 (by omega) ?_
                refine zs_iload (pc := 81) t70_81 rfl ?_
                obtain ⟨w22v, w22e⟩ : ∃ v, -w21v = v := ⟨_, rfl⟩
                have w22 := zrg w22v
                refine zs_ineg (pc := 83) t70_83 (c := w22v) w22e ?_
                obtain ⟨w23v, w23⟩ : ∃ v, v = w2x1 + w22v := ⟨_, rfl⟩
                have w23g := zrg w23v
                refine zs_iadd (pc := 84) t70_84 (c := w23v) w23.symm ?_
                refine zs_istore_n (pc := 85) t70_85 (ls' := [(1, .int w23v), (4, .int w21v), (3, .int w11v), (0, .ref 161), (2, .int w2x2)]) (zml mf70 (by decide)) rfl ?_
                obtain ⟨w24v, w24e, w24⟩ := ziadd (a := w2x2) (b := Int32.ofInt 1) rfl (show (Int32.ofInt 1).toInt = 1 by decide) (by omega) (by omega)
                refine zs_iinc (pc := 86) t70_86 (ls' := [(2, .int w24v), (1, .int w23v), (4, .int w21v), (3, .int w11v), (0, .ref 161)]) (zml mf70 (by decide)) rfl (c := w24v) w24e rfl ?_
                refine zs_goto (pc := 89) t70_89 ?_
                refine zGo.locals (ls' := [(0, .ref 161), (1, .int w23v), (2, .int w24v)]) (by simp) ?_
                exact w2ih (w2m - 1) (by omega) w23v w24v w21M ⟨by omega, by omega⟩ w21s w21I ((((zFr.refl).trans (w2F.mono rfl)).put rfl).trans (w21F.mono rfl)) (by omega)
              · refine zs_icmp_eqF (pc := 27) t70_27 rfl li45 (by omega) ?_
                refine zs_iload_n (pc := 30) t70_30 rfl ?_
                refine zs_bipush (pc := 31) t70_31 (v := 42) (by decide) ?_
                by_cases w25 : w11v.toInt = 42
                · refine zs_icmp_eqT (pc := 33) t70_33 rfl li42 (by omega) ?_
                  refine zs_aload_n (pc := 39) t70_39 rfl ?_
                  refine zs_dup (pc := 40) t70_40 rfl ?_
                  refine zs_get (pc := 41) t70_41 (by decide) (zk1 (w2s.k fk_zMc_161)) (zfvi rfl rfl) ?_
                  refine zs_iconst (pc := 44) t70_44 (v := 1) (by decide) ?_
                  obtain ⟨w26v, w26e, w26⟩ := ziadd (a := (zI w2M 161 3)) (b := (1 : Int32)) rfl li1 (by omega) (by omega)
                  refine zs_iadd (pc := 45) t70_45 (c := w26v) w26e ?_
                  have w27 : zIv cLo cHi (zsI w2M 161 3 w26v) := zIv.put w2I (show 0 ≤ w26v.toInt ∧ w26v.toInt ≤ 500 from ⟨by omega, by omega⟩)
                  refine zs_putI (pc := 46) t70_46 (zk1 (w2s.k fk_zMc_161)) rfl ?_
                  refine zs_aload_n (pc := 49) t70_49 rfl ?_
                  refine zs_invV (pc := 50) (k := 161) (as' := []) (st := []) t70_50 mf71 rfl rfl (Or.inl ⟨by decide, (zk1 (w2s.k fk_zMc_161))⟩) ⟨by decide, by decide, Nat.le_of_ble_eq_true rfl, Nat.le_of_ble_eq_true rfl⟩ (C71_161 w2s w27 ?_) (fun _ _ q => q)
                  intro w28M w28v w28s w28I w28F w28a w28b
                  show zGo X l 5 0 0 70 53 [(3, .int w11v), (0, .ref 161), (1, .int w2x1), (2, .int w2x2)] [.int w28v] w28M _
                  refine zs_istore (pc := 53) t70_53 (ls' := [(4, .int w28v), (3, .int w11v), (0, .ref 161), (1, .int w2x1), (2, .int w2x2)]) (zml mf70 (by decide)) rfl ?_
                  refine zs_iload_n (pc := 55) t70_55 rfl ?_
                  refine zs_bipush (pc := 56) t70_56 (v := 42) (by decide) ?_
                  refine zs_icmp_neF (pc := 58) t70_58 rfl li42 (by omega) ?_
                  refine zs_iload_n (pc := 61) t70_61 rfl ?_
                  refine zs_iload (pc := 62) t70_62 rfl ?_
                  obtain ⟨w29v, w29⟩ : ∃ v, w2x1 * w28v = v := ⟨_, rfl⟩
                  have w29g := zrg w29v
                  refine zs_imul (pc := 64) t70_64 (c := w29v) w29 ?_
                  refine zs_istore_n (pc := 65) t70_65 (ls' := [(1, .int w29v), (4, .int w28v), (3, .int w11v), (0, .ref 161), (2, .int w2x2)]) (zml mf70 (by decide)) rfl ?_
                  refine zs_goto (pc := 66) t70_66 ?_
                  obtain ⟨w30v, w30e, w30⟩ := ziadd (a := w2x2) (b := Int32.ofInt 1) rfl (show (Int32.ofInt 1).toInt = 1 by decide) (by omega) (by omega)
                  refine zs_iinc (pc := 86) t70_86 (ls' := [(2, .int w30v), (1, .int w29v), (4, .int w28v), (3, .int w11v), (0, .ref 161)]) (zml mf70 (by decide)) rfl (c := w30v) w30e rfl ?_
                  refine zs_goto (pc := 89) t70_89 ?_
                  refine zGo.locals (ls' := [(0, .ref 161), (1, .int w29v), (2, .int w30v)]) (by simp) ?_
                  exact w2ih (w2m - 1) (by omega) w29v w30v w28M ⟨by omega, by omega⟩ w28s w28I ((((zFr.refl).trans (w2F.mono rfl)).put rfl).trans (w28F.mono rfl)) (by omega)
                · refine zs_icmp_eqF (pc := 33) t70_33 rfl li42 (by omega) ?_
                  refine zs_goto (pc := 36) t70_36 ?_
                  refine zs_iload_n (pc := 92) t70_92 rfl ?_
                  exact zs_iret (pc := 93) t70_93 mr70 rfl (hQ _ _ w2s w2I (((zFr.refl).trans (w1F.mono rfl)).trans (w2F.mono rfl)) (zrg _).1 (zrg _).2)
  refine zGo.locals (ls' := [(0, .ref 161), (1, .int w1v), (2, .int (0 : Int32))]) (by simp) ?_
  have w31 := li0
  exact w2L ((30 - 0 : Int).toNat) w1v (0 : Int32) w1M ⟨by decide, by decide⟩ w1s w1I zFr.refl (by omega)
theorem C69_161 {X : zX} {l : Launch} {M : zM} {Q : Option Value → zM → Prop} (hs : zSk zMc M) (hI : zIv cLo cHi M) (hQ : ∀ (M' : zM) (v : Int32), zSk zMc M' → zIv cLo cHi M' → zFr [(161, 161, none)] M M' → 0 ≤ v.toInt → v.toInt ≤ 1 → Q (some (.int v)) M') : zCall X l 6 0 0 69 [.ref 161] M Q := by
  refine zs_in (by decide) mf69 (Nat.le_of_ble_eq_true rfl) ?_
  show zGo X l 6 0 0 69 0 [(0, .ref 161)] [] M _
  refine zs_aload_n (pc := 0) t69_0 rfl ?_
  refine zs_invV (pc := 1) (k := 161) (as' := []) (st := []) t69_1 mf70 rfl rfl (Or.inl ⟨by decide, (zk1 (hs.k fk_zMc_161))⟩) ⟨by decide, by decide, Nat.le_of_ble_eq_true rfl, Nat.le_of_ble_eq_true rfl⟩ (C70_161 hs hI ?_) (fun _ _ q => q)
  intro w1M w1v w1s w1I w1F w1a w1b
  show zGo X l 6 0 0 69 4 [(0, .ref 161)] [.int w1v] w1M _
  refine zs_istore_n (pc := 4) t69_4 (ls' := [(1, .int w1v), (0, .ref 161)]) (zml mf69 (by decide)) rfl ?_
  refine zs_aload_n (pc := 5) t69_5 rfl ?_
  refine zs_invV (pc := 6) (k := 161) (as' := []) (st := []) t69_6 mf68 rfl rfl (Or.inl ⟨by decide, (zk1 (w1s.k fk_zMc_161))⟩) ⟨by decide, by decide, Nat.le_of_ble_eq_true rfl, Nat.le_of_ble_eq_true rfl⟩ (zs_in (by decide) mf68 (Nat.le_of_ble_eq_true rfl) ?_) (fun _ _ q => q)
  show zGo X l 0 0 0 68 0 [(0, .ref 161)] [] w1M _
  refine zs_aload_n (pc := 0) t68_0 rfl ?_
  have w2 := ib161_5 w1I
  refine zs_get (pc := 1) t68_1 (by decide) (zk1 (w1s.k fk_zMc_161)) (zfvi rfl rfl) ?_
  refine zs_iconst (pc := 4) t68_4 (v := -1) (by decide) ?_
  by_cases w3 : (zI w1M 161 5).toInt ≠ (-1)
  · refine zs_icmp_neT (pc := 5) t68_5 rfl lin1 (by omega) ?_
    refine zs_iconst (pc := 35) t68_35 (v := -1) (by decide) ?_
    refine zs_iret (pc := 36) t68_36 mr68 (by decide) ?_
    show zGo X l 6 0 0 69 9 [(1, .int w1v), (0, .ref 161)] [.int (-1 : Int32)] w1M _
    refine zs_istore_n (pc := 9) t69_9 (ls' := [(2, .int (-1 : Int32)), (1, .int w1v), (0, .ref 161)]) (zml mf69 (by decide)) rfl ?_
    refine zs_iload_n (pc := 10) t69_10 rfl ?_
    refine zs_bipush (pc := 11) t69_11 (v := 60) (by decide) ?_
    refine zs_icmp_eqF (pc := 13) t69_13 lin1 li60 (by decide) ?_
    refine zs_iload_n (pc := 16) t69_16 rfl ?_
    refine zs_bipush (pc := 17) t69_17 (v := 62) (by decide) ?_
    refine zs_icmp_eqF (pc := 19) t69_19 lin1 li62 (by decide) ?_
    refine zs_iload_n (pc := 22) t69_22 rfl ?_
    refine zs_bipush (pc := 23) t69_23 (v := 61) (by decide) ?_
    refine zs_icmp_eqF (pc := 25) t69_25 lin1 li61 (by decide) ?_
    refine zs_aload_n (pc := 28) t69_28 rfl ?_
    refine zs_aload_n (pc := 29) t69_29 rfl ?_
    have w4 := ib161_3 w1I
    refine zs_get (pc := 30) t69_30 (by decide) (zk1 (w1s.k fk_zMc_161)) (zfvi rfl rfl) ?_
    refine zs_invV (pc := 33) (k := 161) (as' := [.int (zI w1M 161 3)]) (st := []) t69_33 mf78 rfl rfl (Or.inl ⟨by decide, (zk1 (w1s.k fk_zMc_161))⟩) ⟨by decide, by decide, Nat.le_of_ble_eq_true rfl, Nat.le_of_ble_eq_true rfl⟩ (zs_in (by decide) mf78 (Nat.le_of_ble_eq_true rfl) ?_) (fun _ _ q => q)
    show zGo X l 0 0 0 78 0 [(0, .ref 161), (1, .int (zI w1M 161 3))] [] w1M _
    refine zs_aload_n (pc := 0) t78_0 rfl ?_
    refine zs_get (pc := 1) t78_1 (by decide) (zk1 (w1s.k fk_zMc_161)) (zfvi rfl rfl) ?_
    refine zs_iconst (pc := 4) t78_4 (v := -1) (by decide) ?_
    refine zs_icmp_neT (pc := 5) t78_5 rfl lin1 (by omega) ?_
    refine zs_vret (pc := 13) t78_13 mr78 ?_
    show zGo X l 6 0 0 69 36 [(2, .int (-1 : Int32)), (1, .int w1v), (0, .ref 161)] [] w1M _
    refine zs_iconst (pc := 36) t69_36 (v := 0) (by decide) ?_
    exact zs_iret (pc := 37) t69_37 mr69 (by decide) (hQ _ _ w1s w1I ((zFr.refl).trans (w1F.mono rfl)) (by decide) (by decide))
  · refine zs_icmp_neF (pc := 5) t68_5 rfl lin1 (by omega) ?_
    refine zs_aload_n (pc := 8) t68_8 rfl ?_
    have w5 := ib161_3 w1I
    refine zs_get (pc := 9) t68_9 (by decide) (zk1 (w1s.k fk_zMc_161)) (zfvi rfl rfl) ?_
    refine zs_aload_n (pc := 12) t68_12 rfl ?_
    have w6 := ib161_2 w1I
    refine zs_get (pc := 13) t68_13 (by decide) (zk1 (w1s.k fk_zMc_161)) (zfvi rfl rfl) ?_
    by_cases w7 : (zI w1M 161 2).toInt ≤ (zI w1M 161 3).toInt
    · refine zs_icmp_geT (pc := 16) t68_16 rfl rfl (by omega) ?_
      refine zs_iconst (pc := 35) t68_35 (v := -1) (by decide) ?_
      refine zs_iret (pc := 36) t68_36 mr68 (by decide) ?_
      show zGo X l 6 0 0 69 9 [(1, .int w1v), (0, .ref 161)] [.int (-1 : Int32)] w1M _
      refine zs_istore_n (pc := 9) t69_9 (ls' := [(2, .int (-1 : Int32)), (1, .int w1v), (0, .ref 161)]) (zml mf69 (by decide)) rfl ?_
      refine zs_iload_n (pc := 10) t69_10 rfl ?_
      refine zs_bipush (pc := 11) t69_11 (v := 60) (by decide) ?_
      refine zs_icmp_eqF (pc := 13) t69_13 lin1 li60 (by decide) ?_
      refine zs_iload_n (pc := 16) t69_16 rfl ?_
      refine zs_bipush (pc := 17) t69_17 (v := 62) (by decide) ?_
      refine zs_icmp_eqF (pc := 19) t69_19 lin1 li62 (by decide) ?_
      refine zs_iload_n (pc := 22) t69_22 rfl ?_
      refine zs_bipush (pc := 23) t69_23 (v := 61) (by decide) ?_
      refine zs_icmp_eqF (pc := 25) t69_25 lin1 li61 (by decide) ?_
      refine zs_aload_n (pc := 28) t69_28 rfl ?_
      refine zs_aload_n (pc := 29) t69_29 rfl ?_
      refine zs_get (pc := 30) t69_30 (by decide) (zk1 (w1s.k fk_zMc_161)) (zfvi rfl rfl) ?_
      refine zs_invV (pc := 33) (k := 161) (as' := [.int (zI w1M 161 3)]) (st := []) t69_33 mf78 rfl rfl (Or.inl ⟨by decide, (zk1 (w1s.k fk_zMc_161))⟩) ⟨by decide, by decide, Nat.le_of_ble_eq_true rfl, Nat.le_of_ble_eq_true rfl⟩ (zs_in (by decide) mf78 (Nat.le_of_ble_eq_true rfl) ?_) (fun _ _ q => q)
      show zGo X l 0 0 0 78 0 [(0, .ref 161), (1, .int (zI w1M 161 3))] [] w1M _
      refine zs_aload_n (pc := 0) t78_0 rfl ?_
      refine zs_get (pc := 1) t78_1 (by decide) (zk1 (w1s.k fk_zMc_161)) (zfvi rfl rfl) ?_
      refine zs_iconst (pc := 4) t78_4 (v := -1) (by decide) ?_
      refine zs_icmp_neF (pc := 5) t78_5 rfl lin1 (by omega) ?_
      refine zs_aload_n (pc := 8) t78_8 rfl ?_
      refine zs_iload_n (pc := 9) t78_9 rfl ?_
      have w8 : zIv cLo cHi (zsI w1M 161 5 (zI w1M 161 3)) := zIv.put w1I (show (-2147483648) ≤ (zI w1M 161 3).toInt ∧ (zI w1M 161 3).toInt ≤ 2147483647 from (zrg (zI w1M 161 3)))
      refine zs_putI (pc := 10) t78_10 (zk1 (w1s.k fk_zMc_161)) rfl ?_
      refine zs_vret (pc := 13) t78_13 mr78 ?_
      show zGo X l 6 0 0 69 36 [(2, .int (-1 : Int32)), (1, .int w1v), (0, .ref 161)] [] (zsI w1M 161 5 (zI w1M 161 3)) _
      refine zs_iconst (pc := 36) t69_36 (v := 0) (by decide) ?_
      exact zs_iret (pc := 37) t69_37 mr69 (by decide) (hQ _ _ w1s w8 (((zFr.refl).trans (w1F.mono rfl)).put rfl) (by decide) (by decide))
    · refine zs_icmp_geF (pc := 16) t68_16 rfl rfl (by omega) ?_
      refine zs_aload_n (pc := 19) t68_19 rfl ?_
      refine zs_get (pc := 20) t68_20 (by decide) (zk1 (w1s.k fk_zMc_161)) (w1s.p rfl fv_zMc_161_1) ?_
      refine zs_aload_n (pc := 23) t68_23 rfl ?_
      refine zs_get (pc := 24) t68_24 (by decide) (zk1 (w1s.k fk_zMc_161)) (zfvi rfl rfl) ?_
      obtain ⟨w9n, w9⟩ : ∃ n : Nat, (zI w1M 161 3).toInt = (n : Int) := ⟨(zI w1M 161 3).toInt.toNat, by omega⟩
      have w10 := ib163 hI w9n
      refine zs_bald (pc := 27) t68_27 (j := w9n) (Or.inl (zk1 (w1s.k fk_zMc_163))) w9 (zk2 (w1s.k fk_zMc_163) (by omega)) ((w1F 163 w9n rfl).trans rfl) ?_
      refine zs_sipush (pc := 28) t68_28 (v := 255) (by decide) ?_
      obtain ⟨w11v, w11⟩ : ∃ v, (zI M 163 w9n) &&& (255 : Int32) = v := ⟨_, rfl⟩
      have w11g : 0 ≤ w11v.toInt ∧ w11v.toInt ≤ 255 := by rw [← w11]; exact zand li255 (by decide)
      refine zs_iand (pc := 31) t68_31 (c := w11v) w11 ?_
      refine zs_goto (pc := 32) t68_32 ?_
      refine zs_iret (pc := 36) t68_36 mr68 rfl ?_
      show zGo X l 6 0 0 69 9 [(1, .int w1v), (0, .ref 161)] [.int w11v] w1M _
      refine zs_istore_n (pc := 9) t69_9 (ls' := [(2, .int w11v), (1, .int w1v), (0, .ref 161)]) (zml mf69 (by decide)) rfl ?_
      refine zs_iload_n (pc := 10) t69_10 rfl ?_
      refine zs_bipush (pc := 11) t69_11 (v := 60) (by decide) ?_
      by_cases w12 : w11v.toInt = 60
      · refine zs_icmp_eqT (pc := 13) t69_13 rfl li60 (by omega) ?_
        refine zs_aload_n (pc := 38) t69_38 rfl ?_
        refine zs_dup (pc := 39) t69_39 rfl ?_
        refine zs_get (pc := 40) t69_40 (by decide) (zk1 (w1s.k fk_zMc_161)) (zfvi rfl rfl) ?_
        refine zs_iconst (pc := 43) t69_43 (v := 1) (by decide) ?_
        obtain ⟨w13v, w13e, w13⟩ := ziadd (a := (zI w1M 161 3)) (b := (1 : Int32)) rfl li1 (by omega) (by omega)
        refine zs_iadd (pc := 44) t69_44 (c := w13v) w13e ?_
        have w14 : zIv cLo cHi (zsI w1M 161 3 w13v) := zIv.put w1I (show 0 ≤ w13v.toInt ∧ w13v.toInt ≤ 500 from ⟨by omega, by omega⟩)
        refine zs_putI (pc := 45) t69_45 (zk1 (w1s.k fk_zMc_161)) rfl ?_
        refine zs_aload_n (pc := 48) t69_48 rfl ?_
        refine zs_invV (pc := 49) (k := 161) (as' := []) (st := []) t69_49 mf70 rfl rfl (Or.inl ⟨by decide, (zk1 (w1s.k fk_zMc_161))⟩) ⟨by decide, by decide, Nat.le_of_ble_eq_true rfl, Nat.le_of_ble_eq_true rfl⟩ (C70_161 w1s w14 ?_) (fun _ _ q => q)
        intro w15M w15v w15s w15I w15F w15a w15b
        show zGo X l 6 0 0 69 52 [(2, .int w11v), (1, .int w1v), (0, .ref 161)] [.int w15v] w15M _
        refine zs_istore_n (pc := 52) t69_52 (ls' := [(3, .int w15v), (2, .int w11v), (1, .int w1v), (0, .ref 161)]) (zml mf69 (by decide)) rfl ?_
        refine zs_iload_n (pc := 53) t69_53 rfl ?_
        refine zs_bipush (pc := 54) t69_54 (v := 61) (by decide) ?_
        refine zs_icmp_neT (pc := 56) t69_56 rfl li61 (by omega) ?_
        refine zs_iload_n (pc := 70) t69_70 rfl ?_
        refine zs_bipush (pc := 71) t69_71 (v := 60) (by decide) ?_
        refine zs_icmp_neF (pc := 73) t69_73 rfl li60 (by omega) ?_
        refine zs_iload_n (pc := 76) t69_76 rfl ?_
        refine zs_iload_n (pc := 77) t69_77 rfl ?_
        by_cases w16 : w15v.toInt ≤ w1v.toInt
        · refine zs_icmp_geT (pc := 78) t69_78 rfl rfl (by omega) ?_
          refine zs_iconst (pc := 85) t69_85 (v := 0) (by decide) ?_
          refine zs_goto (pc := 86) t69_86 ?_
          exact zs_iret (pc := 99) t69_99 mr69 (by decide) (hQ _ _ w15s w15I ((((zFr.refl).trans (w1F.mono rfl)).put rfl).trans (w15F.mono rfl)) (by decide) (by decide))
        · refine zs_icmp_geF (pc := 78) t69_78 rfl rfl (by omega) ?_
          refine zs_iconst (pc := 81) t69_81 (v := 1) (by decide) ?_
          refine zs_goto (pc := 82) t69_82 ?_
          exact zs_iret (pc := 99) t69_99 mr69 (by decide) (hQ _ _ w15s w15I ((((zFr.refl).trans (w1F.mono rfl)).put rfl).trans (w15F.mono rfl)) (by decide) (by decide))
      · refine zs_icmp_eqF (pc := 13) t69_13 rfl li60 (by omega) ?_
        refine zs_iload_n (pc := 16) t69_16 rfl ?_
        refine zs_bipush (pc := 17) t69_17 (v := 62) (by decide) ?_
        by_cases w17 : w11v.toInt = 62
        · refine zs_icmp_eqT (pc := 19) t69_19 rfl li62 (by omega) ?_
          refine zs_aload_n (pc := 38) t69_38 rfl ?_
          refine zs_dup (pc := 39) t69_39 rfl ?_
          refine zs_get (pc := 40) t69_40 (by decide) (zk1 (w1s.k fk_zMc_161)) (zfvi rfl rfl) ?_
          refine zs_iconst (pc := 43) t69_43 (v := 1) (by decide) ?_
          obtain ⟨w18v, w18e, w18⟩ := ziadd (a := (zI w1M 161 3)) (b := (1 : Int32)) rfl li1 (by omega) (by omega)
          refine zs_iadd (pc := 44) t69_44 (c := w18v) w18e ?_
          have w19 : zIv cLo cHi (zsI w1M 161 3 w18v) := zIv.put w1I (show 0 ≤ w18v.toInt ∧ w18v.toInt ≤ 500 from ⟨by omega, by omega⟩)
          refine zs_putI (pc := 45) t69_45 (zk1 (w1s.k fk_zMc_161)) rfl ?_
          refine zs_aload_n (pc := 48) t69_48 rfl ?_
          refine zs_invV (pc := 49) (k := 161) (as' := []) (st := []) t69_49 mf70 rfl rfl (Or.inl ⟨by decide, (zk1 (w1s.k fk_zMc_161))⟩) ⟨by decide, by decide, Nat.le_of_ble_eq_true rfl, Nat.le_of_ble_eq_true rfl⟩ (C70_161 w1s w19 ?_) (fun _ _ q => q)
          intro w20M w20v w20s w20I w20F w20a w20b
          show zGo X l 6 0 0 69 52 [(2, .int w11v), (1, .int w1v), (0, .ref 161)] [.int w20v] w20M _
          refine zs_istore_n (pc := 52) t69_52 (ls' := [(3, .int w20v), (2, .int w11v), (1, .int w1v), (0, .ref 161)]) (zml mf69 (by decide)) rfl ?_
          refine zs_iload_n (pc := 53) t69_53 rfl ?_
          refine zs_bipush (pc := 54) t69_54 (v := 61) (by decide) ?_
          refine zs_icmp_neT (pc := 56) t69_56 rfl li61 (by omega) ?_
          refine zs_iload_n (pc := 70) t69_70 rfl ?_
          refine zs_bipush (pc := 71) t69_71 (v := 60) (by decide) ?_
          refine zs_icmp_neT (pc := 73) t69_73 rfl li60 (by omega) ?_
          refine zs_iload_n (pc := 89) t69_89 rfl ?_
          refine zs_iload_n (pc := 90) t69_90 rfl ?_
          by_cases w21 : w1v.toInt ≤ w20v.toInt
          · refine zs_icmp_leT (pc := 91) t69_91 rfl rfl (by omega) ?_
            refine zs_iconst (pc := 98) t69_98 (v := 0) (by decide) ?_
            exact zs_iret (pc := 99) t69_99 mr69 (by decide) (hQ _ _ w20s w20I ((((zFr.refl).trans (w1F.mono rfl)).put rfl).trans (w20F.mono rfl)) (by decide) (by decide))
          · refine zs_icmp_leF (pc := 91) t69_91 rfl rfl (by omega) ?_
            refine zs_iconst (pc := 94) t69_94 (v := 1) (by decide) ?_
            refine zs_goto (pc := 95) t69_95 ?_
            exact zs_iret (pc := 99) t69_99 mr69 (by decide) (hQ _ _ w20s w20I ((((zFr.refl).trans (w1F.mono rfl)).put rfl).trans (w20F.mono rfl)) (by decide) (by decide))
        · refine zs_icmp_eqF (pc := 19) t69_19 rfl li62 (by omega) ?_
          refine zs_iload_n (pc := 22) t69_22 rfl ?_
          refine zs_bipush (pc := 23) t69_23 (v := 61) (by decide) ?_
          by_cases w22 : w11v.toInt = 61
          · refine zs_icmp_eqT (pc := 25) t69_25 rfl li61 (by omega) ?_
            refine zs_aload_n (pc := 38) t69_38 rfl ?_
            refine zs_dup (pc := 39) t69_39 rfl ?_
            refine zs_get (pc := 40) t69_40 (by decide) (zk1 (w1s.k fk_zMc_161)) (zfvi rfl rfl) ?_
            refine zs_iconst (pc := 43) t69_43 (v := 1) (by decide) ?_
            obtain ⟨w23v, w23e, w23⟩ := ziadd (a := (zI w1M 161 3)) (b := (1 : Int32)) rfl li1 (by omega) (by omega)
            refine zs_iadd (pc := 44) t69_44 (c := w23v) w23e ?_
            have w24 : zIv cLo cHi (zsI w1M 161 3 w23v) := zIv.put w1I (show 0 ≤ w23v.toInt ∧ w23v.toInt ≤ 500 from ⟨by omega, by omega⟩)
            refine zs_putI (pc := 45) t69_45 (zk1 (w1s.k fk_zMc_161)) rfl ?_
            refine zs_aload_n (pc := 48) t69_48 rfl ?_
            refine zs_invV (pc := 49) (k := 161) (as' := []) (st := []) t69_49 mf70 rfl rfl (Or.inl ⟨by decide, (zk1 (w1s.k fk_zMc_161))⟩) ⟨by decide, by decide, Nat.le_of_ble_eq_true rfl, Nat.le_of_ble_eq_true rfl⟩ (C70_161 w1s w24 ?_) (fun _ _ q => q)
            intro w25M w25v w25s w25I w25F w25a w25b
            show zGo X l 6 0 0 69 52 [(2, .int w11v), (1, .int w1v), (0, .ref 161)] [.int w25v] w25M _
            refine zs_istore_n (pc := 52) t69_52 (ls' := [(3, .int w25v), (2, .int w11v), (1, .int w1v), (0, .ref 161)]) (zml mf69 (by decide)) rfl ?_
            refine zs_iload_n (pc := 53) t69_53 rfl ?_
            refine zs_bipush (pc := 54) t69_54 (v := 61) (by decide) ?_
            refine zs_icmp_neF (pc := 56) t69_56 rfl li61 (by omega) ?_
            refine zs_iload_n (pc := 59) t69_59 rfl ?_
            refine zs_iload_n (pc := 60) t69_60 rfl ?_
            by_cases w26 : w1v.toInt ≠ w25v.toInt
            · refine zs_icmp_neT (pc := 61) t69_61 rfl rfl (by omega) ?_
              refine zs_iconst (pc := 68) t69_68 (v := 0) (by decide) ?_
              exact zs_iret (pc := 69) t69_69 mr69 (by decide) (hQ _ _ w25s w25I ((((zFr.refl).trans (w1F.mono rfl)).put rfl).trans (w25F.mono rfl)) (by decide) (by decide))
            · refine zs_icmp_neF (pc := 61) t69_61 rfl rfl (by omega) ?_
              refine zs_iconst (pc := 64) t69_64 (v := 1) (by decide) ?_
              refine zs_goto (pc := 65) t69_65 ?_
              exact zs_iret (pc := 69) t69_69 mr69 (by decide) (hQ _ _ w25s w25I ((((zFr.refl).trans (w1F.mono rfl)).put rfl).trans (w25F.mono rfl)) (by decide) (by decide))
          · refine zs_icmp_eqF (pc := 25) t69_25 rfl li61 (by omega) ?_
            refine zs_aload_n (pc := 28) t69_28 rfl ?_
            refine zs_aload_n (pc := 29) t69_29 rfl ?_
            refine zs_get (pc := 30) t69_30 (by decide) (zk1 (w1s.k fk_zMc_161)) (zfvi rfl rfl) ?_
            refine zs_invV (pc := 33) (k := 161) (as' := [.int (zI w1M 161 3)]) (st := []) t69_33 mf78 rfl rfl (Or.inl ⟨by decide, (zk1 (w1s.k fk_zMc_161))⟩) ⟨by decide, by decide, Nat.le_of_ble_eq_true rfl, Nat.le_of_ble_eq_true rfl⟩ (zs_in (by decide) mf78 (Nat.le_of_ble_eq_true rfl) ?_) (fun _ _ q => q)
            show zGo X l 0 0 0 78 0 [(0, .ref 161), (1, .int (zI w1M 161 3))] [] w1M _
            refine zs_aload_n (pc := 0) t78_0 rfl ?_
            refine zs_get (pc := 1) t78_1 (by decide) (zk1 (w1s.k fk_zMc_161)) (zfvi rfl rfl) ?_
            refine zs_iconst (pc := 4) t78_4 (v := -1) (by decide) ?_
            refine zs_icmp_neF (pc := 5) t78_5 rfl lin1 (by omega) ?_
            refine zs_aload_n (pc := 8) t78_8 rfl ?_
            refine zs_iload_n (pc := 9) t78_9 rfl ?_
            have w27 : zIv cLo cHi (zsI w1M 161 5 (zI w1M 161 3)) := zIv.put w1I (show (-2147483648) ≤ (zI w1M 161 3).toInt ∧ (zI w1M 161 3).toInt ≤ 2147483647 from (zrg (zI w1M 161 3)))
            refine zs_putI (pc := 10) t78_10 (zk1 (w1s.k fk_zMc_161)) rfl ?_
            refine zs_vret (pc := 13) t78_13 mr78 ?_
            show zGo X l 6 0 0 69 36 [(2, .int w11v), (1, .int w1v), (0, .ref 161)] [] (zsI w1M 161 5 (zI w1M 161 3)) _
            refine zs_iconst (pc := 36) t69_36 (v := 0) (by decide) ?_
            exact zs_iret (pc := 37) t69_37 mr69 (by decide) (hQ _ _ w1s w27 (((zFr.refl).trans (w1F.mono rfl)).put rfl) (by decide) (by decide))
