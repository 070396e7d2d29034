theorem t54_12 : zT 54 12 = some (.imul, 1, 0, 0, 0, 0) := (congrArg (fun t => List.lookup 12 t) gt54).trans rfl
theorem t54_13 : zT 54 13 = some (.iload_n 0, 1, 0, 0, 0, 0) := (congrArg (fun t => List.lookup 13 t) gt54).trans rfl
theorem t54_14 : zT 54 14 = some (.if_icmp .eq 7, 3, 21, 0, 0, 0) := (congrArg (fun t => List.lookup 14 t) gt54).trans rfl
theorem t54_17 : zT 54 17 = some (.iload_n 2, 1, 2, 0, 0, 0) := (congrArg (fun t => List.lookup 17 t) gt54).trans rfl
theorem t54_18 : zT 54 18 = some (.iconst 1, 1, 0, 0, 1, 0) := (congrArg (fun t => List.lookup 18 t) gt54).trans rfl
theorem t54_19 : zT 54 19 = some (.isub, 1, 0, 0, 0, 0) := (congrArg (fun t => List.lookup 19 t) gt54).trans rfl
theorem t54_20 : zT 54 20 = some (.ireturn, 1, 0, 0, 0, 0) := (congrArg (fun t => List.lookup 20 t) gt54).trans rfl
theorem t54_21 : zT 54 21 = some (.iload_n 2, 1, 2, 0, 0, 0) := (congrArg (fun t => List.lookup 21 t) gt54).trans rfl
theorem t54_22 : zT 54 22 = some (.ireturn, 1, 0, 0, 0, 0) := (congrArg (fun t => List.lookup 22 t) gt54).trans rfl
theorem t55_0 : zT 55 0 = some (.aload_n 0, 1, 0, 0, 0, 0) := (congrArg (fun t => List.lookup 0 t) gt55).trans rfl
theorem t55_1 : zT 55 1 = some (.iload_n 1, 1, 1, 0, 0, 0) := (congrArg (fun t => List.lookup 1 t) gt55).trans rfl
theorem t55_2 : zT 55 2 = some (.invokevirtual 98, 3, 41, 0, 0, 790) := (congrArg (fun t => List.lookup 2 t) gt55).trans rfl
theorem t55_5 : zT 55 5 = some (.ifCond .eq 27, 3, 32, 0, 0, 0) := (congrArg (fun t => List.lookup 5 t) gt55).trans rfl
theorem t55_8 : zT 55 8 = some (.iload_n 2, 1, 2, 0, 0, 0) := (congrArg (fun t => List.lookup 8 t) gt55).trans rfl
theorem t55_9 : zT 55 9 = some (.aload_n 0, 1, 0, 0, 0, 0) := (congrArg (fun t => List.lookup 9 t) gt55).trans rfl
theorem t55_10 : zT 55 10 = some (.getfield 15, 3, 6, 1, 0, 157) := (congrArg (fun t => List.lookup 10 t) gt55).trans rfl
theorem t55_13 : zT 55 13 = some (.iload_n 1, 1, 1, 0, 0, 0) := (congrArg (fun t => List.lookup 13 t) gt55).trans rfl
theorem t55_14 : zT 55 14 = some (.iaload, 1, 0, 0, 0, 0) := (congrArg (fun t => List.lookup 14 t) gt55).trans rfl
theorem t55_15 : zT 55 15 = some (.imul, 1, 0, 0, 0, 0) := (congrArg (fun t => List.lookup 15 t) gt55).trans rfl
theorem t55_16 : zT 55 16 = some (.aload_n 0, 1, 0, 0, 0, 0) := (congrArg (fun t => List.lookup 16 t) gt55).trans rfl
theorem t55_17 : zT 55 17 = some (.getfield 15, 3, 6, 1, 0, 157) := (congrArg (fun t => List.lookup 17 t) gt55).trans rfl
theorem t55_20 : zT 55 20 = some (.iload_n 1, 1, 1, 0, 0, 0) := (congrArg (fun t => List.lookup 20 t) gt55).trans rfl
theorem t55_21 : zT 55 21 = some (.iaload, 1, 0, 0, 0, 0) := (congrArg (fun t => List.lookup 21 t) gt55).trans rfl
theorem t55_22 : zT 55 22 = some (.imul, 1, 0, 0, 0, 0) := (congrArg (fun t => List.lookup 22 t) gt55).trans rfl
theorem t55_23 : zT 55 23 = some (.sipush 10000, 3, 0, 0, 10000, 0) := (congrArg (fun t => List.lookup 23 t) gt55).trans rfl
theorem t55_26 : zT 55 26 = some (.invokestatic 101, 3, 54, 1, 0, 801) := (congrArg (fun t => List.lookup 26 t) gt55).trans rfl
theorem t55_29 : zT 55 29 = some (.goto 4, 3, 33, 0, 0, 0) := (congrArg (fun t => List.lookup 29 t) gt55).trans rfl
theorem t55_32 : zT 55 32 = some (.iconst 0, 1, 0, 0, 0, 0) := (congrArg (fun t => List.lookup 32 t) gt55).trans rfl
theorem t55_33 : zT 55 33 = some (.ireturn, 1, 0, 0, 0, 0) := (congrArg (fun t => List.lookup 33 t) gt55).trans rfl
theorem t56_0 : zT 56 0 = some (.iload_n 1, 1, 1, 0, 0, 0) := (congrArg (fun t => List.lookup 0 t) gt56).trans rfl
theorem t56_1 : zT 56 1 = some (.ifCond .lt 16, 3, 17, 0, 0, 0) := (congrArg (fun t => List.lookup 1 t) gt56).trans rfl
theorem t56_4 : zT 56 4 = some (.iload_n 1, 1, 1, 0, 0, 0) := (congrArg (fun t => List.lookup 4 t) gt56).trans rfl
theorem t56_5 : zT 56 5 = some (.bipush 9, 2, 0, 0, 9, 0) := (congrArg (fun t => List.lookup 5 t) gt56).trans rfl
theorem t56_7 : zT 56 7 = some (.if_icmp .ge 10, 3, 17, 0, 0, 0) := (congrArg (fun t => List.lookup 7 t) gt56).trans rfl
theorem t56_10 : zT 56 10 = some (.aload_n 0, 1, 0, 0, 0, 0) := (congrArg (fun t => List.lookup 10 t) gt56).trans rfl
theorem t56_11 : zT 56 11 = some (.getfield 58, 3, 6, 12, 0, 190) := (congrArg (fun t => List.lookup 11 t) gt56).trans rfl
theorem t56_14 : zT 56 14 = some (.iload_n 1, 1, 1, 0, 0, 0) := (congrArg (fun t => List.lookup 14 t) gt56).trans rfl
theorem t56_15 : zT 56 15 = some (.iload_n 2, 1, 2, 0, 0, 0) := (congrArg (fun t => List.lookup 15 t) gt56).trans rfl
theorem t56_16 : zT 56 16 = some (.iastore, 1, 0, 0, 0, 0) := (congrArg (fun t => List.lookup 16 t) gt56).trans rfl
theorem t56_17 : zT 56 17 = some (.return_, 1, 0, 0, 0, 0) := (congrArg (fun t => List.lookup 17 t) gt56).trans rfl
theorem t57_0 : zT 57 0 = some (.aload_n 0, 1, 0, 0, 0, 0) := (congrArg (fun t => List.lookup 0 t) gt57).trans rfl
theorem t57_1 : zT 57 1 = some (.getfield 22, 3, 7, 3, 0, 263) := (congrArg (fun t => List.lookup 1 t) gt57).trans rfl
theorem t57_4 : zT 57 4 = some (.ireturn, 1, 0, 0, 0, 0) := (congrArg (fun t => List.lookup 4 t) gt57).trans rfl
theorem t58_0 : zT 58 0 = some (.aload_n 0, 1, 0, 0, 0, 0) := (congrArg (fun t => List.lookup 0 t) gt58).trans rfl
theorem t58_1 : zT 58 1 = some (.aload_n 0, 1, 0, 0, 0, 0) := (congrArg (fun t => List.lookup 1 t) gt58).trans rfl
theorem t58_2 : zT 58 2 = some (.getfield 17, 3, 2, 1, 0, 239) := (congrArg (fun t => List.lookup 2 t) gt58).trans rfl
theorem t58_5 : zT 58 5 = some (.iconst 1, 1, 0, 0, 1, 0) := (congrArg (fun t => List.lookup 5 t) gt58).trans rfl
theorem t58_6 : zT 58 6 = some (.iadd, 1, 0, 0, 0, 0) := (congrArg (fun t => List.lookup 6 t) gt58).trans rfl
theorem t58_7 : zT 58 7 = some (.bipush 8, 2, 0, 0, 8, 0) := (congrArg (fun t => List.lookup 7 t) gt58).trans rfl
theorem t58_9 : zT 58 9 = some (.irem, 1, 0, 0, 0, 0) := (congrArg (fun t => List.lookup 9 t) gt58).trans rfl
theorem t58_10 : zT 58 10 = some (.putfield 17, 3, 2, 1, 0, 239) := (congrArg (fun t => List.lookup 10 t) gt58).trans rfl
theorem t58_13 : zT 58 13 = some (.aload_n 0, 1, 0, 0, 0, 0) := (congrArg (fun t => List.lookup 13 t) gt58).trans rfl
theorem t58_14 : zT 58 14 = some (.getfield 11, 3, 2, 0, 0, 238) := (congrArg (fun t => List.lookup 14 t) gt58).trans rfl
theorem t58_17 : zT 58 17 = some (.aload_n 0, 1, 0, 0, 0, 0) := (congrArg (fun t => List.lookup 17 t) gt58).trans rfl
theorem t58_18 : zT 58 18 = some (.getfield 17, 3, 2, 1, 0, 239) := (congrArg (fun t => List.lookup 18 t) gt58).trans rfl
theorem t58_21 : zT 58 21 = some (.aaload, 1, 0, 0, 0, 0) := (congrArg (fun t => List.lookup 21 t) gt58).trans rfl
theorem t58_22 : zT 58 22 = some (.aload_n 1, 1, 1, 0, 0, 0) := (congrArg (fun t => List.lookup 22 t) gt58).trans rfl
theorem t58_23 : zT 58 23 = some (.invokevirtual 32, 3, 23, 0, 0, 821) := (congrArg (fun t => List.lookup 23 t) gt58).trans rfl
theorem t58_26 : zT 58 26 = some (.aload_n 0, 1, 0, 0, 0, 0) := (congrArg (fun t => List.lookup 26 t) gt58).trans rfl
theorem t58_27 : zT 58 27 = some (.aload_n 0, 1, 0, 0, 0, 0) := (congrArg (fun t => List.lookup 27 t) gt58).trans rfl
theorem t58_28 : zT 58 28 = some (.getfield 21, 3, 2, 2, 0, 240) := (congrArg (fun t => List.lookup 28 t) gt58).trans rfl
theorem t58_31 : zT 58 31 = some (.iconst 1, 1, 0, 0, 1, 0) := (congrArg (fun t => List.lookup 31 t) gt58).trans rfl
theorem t58_32 : zT 58 32 = some (.iadd, 1, 0, 0, 0, 0) := (congrArg (fun t => List.lookup 32 t) gt58).trans rfl
theorem t58_33 : zT 58 33 = some (.bipush 8, 2, 0, 0, 8, 0) := (congrArg (fun t => List.lookup 33 t) gt58).trans rfl
theorem t58_35 : zT 58 35 = some (.invokestatic 36, 3, 20, 1, 0, 822) := (congrArg (fun t => List.lookup 35 t) gt58).trans rfl
theorem t58_38 : zT 58 38 = some (.putfield 21, 3, 2, 2, 0, 240) := (congrArg (fun t => List.lookup 38 t) gt58).trans rfl
theorem t58_41 : zT 58 41 = some (.return_, 1, 0, 0, 0, 0) := (congrArg (fun t => List.lookup 41 t) gt58).trans rfl
theorem t59_0 : zT 59 0 = some (.aload_n 0, 1, 0, 0, 0, 0) := (congrArg (fun t => List.lookup 0 t) gt59).trans rfl
theorem t59_1 : zT 59 1 = some (.getfield 50, 3, 11, 6, 0, 604) := (congrArg (fun t => List.lookup 1 t) gt59).trans rfl
theorem t59_4 : zT 59 4 = some (.invokevirtual 462, 3, 60, 0, 0, 827) := (congrArg (fun t => List.lookup 4 t) gt59).trans rfl
theorem t59_7 : zT 59 7 = some (.aload_n 0, 1, 0, 0, 0, 0) := (congrArg (fun t => List.lookup 7 t) gt59).trans rfl
theorem t59_8 : zT 59 8 = some (.getfield 57, 3, 11, 7, 0, 605) := (congrArg (fun t => List.lookup 8 t) gt59).trans rfl
theorem t59_11 : zT 59 11 = some (.invokevirtual 465, 3, 61, 0, 0, 831) := (congrArg (fun t => List.lookup 11 t) gt59).trans rfl
theorem t59_14 : zT 59 14 = some (.return_, 1, 0, 0, 0, 0) := (congrArg (fun t => List.lookup 14 t) gt59).trans rfl
theorem t60_0 : zT 60 0 = some (.aload_n 0, 1, 0, 0, 0, 0) := (congrArg (fun t => List.lookup 0 t) gt60).trans rfl
theorem t60_1 : zT 60 1 = some (.iconst 0, 1, 0, 0, 0, 0) := (congrArg (fun t => List.lookup 1 t) gt60).trans rfl
theorem t60_2 : zT 60 2 = some (.putfield 9, 3, 4, 0, 0, 492) := (congrArg (fun t => List.lookup 2 t) gt60).trans rfl
theorem t60_5 : zT 60 5 = some (.return_, 1, 0, 0, 0, 0) := (congrArg (fun t => List.lookup 5 t) gt60).trans rfl
theorem t61_0 : zT 61 0 = some (.aload_n 0, 1, 0, 0, 0, 0) := (congrArg (fun t => List.lookup 0 t) gt61).trans rfl
theorem t61_1 : zT 61 1 = some (.iconst 0, 1, 0, 0, 0, 0) := (congrArg (fun t => List.lookup 1 t) gt61).trans rfl
theorem t61_2 : zT 61 2 = some (.putfield 9, 3, 1, 0, 0, 544) := (congrArg (fun t => List.lookup 2 t) gt61).trans rfl
theorem t61_5 : zT 61 5 = some (.return_, 1, 0, 0, 0, 0) := (congrArg (fun t => List.lookup 5 t) gt61).trans rfl
theorem t82_0 : zT 82 0 = some (.aload_n 0, 1, 0, 0, 0, 0) := (congrArg (fun t => List.lookup 0 t) gt82).trans rfl
theorem t82_1 : zT 82 1 = some (.getfield 36, 3, 11, 4, 0, 602) := (congrArg (fun t => List.lookup 1 t) gt82).trans rfl
theorem t82_4 : zT 82 4 = some (.aload_n 0, 1, 0, 0, 0, 0) := (congrArg (fun t => List.lookup 4 t) gt82).trans rfl
theorem t82_5 : zT 82 5 = some (.getfield 29, 3, 11, 3, 0, 601) := (congrArg (fun t => List.lookup 5 t) gt82).trans rfl
theorem t82_8 : zT 82 8 = some (.invokevirtual 130, 3, 83, 0, 0, 973) := (congrArg (fun t => List.lookup 8 t) gt82).trans rfl
theorem t82_11 : zT 82 11 = some (.istore_n 1, 1, 1, 0, 0, 0) := (congrArg (fun t => List.lookup 11 t) gt82).trans rfl
theorem t82_12 : zT 82 12 = some (.aload_n 0, 1, 0, 0, 0, 0) := (congrArg (fun t => List.lookup 12 t) gt82).trans rfl
theorem t82_13 : zT 82 13 = some (.aload_n 0, 1, 0, 0, 0, 0) := (congrArg (fun t => List.lookup 13 t) gt82).trans rfl
theorem t82_14 : zT 82 14 = some (.getfield 29, 3, 11, 3, 0, 601) := (congrArg (fun t => List.lookup 14 t) gt82).trans rfl
theorem t82_17 : zT 82 17 = some (.invokevirtual 105, 3, 57, 0, 0, 813) := (congrArg (fun t => List.lookup 17 t) gt82).trans rfl
theorem t82_20 : zT 82 20 = some (.putfield 76, 3, 11, 11, 0, 609) := (congrArg (fun t => List.lookup 20 t) gt82).trans rfl
theorem t82_23 : zT 82 23 = some (.aload_n 0, 1, 0, 0, 0, 0) := (congrArg (fun t => List.lookup 23 t) gt82).trans rfl
theorem t82_24 : zT 82 24 = some (.getfield 29, 3, 11, 3, 0, 601) := (congrArg (fun t => List.lookup 24 t) gt82).trans rfl
theorem t82_27 : zT 82 27 = some (.iconst 0, 1, 0, 0, 0, 0) := (congrArg (fun t => List.lookup 27 t) gt82).trans rfl
theorem t82_28 : zT 82 28 = some (.invokevirtual 94, 3, 19, 0, 0, 658) := (congrArg (fun t => List.lookup 28 t) gt82).trans rfl
theorem t82_31 : zT 82 31 = some (.iload_n 1, 1, 1, 0, 0, 0) := (congrArg (fun t => List.lookup 31 t) gt82).trans rfl
theorem t82_32 : zT 82 32 = some (.iconst (-1), 1, 0, 0, (-1), 0) := (congrArg (fun t => List.lookup 32 t) gt82).trans rfl
theorem t82_33 : zT 82 33 = some (.if_icmp .ne 5, 3, 38, 0, 0, 0) := (congrArg (fun t => List.lookup 33 t) gt82).trans rfl
theorem t82_36 : zT 82 36 = some (.iconst (-1), 1, 0, 0, (-1), 0) := (congrArg (fun t => List.lookup 36 t) gt82).trans rfl
theorem t82_37 : zT 82 37 = some (.ireturn, 1, 0, 0, 0, 0) := (congrArg (fun t => List.lookup 37 t) gt82).trans rfl
theorem t82_38 : zT 82 38 = some (.aload_n 0, 1, 0, 0, 0, 0) := (congrArg (fun t => List.lookup 38 t) gt82).trans rfl
theorem t82_39 : zT 82 39 = some (.iconst (-1), 1, 0, 0, (-1), 0) := (congrArg (fun t => List.lookup 39 t) gt82).trans rfl
theorem t82_40 : zT 82 40 = some (.putfield 79, 3, 11, 12, 0, 610) := (congrArg (fun t => List.lookup 40 t) gt82).trans rfl
theorem t82_43 : zT 82 43 = some (.iconst 0, 1, 0, 0, 0, 0) := (congrArg (fun t => List.lookup 43 t) gt82).trans rfl
theorem t82_44 : zT 82 44 = some (.istore_n 2, 1, 2, 0, 0, 0) := (congrArg (fun t => List.lookup 44 t) gt82).trans rfl
theorem t82_45 : zT 82 45 = some (.iconst 0, 1, 0, 0, 0, 0) := (congrArg (fun t => List.lookup 45 t) gt82).trans rfl
theorem t82_46 : zT 82 46 = some (.istore_n 3, 1, 3, 0, 0, 0) := (congrArg (fun t => List.lookup 46 t) gt82).trans rfl
theorem t82_47 : zT 82 47 = some (.iload_n 3, 1, 3, 0, 0, 0) := (congrArg (fun t => List.lookup 47 t) gt82).trans rfl
theorem t82_48 : zT 82 48 = some (.iload_n 1, 1, 1, 0, 0, 0) := (congrArg (fun t => List.lookup 48 t) gt82).trans rfl
theorem t82_49 : zT 82 49 = some (.if_icmp .ge 29, 3, 78, 0, 0, 0) := (congrArg (fun t => List.lookup 49 t) gt82).trans rfl
theorem t82_52 : zT 82 52 = some (.aload_n 0, 1, 0, 0, 0, 0) := (congrArg (fun t => List.lookup 52 t) gt82).trans rfl
theorem t82_53 : zT 82 53 = some (.iload_n 3, 1, 3, 0, 0, 0) := (congrArg (fun t => List.lookup 53 t) gt82).trans rfl
theorem t82_54 : zT 82 54 = some (.invokevirtual 134, 3, 86, 0, 0, 984) := (congrArg (fun t => List.lookup 54 t) gt82).trans rfl
theorem t82_57 : zT 82 57 = some (.iconst (-1), 1, 0, 0, (-1), 0) := (congrArg (fun t => List.lookup 57 t) gt82).trans rfl
theorem t82_58 : zT 82 58 = some (.if_icmp .ne 11, 3, 69, 0, 0, 0) := (congrArg (fun t => List.lookup 58 t) gt82).trans rfl
theorem t82_61 : zT 82 61 = some (.aload_n 0, 1, 0, 0, 0, 0) := (congrArg (fun t => List.lookup 61 t) gt82).trans rfl
theorem t82_62 : zT 82 62 = some (.iload_n 3, 1, 3, 0, 0, 0) := (congrArg (fun t => List.lookup 62 t) gt82).trans rfl
theorem t82_63 : zT 82 63 = some (.putfield 79, 3, 11, 12, 0, 610) := (congrArg (fun t => List.lookup 63 t) gt82).trans rfl
theorem t82_66 : zT 82 66 = some (.goto 12, 3, 78, 0, 0, 0) := (congrArg (fun t => List.lookup 66 t) gt82).trans rfl
theorem t82_69 : zT 82 69 = some (.iinc 2 1, 3, 0, 0, 0, 0) := (congrArg (fun t => List.lookup 69 t) gt82).trans rfl
theorem t82_72 : zT 82 72 = some (.iinc 3 1, 3, 0, 0, 0, 0) := (congrArg (fun t => List.lookup 72 t) gt82).trans rfl
theorem t82_75 : zT 82 75 = some (.goto (-28), 3, 47, 0, 0, 0) := (congrArg (fun t => List.lookup 75 t) gt82).trans rfl
theorem t82_78 : zT 82 78 = some (.iload_n 2, 1, 2, 0, 0, 0) := (congrArg (fun t => List.lookup 78 t) gt82).trans rfl
theorem t82_79 : zT 82 79 = some (.ireturn, 1, 0, 0, 0, 0) := (congrArg (fun t => List.lookup 79 t) gt82).trans rfl
theorem t83_0 : zT 83 0 = some (.aload_n 1, 1, 1, 0, 0, 0) := (congrArg (fun t => List.lookup 0 t) gt83).trans rfl
theorem t83_1 : zT 83 1 = some (.invokevirtual 21, 3, 26, 0, 0, 689) := (congrArg (fun t => List.lookup 1 t) gt83).trans rfl
theorem t83_4 : zT 83 4 = some (.iconst 0, 1, 0, 0, 0, 0) := (congrArg (fun t => List.lookup 4 t) gt83).trans rfl
theorem t83_5 : zT 83 5 = some (.istore_n 2, 1, 2, 0, 0, 0) := (congrArg (fun t => List.lookup 5 t) gt83).trans rfl
theorem t83_6 : zT 83 6 = some (.iload_n 2, 1, 2, 0, 0, 0) := (congrArg (fun t => List.lookup 6 t) gt83).trans rfl
theorem t83_7 : zT 83 7 = some (.bipush 20, 2, 0, 0, 20, 0) := (congrArg (fun t => List.lookup 7 t) gt83).trans rfl
theorem t83_9 : zT 83 9 = some (.if_icmp .ge 27, 3, 36, 0, 0, 0) := (congrArg (fun t => List.lookup 9 t) gt83).trans rfl
theorem t83_12 : zT 83 12 = some (.aload_n 1, 1, 1, 0, 0, 0) := (congrArg (fun t => List.lookup 12 t) gt83).trans rfl
theorem t83_13 : zT 83 13 = some (.invokevirtual 26, 3, 27, 0, 0, 693) := (congrArg (fun t => List.lookup 13 t) gt83).trans rfl
theorem t83_16 : zT 83 16 = some (.ifCond .ne 20, 3, 36, 0, 0, 0) := (congrArg (fun t => List.lookup 16 t) gt83).trans rfl
theorem t83_19 : zT 83 19 = some (.aload_n 0, 1, 0, 0, 0, 0) := (congrArg (fun t => List.lookup 19 t) gt83).trans rfl
theorem t83_20 : zT 83 20 = some (.aload_n 1, 1, 1, 0, 0, 0) := (congrArg (fun t => List.lookup 20 t) gt83).trans rfl
theorem t83_21 : zT 83 21 = some (.iload_n 2, 1, 2, 0, 0, 0) := (congrArg (fun t => List.lookup 21 t) gt83).trans rfl
theorem t83_22 : zT 83 22 = some (.invokevirtual 132, 3, 84, 0, 0, 977) := (congrArg (fun t => List.lookup 22 t) gt83).trans rfl
theorem t83_25 : zT 83 25 = some (.ifCond .ne 5, 3, 30, 0, 0, 0) := (congrArg (fun t => List.lookup 25 t) gt83).trans rfl
theorem t83_28 : zT 83 28 = some (.iconst (-1), 1, 0, 0, (-1), 0) := (congrArg (fun t => List.lookup 28 t) gt83).trans rfl
theorem t83_29 : zT 83 29 = some (.ireturn, 1, 0, 0, 0, 0) := (congrArg (fun t => List.lookup 29 t) gt83).trans rfl
theorem t83_30 : zT 83 30 = some (.iinc 2 1, 3, 0, 0, 0, 0) := (congrArg (fun t => List.lookup 30 t) gt83).trans rfl
theorem t83_33 : zT 83 33 = some (.goto (-27), 3, 6, 0, 0, 0) := (congrArg (fun t => List.lookup 33 t) gt83).trans rfl
theorem t83_36 : zT 83 36 = some (.aload_n 1, 1, 1, 0, 0, 0) := (congrArg (fun t => List.lookup 36 t) gt83).trans rfl
theorem t83_37 : zT 83 37 = some (.invokevirtual 26, 3, 27, 0, 0, 693) := (congrArg (fun t => List.lookup 37 t) gt83).trans rfl
theorem t83_40 : zT 83 40 = some (.ifCond .ne 14, 3, 54, 0, 0, 0) := (congrArg (fun t => List.lookup 40 t) gt83).trans rfl
theorem t83_43 : zT 83 43 = some (.aload_n 1, 1, 1, 0, 0, 0) := (congrArg (fun t => List.lookup 43 t) gt83).trans rfl
theorem t83_44 : zT 83 44 = some (.aload_n 1, 1, 1, 0, 0, 0) := (congrArg (fun t => List.lookup 44 t) gt83).trans rfl
theorem t83_45 : zT 83 45 = some (.invokevirtual 34, 3, 29, 0, 0, 701) := (congrArg (fun t => List.lookup 45 t) gt83).trans rfl
theorem t83_48 : zT 83 48 = some (.invokevirtual 49, 3, 34, 0, 0, 719) := (congrArg (fun t => List.lookup 48 t) gt83).trans rfl
theorem t83_51 : zT 83 51 = some (.pop, 1, 0, 0, 0, 0) := (congrArg (fun t => List.lookup 51 t) gt83).trans rfl
theorem t83_52 : zT 83 52 = some (.iconst (-1), 1, 0, 0, (-1), 0) := (congrArg (fun t => List.lookup 52 t) gt83).trans rfl
theorem t83_53 : zT 83 53 = some (.ireturn, 1, 0, 0, 0, 0) := (congrArg (fun t => List.lookup 53 t) gt83).trans rfl
theorem t83_54 : zT 83 54 = some (.iload_n 2, 1, 2, 0, 0, 0) := (congrArg (fun t => List.lookup 54 t) gt83).trans rfl
theorem t83_55 : zT 83 55 = some (.ireturn, 1, 0, 0, 0, 0) := (congrArg (fun t => List.lookup 55 t) gt83).trans rfl
theorem t84_0 : zT 84 0 = some (.aload_n 1, 1, 1, 0, 0, 0) := (congrArg (fun t => List.lookup 0 t) gt84).trans rfl
theorem t84_1 : zT 84 1 = some (.invokevirtual 34, 3, 29, 0, 0, 701) := (congrArg (fun t => List.lookup 1 t) gt84).trans rfl
theorem t84_4 : zT 84 4 = some (.istore_n 3, 1, 3, 0, 0, 0) := (congrArg (fun t => List.lookup 4 t) gt84).trans rfl
theorem t84_5 : zT 84 5 = some (.aload_n 1, 1, 1, 0, 0, 0) := (congrArg (fun t => List.lookup 5 t) gt84).trans rfl
theorem t84_6 : zT 84 6 = some (.invokevirtual 38, 3, 30, 0, 0, 705) := (congrArg (fun t => List.lookup 6 t) gt84).trans rfl
theorem t84_9 : zT 84 9 = some (.istore 4, 2, 0, 0, 0, 0) := (congrArg (fun t => List.lookup 9 t) gt84).trans rfl
theorem t84_11 : zT 84 11 = some (.iload 4, 2, 0, 0, 0, 0) := (congrArg (fun t => List.lookup 11 t) gt84).trans rfl
theorem t84_13 : zT 84 13 = some (.invokestatic 136, 3, 85, 1, 0, 981) := (congrArg (fun t => List.lookup 13 t) gt84).trans rfl
theorem t84_16 : zT 84 16 = some (.istore 5, 2, 0, 0, 0, 0) := (congrArg (fun t => List.lookup 16 t) gt84).trans rfl
theorem t84_18 : zT 84 18 = some (.iload 5, 2, 0, 0, 0, 0) := (congrArg (fun t => List.lookup 18 t) gt84).trans rfl
theorem t84_20 : zT 84 20 = some (.ifCond .ne 9, 3, 29, 0, 0, 0) := (congrArg (fun t => List.lookup 20 t) gt84).trans rfl
theorem t84_23 : zT 84 23 = some (.aload_n 1, 1, 1, 0, 0, 0) := (congrArg (fun t => List.lookup 23 t) gt84).trans rfl
theorem t84_24 : zT 84 24 = some (.iload_n 3, 1, 3, 0, 0, 0) := (congrArg (fun t => List.lookup 24 t) gt84).trans rfl
theorem t84_25 : zT 84 25 = some (.invokevirtual 49, 3, 34, 0, 0, 719) := (congrArg (fun t => List.lookup 25 t) gt84).trans rfl
theorem t84_28 : zT 84 28 = some (.ireturn, 1, 0, 0, 0, 0) := (congrArg (fun t => List.lookup 28 t) gt84).trans rfl
theorem t84_29 : zT 84 29 = some (.aload_n 0, 1, 0, 0, 0, 0) := (congrArg (fun t => List.lookup 29 t) gt84).trans rfl
theorem t84_30 : zT 84 30 = some (.getfield 15, 3, 3, 1, 0, 286) := (congrArg (fun t => List.lookup 30 t) gt84).trans rfl
theorem t84_33 : zT 84 33 = some (.iload_n 2, 1, 2, 0, 0, 0) := (congrArg (fun t => List.lookup 33 t) gt84).trans rfl
theorem t84_34 : zT 84 34 = some (.iload 4, 2, 0, 0, 0, 0) := (congrArg (fun t => List.lookup 34 t) gt84).trans rfl
theorem t84_36 : zT 84 36 = some (.iastore, 1, 0, 0, 0, 0) := (congrArg (fun t => List.lookup 36 t) gt84).trans rfl
theorem t84_37 : zT 84 37 = some (.iconst 0, 1, 0, 0, 0, 0) := (congrArg (fun t => List.lookup 37 t) gt84).trans rfl
theorem t84_38 : zT 84 38 = some (.istore 6, 2, 0, 0, 0, 0) := (congrArg (fun t => List.lookup 38 t) gt84).trans rfl
theorem t84_40 : zT 84 40 = some (.iload 6, 2, 0, 0, 0, 0) := (congrArg (fun t => List.lookup 40 t) gt84).trans rfl
theorem t84_42 : zT 84 42 = some (.iload 5, 2, 0, 0, 0, 0) := (congrArg (fun t => List.lookup 42 t) gt84).trans rfl
theorem t84_44 : zT 84 44 = some (.if_icmp .ge 58, 3, 102, 0, 0, 0) := (congrArg (fun t => List.lookup 44 t) gt84).trans rfl
theorem t84_47 : zT 84 47 = some (.aload_n 1, 1, 1, 0, 0, 0) := (congrArg (fun t => List.lookup 47 t) gt84).trans rfl
theorem t84_48 : zT 84 48 = some (.invokevirtual 53, 3, 35, 0, 0, 723) := (congrArg (fun t => List.lookup 48 t) gt84).trans rfl
theorem t84_51 : zT 84 51 = some (.ifCond .ne 5, 3, 56, 0, 0, 0) := (congrArg (fun t => List.lookup 51 t) gt84).trans rfl
theorem t84_54 : zT 84 54 = some (.iconst 0, 1, 0, 0, 0, 0) := (congrArg (fun t => List.lookup 54 t) gt84).trans rfl
theorem t84_55 : zT 84 55 = some (.ireturn, 1, 0, 0, 0, 0) := (congrArg (fun t => List.lookup 55 t) gt84).trans rfl
theorem t84_56 : zT 84 56 = some (.aload_n 0, 1, 0, 0, 0, 0) := (congrArg (fun t => List.lookup 56 t) gt84).trans rfl
theorem t84_57 : zT 84 57 = some (.getfield 18, 3, 3, 2, 0, 287) := (congrArg (fun t => List.lookup 57 t) gt84).trans rfl
theorem t84_60 : zT 84 60 = some (.iload_n 2, 1, 2, 0, 0, 0) := (congrArg (fun t => List.lookup 60 t) gt84).trans rfl
theorem t84_61 : zT 84 61 = some (.iconst 4, 1, 0, 0, 4, 0) := (congrArg (fun t => List.lookup 61 t) gt84).trans rfl
theorem t84_62 : zT 84 62 = some (.imul, 1, 0, 0, 0, 0) := (congrArg (fun t => List.lookup 62 t) gt84).trans rfl
theorem t84_63 : zT 84 63 = some (.iload 6, 2, 0, 0, 0, 0) := (congrArg (fun t => List.lookup 63 t) gt84).trans rfl
theorem t84_65 : zT 84 65 = some (.iadd, 1, 0, 0, 0, 0) := (congrArg (fun t => List.lookup 65 t) gt84).trans rfl
theorem t84_66 : zT 84 66 = some (.aload_n 1, 1, 1, 0, 0, 0) := (congrArg (fun t => List.lookup 66 t) gt84).trans rfl
theorem t84_67 : zT 84 67 = some (.invokevirtual 56, 3, 37, 0, 0, 732) := (congrArg (fun t => List.lookup 67 t) gt84).trans rfl
theorem t84_70 : zT 84 70 = some (.iastore, 1, 0, 0, 0, 0) := (congrArg (fun t => List.lookup 70 t) gt84).trans rfl
theorem t84_71 : zT 84 71 = some (.aload_n 1, 1, 1, 0, 0, 0) := (congrArg (fun t => List.lookup 71 t) gt84).trans rfl
theorem t84_72 : zT 84 72 = some (.iload 6, 2, 0, 0, 0, 0) := (congrArg (fun t => List.lookup 72 t) gt84).trans rfl
theorem t84_74 : zT 84 74 = some (.iconst 1, 1, 0, 0, 1, 0) := (congrArg (fun t => List.lookup 74 t) gt84).trans rfl
theorem t84_75 : zT 84 75 = some (.iadd, 1, 0, 0, 0, 0) := (congrArg (fun t => List.lookup 75 t) gt84).trans rfl
theorem t84_76 : zT 84 76 = some (.iload 5, 2, 0, 0, 0, 0) := (congrArg (fun t => List.lookup 76 t) gt84).trans rfl
theorem t84_78 : zT 84 78 = some (.if_icmp .ge 8, 3, 86, 0, 0, 0) := (congrArg (fun t => List.lookup 78 t) gt84).trans rfl
theorem t84_81 : zT 84 81 = some (.bipush 44, 2, 0, 0, 44, 0) := (congrArg (fun t => List.lookup 81 t) gt84).trans rfl
theorem t84_83 : zT 84 83 = some (.goto 5, 3, 88, 0, 0, 0) := (congrArg (fun t => List.lookup 83 t) gt84).trans rfl
theorem t84_86 : zT 84 86 = some (.bipush 59, 2, 0, 0, 59, 0) := (congrArg (fun t => List.lookup 86 t) gt84).trans rfl
theorem t84_88 : zT 84 88 = some (.invokevirtual 66, 3, 47, 0, 0, 770) := (congrArg (fun t => List.lookup 88 t) gt84).trans rfl
theorem t84_91 : zT 84 91 = some (.ifCond .ne 5, 3, 96, 0, 0, 0) := (congrArg (fun t => List.lookup 91 t) gt84).trans rfl
theorem t84_94 : zT 84 94 = some (.iconst 0, 1, 0, 0, 0, 0) := (congrArg (fun t => List.lookup 94 t) gt84).trans rfl
theorem t84_95 : zT 84 95 = some (.ireturn, 1, 0, 0, 0, 0) := (congrArg (fun t => List.lookup 95 t) gt84).trans rfl
theorem t84_96 : zT 84 96 = some (.iinc 6 1, 3, 0, 0, 0, 0) := (congrArg (fun t => List.lookup 96 t) gt84).trans rfl
theorem t84_99 : zT 84 99 = some (.goto (-59), 3, 40, 0, 0, 0) := (congrArg (fun t => List.lookup 99 t) gt84).trans rfl
theorem t84_102 : zT 84 102 = some (.iconst 1, 1, 0, 0, 1, 0) := (congrArg (fun t => List.lookup 102 t) gt84).trans rfl
theorem t84_103 : zT 84 103 = some (.ireturn, 1, 0, 0, 0, 0) := (congrArg (fun t => List.lookup 103 t) gt84).trans rfl
theorem t85_0 : zT 85 0 = some (.iload_n 0, 1, 0, 0, 0, 0) := (congrArg (fun t => List.lookup 0 t) gt85).trans rfl
theorem t85_1 : zT 85 1 = some (.lookupswitch 47 #[(100, 45), (104, 43), (110, 45), (120, 45)], 43, 0, 0, 0, 0) := (congrArg (fun t => List.lookup 1 t) gt85).trans rfl
theorem t85_44 : zT 85 44 = some (.iconst 3, 1, 0, 0, 3, 0) := (congrArg (fun t => List.lookup 44 t) gt85).trans rfl
theorem t85_45 : zT 85 45 = some (.ireturn, 1, 0, 0, 0, 0) := (congrArg (fun t => List.lookup 45 t) gt85).trans rfl
theorem t85_46 : zT 85 46 = some (.iconst 1, 1, 0, 0, 1, 0) := (congrArg (fun t => List.lookup 46 t) gt85).trans rfl
theorem t85_47 : zT 85 47 = some (.ireturn, 1, 0, 0, 0, 0) := (congrArg (fun t => List.lookup 47 t) gt85).trans rfl
theorem t85_48 : zT 85 48 = some (.iconst 0, 1, 0, 0, 0, 0) := (congrArg (fun t => List.lookup 48 t) gt85).trans rfl
theorem t85_49 : zT 85 49 = some (.ireturn, 1, 0, 0, 0, 0) := (congrArg (fun t => List.lookup 49 t) gt85).trans rfl
theorem t86_0 : zT 86 0 = some (.aload_n 0, 1, 0, 0, 0, 0) := (congrArg (fun t => List.lookup 0 t) gt86).trans rfl
theorem t86_1 : zT 86 1 = some (.getfield 36, 3, 11, 4, 0, 602) := (congrArg (fun t => List.lookup 1 t) gt86).trans rfl
theorem t86_4 : zT 86 4 = some (.iload_n 1, 1, 1, 0, 0, 0) := (congrArg (fun t => List.lookup 4 t) gt86).trans rfl
theorem t86_5 : zT 86 5 = some (.invokevirtual 138, 3, 87, 0, 0, 988) := (congrArg (fun t => List.lookup 5 t) gt86).trans rfl
theorem t86_8 : zT 86 8 = some (.lookupswitch 118 #[(100, 90), (104, 44), (110, 104), (120, 76)], 44, 0, 0, 0, 0) := (congrArg (fun t => List.lookup 8 t) gt86).trans rfl
theorem t86_52 : zT 86 52 = some (.aload_n 0, 1, 0, 0, 0, 0) := (congrArg (fun t => List.lookup 52 t) gt86).trans rfl
theorem t86_53 : zT 86 53 = some (.aload_n 0, 1, 0, 0, 0, 0) := (congrArg (fun t => List.lookup 53 t) gt86).trans rfl
theorem t86_54 : zT 86 54 = some (.getfield 36, 3, 11, 4, 0, 602) := (congrArg (fun t => List.lookup 54 t) gt86).trans rfl
theorem t86_57 : zT 86 57 = some (.iload_n 1, 1, 1, 0, 0, 0) := (congrArg (fun t => List.lookup 57 t) gt86).trans rfl
theorem t86_58 : zT 86 58 = some (.iconst 0, 1, 0, 0, 0, 0) := (congrArg (fun t => List.lookup 58 t) gt86).trans rfl
theorem t86_59 : zT 86 59 = some (.invokevirtual 141, 3, 88, 0, 0, 992) := (congrArg (fun t => List.lookup 59 t) gt86).trans rfl
theorem t86_62 : zT 86 62 = some (.aload_n 0, 1, 0, 0, 0, 0) := (congrArg (fun t => List.lookup 62 t) gt86).trans rfl
theorem t86_63 : zT 86 63 = some (.getfield 36, 3, 11, 4, 0, 602) := (congrArg (fun t => List.lookup 63 t) gt86).trans rfl
theorem t86_66 : zT 86 66 = some (.iload_n 1, 1, 1, 0, 0, 0) := (congrArg (fun t => List.lookup 66 t) gt86).trans rfl
theorem t86_67 : zT 86 67 = some (.iconst 1, 1, 0, 0, 1, 0) := (congrArg (fun t => List.lookup 67 t) gt86).trans rfl
theorem t86_68 : zT 86 68 = some (.invokevirtual 141, 3, 88, 0, 0, 992) := (congrArg (fun t => List.lookup 68 t) gt86).trans rfl
theorem t86_71 : zT 86 71 = some (.aload_n 0, 1, 0, 0, 0, 0) := (congrArg (fun t => List.lookup 71 t) gt86).trans rfl
theorem t86_72 : zT 86 72 = some (.getfield 36, 3, 11, 4, 0, 602) := (congrArg (fun t => List.lookup 72 t) gt86).trans rfl
theorem t86_75 : zT 86 75 = some (.iload_n 1, 1, 1, 0, 0, 0) := (congrArg (fun t => List.lookup 75 t) gt86).trans rfl
theorem t86_76 : zT 86 76 = some (.iconst 2, 1, 0, 0, 2, 0) := (congrArg (fun t => List.lookup 76 t) gt86).trans rfl
theorem t86_77 : zT 86 77 = some (.invokevirtual 141, 3, 88, 0, 0, 992) := (congrArg (fun t => List.lookup 77 t) gt86).trans rfl
theorem t86_80 : zT 86 80 = some (.invokevirtual 145, 3, 89, 0, 0, 996) := (congrArg (fun t => List.lookup 80 t) gt86).trans rfl
theorem t86_83 : zT 86 83 = some (.ireturn, 1, 0, 0, 0, 0) := (congrArg (fun t => List.lookup 83 t) gt86).trans rfl
theorem t86_84 : zT 86 84 = some (.aload_n 0, 1, 0, 0, 0, 0) := (congrArg (fun t => List.lookup 84 t) gt86).trans rfl
theorem t86_85 : zT 86 85 = some (.aload_n 0, 1, 0, 0, 0, 0) := (congrArg (fun t => List.lookup 85 t) gt86).trans rfl
theorem t86_86 : zT 86 86 = some (.getfield 36, 3, 11, 4, 0, 602) := (congrArg (fun t => List.lookup 86 t) gt86).trans rfl
theorem t86_89 : zT 86 89 = some (.iload_n 1, 1, 1, 0, 0, 0) := (congrArg (fun t => List.lookup 89 t) gt86).trans rfl
theorem t86_90 : zT 86 90 = some (.iconst 0, 1, 0, 0, 0, 0) := (congrArg (fun t => List.lookup 90 t) gt86).trans rfl
theorem t86_91 : zT 86 91 = some (.invokevirtual 141, 3, 88, 0, 0, 992) := (congrArg (fun t => List.lookup 91 t) gt86).trans rfl
theorem t86_94 : zT 86 94 = some (.invokevirtual 149, 3, 90, 0, 0, 1002) := (congrArg (fun t => List.lookup 94 t) gt86).trans rfl
theorem t86_97 : zT 86 97 = some (.ireturn, 1, 0, 0, 0, 0) := (congrArg (fun t => List.lookup 97 t) gt86).trans rfl
theorem t86_98 : zT 86 98 = some (.aload_n 0, 1, 0, 0, 0, 0) := (congrArg (fun t => List.lookup 98 t) gt86).trans rfl
theorem t86_99 : zT 86 99 = some (.aload_n 0, 1, 0, 0, 0, 0) := (congrArg (fun t => List.lookup 99 t) gt86).trans rfl
theorem t86_100 : zT 86 100 = some (.getfield 36, 3, 11, 4, 0, 602) := (congrArg (fun t => List.lookup 100 t) gt86).trans rfl
theorem t86_103 : zT 86 103 = some (.iload_n 1, 1, 1, 0, 0, 0) := (congrArg (fun t => List.lookup 103 t) gt86).trans rfl
theorem t86_104 : zT 86 104 = some (.iconst 0, 1, 0, 0, 0, 0) := (congrArg (fun t => List.lookup 104 t) gt86).trans rfl
theorem t86_105 : zT 86 105 = some (.invokevirtual 141, 3, 88, 0, 0, 992) := (congrArg (fun t => List.lookup 105 t) gt86).trans rfl
theorem t86_108 : zT 86 108 = some (.invokevirtual 152, 3, 94, 0, 0, 1019) := (congrArg (fun t => List.lookup 108 t) gt86).trans rfl
theorem t86_111 : zT 86 111 = some (.ireturn, 1, 0, 0, 0, 0) := (congrArg (fun t => List.lookup 111 t) gt86).trans rfl
theorem t86_112 : zT 86 112 = some (.aload_n 0, 1, 0, 0, 0, 0) := (congrArg (fun t => List.lookup 112 t) gt86).trans rfl
theorem t86_113 : zT 86 113 = some (.aload_n 0, 1, 0, 0, 0, 0) := (congrArg (fun t => List.lookup 113 t) gt86).trans rfl
theorem t86_114 : zT 86 114 = some (.getfield 36, 3, 11, 4, 0, 602) := (congrArg (fun t => List.lookup 114 t) gt86).trans rfl
theorem t86_117 : zT 86 117 = some (.iload_n 1, 1, 1, 0, 0, 0) := (congrArg (fun t => List.lookup 117 t) gt86).trans rfl
theorem t86_118 : zT 86 118 = some (.iconst 0, 1, 0, 0, 0, 0) := (congrArg (fun t => List.lookup 118 t) gt86).trans rfl
theorem t86_119 : zT 86 119 = some (.invokevirtual 141, 3, 88, 0, 0, 992) := (congrArg (fun t => List.lookup 119 t) gt86).trans rfl
theorem t86_122 : zT 86 122 = some (.invokevirtual 155, 3, 95, 0, 0, 1024) := (congrArg (fun t => List.lookup 122 t) gt86).trans rfl
theorem t86_125 : zT 86 125 = some (.ireturn, 1, 0, 0, 0, 0) := (congrArg (fun t => List.lookup 125 t) gt86).trans rfl
theorem t86_126 : zT 86 126 = some (.iconst (-1), 1, 0, 0, (-1), 0) := (congrArg (fun t => List.lookup 126 t) gt86).trans rfl
theorem t86_127 : zT 86 127 = some (.ireturn, 1, 0, 0, 0, 0) := (congrArg (fun t => List.lookup 127 t) gt86).trans rfl
theorem t87_0 : zT 87 0 = some (.iload_n 1, 1, 1, 0, 0, 0) := (congrArg (fun t => List.lookup 0 t) gt87).trans rfl
theorem t87_1 : zT 87 1 = some (.iconst 0, 1, 0, 0, 0, 0) := (congrArg (fun t => List.lookup 1 t) gt87).trans rfl
theorem t87_2 : zT 87 2 = some (.bipush 19, 2, 0, 0, 19, 0) := (congrArg (fun t => List.lookup 2 t) gt87).trans rfl
theorem t87_4 : zT 87 4 = some (.invokestatic 88, 3, 39, 2, 0, 740) := (congrArg (fun t => List.lookup 4 t) gt87).trans rfl
theorem t87_7 : zT 87 7 = some (.ifCond .eq 12, 3, 19, 0, 0, 0) := (congrArg (fun t => List.lookup 7 t) gt87).trans rfl
theorem t87_10 : zT 87 10 = some (.aload_n 0, 1, 0, 0, 0, 0) := (congrArg (fun t => List.lookup 10 t) gt87).trans rfl
theorem t87_11 : zT 87 11 = some (.getfield 15, 3, 3, 1, 0, 286) := (congrArg (fun t => List.lookup 11 t) gt87).trans rfl
theorem t87_14 : zT 87 14 = some (.iload_n 1, 1, 1, 0, 0, 0) := (congrArg (fun t => List.lookup 14 t) gt87).trans rfl
theorem t87_15 : zT 87 15 = some (.iaload, 1, 0, 0, 0, 0) := (congrArg (fun t => List.lookup 15 t) gt87).trans rfl
theorem t87_16 : zT 87 16 = some (.goto 4, 3, 20, 0, 0, 0) := (congrArg (fun t => List.lookup 16 t) gt87).trans rfl
theorem t87_20 : zT 87 20 = some (.ireturn, 1, 0, 0, 0, 0) := (congrArg (fun t => List.lookup 20 t) gt87).trans rfl
theorem t88_0 : zT 88 0 = some (.iload_n 1, 1, 1, 0, 0, 0) := (congrArg (fun t => List.lookup 0 t) gt88).trans rfl
theorem t88_1 : zT 88 1 = some (.iconst 0, 1, 0, 0, 0, 0) := (congrArg (fun t => List.lookup 1 t) gt88).trans rfl
theorem t88_2 : zT 88 2 = some (.bipush 19, 2, 0, 0, 19, 0) := (congrArg (fun t => List.lookup 2 t) gt88).trans rfl
theorem t88_4 : zT 88 4 = some (.invokestatic 88, 3, 39, 2, 0, 740) := (congrArg (fun t => List.lookup 4 t) gt88).trans rfl
theorem t88_7 : zT 88 7 = some (.ifCond .eq 25, 3, 32, 0, 0, 0) := (congrArg (fun t => List.lookup 7 t) gt88).trans rfl
theorem t88_10 : zT 88 10 = some (.iload_n 2, 1, 2, 0, 0, 0) := (congrArg (fun t => List.lookup 10 t) gt88).trans rfl
theorem t88_11 : zT 88 11 = some (.iconst 0, 1, 0, 0, 0, 0) := (congrArg (fun t => List.lookup 11 t) gt88).trans rfl
theorem t88_12 : zT 88 12 = some (.iconst 3, 1, 0, 0, 3, 0) := (congrArg (fun t => List.lookup 12 t) gt88).trans rfl
theorem t88_13 : zT 88 13 = some (.invokestatic 88, 3, 39, 2, 0, 740) := (congrArg (fun t => List.lookup 13 t) gt88).trans rfl
theorem t88_16 : zT 88 16 = some (.ifCond .eq 16, 3, 32, 0, 0, 0) := (congrArg (fun t => List.lookup 16 t) gt88).trans rfl
theorem t88_19 : zT 88 19 = some (.aload_n 0, 1, 0, 0, 0, 0) := (congrArg (fun t => List.lookup 19 t) gt88).trans rfl
theorem t88_20 : zT 88 20 = some (.getfield 18, 3, 3, 2, 0, 287) := (congrArg (fun t => List.lookup 20 t) gt88).trans rfl
theorem t88_23 : zT 88 23 = some (.iload_n 1, 1, 1, 0, 0, 0) := (congrArg (fun t => List.lookup 23 t) gt88).trans rfl
theorem t88_24 : zT 88 24 = some (.iconst 4, 1, 0, 0, 4, 0) := (congrArg (fun t => List.lookup 24 t) gt88).trans rfl
theorem t88_25 : zT 88 25 = some (.imul, 1, 0, 0, 0, 0) := (congrArg (fun t => List.lookup 25 t) gt88).trans rfl
theorem t88_26 : zT 88 26 = some (.iload_n 2, 1, 2, 0, 0, 0) := (congrArg (fun t => List.lookup 26 t) gt88).trans rfl
theorem t88_27 : zT 88 27 = some (.iadd, 1, 0, 0, 0, 0) := (congrArg (fun t => List.lookup 27 t) gt88).trans rfl
theorem t88_28 : zT 88 28 = some (.iaload, 1, 0, 0, 0, 0) := (congrArg (fun t => List.lookup 28 t) gt88).trans rfl
theorem t88_29 : zT 88 29 = some (.goto 4, 3, 33, 0, 0, 0) := (congrArg (fun t => List.lookup 29 t) gt88).trans rfl
theorem t88_33 : zT 88 33 = some (.ireturn, 1, 0, 0, 0, 0) := (congrArg (fun t => List.lookup 33 t) gt88).trans rfl
theorem t89_0 : zT 89 0 = some (.aload_n 0, 1, 0, 0, 0, 0) := (congrArg (fun t => List.lookup 0 t) gt89).trans rfl
theorem t89_1 : zT 89 1 = some (.getfield 12, 3, 11, 0, 0, 598) := (congrArg (fun t => List.lookup 1 t) gt89).trans rfl
theorem t89_4 : zT 89 4 = some (.iload_n 1, 1, 1, 0, 0, 0) := (congrArg (fun t => List.lookup 4 t) gt89).trans rfl
theorem t89_5 : zT 89 5 = some (.iload_n 2, 1, 2, 0, 0, 0) := (congrArg (fun t => List.lookup 5 t) gt89).trans rfl
theorem t89_6 : zT 89 6 = some (.iload_n 3, 1, 3, 0, 0, 0) := (congrArg (fun t => List.lookup 6 t) gt89).trans rfl
theorem t89_7 : zT 89 7 = some (.invokevirtual 402, 3, 51, 0, 0, 1000) := (congrArg (fun t => List.lookup 7 t) gt89).trans rfl
theorem t89_10 : zT 89 10 = some (.ifCond .ne 5, 3, 15, 0, 0, 0) := (congrArg (fun t => List.lookup 10 t) gt89).trans rfl
theorem t89_13 : zT 89 13 = some (.iconst (-1), 1, 0, 0, (-1), 0) := (congrArg (fun t => List.lookup 13 t) gt89).trans rfl
theorem t89_14 : zT 89 14 = some (.ireturn, 1, 0, 0, 0, 0) := (congrArg (fun t => List.lookup 14 t) gt89).trans rfl
theorem t89_15 : zT 89 15 = some (.aload_n 0, 1, 0, 0, 0, 0) := (congrArg (fun t => List.lookup 15 t) gt89).trans rfl
theorem t89_16 : zT 89 16 = some (.getfield 22, 3, 11, 2, 0, 600) := (congrArg (fun t => List.lookup 16 t) gt89).trans rfl
theorem t89_19 : zT 89 19 = some (.aload_n 0, 1, 0, 0, 0, 0) := (congrArg (fun t => List.lookup 19 t) gt89).trans rfl
theorem t89_20 : zT 89 20 = some (.getfield 12, 3, 11, 0, 0, 598) := (congrArg (fun t => List.lookup 20 t) gt89).trans rfl
theorem t89_23 : zT 89 23 = some (.invokevirtual 108, 3, 58, 0, 0, 817) := (congrArg (fun t => List.lookup 23 t) gt89).trans rfl
theorem t89_26 : zT 89 26 = some (.aload_n 0, 1, 0, 0, 0, 0) := (congrArg (fun t => List.lookup 26 t) gt89).trans rfl
theorem t89_27 : zT 89 27 = some (.invokevirtual 111, 3, 59, 0, 0, 823) := (congrArg (fun t => List.lookup 27 t) gt89).trans rfl
theorem t89_30 : zT 89 30 = some (.aload_n 0, 1, 0, 0, 0, 0) := (congrArg (fun t => List.lookup 30 t) gt89).trans rfl
theorem t89_31 : zT 89 31 = some (.getfield 12, 3, 11, 0, 0, 598) := (congrArg (fun t => List.lookup 31 t) gt89).trans rfl
theorem t89_34 : zT 89 34 = some (.iload_n 1, 1, 1, 0, 0, 0) := (congrArg (fun t => List.lookup 34 t) gt89).trans rfl
theorem t89_35 : zT 89 35 = some (.iload_n 2, 1, 2, 0, 0, 0) := (congrArg (fun t => List.lookup 35 t) gt89).trans rfl
theorem t89_36 : zT 89 36 = some (.iload_n 3, 1, 3, 0, 0, 0) := (congrArg (fun t => List.lookup 36 t) gt89).trans rfl
theorem t89_37 : zT 89 37 = some (.bipush (-2), 2, 0, 0, (-2), 0) := (congrArg (fun t => List.lookup 37 t) gt89).trans rfl
theorem t89_39 : zT 89 39 = some (.invokevirtual 405, 3, 50, 0, 0, 1001) := (congrArg (fun t => List.lookup 39 t) gt89).trans rfl
theorem t89_42 : zT 89 42 = some (.ireturn, 1, 0, 0, 0, 0) := (congrArg (fun t => List.lookup 42 t) gt89).trans rfl
theorem t90_0 : zT 90 0 = some (.aload_n 0, 1, 0, 0, 0, 0) := (congrArg (fun t => List.lookup 0 t) gt90).trans rfl
theorem t90_1 : zT 90 1 = some (.getfield 12, 3, 11, 0, 0, 598) := (congrArg (fun t => List.lookup 1 t) gt90).trans rfl
theorem t90_4 : zT 90 4 = some (.iload_n 1, 1, 1, 0, 0, 0) := (congrArg (fun t => List.lookup 4 t) gt90).trans rfl
theorem t90_5 : zT 90 5 = some (.invokevirtual 193, 3, 91, 0, 0, 1006) := (congrArg (fun t => List.lookup 5 t) gt90).trans rfl
theorem t90_8 : zT 90 8 = some (.ifCond .eq 15, 3, 23, 0, 0, 0) := (congrArg (fun t => List.lookup 8 t) gt90).trans rfl
theorem t90_11 : zT 90 11 = some (.aload_n 0, 1, 0, 0, 0, 0) := (congrArg (fun t => List.lookup 11 t) gt90).trans rfl
theorem t90_12 : zT 90 12 = some (.getfield 12, 3, 11, 0, 0, 598) := (congrArg (fun t => List.lookup 12 t) gt90).trans rfl
theorem t90_15 : zT 90 15 = some (.getfield 203, 3, 6, 6, 0, 176) := (congrArg (fun t => List.lookup 15 t) gt90).trans rfl
theorem t90_18 : zT 90 18 = some (.iload_n 1, 1, 1, 0, 0, 0) := (congrArg (fun t => List.lookup 18 t) gt90).trans rfl
theorem t90_19 : zT 90 19 = some (.iaload, 1, 0, 0, 0, 0) := (congrArg (fun t => List.lookup 19 t) gt90).trans rfl
theorem t90_20 : zT 90 20 = some (.ifCond .ge 5, 3, 25, 0, 0, 0) := (congrArg (fun t => List.lookup 20 t) gt90).trans rfl
theorem t90_23 : zT 90 23 = some (.iconst (-1), 1, 0, 0, (-1), 0) := (congrArg (fun t => List.lookup 23 t) gt90).trans rfl
theorem t90_24 : zT 90 24 = some (.ireturn, 1, 0, 0, 0, 0) := (congrArg (fun t => List.lookup 24 t) gt90).trans rfl
theorem t90_25 : zT 90 25 = some (.aload_n 0, 1, 0, 0, 0, 0) := (congrArg (fun t => List.lookup 25 t) gt90).trans rfl
theorem t90_26 : zT 90 26 = some (.getfield 22, 3, 11, 2, 0, 600) := (congrArg (fun t => List.lookup 26 t) gt90).trans rfl
theorem t90_29 : zT 90 29 = some (.aload_n 0, 1, 0, 0, 0, 0) := (congrArg (fun t => List.lookup 29 t) gt90).trans rfl
theorem t90_30 : zT 90 30 = some (.getfield 12, 3, 11, 0, 0, 598) := (congrArg (fun t => List.lookup 30 t) gt90).trans rfl
theorem t90_33 : zT 90 33 = some (.invokevirtual 108, 3, 58, 0, 0, 817) := (congrArg (fun t => List.lookup 33 t) gt90).trans rfl
theorem t90_36 : zT 90 36 = some (.aload_n 0, 1, 0, 0, 0, 0) := (congrArg (fun t => List.lookup 36 t) gt90).trans rfl
theorem t90_37 : zT 90 37 = some (.invokevirtual 111, 3, 59, 0, 0, 823) := (congrArg (fun t => List.lookup 37 t) gt90).trans rfl
theorem t90_40 : zT 90 40 = some (.aload_n 0, 1, 0, 0, 0, 0) := (congrArg (fun t => List.lookup 40 t) gt90).trans rfl
theorem t90_41 : zT 90 41 = some (.getfield 12, 3, 11, 0, 0, 598) := (congrArg (fun t => List.lookup 41 t) gt90).trans rfl
theorem t90_44 : zT 90 44 = some (.getfield 203, 3, 6, 6, 0, 176) := (congrArg (fun t => List.lookup 44 t) gt90).trans rfl
theorem t90_47 : zT 90 47 = some (.iload_n 1, 1, 1, 0, 0, 0) := (congrArg (fun t => List.lookup 47 t) gt90).trans rfl
theorem t90_48 : zT 90 48 = some (.iconst (-1), 1, 0, 0, (-1), 0) := (congrArg (fun t => List.lookup 48 t) gt90).trans rfl
theorem t90_49 : zT 90 49 = some (.iastore, 1, 0, 0, 0, 0) := (congrArg (fun t => List.lookup 49 t) gt90).trans rfl
theorem t90_50 : zT 90 50 = some (.aload_n 0, 1, 0, 0, 0, 0) := (congrArg (fun t => List.lookup 50 t) gt90).trans rfl
theorem t90_51 : zT 90 51 = some (.getfield 12, 3, 11, 0, 0, 598) := (congrArg (fun t => List.lookup 51 t) gt90).trans rfl
theorem t90_54 : zT 90 54 = some (.invokevirtual 170, 3, 92, 0, 0, 1010) := (congrArg (fun t => List.lookup 54 t) gt90).trans rfl
theorem t90_57 : zT 90 57 = some (.ireturn, 1, 0, 0, 0, 0) := (congrArg (fun t => List.lookup 57 t) gt90).trans rfl
theorem t91_0 : zT 91 0 = some (.iload_n 1, 1, 1, 0, 0, 0) := (congrArg (fun t => List.lookup 0 t) gt91).trans rfl
theorem t91_1 : zT 91 1 = some (.ifCond .lt 15, 3, 16, 0, 0, 0) := (congrArg (fun t => List.lookup 1 t) gt91).trans rfl
theorem t91_4 : zT 91 4 = some (.iload_n 1, 1, 1, 0, 0, 0) := (congrArg (fun t => List.lookup 4 t) gt91).trans rfl
theorem t91_5 : zT 91 5 = some (.aload_n 0, 1, 0, 0, 0, 0) := (congrArg (fun t => List.lookup 5 t) gt91).trans rfl
theorem t91_6 : zT 91 6 = some (.getfield 23, 3, 6, 3, 0, 164) := (congrArg (fun t => List.lookup 6 t) gt91).trans rfl
theorem t91_9 : zT 91 9 = some (.if_icmp .ge 7, 3, 16, 0, 0, 0) := (congrArg (fun t => List.lookup 9 t) gt91).trans rfl
theorem t91_12 : zT 91 12 = some (.iconst 1, 1, 0, 0, 1, 0) := (congrArg (fun t => List.lookup 12 t) gt91).trans rfl
theorem t91_13 : zT 91 13 = some (.goto 4, 3, 17, 0, 0, 0) := (congrArg (fun t => List.lookup 13 t) gt91).trans rfl
theorem t91_16 : zT 91 16 = some (.iconst 0, 1, 0, 0, 0, 0) := (congrArg (fun t => List.lookup 16 t) gt91).trans rfl
theorem t91_17 : zT 91 17 = some (.ireturn, 1, 0, 0, 0, 0) := (congrArg (fun t => List.lookup 17 t) gt91).trans rfl
theorem t92_0 : zT 92 0 = some (.iconst 0, 1, 0, 0, 0, 0) := (congrArg (fun t => List.lookup 0 t) gt92).trans rfl
theorem t92_1 : zT 92 1 = some (.istore_n 1, 1, 1, 0, 0, 0) := (congrArg (fun t => List.lookup 1 t) gt92).trans rfl
theorem t92_2 : zT 92 2 = some (.iconst 0, 1, 0, 0, 0, 0) := (congrArg (fun t => List.lookup 2 t) gt92).trans rfl
theorem t92_3 : zT 92 3 = some (.istore_n 2, 1, 2, 0, 0, 0) := (congrArg (fun t => List.lookup 3 t) gt92).trans rfl
theorem t92_4 : zT 92 4 = some (.iload_n 2, 1, 2, 0, 0, 0) := (congrArg (fun t => List.lookup 4 t) gt92).trans rfl
theorem t92_5 : zT 92 5 = some (.aload_n 0, 1, 0, 0, 0, 0) := (congrArg (fun t => List.lookup 5 t) gt92).trans rfl
theorem t92_6 : zT 92 6 = some (.getfield 23, 3, 6, 3, 0, 164) := (congrArg (fun t => List.lookup 6 t) gt92).trans rfl
theorem t92_9 : zT 92 9 = some (.if_icmp .ge 20, 3, 29, 0, 0, 0) := (congrArg (fun t => List.lookup 9 t) gt92).trans rfl
theorem t92_12 : zT 92 12 = some (.aload_n 0, 1, 0, 0, 0, 0) := (congrArg (fun t => List.lookup 12 t) gt92).trans rfl
theorem t92_13 : zT 92 13 = some (.iload_n 2, 1, 2, 0, 0, 0) := (congrArg (fun t => List.lookup 13 t) gt92).trans rfl
theorem t92_14 : zT 92 14 = some (.invokevirtual 95, 3, 93, 0, 0, 1014) := (congrArg (fun t => List.lookup 14 t) gt92).trans rfl
theorem t92_17 : zT 92 17 = some (.ifCond .eq 6, 3, 23, 0, 0, 0) := (congrArg (fun t => List.lookup 17 t) gt92).trans rfl
theorem t92_20 : zT 92 20 = some (.iinc 1 1, 3, 0, 0, 0, 0) := (congrArg (fun t => List.lookup 20 t) gt92).trans rfl
theorem t92_23 : zT 92 23 = some (.iinc 2 1, 3, 0, 0, 0, 0) := (congrArg (fun t => List.lookup 23 t) gt92).trans rfl
theorem t92_26 : zT 92 26 = some (.goto (-22), 3, 4, 0, 0, 0) := (congrArg (fun t => List.lookup 26 t) gt92).trans rfl
theorem t92_29 : zT 92 29 = some (.iload_n 1, 1, 1, 0, 0, 0) := (congrArg (fun t => List.lookup 29 t) gt92).trans rfl
theorem t92_30 : zT 92 30 = some (.ireturn, 1, 0, 0, 0, 0) := (congrArg (fun t => List.lookup 30 t) gt92).trans rfl
theorem t93_0 : zT 93 0 = some (.aload_n 0, 1, 0, 0, 0, 0) := (congrArg (fun t => List.lookup 0 t) gt93).trans rfl
theorem t93_1 : zT 93 1 = some (.iload_n 1, 1, 1, 0, 0, 0) := (congrArg (fun t => List.lookup 1 t) gt93).trans rfl
theorem t93_2 : zT 93 2 = some (.invokevirtual 87, 3, 91, 0, 0, 1018) := (congrArg (fun t => List.lookup 2 t) gt93).trans rfl
theorem t93_5 : zT 93 5 = some (.ifCond .eq 46, 3, 51, 0, 0, 0) := (congrArg (fun t => List.lookup 5 t) gt93).trans rfl
theorem t93_8 : zT 93 8 = some (.aload_n 0, 1, 0, 0, 0, 0) := (congrArg (fun t => List.lookup 8 t) gt93).trans rfl
theorem t93_9 : zT 93 9 = some (.getfield 19, 3, 6, 2, 0, 161) := (congrArg (fun t => List.lookup 9 t) gt93).trans rfl
theorem t93_12 : zT 93 12 = some (.aload_n 0, 1, 0, 0, 0, 0) := (congrArg (fun t => List.lookup 12 t) gt93).trans rfl
theorem t93_13 : zT 93 13 = some (.getfield 26, 3, 6, 4, 0, 168) := (congrArg (fun t => List.lookup 13 t) gt93).trans rfl
theorem t93_16 : zT 93 16 = some (.iload_n 1, 1, 1, 0, 0, 0) := (congrArg (fun t => List.lookup 16 t) gt93).trans rfl
theorem t93_17 : zT 93 17 = some (.iaload, 1, 0, 0, 0, 0) := (congrArg (fun t => List.lookup 17 t) gt93).trans rfl
theorem t93_18 : zT 93 18 = some (.baload, 1, 0, 0, 0, 0) := (congrArg (fun t => List.lookup 18 t) gt93).trans rfl
theorem t93_19 : zT 93 19 = some (.ifCond .eq 32, 3, 51, 0, 0, 0) := (congrArg (fun t => List.lookup 19 t) gt93).trans rfl
theorem t93_22 : zT 93 22 = some (.aload_n 0, 1, 0, 0, 0, 0) := (congrArg (fun t => List.lookup 22 t) gt93).trans rfl
theorem t93_23 : zT 93 23 = some (.getfield 32, 3, 6, 6, 0, 175) := (congrArg (fun t => List.lookup 23 t) gt93).trans rfl
theorem t93_26 : zT 93 26 = some (.iload_n 1, 1, 1, 0, 0, 0) := (congrArg (fun t => List.lookup 26 t) gt93).trans rfl
theorem t93_27 : zT 93 27 = some (.iaload, 1, 0, 0, 0, 0) := (congrArg (fun t => List.lookup 27 t) gt93).trans rfl
theorem t93_28 : zT 93 28 = some (.aload_n 0, 1, 0, 0, 0, 0) := (congrArg (fun t => List.lookup 28 t) gt93).trans rfl
theorem t93_29 : zT 93 29 = some (.getfield 58, 3, 6, 12, 0, 190) := (congrArg (fun t => List.lookup 29 t) gt93).trans rfl
theorem t93_32 : zT 93 32 = some (.iconst 5, 1, 0, 0, 5, 0) := (congrArg (fun t => List.lookup 32 t) gt93).trans rfl
theorem t93_33 : zT 93 33 = some (.iaload, 1, 0, 0, 0, 0) := (congrArg (fun t => List.lookup 33 t) gt93).trans rfl
theorem t93_34 : zT 93 34 = some (.aload_n 0, 1, 0, 0, 0, 0) := (congrArg (fun t => List.lookup 34 t) gt93).trans rfl
theorem t93_35 : zT 93 35 = some (.getfield 58, 3, 6, 12, 0, 190) := (congrArg (fun t => List.lookup 35 t) gt93).trans rfl
theorem t93_38 : zT 93 38 = some (.bipush 6, 2, 0, 0, 6, 0) := (congrArg (fun t => List.lookup 38 t) gt93).trans rfl
theorem t93_40 : zT 93 40 = some (.iaload, 1, 0, 0, 0, 0) := (congrArg (fun t => List.lookup 40 t) gt93).trans rfl
theorem t93_41 : zT 93 41 = some (.invokestatic 91, 3, 39, 2, 0, 792) := (congrArg (fun t => List.lookup 41 t) gt93).trans rfl
theorem t93_44 : zT 93 44 = some (.ifCond .eq 7, 3, 51, 0, 0, 0) := (congrArg (fun t => List.lookup 44 t) gt93).trans rfl
theorem t93_47 : zT 93 47 = some (.iconst 1, 1, 0, 0, 1, 0) := (congrArg (fun t => List.lookup 47 t) gt93).trans rfl
theorem t93_48 : zT 93 48 = some (.goto 4, 3, 52, 0, 0, 0) := (congrArg (fun t => List.lookup 48 t) gt93).trans rfl
theorem t93_51 : zT 93 51 = some (.iconst 0, 1, 0, 0, 0, 0) := (congrArg (fun t => List.lookup 51 t) gt93).trans rfl
theorem t93_52 : zT 93 52 = some (.ireturn, 1, 0, 0, 0, 0) := (congrArg (fun t => List.lookup 52 t) gt93).trans rfl
theorem t94_0 : zT 94 0 = some (.aload_n 0, 1, 0, 0, 0, 0) := (congrArg (fun t => List.lookup 0 t) gt94).trans rfl
theorem t94_1 : zT 94 1 = some (.getfield 12, 3, 11, 0, 0, 598) := (congrArg (fun t => List.lookup 1 t) gt94).trans rfl
theorem t94_4 : zT 94 4 = some (.iload_n 1, 1, 1, 0, 0, 0) := (congrArg (fun t => List.lookup 4 t) gt94).trans rfl
theorem t94_5 : zT 94 5 = some (.invokevirtual 179, 3, 41, 0, 0, 1023) := (congrArg (fun t => List.lookup 5 t) gt94).trans rfl
theorem t94_8 : zT 94 8 = some (.ifCond .ne 5, 3, 13, 0, 0, 0) := (congrArg (fun t => List.lookup 8 t) gt94).trans rfl
theorem t94_11 : zT 94 11 = some (.iconst (-1), 1, 0, 0, (-1), 0) := (congrArg (fun t => List.lookup 11 t) gt94).trans rfl
theorem t94_12 : zT 94 12 = some (.ireturn, 1, 0, 0, 0, 0) := (congrArg (fun t => List.lookup 12 t) gt94).trans rfl
theorem t94_13 : zT 94 13 = some (.aload_n 0, 1, 0, 0, 0, 0) := (congrArg (fun t => List.lookup 13 t) gt94).trans rfl
theorem t94_14 : zT 94 14 = some (.getfield 22, 3, 11, 2, 0, 600) := (congrArg (fun t => List.lookup 14 t) gt94).trans rfl
theorem t94_17 : zT 94 17 = some (.aload_n 0, 1, 0, 0, 0, 0) := (congrArg (fun t => List.lookup 17 t) gt94).trans rfl
theorem t94_18 : zT 94 18 = some (.getfield 12, 3, 11, 0, 0, 598) := (congrArg (fun t => List.lookup 18 t) gt94).trans rfl
theorem t94_21 : zT 94 21 = some (.invokevirtual 108, 3, 58, 0, 0, 817) := (congrArg (fun t => List.lookup 21 t) gt94).trans rfl
theorem t94_24 : zT 94 24 = some (.aload_n 0, 1, 0, 0, 0, 0) := (congrArg (fun t => List.lookup 24 t) gt94).trans rfl
theorem t94_25 : zT 94 25 = some (.invokevirtual 111, 3, 59, 0, 0, 823) := (congrArg (fun t => List.lookup 25 t) gt94).trans rfl
theorem t94_28 : zT 94 28 = some (.aload_n 0, 1, 0, 0, 0, 0) := (congrArg (fun t => List.lookup 28 t) gt94).trans rfl
theorem t94_29 : zT 94 29 = some (.getfield 12, 3, 11, 0, 0, 598) := (congrArg (fun t => List.lookup 29 t) gt94).trans rfl
theorem t94_32 : zT 94 32 = some (.getfield 186, 3, 6, 2, 0, 162) := (congrArg (fun t => List.lookup 32 t) gt94).trans rfl
theorem t94_35 : zT 94 35 = some (.iload_n 1, 1, 1, 0, 0, 0) := (congrArg (fun t => List.lookup 35 t) gt94).trans rfl
theorem t94_36 : zT 94 36 = some (.aload_n 0, 1, 0, 0, 0, 0) := (congrArg (fun t => List.lookup 36 t) gt94).trans rfl
theorem t94_37 : zT 94 37 = some (.getfield 12, 3, 11, 0, 0, 598) := (congrArg (fun t => List.lookup 37 t) gt94).trans rfl
theorem t94_40 : zT 94 40 = some (.getfield 186, 3, 6, 2, 0, 162) := (congrArg (fun t => List.lookup 40 t) gt94).trans rfl
theorem t94_43 : zT 94 43 = some (.iload_n 1, 1, 1, 0, 0, 0) := (congrArg (fun t => List.lookup 43 t) gt94).trans rfl
theorem t94_44 : zT 94 44 = some (.baload, 1, 0, 0, 0, 0) := (congrArg (fun t => List.lookup 44 t) gt94).trans rfl
theorem t94_45 : zT 94 45 = some (.ifCond .ne 7, 3, 52, 0, 0, 0) := (congrArg (fun t => List.lookup 45 t) gt94).trans rfl
theorem t94_48 : zT 94 48 = some (.iconst 1, 1, 0, 0, 1, 0) := (congrArg (fun t => List.lookup 48 t) gt94).trans rfl
theorem t94_49 : zT 94 49 = some (.goto 4, 3, 53, 0, 0, 0) := (congrArg (fun t => List.lookup 49 t) gt94).trans rfl
theorem t94_52 : zT 94 52 = some (.iconst 0, 1, 0, 0, 0, 0) := (congrArg (fun t => List.lookup 52 t) gt94).trans rfl
theorem t94_53 : zT 94 53 = some (.bastore, 1, 0, 0, 0, 0) := (congrArg (fun t => List.lookup 53 t) gt94).trans rfl
theorem t94_54 : zT 94 54 = some (.aload_n 0, 1, 0, 0, 0, 0) := (congrArg (fun t => List.lookup 54 t) gt94).trans rfl
theorem t94_55 : zT 94 55 = some (.getfield 12, 3, 11, 0, 0, 598) := (congrArg (fun t => List.lookup 55 t) gt94).trans rfl
theorem t94_58 : zT 94 58 = some (.getfield 186, 3, 6, 2, 0, 162) := (congrArg (fun t => List.lookup 58 t) gt94).trans rfl
theorem t94_61 : zT 94 61 = some (.iload_n 1, 1, 1, 0, 0, 0) := (congrArg (fun t => List.lookup 61 t) gt94).trans rfl
theorem t94_62 : zT 94 62 = some (.baload, 1, 0, 0, 0, 0) := (congrArg (fun t => List.lookup 62 t) gt94).trans rfl
theorem t94_63 : zT 94 63 = some (.ifCond .eq 7, 3, 70, 0, 0, 0) := (congrArg (fun t => List.lookup 63 t) gt94).trans rfl
theorem t94_66 : zT 94 66 = some (.iconst 1, 1, 0, 0, 1, 0) := (congrArg (fun t => List.lookup 66 t) gt94).trans rfl
theorem t94_67 : zT 94 67 = some (.goto 4, 3, 71, 0, 0, 0) := (congrArg (fun t => List.lookup 67 t) gt94).trans rfl
theorem t94_70 : zT 94 70 = some (.iconst 0, 1, 0, 0, 0, 0) := (congrArg (fun t => List.lookup 70 t) gt94).trans rfl
theorem t94_71 : zT 94 71 = some (.ireturn, 1, 0, 0, 0, 0) := (congrArg (fun t => List.lookup 71 t) gt94).trans rfl
theorem t95_0 : zT 95 0 = some (.iload_n 1, 1, 1, 0, 0, 0) := (congrArg (fun t => List.lookup 0 t) gt95).trans rfl
theorem t95_1 : zT 95 1 = some (.iconst 2, 1, 0, 0, 2, 0) := (congrArg (fun t => List.lookup 1 t) gt95).trans rfl
theorem t95_2 : zT 95 2 = some (.bipush 8, 2, 0, 0, 8, 0) := (congrArg (fun t => List.lookup 2 t) gt95).trans rfl
theorem t95_4 : zT 95 4 = some (.invokestatic 246, 3, 39, 1, 0, 1028) := (congrArg (fun t => List.lookup 4 t) gt95).trans rfl
theorem t95_7 : zT 95 7 = some (.ifCond .ne 5, 3, 12, 0, 0, 0) := (congrArg (fun t => List.lookup 7 t) gt95).trans rfl
theorem t95_10 : zT 95 10 = some (.iconst (-1), 1, 0, 0, (-1), 0) := (congrArg (fun t => List.lookup 10 t) gt95).trans rfl
theorem t95_11 : zT 95 11 = some (.ireturn, 1, 0, 0, 0, 0) := (congrArg (fun t => List.lookup 11 t) gt95).trans rfl
theorem t95_12 : zT 95 12 = some (.aload_n 0, 1, 0, 0, 0, 0) := (congrArg (fun t => List.lookup 12 t) gt95).trans rfl
theorem t95_13 : zT 95 13 = some (.getfield 22, 3, 11, 2, 0, 600) := (congrArg (fun t => List.lookup 13 t) gt95).trans rfl
theorem t95_16 : zT 95 16 = some (.aload_n 0, 1, 0, 0, 0, 0) := (congrArg (fun t => List.lookup 16 t) gt95).trans rfl
theorem t95_17 : zT 95 17 = some (.getfield 12, 3, 11, 0, 0, 598) := (congrArg (fun t => List.lookup 17 t) gt95).trans rfl
theorem t95_20 : zT 95 20 = some (.invokevirtual 108, 3, 58, 0, 0, 817) := (congrArg (fun t => List.lookup 20 t) gt95).trans rfl
theorem t95_23 : zT 95 23 = some (.aload_n 0, 1, 0, 0, 0, 0) := (congrArg (fun t => List.lookup 23 t) gt95).trans rfl
theorem t95_24 : zT 95 24 = some (.invokevirtual 111, 3, 59, 0, 0, 823) := (congrArg (fun t => List.lookup 24 t) gt95).trans rfl
theorem t95_27 : zT 95 27 = some (.aload_n 0, 1, 0, 0, 0, 0) := (congrArg (fun t => List.lookup 27 t) gt95).trans rfl
theorem t95_28 : zT 95 28 = some (.getfield 12, 3, 11, 0, 0, 598) := (congrArg (fun t => List.lookup 28 t) gt95).trans rfl
theorem t95_31 : zT 95 31 = some (.iconst 3, 1, 0, 0, 3, 0) := (congrArg (fun t => List.lookup 31 t) gt95).trans rfl
theorem t95_32 : zT 95 32 = some (.invokevirtual 158, 3, 96, 0, 0, 1029) := (congrArg (fun t => List.lookup 32 t) gt95).trans rfl
theorem t95_35 : zT 95 35 = some (.istore_n 2, 1, 2, 0, 0, 0) := (congrArg (fun t => List.lookup 35 t) gt95).trans rfl
theorem t95_36 : zT 95 36 = some (.aload_n 0, 1, 0, 0, 0, 0) := (congrArg (fun t => List.lookup 36 t) gt95).trans rfl
theorem t95_37 : zT 95 37 = some (.getfield 12, 3, 11, 0, 0, 598) := (congrArg (fun t => List.lookup 37 t) gt95).trans rfl
theorem t95_40 : zT 95 40 = some (.iconst 3, 1, 0, 0, 3, 0) := (congrArg (fun t => List.lookup 40 t) gt95).trans rfl
theorem t95_41 : zT 95 41 = some (.iload_n 1, 1, 1, 0, 0, 0) := (congrArg (fun t => List.lookup 41 t) gt95).trans rfl
theorem t95_42 : zT 95 42 = some (.invokevirtual 409, 3, 56, 0, 0, 1033) := (congrArg (fun t => List.lookup 42 t) gt95).trans rfl
theorem t95_45 : zT 95 45 = some (.iload_n 2, 1, 2, 0, 0, 0) := (congrArg (fun t => List.lookup 45 t) gt95).trans rfl
theorem t95_46 : zT 95 46 = some (.ireturn, 1, 0, 0, 0, 0) := (congrArg (fun t => List.lookup 46 t) gt95).trans rfl
theorem t96_0 : zT 96 0 = some (.iload_n 1, 1, 1, 0, 0, 0) := (congrArg (fun t => List.lookup 0 t) gt96).trans rfl
theorem t96_1 : zT 96 1 = some (.ifCond .lt 18, 3, 19, 0, 0, 0) := (congrArg (fun t => List.lookup 1 t) gt96).trans rfl
theorem t96_4 : zT 96 4 = some (.iload_n 1, 1, 1, 0, 0, 0) := (congrArg (fun t => List.lookup 4 t) gt96).trans rfl
theorem t96_5 : zT 96 5 = some (.bipush 9, 2, 0, 0, 9, 0) := (congrArg (fun t => List.lookup 5 t) gt96).trans rfl
theorem t96_7 : zT 96 7 = some (.if_icmp .ge 12, 3, 19, 0, 0, 0) := (congrArg (fun t => List.lookup 7 t) gt96).trans rfl
theorem t96_10 : zT 96 10 = some (.aload_n 0, 1, 0, 0, 0, 0) := (congrArg (fun t => List.lookup 10 t) gt96).trans rfl
theorem t96_11 : zT 96 11 = some (.getfield 58, 3, 6, 12, 0, 190) := (congrArg (fun t => List.lookup 11 t) gt96).trans rfl
theorem t96_14 : zT 96 14 = some (.iload_n 1, 1, 1, 0, 0, 0) := (congrArg (fun t => List.lookup 14 t) gt96).trans rfl
theorem t96_15 : zT 96 15 = some (.iaload, 1, 0, 0, 0, 0) := (congrArg (fun t => List.lookup 15 t) gt96).trans rfl
theorem t96_16 : zT 96 16 = some (.goto 4, 3, 20, 0, 0, 0) := (congrArg (fun t => List.lookup 16 t) gt96).trans rfl
theorem t96_20 : zT 96 20 = some (.ireturn, 1, 0, 0, 0, 0) := (congrArg (fun t => List.lookup 20 t) gt96).trans rfl
theorem t97_0 : zT 97 0 = some (.aload_n 0, 1, 0, 0, 0, 0) := (congrArg (fun t => List.lookup 0 t) gt97).trans rfl
theorem t97_1 : zT 97 1 = some (.getfield 76, 3, 11, 11, 0, 609) := (congrArg (fun t => List.lookup 1 t) gt97).trans rfl
theorem t97_4 : zT 97 4 = some (.ireturn, 1, 0, 0, 0, 0) := (congrArg (fun t => List.lookup 4 t) gt97).trans rfl
theorem t98_0 : zT 98 0 = some (.aload_n 0, 1, 0, 0, 0, 0) := (congrArg (fun t => List.lookup 0 t) gt98).trans rfl
theorem t98_1 : zT 98 1 = some (.getfield 79, 3, 11, 12, 0, 610) := (congrArg (fun t => List.lookup 1 t) gt98).trans rfl
theorem t98_4 : zT 98 4 = some (.ireturn, 1, 0, 0, 0, 0) := (congrArg (fun t => List.lookup 4 t) gt98).trans rfl
theorem t99_0 : zT 99 0 = some (.iload_n 1, 1, 1, 0, 0, 0) := (congrArg (fun t => List.lookup 0 t) gt99).trans rfl
theorem t99_1 : zT 99 1 = some (.iconst 5, 1, 0, 0, 5, 0) := (congrArg (fun t => List.lookup 1 t) gt99).trans rfl
theorem t99_2 : zT 99 2 = some (.if_icmp .lt 20, 3, 22, 0, 0, 0) := (congrArg (fun t => List.lookup 2 t) gt99).trans rfl
theorem t99_5 : zT 99 5 = some (.iload_n 1, 1, 1, 0, 0, 0) := (congrArg (fun t => List.lookup 5 t) gt99).trans rfl
theorem t99_6 : zT 99 6 = some (.bipush 14, 2, 0, 0, 14, 0) := (congrArg (fun t => List.lookup 6 t) gt99).trans rfl
theorem t99_8 : zT 99 8 = some (.if_icmp .ge 14, 3, 22, 0, 0, 0) := (congrArg (fun t => List.lookup 8 t) gt99).trans rfl
theorem t99_11 : zT 99 11 = some (.aload_n 0, 1, 0, 0, 0, 0) := (congrArg (fun t => List.lookup 11 t) gt99).trans rfl
theorem t99_12 : zT 99 12 = some (.getfield 12, 3, 11, 0, 0, 598) := (congrArg (fun t => List.lookup 12 t) gt99).trans rfl
theorem t99_15 : zT 99 15 = some (.iload_n 1, 1, 1, 0, 0, 0) := (congrArg (fun t => List.lookup 15 t) gt99).trans rfl
theorem t99_16 : zT 99 16 = some (.iconst 5, 1, 0, 0, 5, 0) := (congrArg (fun t => List.lookup 16 t) gt99).trans rfl
theorem t99_17 : zT 99 17 = some (.isub, 1, 0, 0, 0, 0) := (congrArg (fun t => List.lookup 17 t) gt99).trans rfl
theorem t99_18 : zT 99 18 = some (.invokevirtual 158, 3, 96, 0, 0, 1029) := (congrArg (fun t => List.lookup 18 t) gt99).trans rfl
theorem t99_21 : zT 99 21 = some (.ireturn, 1, 0, 0, 0, 0) := (congrArg (fun t => List.lookup 21 t) gt99).trans rfl
theorem t99_22 : zT 99 22 = some (.iload_n 1, 1, 1, 0, 0, 0) := (congrArg (fun t => List.lookup 22 t) gt99).trans rfl
theorem t99_23 : zT 99 23 = some (.tableswitch 133 0 15 #[77, 85, 93, 101, 109, 133, 133, 133, 133, 133, 133, 133, 133, 133, 117, 125], 77, 0, 0, 0, 0) := (congrArg (fun t => List.lookup 23 t) gt99).trans rfl
theorem t99_100 : zT 99 100 = some (.aload_n 0, 1, 0, 0, 0, 0) := (congrArg (fun t => List.lookup 100 t) gt99).trans rfl
theorem t99_101 : zT 99 101 = some (.getfield 12, 3, 11, 0, 0, 598) := (congrArg (fun t => List.lookup 101 t) gt99).trans rfl
theorem t99_104 : zT 99 104 = some (.getfield 161, 3, 6, 0, 0, 156) := (congrArg (fun t => List.lookup 104 t) gt99).trans rfl
theorem t99_107 : zT 99 107 = some (.ireturn, 1, 0, 0, 0, 0) := (congrArg (fun t => List.lookup 107 t) gt99).trans rfl
theorem t99_108 : zT 99 108 = some (.aload_n 0, 1, 0, 0, 0, 0) := (congrArg (fun t => List.lookup 108 t) gt99).trans rfl
theorem t99_109 : zT 99 109 = some (.getfield 12, 3, 11, 0, 0, 598) := (congrArg (fun t => List.lookup 109 t) gt99).trans rfl
theorem t99_112 : zT 99 112 = some (.invokevirtual 164, 3, 100, 0, 0, 1046) := (congrArg (fun t => List.lookup 112 t) gt99).trans rfl
theorem t99_115 : zT 99 115 = some (.ireturn, 1, 0, 0, 0, 0) := (congrArg (fun t => List.lookup 115 t) gt99).trans rfl
theorem t99_116 : zT 99 116 = some (.aload_n 0, 1, 0, 0, 0, 0) := (congrArg (fun t => List.lookup 116 t) gt99).trans rfl
theorem t99_117 : zT 99 117 = some (.getfield 12, 3, 11, 0, 0, 598) := (congrArg (fun t => List.lookup 117 t) gt99).trans rfl
theorem t99_120 : zT 99 120 = some (.getfield 167, 3, 6, 3, 0, 167) := (congrArg (fun t => List.lookup 120 t) gt99).trans rfl
theorem t99_123 : zT 99 123 = some (.ireturn, 1, 0, 0, 0, 0) := (congrArg (fun t => List.lookup 123 t) gt99).trans rfl
theorem t99_124 : zT 99 124 = some (.aload_n 0, 1, 0, 0, 0, 0) := (congrArg (fun t => List.lookup 124 t) gt99).trans rfl
theorem t99_125 : zT 99 125 = some (.getfield 12, 3, 11, 0, 0, 598) := (congrArg (fun t => List.lookup 125 t) gt99).trans rfl
theorem t99_128 : zT 99 128 = some (.invokevirtual 170, 3, 92, 0, 0, 1010) := (congrArg (fun t => List.lookup 128 t) gt99).trans rfl
theorem t99_131 : zT 99 131 = some (.ireturn, 1, 0, 0, 0, 0) := (congrArg (fun t => List.lookup 131 t) gt99).trans rfl
theorem t99_132 : zT 99 132 = some (.aload_n 0, 1, 0, 0, 0, 0) := (congrArg (fun t => List.lookup 132 t) gt99).trans rfl
theorem t99_133 : zT 99 133 = some (.getfield 12, 3, 11, 0, 0, 598) := (congrArg (fun t => List.lookup 133 t) gt99).trans rfl
theorem t99_136 : zT 99 136 = some (.getfield 173, 3, 6, 8, 0, 183) := (congrArg (fun t => List.lookup 136 t) gt99).trans rfl
theorem t99_139 : zT 99 139 = some (.ireturn, 1, 0, 0, 0, 0) := (congrArg (fun t => List.lookup 139 t) gt99).trans rfl
theorem t99_140 : zT 99 140 = some (.aload_n 0, 1, 0, 0, 0, 0) := (congrArg (fun t => List.lookup 140 t) gt99).trans rfl
theorem t99_141 : zT 99 141 = some (.getfield 22, 3, 11, 2, 0, 600) := (congrArg (fun t => List.lookup 141 t) gt99).trans rfl
theorem t99_144 : zT 99 144 = some (.invokevirtual 176, 3, 101, 0, 0, 1050) := (congrArg (fun t => List.lookup 144 t) gt99).trans rfl
theorem t99_147 : zT 99 147 = some (.ireturn, 1, 0, 0, 0, 0) := (congrArg (fun t => List.lookup 147 t) gt99).trans rfl
theorem t99_148 : zT 99 148 = some (.aload_n 0, 1, 0, 0, 0, 0) := (congrArg (fun t => List.lookup 148 t) gt99).trans rfl
theorem t99_149 : zT 99 149 = some (.getfield 29, 3, 11, 3, 0, 601) := (congrArg (fun t => List.lookup 149 t) gt99).trans rfl
theorem t99_152 : zT 99 152 = some (.invokevirtual 90, 3, 17, 0, 0, 650) := (congrArg (fun t => List.lookup 152 t) gt99).trans rfl
theorem t99_155 : zT 99 155 = some (.ireturn, 1, 0, 0, 0, 0) := (congrArg (fun t => List.lookup 155 t) gt99).trans rfl
theorem t99_156 : zT 99 156 = some (.iconst (-1), 1, 0, 0, (-1), 0) := (congrArg (fun t => List.lookup 156 t) gt99).trans rfl
theorem t99_157 : zT 99 157 = some (.ireturn, 1, 0, 0, 0, 0) := (congrArg (fun t => List.lookup 157 t) gt99).trans rfl
theorem t100_0 : zT 100 0 = some (.iconst 0, 1, 0, 0, 0, 0) := (congrArg (fun t => List.lookup 0 t) gt100).trans rfl
theorem t100_1 : zT 100 1 = some (.istore_n 1, 1, 1, 0, 0, 0) := (congrArg (fun t => List.lookup 1 t) gt100).trans rfl
theorem t100_2 : zT 100 2 = some (.iconst 0, 1, 0, 0, 0, 0) := (congrArg (fun t => List.lookup 2 t) gt100).trans rfl
theorem t100_3 : zT 100 3 = some (.istore_n 2, 1, 2, 0, 0, 0) := (congrArg (fun t => List.lookup 3 t) gt100).trans rfl
theorem t100_4 : zT 100 4 = some (.iload_n 2, 1, 2, 0, 0, 0) := (congrArg (fun t => List.lookup 4 t) gt100).trans rfl
theorem t100_5 : zT 100 5 = some (.aload_n 0, 1, 0, 0, 0, 0) := (congrArg (fun t => List.lookup 5 t) gt100).trans rfl
theorem t100_6 : zT 100 6 = some (.getfield 9, 3, 6, 0, 0, 151) := (congrArg (fun t => List.lookup 6 t) gt100).trans rfl
theorem t100_9 : zT 100 9 = some (.if_icmp .ge 21, 3, 30, 0, 0, 0) := (congrArg (fun t => List.lookup 9 t) gt100).trans rfl
theorem t100_12 : zT 100 12 = some (.aload_n 0, 1, 0, 0, 0, 0) := (congrArg (fun t => List.lookup 12 t) gt100).trans rfl
theorem t100_13 : zT 100 13 = some (.getfield 19, 3, 6, 2, 0, 161) := (congrArg (fun t => List.lookup 13 t) gt100).trans rfl
theorem t100_16 : zT 100 16 = some (.iload_n 2, 1, 2, 0, 0, 0) := (congrArg (fun t => List.lookup 16 t) gt100).trans rfl
theorem t100_17 : zT 100 17 = some (.baload, 1, 0, 0, 0, 0) := (congrArg (fun t => List.lookup 17 t) gt100).trans rfl
theorem t100_18 : zT 100 18 = some (.ifCond .eq 6, 3, 24, 0, 0, 0) := (congrArg (fun t => List.lookup 18 t) gt100).trans rfl
theorem t100_21 : zT 100 21 = some (.iinc 1 1, 3, 0, 0, 0, 0) := (congrArg (fun t => List.lookup 21 t) gt100).trans rfl
theorem t100_24 : zT 100 24 = some (.iinc 2 1, 3, 0, 0, 0, 0) := (congrArg (fun t => List.lookup 24 t) gt100).trans rfl
theorem t100_27 : zT 100 27 = some (.goto (-23), 3, 4, 0, 0, 0) := (congrArg (fun t => List.lookup 27 t) gt100).trans rfl
theorem t100_30 : zT 100 30 = some (.iload_n 1, 1, 1, 0, 0, 0) := (congrArg (fun t => List.lookup 30 t) gt100).trans rfl
theorem t100_31 : zT 100 31 = some (.ireturn, 1, 0, 0, 0, 0) := (congrArg (fun t => List.lookup 31 t) gt100).trans rfl
theorem t101_0 : zT 101 0 = some (.aload_n 0, 1, 0, 0, 0, 0) := (congrArg (fun t => List.lookup 0 t) gt101).trans rfl
theorem t101_1 : zT 101 1 = some (.getfield 21, 3, 2, 2, 0, 240) := (congrArg (fun t => List.lookup 1 t) gt101).trans rfl
theorem t101_4 : zT 101 4 = some (.ireturn, 1, 0, 0, 0, 0) := (congrArg (fun t => List.lookup 4 t) gt101).trans rfl
theorem t102_0 : zT 102 0 = some (.aload_n 0, 1, 0, 0, 0, 0) := (congrArg (fun t => List.lookup 0 t) gt102).trans rfl
theorem t102_1 : zT 102 1 = some (.getfield 12, 3, 11, 0, 0, 598) := (congrArg (fun t => List.lookup 1 t) gt102).trans rfl
theorem t102_4 : zT 102 4 = some (.iload_n 1, 1, 1, 0, 0, 0) := (congrArg (fun t => List.lookup 4 t) gt102).trans rfl
theorem t102_5 : zT 102 5 = some (.invokevirtual 179, 3, 41, 0, 0, 1023) := (congrArg (fun t => List.lookup 5 t) gt102).trans rfl
theorem t102_8 : zT 102 8 = some (.ifCond .ne 5, 3, 13, 0, 0, 0) := (congrArg (fun t => List.lookup 8 t) gt102).trans rfl
theorem t102_11 : zT 102 11 = some (.iconst (-1), 1, 0, 0, (-1), 0) := (congrArg (fun t => List.lookup 11 t) gt102).trans rfl
theorem t102_12 : zT 102 12 = some (.ireturn, 1, 0, 0, 0, 0) := (congrArg (fun t => List.lookup 12 t) gt102).trans rfl
theorem t102_13 : zT 102 13 = some (.iload_n 2, 1, 2, 0, 0, 0) := (congrArg (fun t => List.lookup 13 t) gt102).trans rfl
theorem t102_14 : zT 102 14 = some (.tableswitch 63 0 2 #[26, 36, 54], 26, 0, 0, 0, 0) := (congrArg (fun t => List.lookup 14 t) gt102).trans rfl
theorem t102_40 : zT 102 40 = some (.aload_n 0, 1, 0, 0, 0, 0) := (congrArg (fun t => List.lookup 40 t) gt102).trans rfl
theorem t102_41 : zT 102 41 = some (.getfield 12, 3, 11, 0, 0, 598) := (congrArg (fun t => List.lookup 41 t) gt102).trans rfl
theorem t102_44 : zT 102 44 = some (.getfield 182, 3, 6, 1, 0, 160) := (congrArg (fun t => List.lookup 44 t) gt102).trans rfl
theorem t102_47 : zT 102 47 = some (.iload_n 1, 1, 1, 0, 0, 0) := (congrArg (fun t => List.lookup 47 t) gt102).trans rfl
theorem t102_48 : zT 102 48 = some (.iaload, 1, 0, 0, 0, 0) := (congrArg (fun t => List.lookup 48 t) gt102).trans rfl
theorem t102_49 : zT 102 49 = some (.ireturn, 1, 0, 0, 0, 0) := (congrArg (fun t => List.lookup 49 t) gt102).trans rfl
theorem t102_50 : zT 102 50 = some (.aload_n 0, 1, 0, 0, 0, 0) := (congrArg (fun t => List.lookup 50 t) gt102).trans rfl
theorem t102_51 : zT 102 51 = some (.getfield 12, 3, 11, 0, 0, 598) := (congrArg (fun t => List.lookup 51 t) gt102).trans rfl
theorem t102_54 : zT 102 54 = some (.getfield 186, 3, 6, 2, 0, 162) := (congrArg (fun t => List.lookup 54 t) gt102).trans rfl
theorem t102_57 : zT 102 57 = some (.iload_n 1, 1, 1, 0, 0, 0) := (congrArg (fun t => List.lookup 57 t) gt102).trans rfl
theorem t102_58 : zT 102 58 = some (.baload, 1, 0, 0, 0, 0) := (congrArg (fun t => List.lookup 58 t) gt102).trans rfl
theorem t102_59 : zT 102 59 = some (.ifCond .eq 7, 3, 66, 0, 0, 0) := (congrArg (fun t => List.lookup 59 t) gt102).trans rfl
theorem t102_62 : zT 102 62 = some (.iconst 1, 1, 0, 0, 1, 0) := (congrArg (fun t => List.lookup 62 t) gt102).trans rfl
theorem t102_63 : zT 102 63 = some (.goto 4, 3, 67, 0, 0, 0) := (congrArg (fun t => List.lookup 63 t) gt102).trans rfl
theorem t102_66 : zT 102 66 = some (.iconst 0, 1, 0, 0, 0, 0) := (congrArg (fun t => List.lookup 66 t) gt102).trans rfl
theorem t102_67 : zT 102 67 = some (.ireturn, 1, 0, 0, 0, 0) := (congrArg (fun t => List.lookup 67 t) gt102).trans rfl
theorem t102_68 : zT 102 68 = some (.aload_n 0, 1, 0, 0, 0, 0) := (congrArg (fun t => List.lookup 68 t) gt102).trans rfl
theorem t102_69 : zT 102 69 = some (.getfield 12, 3, 11, 0, 0, 598) := (congrArg (fun t => List.lookup 69 t) gt102).trans rfl
theorem t102_72 : zT 102 72 = some (.iload_n 1, 1, 1, 0, 0, 0) := (congrArg (fun t => List.lookup 72 t) gt102).trans rfl
theorem t102_73 : zT 102 73 = some (.invokevirtual 190, 3, 103, 0, 0, 1058) := (congrArg (fun t => List.lookup 73 t) gt102).trans rfl
theorem t102_76 : zT 102 76 = some (.ireturn, 1, 0, 0, 0, 0) := (congrArg (fun t => List.lookup 76 t) gt102).trans rfl
theorem t102_77 : zT 102 77 = some (.iconst (-1), 1, 0, 0, (-1), 0) := (congrArg (fun t => List.lookup 77 t) gt102).trans rfl
theorem t102_78 : zT 102 78 = some (.ireturn, 1, 0, 0, 0, 0) := (congrArg (fun t => List.lookup 78 t) gt102).trans rfl
theorem t103_0 : zT 103 0 = some (.iconst 0, 1, 0, 0, 0, 0) := (congrArg (fun t => List.lookup 0 t) gt103).trans rfl
theorem t103_1 : zT 103 1 = some (.istore_n 2, 1, 2, 0, 0, 0) := (congrArg (fun t => List.lookup 1 t) gt103).trans rfl
theorem t103_2 : zT 103 2 = some (.iconst 0, 1, 0, 0, 0, 0) := (congrArg (fun t => List.lookup 2 t) gt103).trans rfl
theorem t103_3 : zT 103 3 = some (.istore_n 3, 1, 3, 0, 0, 0) := (congrArg (fun t => List.lookup 3 t) gt103).trans rfl
theorem t103_4 : zT 103 4 = some (.iload_n 3, 1, 3, 0, 0, 0) := (congrArg (fun t => List.lookup 4 t) gt103).trans rfl
theorem t103_5 : zT 103 5 = some (.aload_n 0, 1, 0, 0, 0, 0) := (congrArg (fun t => List.lookup 5 t) gt103).trans rfl
theorem t103_6 : zT 103 6 = some (.getfield 23, 3, 6, 3, 0, 164) := (congrArg (fun t => List.lookup 6 t) gt103).trans rfl
theorem t103_9 : zT 103 9 = some (.if_icmp .ge 30, 3, 39, 0, 0, 0) := (congrArg (fun t => List.lookup 9 t) gt103).trans rfl
theorem t103_12 : zT 103 12 = some (.aload_n 0, 1, 0, 0, 0, 0) := (congrArg (fun t => List.lookup 12 t) gt103).trans rfl
theorem t103_13 : zT 103 13 = some (.getfield 26, 3, 6, 4, 0, 168) := (congrArg (fun t => List.lookup 13 t) gt103).trans rfl
theorem t103_16 : zT 103 16 = some (.iload_n 3, 1, 3, 0, 0, 0) := (congrArg (fun t => List.lookup 16 t) gt103).trans rfl
theorem t103_17 : zT 103 17 = some (.iaload, 1, 0, 0, 0, 0) := (congrArg (fun t => List.lookup 17 t) gt103).trans rfl
theorem t103_18 : zT 103 18 = some (.iload_n 1, 1, 1, 0, 0, 0) := (congrArg (fun t => List.lookup 18 t) gt103).trans rfl
theorem t103_19 : zT 103 19 = some (.if_icmp .ne 14, 3, 33, 0, 0, 0) := (congrArg (fun t => List.lookup 19 t) gt103).trans rfl
theorem t103_22 : zT 103 22 = some (.aload_n 0, 1, 0, 0, 0, 0) := (congrArg (fun t => List.lookup 22 t) gt103).trans rfl
theorem t103_23 : zT 103 23 = some (.iload_n 3, 1, 3, 0, 0, 0) := (congrArg (fun t => List.lookup 23 t) gt103).trans rfl
theorem t103_24 : zT 103 24 = some (.invokevirtual 95, 3, 93, 0, 0, 1014) := (congrArg (fun t => List.lookup 24 t) gt103).trans rfl
theorem t103_27 : zT 103 27 = some (.ifCond .eq 6, 3, 33, 0, 0, 0) := (congrArg (fun t => List.lookup 27 t) gt103).trans rfl
theorem t103_30 : zT 103 30 = some (.iinc 2 1, 3, 0, 0, 0, 0) := (congrArg (fun t => List.lookup 30 t) gt103).trans rfl
theorem t103_33 : zT 103 33 = some (.iinc 3 1, 3, 0, 0, 0, 0) := (congrArg (fun t => List.lookup 33 t) gt103).trans rfl
theorem t103_36 : zT 103 36 = some (.goto (-32), 3, 4, 0, 0, 0) := (congrArg (fun t => List.lookup 36 t) gt103).trans rfl
theorem t103_39 : zT 103 39 = some (.iload_n 2, 1, 2, 0, 0, 0) := (congrArg (fun t => List.lookup 39 t) gt103).trans rfl
theorem t103_40 : zT 103 40 = some (.ireturn, 1, 0, 0, 0, 0) := (congrArg (fun t => List.lookup 40 t) gt103).trans rfl
theorem t104_0 : zT 104 0 = some (.aload_n 0, 1, 0, 0, 0, 0) := (congrArg (fun t => List.lookup 0 t) gt104).trans rfl
theorem t104_1 : zT 104 1 = some (.getfield 12, 3, 11, 0, 0, 598) := (congrArg (fun t => List.lookup 1 t) gt104).trans rfl
theorem t104_4 : zT 104 4 = some (.iload_n 1, 1, 1, 0, 0, 0) := (congrArg (fun t => List.lookup 4 t) gt104).trans rfl
theorem t104_5 : zT 104 5 = some (.invokevirtual 193, 3, 91, 0, 0, 1006) := (congrArg (fun t => List.lookup 5 t) gt104).trans rfl
theorem t104_8 : zT 104 8 = some (.ifCond .ne 6, 3, 14, 0, 0, 0) := (congrArg (fun t => List.lookup 8 t) gt104).trans rfl
theorem t104_11 : zT 104 11 = some (.ldc 196, 2, 0, 0, (-100000), 1066) := (congrArg (fun t => List.lookup 11 t) gt104).trans rfl
theorem t104_13 : zT 104 13 = some (.ireturn, 1, 0, 0, 0, 0) := (congrArg (fun t => List.lookup 13 t) gt104).trans rfl
theorem t104_14 : zT 104 14 = some (.iload_n 2, 1, 2, 0, 0, 0) := (congrArg (fun t => List.lookup 14 t) gt104).trans rfl
theorem t104_15 : zT 104 15 = some (.tableswitch 110 0 5 #[37, 47, 57, 67, 77, 94], 37, 0, 0, 0, 0) := (congrArg (fun t => List.lookup 15 t) gt104).trans rfl
theorem t104_52 : zT 104 52 = some (.aload_n 0, 1, 0, 0, 0, 0) := (congrArg (fun t => List.lookup 52 t) gt104).trans rfl
theorem t104_53 : zT 104 53 = some (.getfield 12, 3, 11, 0, 0, 598) := (congrArg (fun t => List.lookup 53 t) gt104).trans rfl
theorem t104_56 : zT 104 56 = some (.getfield 197, 3, 6, 4, 0, 170) := (congrArg (fun t => List.lookup 56 t) gt104).trans rfl
theorem t104_59 : zT 104 59 = some (.iload_n 1, 1, 1, 0, 0, 0) := (congrArg (fun t => List.lookup 59 t) gt104).trans rfl
theorem t104_60 : zT 104 60 = some (.iaload, 1, 0, 0, 0, 0) := (congrArg (fun t => List.lookup 60 t) gt104).trans rfl
theorem t104_61 : zT 104 61 = some (.ireturn, 1, 0, 0, 0, 0) := (congrArg (fun t => List.lookup 61 t) gt104).trans rfl
theorem t104_62 : zT 104 62 = some (.aload_n 0, 1, 0, 0, 0, 0) := (congrArg (fun t => List.lookup 62 t) gt104).trans rfl
theorem t104_63 : zT 104 63 = some (.getfield 12, 3, 11, 0, 0, 598) := (congrArg (fun t => List.lookup 63 t) gt104).trans rfl
theorem t104_66 : zT 104 66 = some (.getfield 200, 3, 6, 5, 0, 174) := (congrArg (fun t => List.lookup 66 t) gt104).trans rfl
theorem t104_69 : zT 104 69 = some (.iload_n 1, 1, 1, 0, 0, 0) := (congrArg (fun t => List.lookup 69 t) gt104).trans rfl
theorem t104_70 : zT 104 70 = some (.iaload, 1, 0, 0, 0, 0) := (congrArg (fun t => List.lookup 70 t) gt104).trans rfl
theorem t104_71 : zT 104 71 = some (.ireturn, 1, 0, 0, 0, 0) := (congrArg (fun t => List.lookup 71 t) gt104).trans rfl
theorem t104_72 : zT 104 72 = some (.aload_n 0, 1, 0, 0, 0, 0) := (congrArg (fun t => List.lookup 72 t) gt104).trans rfl
theorem t104_73 : zT 104 73 = some (.getfield 12, 3, 11, 0, 0, 598) := (congrArg (fun t => List.lookup 73 t) gt104).trans rfl
theorem t104_76 : zT 104 76 = some (.getfield 203, 3, 6, 6, 0, 176) := (congrArg (fun t => List.lookup 76 t) gt104).trans rfl
theorem t104_79 : zT 104 79 = some (.iload_n 1, 1, 1, 0, 0, 0) := (congrArg (fun t => List.lookup 79 t) gt104).trans rfl
theorem t104_80 : zT 104 80 = some (.iaload, 1, 0, 0, 0, 0) := (congrArg (fun t => List.lookup 80 t) gt104).trans rfl
theorem t104_81 : zT 104 81 = some (.ireturn, 1, 0, 0, 0, 0) := (congrArg (fun t => List.lookup 81 t) gt104).trans rfl
theorem t104_82 : zT 104 82 = some (.aload_n 0, 1, 0, 0, 0, 0) := (congrArg (fun t => List.lookup 82 t) gt104).trans rfl
theorem t104_83 : zT 104 83 = some (.getfield 12, 3, 11, 0, 0, 598) := (congrArg (fun t => List.lookup 83 t) gt104).trans rfl
theorem t104_86 : zT 104 86 = some (.getfield 206, 3, 6, 7, 0, 179) := (congrArg (fun t => List.lookup 86 t) gt104).trans rfl
theorem t104_89 : zT 104 89 = some (.iload_n 1, 1, 1, 0, 0, 0) := (congrArg (fun t => List.lookup 89 t) gt104).trans rfl
theorem t104_90 : zT 104 90 = some (.iaload, 1, 0, 0, 0, 0) := (congrArg (fun t => List.lookup 90 t) gt104).trans rfl
theorem t104_91 : zT 104 91 = some (.ireturn, 1, 0, 0, 0, 0) := (congrArg (fun t => List.lookup 91 t) gt104).trans rfl
theorem t104_92 : zT 104 92 = some (.aload_n 0, 1, 0, 0, 0, 0) := (congrArg (fun t => List.lookup 92 t) gt104).trans rfl
theorem t104_93 : zT 104 93 = some (.getfield 12, 3, 11, 0, 0, 598) := (congrArg (fun t => List.lookup 93 t) gt104).trans rfl
theorem t104_96 : zT 104 96 = some (.iload_n 1, 1, 1, 0, 0, 0) := (congrArg (fun t => List.lookup 96 t) gt104).trans rfl
theorem t104_97 : zT 104 97 = some (.invokevirtual 209, 3, 93, 0, 0, 1067) := (congrArg (fun t => List.lookup 97 t) gt104).trans rfl
theorem t104_100 : zT 104 100 = some (.ifCond .eq 7, 3, 107, 0, 0, 0) := (congrArg (fun t => List.lookup 100 t) gt104).trans rfl
theorem t104_103 : zT 104 103 = some (.iconst 1, 1, 0, 0, 1, 0) := (congrArg (fun t => List.lookup 103 t) gt104).trans rfl
theorem t104_104 : zT 104 104 = some (.goto 4, 3, 108, 0, 0, 0) := (congrArg (fun t => List.lookup 104 t) gt104).trans rfl
theorem t104_107 : zT 104 107 = some (.iconst 0, 1, 0, 0, 0, 0) := (congrArg (fun t => List.lookup 107 t) gt104).trans rfl
theorem t104_108 : zT 104 108 = some (.ireturn, 1, 0, 0, 0, 0) := (congrArg (fun t => List.lookup 108 t) gt104).trans rfl
theorem t104_109 : zT 104 109 = some (.aload_n 0, 1, 0, 0, 0, 0) := (congrArg (fun t => List.lookup 109 t) gt104).trans rfl
theorem t104_110 : zT 104 110 = some (.getfield 50, 3, 11, 6, 0, 604) := (congrArg (fun t => List.lookup 110 t) gt104).trans rfl
theorem t104_113 : zT 104 113 = some (.aload_n 0, 1, 0, 0, 0, 0) := (congrArg (fun t => List.lookup 113 t) gt104).trans rfl
theorem t104_114 : zT 104 114 = some (.getfield 12, 3, 11, 0, 0, 598) := (congrArg (fun t => List.lookup 114 t) gt104).trans rfl
theorem t104_117 : zT 104 117 = some (.invokevirtual 212, 3, 105, 0, 0, 1068) := (congrArg (fun t => List.lookup 117 t) gt104).trans rfl
theorem t104_120 : zT 104 120 = some (.iload_n 1, 1, 1, 0, 0, 0) := (congrArg (fun t => List.lookup 120 t) gt104).trans rfl
theorem t104_121 : zT 104 121 = some (.invokevirtual 216, 3, 142, 0, 0, 1227) := (congrArg (fun t => List.lookup 121 t) gt104).trans rfl
theorem t104_124 : zT 104 124 = some (.ireturn, 1, 0, 0, 0, 0) := (congrArg (fun t => List.lookup 124 t) gt104).trans rfl
theorem t104_125 : zT 104 125 = some (.ldc 196, 2, 0, 0, (-100000), 1066) := (congrArg (fun t => List.lookup 125 t) gt104).trans rfl
theorem t104_127 : zT 104 127 = some (.ireturn, 1, 0, 0, 0, 0) := (congrArg (fun t => List.lookup 127 t) gt104).trans rfl
theorem t105_0 : zT 105 0 = some (.aload_n 0, 1, 0, 0, 0, 0) := (congrArg (fun t => List.lookup 0 t) gt105).trans rfl
theorem t105_1 : zT 105 1 = some (.getfield 9, 3, 4, 0, 0, 492) := (congrArg (fun t => List.lookup 1 t) gt105).trans rfl
theorem t105_4 : zT 105 4 = some (.ifCond .eq 5, 3, 9, 0, 0, 0) := (congrArg (fun t => List.lookup 4 t) gt105).trans rfl
theorem t105_7 : zT 105 7 = some (.aload_n 0, 1, 0, 0, 0, 0) := (congrArg (fun t => List.lookup 7 t) gt105).trans rfl
theorem t105_8 : zT 105 8 = some (.areturn, 1, 0, 0, 0, 0) := (congrArg (fun t => List.lookup 8 t) gt105).trans rfl
theorem t105_9 : zT 105 9 = some (.aload_n 0, 1, 0, 0, 0, 0) := (congrArg (fun t => List.lookup 9 t) gt105).trans rfl
theorem t105_10 : zT 105 10 = some (.iconst 1, 1, 0, 0, 1, 0) := (congrArg (fun t => List.lookup 10 t) gt105).trans rfl
theorem t105_11 : zT 105 11 = some (.putfield 9, 3, 4, 0, 0, 492) := (congrArg (fun t => List.lookup 11 t) gt105).trans rfl
theorem t105_14 : zT 105 14 = some (.aload_n 0, 1, 0, 0, 0, 0) := (congrArg (fun t => List.lookup 14 t) gt105).trans rfl
theorem t105_15 : zT 105 15 = some (.aload_n 1, 1, 1, 0, 0, 0) := (congrArg (fun t => List.lookup 15 t) gt105).trans rfl
theorem t105_16 : zT 105 16 = some (.iconst 3, 1, 0, 0, 3, 0) := (congrArg (fun t => List.lookup 16 t) gt105).trans rfl
theorem t105_17 : zT 105 17 = some (.invokevirtual 64, 3, 96, 0, 0, 1072) := (congrArg (fun t => List.lookup 17 t) gt105).trans rfl
theorem t105_20 : zT 105 20 = some (.putfield 25, 3, 4, 3, 0, 495) := (congrArg (fun t => List.lookup 20 t) gt105).trans rfl
theorem t105_23 : zT 105 23 = some (.aload_n 0, 1, 0, 0, 0, 0) := (congrArg (fun t => List.lookup 23 t) gt105).trans rfl
theorem t105_24 : zT 105 24 = some (.aload_n 1, 1, 1, 0, 0, 0) := (congrArg (fun t => List.lookup 24 t) gt105).trans rfl
theorem t105_25 : zT 105 25 = some (.getfield 70, 3, 6, 8, 0, 181) := (congrArg (fun t => List.lookup 25 t) gt105).trans rfl
theorem t105_28 : zT 105 28 = some (.putfield 32, 3, 4, 5, 0, 497) := (congrArg (fun t => List.lookup 28 t) gt105).trans rfl
theorem t105_31 : zT 105 31 = some (.aload_n 0, 1, 0, 0, 0, 0) := (congrArg (fun t => List.lookup 31 t) gt105).trans rfl
theorem t105_32 : zT 105 32 = some (.getfield 18, 3, 4, 1, 0, 493) := (congrArg (fun t => List.lookup 32 t) gt105).trans rfl
theorem t105_35 : zT 105 35 = some (.aload_n 1, 1, 1, 0, 0, 0) := (congrArg (fun t => List.lookup 35 t) gt105).trans rfl
theorem t105_36 : zT 105 36 = some (.iconst (-1), 1, 0, 0, (-1), 0) := (congrArg (fun t => List.lookup 36 t) gt105).trans rfl
theorem t105_37 : zT 105 37 = some (.iconst 2, 1, 0, 0, 2, 0) := (congrArg (fun t => List.lookup 37 t) gt105).trans rfl
theorem t105_38 : zT 105 38 = some (.invokevirtual 71, 3, 106, 0, 0, 1073) := (congrArg (fun t => List.lookup 38 t) gt105).trans rfl
theorem t105_41 : zT 105 41 = some (.aload_n 0, 1, 0, 0, 0, 0) := (congrArg (fun t => List.lookup 41 t) gt105).trans rfl
theorem t105_42 : zT 105 42 = some (.aload_n 0, 1, 0, 0, 0, 0) := (congrArg (fun t => List.lookup 42 t) gt105).trans rfl
theorem t105_43 : zT 105 43 = some (.aload_n 0, 1, 0, 0, 0, 0) := (congrArg (fun t => List.lookup 43 t) gt105).trans rfl
theorem t105_44 : zT 105 44 = some (.getfield 25, 3, 4, 3, 0, 495) := (congrArg (fun t => List.lookup 44 t) gt105).trans rfl
theorem t105_47 : zT 105 47 = some (.invokevirtual 75, 3, 124, 0, 0, 1155) := (congrArg (fun t => List.lookup 47 t) gt105).trans rfl
theorem t105_50 : zT 105 50 = some (.putfield 29, 3, 4, 4, 0, 496) := (congrArg (fun t => List.lookup 50 t) gt105).trans rfl
theorem t105_53 : zT 105 53 = some (.iconst 0, 1, 0, 0, 0, 0) := (congrArg (fun t => List.lookup 53 t) gt105).trans rfl
theorem t105_54 : zT 105 54 = some (.istore_n 2, 1, 2, 0, 0, 0) := (congrArg (fun t => List.lookup 54 t) gt105).trans rfl
theorem t105_55 : zT 105 55 = some (.iload_n 2, 1, 2, 0, 0, 0) := (congrArg (fun t => List.lookup 55 t) gt105).trans rfl
