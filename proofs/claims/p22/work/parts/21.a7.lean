theorem t195_46 : zT 195 46 = some (.aload_n 0, 1, 0, 0, 0, 0) := (congrArg (fun t => List.lookup 46 t) gt195).trans rfl
theorem t195_47 : zT 195 47 = some (.getfield 29, 3, 4, 4, 0, 496) := (congrArg (fun t => List.lookup 47 t) gt195).trans rfl
theorem t195_50 : zT 195 50 = some (.aload_n 0, 1, 0, 0, 0, 0) := (congrArg (fun t => List.lookup 50 t) gt195).trans rfl
theorem t195_51 : zT 195 51 = some (.getfield 22, 3, 4, 2, 0, 494) := (congrArg (fun t => List.lookup 51 t) gt195).trans rfl
theorem t195_54 : zT 195 54 = some (.invokevirtual 92, 3, 125, 0, 0, 1159) := (congrArg (fun t => List.lookup 54 t) gt195).trans rfl
theorem t195_57 : zT 195 57 = some (.isub, 1, 0, 0, 0, 0) := (congrArg (fun t => List.lookup 57 t) gt195).trans rfl
theorem t195_58 : zT 195 58 = some (.iastore, 1, 0, 0, 0, 0) := (congrArg (fun t => List.lookup 58 t) gt195).trans rfl
theorem t195_59 : zT 195 59 = some (.aload_n 0, 1, 0, 0, 0, 0) := (congrArg (fun t => List.lookup 59 t) gt195).trans rfl
theorem t195_60 : zT 195 60 = some (.getfield 57, 3, 4, 13, 0, 505) := (congrArg (fun t => List.lookup 60 t) gt195).trans rfl
theorem t195_63 : zT 195 63 = some (.iload_n 2, 1, 2, 0, 0, 0) := (congrArg (fun t => List.lookup 63 t) gt195).trans rfl
theorem t195_64 : zT 195 64 = some (.iconst 1, 1, 0, 0, 1, 0) := (congrArg (fun t => List.lookup 64 t) gt195).trans rfl
theorem t195_65 : zT 195 65 = some (.bastore, 1, 0, 0, 0, 0) := (congrArg (fun t => List.lookup 65 t) gt195).trans rfl
theorem t195_66 : zT 195 66 = some (.aload_n 0, 1, 0, 0, 0, 0) := (congrArg (fun t => List.lookup 66 t) gt195).trans rfl
theorem t195_67 : zT 195 67 = some (.getfield 61, 3, 4, 14, 0, 506) := (congrArg (fun t => List.lookup 67 t) gt195).trans rfl
theorem t195_70 : zT 195 70 = some (.iload_n 2, 1, 2, 0, 0, 0) := (congrArg (fun t => List.lookup 70 t) gt195).trans rfl
theorem t195_71 : zT 195 71 = some (.iaload, 1, 0, 0, 0, 0) := (congrArg (fun t => List.lookup 71 t) gt195).trans rfl
theorem t195_72 : zT 195 72 = some (.ireturn, 1, 0, 0, 0, 0) := (congrArg (fun t => List.lookup 72 t) gt195).trans rfl
theorem t196_0 : zT 196 0 = some (.iload_n 1, 1, 1, 0, 0, 0) := (congrArg (fun t => List.lookup 0 t) gt196).trans rfl
theorem t196_1 : zT 196 1 = some (.iconst 0, 1, 0, 0, 0, 0) := (congrArg (fun t => List.lookup 1 t) gt196).trans rfl
theorem t196_2 : zT 196 2 = some (.iconst 2, 1, 0, 0, 2, 0) := (congrArg (fun t => List.lookup 2 t) gt196).trans rfl
theorem t196_3 : zT 196 3 = some (.invokestatic 246, 3, 39, 1, 0, 1028) := (congrArg (fun t => List.lookup 3 t) gt196).trans rfl
theorem t196_6 : zT 196 6 = some (.ifCond .ne 5, 3, 11, 0, 0, 0) := (congrArg (fun t => List.lookup 6 t) gt196).trans rfl
theorem t196_9 : zT 196 9 = some (.iconst (-1), 1, 0, 0, (-1), 0) := (congrArg (fun t => List.lookup 9 t) gt196).trans rfl
theorem t196_10 : zT 196 10 = some (.ireturn, 1, 0, 0, 0, 0) := (congrArg (fun t => List.lookup 10 t) gt196).trans rfl
theorem t196_11 : zT 196 11 = some (.aload_n 0, 1, 0, 0, 0, 0) := (congrArg (fun t => List.lookup 11 t) gt196).trans rfl
theorem t196_12 : zT 196 12 = some (.getfield 50, 3, 11, 6, 0, 604) := (congrArg (fun t => List.lookup 12 t) gt196).trans rfl
theorem t196_15 : zT 196 15 = some (.aload_n 0, 1, 0, 0, 0, 0) := (congrArg (fun t => List.lookup 15 t) gt196).trans rfl
theorem t196_16 : zT 196 16 = some (.getfield 12, 3, 11, 0, 0, 598) := (congrArg (fun t => List.lookup 16 t) gt196).trans rfl
theorem t196_19 : zT 196 19 = some (.invokevirtual 212, 3, 105, 0, 0, 1068) := (congrArg (fun t => List.lookup 19 t) gt196).trans rfl
theorem t196_22 : zT 196 22 = some (.invokevirtual 393, 3, 197, 0, 0, 1477) := (congrArg (fun t => List.lookup 22 t) gt196).trans rfl
theorem t196_25 : zT 196 25 = some (.istore_n 2, 1, 2, 0, 0, 0) := (congrArg (fun t => List.lookup 25 t) gt196).trans rfl
theorem t196_26 : zT 196 26 = some (.iload_n 1, 1, 1, 0, 0, 0) := (congrArg (fun t => List.lookup 26 t) gt196).trans rfl
theorem t196_27 : zT 196 27 = some (.ifCond .ne 5, 3, 32, 0, 0, 0) := (congrArg (fun t => List.lookup 27 t) gt196).trans rfl
theorem t196_30 : zT 196 30 = some (.iload_n 2, 1, 2, 0, 0, 0) := (congrArg (fun t => List.lookup 30 t) gt196).trans rfl
theorem t196_31 : zT 196 31 = some (.ireturn, 1, 0, 0, 0, 0) := (congrArg (fun t => List.lookup 31 t) gt196).trans rfl
theorem t196_32 : zT 196 32 = some (.iload_n 1, 1, 1, 0, 0, 0) := (congrArg (fun t => List.lookup 32 t) gt196).trans rfl
theorem t196_33 : zT 196 33 = some (.iconst 1, 1, 0, 0, 1, 0) := (congrArg (fun t => List.lookup 33 t) gt196).trans rfl
theorem t196_34 : zT 196 34 = some (.if_icmp .ne 14, 3, 48, 0, 0, 0) := (congrArg (fun t => List.lookup 34 t) gt196).trans rfl
theorem t196_37 : zT 196 37 = some (.aload_n 0, 1, 0, 0, 0, 0) := (congrArg (fun t => List.lookup 37 t) gt196).trans rfl
theorem t196_38 : zT 196 38 = some (.getfield 50, 3, 11, 6, 0, 604) := (congrArg (fun t => List.lookup 38 t) gt196).trans rfl
theorem t196_41 : zT 196 41 = some (.iload_n 2, 1, 2, 0, 0, 0) := (congrArg (fun t => List.lookup 41 t) gt196).trans rfl
theorem t196_42 : zT 196 42 = some (.invokevirtual 396, 3, 198, 0, 0, 1491) := (congrArg (fun t => List.lookup 42 t) gt196).trans rfl
theorem t196_45 : zT 196 45 = some (.goto 11, 3, 56, 0, 0, 0) := (congrArg (fun t => List.lookup 45 t) gt196).trans rfl
theorem t196_48 : zT 196 48 = some (.aload_n 0, 1, 0, 0, 0, 0) := (congrArg (fun t => List.lookup 48 t) gt196).trans rfl
theorem t196_49 : zT 196 49 = some (.getfield 50, 3, 11, 6, 0, 604) := (congrArg (fun t => List.lookup 49 t) gt196).trans rfl
theorem t196_52 : zT 196 52 = some (.iload_n 2, 1, 2, 0, 0, 0) := (congrArg (fun t => List.lookup 52 t) gt196).trans rfl
theorem t196_53 : zT 196 53 = some (.invokevirtual 399, 3, 199, 0, 0, 1492) := (congrArg (fun t => List.lookup 53 t) gt196).trans rfl
theorem t196_56 : zT 196 56 = some (.ireturn, 1, 0, 0, 0, 0) := (congrArg (fun t => List.lookup 56 t) gt196).trans rfl
theorem t197_0 : zT 197 0 = some (.iconst 2, 1, 0, 0, 2, 0) := (congrArg (fun t => List.lookup 0 t) gt197).trans rfl
theorem t197_1 : zT 197 1 = some (.istore_n 1, 1, 1, 0, 0, 0) := (congrArg (fun t => List.lookup 1 t) gt197).trans rfl
theorem t197_2 : zT 197 2 = some (.aload_n 0, 1, 0, 0, 0, 0) := (congrArg (fun t => List.lookup 2 t) gt197).trans rfl
theorem t197_3 : zT 197 3 = some (.iconst 2, 1, 0, 0, 2, 0) := (congrArg (fun t => List.lookup 3 t) gt197).trans rfl
theorem t197_4 : zT 197 4 = some (.invokevirtual 177, 3, 198, 0, 0, 1481) := (congrArg (fun t => List.lookup 4 t) gt197).trans rfl
theorem t197_7 : zT 197 7 = some (.aload_n 0, 1, 0, 0, 0, 0) := (congrArg (fun t => List.lookup 7 t) gt197).trans rfl
theorem t197_8 : zT 197 8 = some (.iconst 2, 1, 0, 0, 2, 0) := (congrArg (fun t => List.lookup 8 t) gt197).trans rfl
theorem t197_9 : zT 197 9 = some (.invokevirtual 180, 3, 199, 0, 0, 1486) := (congrArg (fun t => List.lookup 9 t) gt197).trans rfl
theorem t197_12 : zT 197 12 = some (.isub, 1, 0, 0, 0, 0) := (congrArg (fun t => List.lookup 12 t) gt197).trans rfl
theorem t197_13 : zT 197 13 = some (.istore_n 2, 1, 2, 0, 0, 0) := (congrArg (fun t => List.lookup 13 t) gt197).trans rfl
theorem t197_14 : zT 197 14 = some (.iconst 3, 1, 0, 0, 3, 0) := (congrArg (fun t => List.lookup 14 t) gt197).trans rfl
theorem t197_15 : zT 197 15 = some (.istore_n 3, 1, 3, 0, 0, 0) := (congrArg (fun t => List.lookup 15 t) gt197).trans rfl
theorem t197_16 : zT 197 16 = some (.iload_n 3, 1, 3, 0, 0, 0) := (congrArg (fun t => List.lookup 16 t) gt197).trans rfl
theorem t197_17 : zT 197 17 = some (.bipush 8, 2, 0, 0, 8, 0) := (congrArg (fun t => List.lookup 17 t) gt197).trans rfl
theorem t197_19 : zT 197 19 = some (.if_icmp .gt 33, 3, 52, 0, 0, 0) := (congrArg (fun t => List.lookup 19 t) gt197).trans rfl
theorem t197_22 : zT 197 22 = some (.aload_n 0, 1, 0, 0, 0, 0) := (congrArg (fun t => List.lookup 22 t) gt197).trans rfl
theorem t197_23 : zT 197 23 = some (.iload_n 3, 1, 3, 0, 0, 0) := (congrArg (fun t => List.lookup 23 t) gt197).trans rfl
theorem t197_24 : zT 197 24 = some (.invokevirtual 177, 3, 198, 0, 0, 1481) := (congrArg (fun t => List.lookup 24 t) gt197).trans rfl
theorem t197_27 : zT 197 27 = some (.aload_n 0, 1, 0, 0, 0, 0) := (congrArg (fun t => List.lookup 27 t) gt197).trans rfl
theorem t197_28 : zT 197 28 = some (.iload_n 3, 1, 3, 0, 0, 0) := (congrArg (fun t => List.lookup 28 t) gt197).trans rfl
theorem t197_29 : zT 197 29 = some (.invokevirtual 180, 3, 199, 0, 0, 1486) := (congrArg (fun t => List.lookup 29 t) gt197).trans rfl
theorem t197_32 : zT 197 32 = some (.isub, 1, 0, 0, 0, 0) := (congrArg (fun t => List.lookup 32 t) gt197).trans rfl
theorem t197_33 : zT 197 33 = some (.istore 4, 2, 0, 0, 0, 0) := (congrArg (fun t => List.lookup 33 t) gt197).trans rfl
theorem t197_35 : zT 197 35 = some (.iload 4, 2, 0, 0, 0, 0) := (congrArg (fun t => List.lookup 35 t) gt197).trans rfl
theorem t197_37 : zT 197 37 = some (.iload_n 2, 1, 2, 0, 0, 0) := (congrArg (fun t => List.lookup 37 t) gt197).trans rfl
theorem t197_38 : zT 197 38 = some (.if_icmp .le 8, 3, 46, 0, 0, 0) := (congrArg (fun t => List.lookup 38 t) gt197).trans rfl
theorem t197_41 : zT 197 41 = some (.iload 4, 2, 0, 0, 0, 0) := (congrArg (fun t => List.lookup 41 t) gt197).trans rfl
theorem t197_43 : zT 197 43 = some (.istore_n 2, 1, 2, 0, 0, 0) := (congrArg (fun t => List.lookup 43 t) gt197).trans rfl
theorem t197_44 : zT 197 44 = some (.iload_n 3, 1, 3, 0, 0, 0) := (congrArg (fun t => List.lookup 44 t) gt197).trans rfl
theorem t197_45 : zT 197 45 = some (.istore_n 1, 1, 1, 0, 0, 0) := (congrArg (fun t => List.lookup 45 t) gt197).trans rfl
theorem t197_46 : zT 197 46 = some (.iinc 3 1, 3, 0, 0, 0, 0) := (congrArg (fun t => List.lookup 46 t) gt197).trans rfl
theorem t197_49 : zT 197 49 = some (.goto (-33), 3, 16, 0, 0, 0) := (congrArg (fun t => List.lookup 49 t) gt197).trans rfl
theorem t197_52 : zT 197 52 = some (.iload_n 1, 1, 1, 0, 0, 0) := (congrArg (fun t => List.lookup 52 t) gt197).trans rfl
theorem t197_53 : zT 197 53 = some (.ireturn, 1, 0, 0, 0, 0) := (congrArg (fun t => List.lookup 53 t) gt197).trans rfl
theorem t198_0 : zT 198 0 = some (.aload_n 0, 1, 0, 0, 0, 0) := (congrArg (fun t => List.lookup 0 t) gt198).trans rfl
theorem t198_1 : zT 198 1 = some (.iload_n 1, 1, 1, 0, 0, 0) := (congrArg (fun t => List.lookup 1 t) gt198).trans rfl
theorem t198_2 : zT 198 2 = some (.invokevirtual 75, 3, 124, 0, 0, 1155) := (congrArg (fun t => List.lookup 2 t) gt198).trans rfl
theorem t198_5 : zT 198 5 = some (.istore_n 2, 1, 2, 0, 0, 0) := (congrArg (fun t => List.lookup 5 t) gt198).trans rfl
theorem t198_6 : zT 198 6 = some (.iconst 0, 1, 0, 0, 0, 0) := (congrArg (fun t => List.lookup 6 t) gt198).trans rfl
theorem t198_7 : zT 198 7 = some (.istore_n 3, 1, 3, 0, 0, 0) := (congrArg (fun t => List.lookup 7 t) gt198).trans rfl
theorem t198_8 : zT 198 8 = some (.iconst 0, 1, 0, 0, 0, 0) := (congrArg (fun t => List.lookup 8 t) gt198).trans rfl
theorem t198_9 : zT 198 9 = some (.istore 4, 2, 0, 0, 0, 0) := (congrArg (fun t => List.lookup 9 t) gt198).trans rfl
theorem t198_11 : zT 198 11 = some (.iload 4, 2, 0, 0, 0, 0) := (congrArg (fun t => List.lookup 11 t) gt198).trans rfl
theorem t198_13 : zT 198 13 = some (.aload_n 0, 1, 0, 0, 0, 0) := (congrArg (fun t => List.lookup 13 t) gt198).trans rfl
theorem t198_14 : zT 198 14 = some (.getfield 32, 3, 4, 5, 0, 497) := (congrArg (fun t => List.lookup 14 t) gt198).trans rfl
theorem t198_17 : zT 198 17 = some (.if_icmp .ge 22, 3, 39, 0, 0, 0) := (congrArg (fun t => List.lookup 17 t) gt198).trans rfl
theorem t198_20 : zT 198 20 = some (.aload_n 0, 1, 0, 0, 0, 0) := (congrArg (fun t => List.lookup 20 t) gt198).trans rfl
theorem t198_21 : zT 198 21 = some (.iload 4, 2, 0, 0, 0, 0) := (congrArg (fun t => List.lookup 21 t) gt198).trans rfl
theorem t198_23 : zT 198 23 = some (.iload_n 2, 1, 2, 0, 0, 0) := (congrArg (fun t => List.lookup 23 t) gt198).trans rfl
theorem t198_24 : zT 198 24 = some (.invokevirtual 169, 3, 145, 0, 0, 1485) := (congrArg (fun t => List.lookup 24 t) gt198).trans rfl
theorem t198_27 : zT 198 27 = some (.ifCond .lt 6, 3, 33, 0, 0, 0) := (congrArg (fun t => List.lookup 27 t) gt198).trans rfl
theorem t198_30 : zT 198 30 = some (.iinc 3 1, 3, 0, 0, 0, 0) := (congrArg (fun t => List.lookup 30 t) gt198).trans rfl
theorem t198_33 : zT 198 33 = some (.iinc 4 1, 3, 0, 0, 0, 0) := (congrArg (fun t => List.lookup 33 t) gt198).trans rfl
theorem t198_36 : zT 198 36 = some (.goto (-25), 3, 11, 0, 0, 0) := (congrArg (fun t => List.lookup 36 t) gt198).trans rfl
theorem t198_39 : zT 198 39 = some (.iload_n 3, 1, 3, 0, 0, 0) := (congrArg (fun t => List.lookup 39 t) gt198).trans rfl
theorem t198_40 : zT 198 40 = some (.ireturn, 1, 0, 0, 0, 0) := (congrArg (fun t => List.lookup 40 t) gt198).trans rfl
theorem t199_0 : zT 199 0 = some (.aload_n 0, 1, 0, 0, 0, 0) := (congrArg (fun t => List.lookup 0 t) gt199).trans rfl
theorem t199_1 : zT 199 1 = some (.iload_n 1, 1, 1, 0, 0, 0) := (congrArg (fun t => List.lookup 1 t) gt199).trans rfl
theorem t199_2 : zT 199 2 = some (.invokevirtual 75, 3, 124, 0, 0, 1155) := (congrArg (fun t => List.lookup 2 t) gt199).trans rfl
theorem t199_5 : zT 199 5 = some (.istore_n 2, 1, 2, 0, 0, 0) := (congrArg (fun t => List.lookup 5 t) gt199).trans rfl
theorem t199_6 : zT 199 6 = some (.iconst 0, 1, 0, 0, 0, 0) := (congrArg (fun t => List.lookup 6 t) gt199).trans rfl
theorem t199_7 : zT 199 7 = some (.istore_n 3, 1, 3, 0, 0, 0) := (congrArg (fun t => List.lookup 7 t) gt199).trans rfl
theorem t199_8 : zT 199 8 = some (.iconst 0, 1, 0, 0, 0, 0) := (congrArg (fun t => List.lookup 8 t) gt199).trans rfl
theorem t199_9 : zT 199 9 = some (.istore 4, 2, 0, 0, 0, 0) := (congrArg (fun t => List.lookup 9 t) gt199).trans rfl
theorem t199_11 : zT 199 11 = some (.iload 4, 2, 0, 0, 0, 0) := (congrArg (fun t => List.lookup 11 t) gt199).trans rfl
theorem t199_13 : zT 199 13 = some (.aload_n 0, 1, 0, 0, 0, 0) := (congrArg (fun t => List.lookup 13 t) gt199).trans rfl
theorem t199_14 : zT 199 14 = some (.getfield 32, 3, 4, 5, 0, 497) := (congrArg (fun t => List.lookup 14 t) gt199).trans rfl
theorem t199_17 : zT 199 17 = some (.if_icmp .ge 30, 3, 47, 0, 0, 0) := (congrArg (fun t => List.lookup 17 t) gt199).trans rfl
theorem t199_20 : zT 199 20 = some (.aload_n 0, 1, 0, 0, 0, 0) := (congrArg (fun t => List.lookup 20 t) gt199).trans rfl
theorem t199_21 : zT 199 21 = some (.iload 4, 2, 0, 0, 0, 0) := (congrArg (fun t => List.lookup 21 t) gt199).trans rfl
theorem t199_23 : zT 199 23 = some (.iload_n 2, 1, 2, 0, 0, 0) := (congrArg (fun t => List.lookup 23 t) gt199).trans rfl
theorem t199_24 : zT 199 24 = some (.invokevirtual 169, 3, 145, 0, 0, 1485) := (congrArg (fun t => List.lookup 24 t) gt199).trans rfl
theorem t199_27 : zT 199 27 = some (.istore 5, 2, 0, 0, 0, 0) := (congrArg (fun t => List.lookup 27 t) gt199).trans rfl
theorem t199_29 : zT 199 29 = some (.iload 5, 2, 0, 0, 0, 0) := (congrArg (fun t => List.lookup 29 t) gt199).trans rfl
theorem t199_31 : zT 199 31 = some (.ifCond .lt 10, 3, 41, 0, 0, 0) := (congrArg (fun t => List.lookup 31 t) gt199).trans rfl
theorem t199_34 : zT 199 34 = some (.iload_n 3, 1, 3, 0, 0, 0) := (congrArg (fun t => List.lookup 34 t) gt199).trans rfl
theorem t199_35 : zT 199 35 = some (.iconst 1, 1, 0, 0, 1, 0) := (congrArg (fun t => List.lookup 35 t) gt199).trans rfl
theorem t199_36 : zT 199 36 = some (.iload 5, 2, 0, 0, 0, 0) := (congrArg (fun t => List.lookup 36 t) gt199).trans rfl
theorem t199_38 : zT 199 38 = some (.ishl, 1, 0, 0, 0, 0) := (congrArg (fun t => List.lookup 38 t) gt199).trans rfl
theorem t199_39 : zT 199 39 = some (.ior, 1, 0, 0, 0, 0) := (congrArg (fun t => List.lookup 39 t) gt199).trans rfl
theorem t199_40 : zT 199 40 = some (.istore_n 3, 1, 3, 0, 0, 0) := (congrArg (fun t => List.lookup 40 t) gt199).trans rfl
theorem t199_41 : zT 199 41 = some (.iinc 4 1, 3, 0, 0, 0, 0) := (congrArg (fun t => List.lookup 41 t) gt199).trans rfl
theorem t199_44 : zT 199 44 = some (.goto (-33), 3, 11, 0, 0, 0) := (congrArg (fun t => List.lookup 44 t) gt199).trans rfl
theorem t199_47 : zT 199 47 = some (.iload_n 2, 1, 2, 0, 0, 0) := (congrArg (fun t => List.lookup 47 t) gt199).trans rfl
theorem t199_48 : zT 199 48 = some (.iload_n 3, 1, 3, 0, 0, 0) := (congrArg (fun t => List.lookup 48 t) gt199).trans rfl
theorem t199_49 : zT 199 49 = some (.invokestatic 172, 3, 113, 1, 0, 1490) := (congrArg (fun t => List.lookup 49 t) gt199).trans rfl
theorem t199_52 : zT 199 52 = some (.isub, 1, 0, 0, 0, 0) := (congrArg (fun t => List.lookup 52 t) gt199).trans rfl
theorem t199_53 : zT 199 53 = some (.ireturn, 1, 0, 0, 0, 0) := (congrArg (fun t => List.lookup 53 t) gt199).trans rfl
theorem t200_0 : zT 200 0 = some (.aload_n 0, 1, 0, 0, 0, 0) := (congrArg (fun t => List.lookup 0 t) gt200).trans rfl
theorem t200_1 : zT 200 1 = some (.getfield 50, 3, 11, 6, 0, 604) := (congrArg (fun t => List.lookup 1 t) gt200).trans rfl
theorem t200_4 : zT 200 4 = some (.aload_n 0, 1, 0, 0, 0, 0) := (congrArg (fun t => List.lookup 4 t) gt200).trans rfl
theorem t200_5 : zT 200 5 = some (.getfield 12, 3, 11, 0, 0, 598) := (congrArg (fun t => List.lookup 5 t) gt200).trans rfl
theorem t200_8 : zT 200 8 = some (.invokevirtual 212, 3, 105, 0, 0, 1068) := (congrArg (fun t => List.lookup 8 t) gt200).trans rfl
theorem t200_11 : zT 200 11 = some (.iload_n 1, 1, 1, 0, 0, 0) := (congrArg (fun t => List.lookup 11 t) gt200).trans rfl
theorem t200_12 : zT 200 12 = some (.invokevirtual 256, 3, 163, 0, 0, 1356) := (congrArg (fun t => List.lookup 12 t) gt200).trans rfl
theorem t200_15 : zT 200 15 = some (.astore 4, 2, 0, 0, 0, 0) := (congrArg (fun t => List.lookup 15 t) gt200).trans rfl
theorem t200_17 : zT 200 17 = some (.aload_n 0, 1, 0, 0, 0, 0) := (congrArg (fun t => List.lookup 17 t) gt200).trans rfl
theorem t200_18 : zT 200 18 = some (.getfield 50, 3, 11, 6, 0, 604) := (congrArg (fun t => List.lookup 18 t) gt200).trans rfl
theorem t200_21 : zT 200 21 = some (.iload_n 2, 1, 2, 0, 0, 0) := (congrArg (fun t => List.lookup 21 t) gt200).trans rfl
theorem t200_22 : zT 200 22 = some (.invokevirtual 256, 3, 163, 0, 0, 1356) := (congrArg (fun t => List.lookup 22 t) gt200).trans rfl
theorem t200_25 : zT 200 25 = some (.astore 5, 2, 0, 0, 0, 0) := (congrArg (fun t => List.lookup 25 t) gt200).trans rfl
theorem t200_27 : zT 200 27 = some (.aload 4, 2, 0, 0, 0, 0) := (congrArg (fun t => List.lookup 27 t) gt200).trans rfl
theorem t200_29 : zT 200 29 = some (.ifnull 22, 3, 51, 0, 0, 0) := (congrArg (fun t => List.lookup 29 t) gt200).trans rfl
theorem t200_32 : zT 200 32 = some (.aload 5, 2, 0, 0, 0, 0) := (congrArg (fun t => List.lookup 32 t) gt200).trans rfl
theorem t200_34 : zT 200 34 = some (.ifnull 17, 3, 51, 0, 0, 0) := (congrArg (fun t => List.lookup 34 t) gt200).trans rfl
theorem t200_37 : zT 200 37 = some (.iload_n 1, 1, 1, 0, 0, 0) := (congrArg (fun t => List.lookup 37 t) gt200).trans rfl
theorem t200_38 : zT 200 38 = some (.iload_n 2, 1, 2, 0, 0, 0) := (congrArg (fun t => List.lookup 38 t) gt200).trans rfl
theorem t200_39 : zT 200 39 = some (.if_icmp .eq 12, 3, 51, 0, 0, 0) := (congrArg (fun t => List.lookup 39 t) gt200).trans rfl
theorem t200_42 : zT 200 42 = some (.iload_n 3, 1, 3, 0, 0, 0) := (congrArg (fun t => List.lookup 42 t) gt200).trans rfl
theorem t200_43 : zT 200 43 = some (.iconst 0, 1, 0, 0, 0, 0) := (congrArg (fun t => List.lookup 43 t) gt200).trans rfl
theorem t200_44 : zT 200 44 = some (.iconst 1, 1, 0, 0, 1, 0) := (congrArg (fun t => List.lookup 44 t) gt200).trans rfl
theorem t200_45 : zT 200 45 = some (.invokestatic 246, 3, 39, 1, 0, 1028) := (congrArg (fun t => List.lookup 45 t) gt200).trans rfl
theorem t200_48 : zT 200 48 = some (.ifCond .ne 7, 3, 55, 0, 0, 0) := (congrArg (fun t => List.lookup 48 t) gt200).trans rfl
theorem t200_51 : zT 200 51 = some (.ldc2_w 290, 3, 1, 0, (-1000000000000), 1375) := (congrArg (fun t => List.lookup 51 t) gt200).trans rfl
theorem t200_54 : zT 200 54 = some (.lreturn, 1, 0, 0, 0, 0) := (congrArg (fun t => List.lookup 54 t) gt200).trans rfl
theorem t200_55 : zT 200 55 = some (.lconst 1, 1, 0, 0, 1, 0) := (congrArg (fun t => List.lookup 55 t) gt200).trans rfl
theorem t200_56 : zT 200 56 = some (.aload 4, 2, 0, 0, 0, 0) := (congrArg (fun t => List.lookup 56 t) gt200).trans rfl
theorem t200_58 : zT 200 58 = some (.getfield 296, 3, 8, 8, 0, 441) := (congrArg (fun t => List.lookup 58 t) gt200).trans rfl
theorem t200_61 : zT 200 61 = some (.aload 5, 2, 0, 0, 0, 0) := (congrArg (fun t => List.lookup 61 t) gt200).trans rfl
theorem t200_63 : zT 200 63 = some (.getfield 296, 3, 8, 8, 0, 441) := (congrArg (fun t => List.lookup 63 t) gt200).trans rfl
theorem t200_66 : zT 200 66 = some (.invokestatic 412, 3, 175, 1, 0, 1379) := (congrArg (fun t => List.lookup 66 t) gt200).trans rfl
theorem t200_69 : zT 200 69 = some (.invokestatic 415, 3, 134, 1, 0, 1501) := (congrArg (fun t => List.lookup 69 t) gt200).trans rfl
theorem t200_72 : zT 200 72 = some (.lstore 6, 2, 0, 0, 0, 0) := (congrArg (fun t => List.lookup 72 t) gt200).trans rfl
theorem t200_74 : zT 200 74 = some (.aload 4, 2, 0, 0, 0, 0) := (congrArg (fun t => List.lookup 74 t) gt200).trans rfl
theorem t200_76 : zT 200 76 = some (.getfield 296, 3, 8, 8, 0, 441) := (congrArg (fun t => List.lookup 76 t) gt200).trans rfl
theorem t200_79 : zT 200 79 = some (.lload 6, 2, 0, 0, 0, 0) := (congrArg (fun t => List.lookup 79 t) gt200).trans rfl
theorem t200_81 : zT 200 81 = some (.ldiv, 1, 0, 0, 0, 0) := (congrArg (fun t => List.lookup 81 t) gt200).trans rfl
theorem t200_82 : zT 200 82 = some (.lstore 8, 2, 0, 0, 0, 0) := (congrArg (fun t => List.lookup 82 t) gt200).trans rfl
theorem t200_84 : zT 200 84 = some (.aload 5, 2, 0, 0, 0, 0) := (congrArg (fun t => List.lookup 84 t) gt200).trans rfl
theorem t200_86 : zT 200 86 = some (.getfield 296, 3, 8, 8, 0, 441) := (congrArg (fun t => List.lookup 86 t) gt200).trans rfl
theorem t200_89 : zT 200 89 = some (.lload 6, 2, 0, 0, 0, 0) := (congrArg (fun t => List.lookup 89 t) gt200).trans rfl
theorem t200_91 : zT 200 91 = some (.ldiv, 1, 0, 0, 0, 0) := (congrArg (fun t => List.lookup 91 t) gt200).trans rfl
theorem t200_92 : zT 200 92 = some (.lstore 10, 2, 0, 0, 0, 0) := (congrArg (fun t => List.lookup 92 t) gt200).trans rfl
theorem t200_94 : zT 200 94 = some (.aload 4, 2, 0, 0, 0, 0) := (congrArg (fun t => List.lookup 94 t) gt200).trans rfl
theorem t200_96 : zT 200 96 = some (.getfield 306, 3, 8, 10, 0, 445) := (congrArg (fun t => List.lookup 96 t) gt200).trans rfl
theorem t200_99 : zT 200 99 = some (.lload 10, 2, 0, 0, 0, 0) := (congrArg (fun t => List.lookup 99 t) gt200).trans rfl
theorem t200_101 : zT 200 101 = some (.lmul, 1, 0, 0, 0, 0) := (congrArg (fun t => List.lookup 101 t) gt200).trans rfl
theorem t200_102 : zT 200 102 = some (.aload 5, 2, 0, 0, 0, 0) := (congrArg (fun t => List.lookup 102 t) gt200).trans rfl
theorem t200_104 : zT 200 104 = some (.getfield 306, 3, 8, 10, 0, 445) := (congrArg (fun t => List.lookup 104 t) gt200).trans rfl
theorem t200_107 : zT 200 107 = some (.lload 8, 2, 0, 0, 0, 0) := (congrArg (fun t => List.lookup 107 t) gt200).trans rfl
theorem t200_109 : zT 200 109 = some (.lmul, 1, 0, 0, 0, 0) := (congrArg (fun t => List.lookup 109 t) gt200).trans rfl
theorem t200_110 : zT 200 110 = some (.lsub, 1, 0, 0, 0, 0) := (congrArg (fun t => List.lookup 110 t) gt200).trans rfl
theorem t200_111 : zT 200 111 = some (.lstore 12, 2, 0, 0, 0, 0) := (congrArg (fun t => List.lookup 111 t) gt200).trans rfl
theorem t200_113 : zT 200 113 = some (.lload 12, 2, 0, 0, 0, 0) := (congrArg (fun t => List.lookup 113 t) gt200).trans rfl
theorem t200_115 : zT 200 115 = some (.lconst 0, 1, 0, 0, 0, 0) := (congrArg (fun t => List.lookup 115 t) gt200).trans rfl
theorem t200_116 : zT 200 116 = some (.lcmp, 1, 0, 0, 0, 0) := (congrArg (fun t => List.lookup 116 t) gt200).trans rfl
theorem t200_117 : zT 200 117 = some (.ifCond .ne 7, 3, 124, 0, 0, 0) := (congrArg (fun t => List.lookup 117 t) gt200).trans rfl
theorem t200_120 : zT 200 120 = some (.ldc2_w 417, 3, 1, 0, (-2), 1502) := (congrArg (fun t => List.lookup 120 t) gt200).trans rfl
theorem t200_123 : zT 200 123 = some (.lreturn, 1, 0, 0, 0, 0) := (congrArg (fun t => List.lookup 123 t) gt200).trans rfl
theorem t200_124 : zT 200 124 = some (.aload 5, 2, 0, 0, 0, 0) := (congrArg (fun t => List.lookup 124 t) gt200).trans rfl
theorem t200_126 : zT 200 126 = some (.getfield 292, 3, 8, 9, 0, 443) := (congrArg (fun t => List.lookup 126 t) gt200).trans rfl
theorem t200_129 : zT 200 129 = some (.lload 8, 2, 0, 0, 0, 0) := (congrArg (fun t => List.lookup 129 t) gt200).trans rfl
theorem t200_131 : zT 200 131 = some (.lmul, 1, 0, 0, 0, 0) := (congrArg (fun t => List.lookup 131 t) gt200).trans rfl
theorem t200_132 : zT 200 132 = some (.aload 4, 2, 0, 0, 0, 0) := (congrArg (fun t => List.lookup 132 t) gt200).trans rfl
theorem t200_134 : zT 200 134 = some (.getfield 292, 3, 8, 9, 0, 443) := (congrArg (fun t => List.lookup 134 t) gt200).trans rfl
theorem t200_137 : zT 200 137 = some (.lload 10, 2, 0, 0, 0, 0) := (congrArg (fun t => List.lookup 137 t) gt200).trans rfl
theorem t200_139 : zT 200 139 = some (.lmul, 1, 0, 0, 0, 0) := (congrArg (fun t => List.lookup 139 t) gt200).trans rfl
theorem t200_140 : zT 200 140 = some (.lsub, 1, 0, 0, 0, 0) := (congrArg (fun t => List.lookup 140 t) gt200).trans rfl
theorem t200_141 : zT 200 141 = some (.lstore 14, 2, 0, 0, 0, 0) := (congrArg (fun t => List.lookup 141 t) gt200).trans (by decide +kernel)
theorem t200_143 : zT 200 143 = some (.iload_n 3, 1, 3, 0, 0, 0) := (congrArg (fun t => List.lookup 143 t) gt200).trans (by decide +kernel)
theorem t200_144 : zT 200 144 = some (.ifCond .ne 13, 3, 157, 0, 0, 0) := (congrArg (fun t => List.lookup 144 t) gt200).trans (by decide +kernel)
theorem t200_147 : zT 200 147 = some (.lload 14, 2, 0, 0, 0, 0) := (congrArg (fun t => List.lookup 147 t) gt200).trans (by decide +kernel)
theorem t200_149 : zT 200 149 = some (.lload 12, 2, 0, 0, 0, 0) := (congrArg (fun t => List.lookup 149 t) gt200).trans (by decide +kernel)
theorem t200_151 : zT 200 151 = some (.invokestatic 299, 3, 174, 1, 0, 1376) := (congrArg (fun t => List.lookup 151 t) gt200).trans (by decide +kernel)
theorem t200_154 : zT 200 154 = some (.goto 10, 3, 164, 0, 0, 0) := (congrArg (fun t => List.lookup 154 t) gt200).trans (by decide +kernel)
theorem t200_157 : zT 200 157 = some (.lload 14, 2, 0, 0, 0, 0) := (congrArg (fun t => List.lookup 157 t) gt200).trans (by decide +kernel)
theorem t200_159 : zT 200 159 = some (.lload 12, 2, 0, 0, 0, 0) := (congrArg (fun t => List.lookup 159 t) gt200).trans (by decide +kernel)
theorem t200_161 : zT 200 161 = some (.invokestatic 303, 3, 176, 1, 0, 1383) := (congrArg (fun t => List.lookup 161 t) gt200).trans (by decide +kernel)
theorem t200_164 : zT 200 164 = some (.lreturn, 1, 0, 0, 0, 0) := (congrArg (fun t => List.lookup 164 t) gt200).trans (by decide +kernel)
theorem t201_0 : zT 201 0 = some (.aload_n 0, 1, 0, 0, 0, 0) := (congrArg (fun t => List.lookup 0 t) gt201).trans rfl
theorem t201_1 : zT 201 1 = some (.getfield 50, 3, 11, 6, 0, 604) := (congrArg (fun t => List.lookup 1 t) gt201).trans rfl
theorem t201_4 : zT 201 4 = some (.aload_n 0, 1, 0, 0, 0, 0) := (congrArg (fun t => List.lookup 4 t) gt201).trans rfl
theorem t201_5 : zT 201 5 = some (.getfield 12, 3, 11, 0, 0, 598) := (congrArg (fun t => List.lookup 5 t) gt201).trans rfl
theorem t201_8 : zT 201 8 = some (.invokevirtual 212, 3, 105, 0, 0, 1068) := (congrArg (fun t => List.lookup 8 t) gt201).trans rfl
theorem t201_11 : zT 201 11 = some (.iload_n 1, 1, 1, 0, 0, 0) := (congrArg (fun t => List.lookup 11 t) gt201).trans rfl
theorem t201_12 : zT 201 12 = some (.invokevirtual 256, 3, 163, 0, 0, 1356) := (congrArg (fun t => List.lookup 12 t) gt201).trans rfl
theorem t201_15 : zT 201 15 = some (.astore_n 3, 1, 3, 0, 0, 0) := (congrArg (fun t => List.lookup 15 t) gt201).trans rfl
theorem t201_16 : zT 201 16 = some (.aload_n 3, 1, 3, 0, 0, 0) := (congrArg (fun t => List.lookup 16 t) gt201).trans rfl
theorem t201_17 : zT 201 17 = some (.ifnull 14, 3, 31, 0, 0, 0) := (congrArg (fun t => List.lookup 17 t) gt201).trans rfl
theorem t201_20 : zT 201 20 = some (.aload_n 0, 1, 0, 0, 0, 0) := (congrArg (fun t => List.lookup 20 t) gt201).trans rfl
theorem t201_21 : zT 201 21 = some (.getfield 12, 3, 11, 0, 0, 598) := (congrArg (fun t => List.lookup 21 t) gt201).trans rfl
theorem t201_24 : zT 201 24 = some (.iload_n 2, 1, 2, 0, 0, 0) := (congrArg (fun t => List.lookup 24 t) gt201).trans rfl
theorem t201_25 : zT 201 25 = some (.invokevirtual 179, 3, 41, 0, 0, 1023) := (congrArg (fun t => List.lookup 25 t) gt201).trans rfl
theorem t201_28 : zT 201 28 = some (.ifCond .ne 8, 3, 36, 0, 0, 0) := (congrArg (fun t => List.lookup 28 t) gt201).trans rfl
theorem t201_31 : zT 201 31 = some (.ldc 196, 2, 0, 0, (-100000), 1066) := (congrArg (fun t => List.lookup 31 t) gt201).trans rfl
theorem t201_33 : zT 201 33 = some (.goto 12, 3, 45, 0, 0, 0) := (congrArg (fun t => List.lookup 33 t) gt201).trans rfl
theorem t201_36 : zT 201 36 = some (.aload_n 3, 1, 3, 0, 0, 0) := (congrArg (fun t => List.lookup 36 t) gt201).trans rfl
theorem t201_37 : zT 201 37 = some (.aload_n 0, 1, 0, 0, 0, 0) := (congrArg (fun t => List.lookup 37 t) gt201).trans rfl
theorem t201_38 : zT 201 38 = some (.getfield 12, 3, 11, 0, 0, 598) := (congrArg (fun t => List.lookup 38 t) gt201).trans rfl
theorem t201_41 : zT 201 41 = some (.iload_n 2, 1, 2, 0, 0, 0) := (congrArg (fun t => List.lookup 41 t) gt201).trans rfl
theorem t201_42 : zT 201 42 = some (.invokevirtual 419, 3, 202, 0, 0, 1507) := (congrArg (fun t => List.lookup 42 t) gt201).trans rfl
theorem t201_45 : zT 201 45 = some (.ireturn, 1, 0, 0, 0, 0) := (congrArg (fun t => List.lookup 45 t) gt201).trans rfl
theorem t202_0 : zT 202 0 = some (.aload_n 1, 1, 1, 0, 0, 0) := (congrArg (fun t => List.lookup 0 t) gt202).trans rfl
theorem t202_1 : zT 202 1 = some (.iload_n 2, 1, 2, 0, 0, 0) := (congrArg (fun t => List.lookup 1 t) gt202).trans rfl
theorem t202_2 : zT 202 2 = some (.invokevirtual 86, 3, 41, 0, 0, 1511) := (congrArg (fun t => List.lookup 2 t) gt202).trans rfl
theorem t202_5 : zT 202 5 = some (.ifCond .ne 5, 3, 10, 0, 0, 0) := (congrArg (fun t => List.lookup 5 t) gt202).trans rfl
theorem t202_8 : zT 202 8 = some (.iconst 0, 1, 0, 0, 0, 0) := (congrArg (fun t => List.lookup 8 t) gt202).trans rfl
theorem t202_9 : zT 202 9 = some (.ireturn, 1, 0, 0, 0, 0) := (congrArg (fun t => List.lookup 9 t) gt202).trans rfl
theorem t202_10 : zT 202 10 = some (.aload_n 0, 1, 0, 0, 0, 0) := (congrArg (fun t => List.lookup 10 t) gt202).trans rfl
theorem t202_11 : zT 202 11 = some (.getfield 41, 3, 8, 9, 0, 442) := (congrArg (fun t => List.lookup 11 t) gt202).trans rfl
theorem t202_14 : zT 202 14 = some (.aload_n 0, 1, 0, 0, 0, 0) := (congrArg (fun t => List.lookup 14 t) gt202).trans rfl
theorem t202_15 : zT 202 15 = some (.getfield 44, 3, 8, 10, 0, 444) := (congrArg (fun t => List.lookup 15 t) gt202).trans rfl
theorem t202_18 : zT 202 18 = some (.aload_n 1, 1, 1, 0, 0, 0) := (congrArg (fun t => List.lookup 18 t) gt202).trans rfl
theorem t202_19 : zT 202 19 = some (.getfield 66, 3, 6, 1, 0, 158) := (congrArg (fun t => List.lookup 19 t) gt202).trans rfl
theorem t202_22 : zT 202 22 = some (.iload_n 2, 1, 2, 0, 0, 0) := (congrArg (fun t => List.lookup 22 t) gt202).trans rfl
theorem t202_23 : zT 202 23 = some (.iaload, 1, 0, 0, 0, 0) := (congrArg (fun t => List.lookup 23 t) gt202).trans rfl
theorem t202_24 : zT 202 24 = some (.i2l, 1, 0, 0, 0, 0) := (congrArg (fun t => List.lookup 24 t) gt202).trans rfl
theorem t202_25 : zT 202 25 = some (.lmul, 1, 0, 0, 0, 0) := (congrArg (fun t => List.lookup 25 t) gt202).trans rfl
theorem t202_26 : zT 202 26 = some (.ladd, 1, 0, 0, 0, 0) := (congrArg (fun t => List.lookup 26 t) gt202).trans rfl
theorem t202_27 : zT 202 27 = some (.lstore_n 3, 1, 3, 0, 0, 0) := (congrArg (fun t => List.lookup 27 t) gt202).trans rfl
theorem t202_28 : zT 202 28 = some (.lload_n 3, 1, 3, 0, 0, 0) := (congrArg (fun t => List.lookup 28 t) gt202).trans rfl
theorem t202_29 : zT 202 29 = some (.lconst 1, 1, 0, 0, 1, 0) := (congrArg (fun t => List.lookup 29 t) gt202).trans rfl
theorem t202_30 : zT 202 30 = some (.aload_n 0, 1, 0, 0, 0, 0) := (congrArg (fun t => List.lookup 30 t) gt202).trans rfl
theorem t202_31 : zT 202 31 = some (.getfield 37, 3, 8, 8, 0, 440) := (congrArg (fun t => List.lookup 31 t) gt202).trans rfl
theorem t202_34 : zT 202 34 = some (.invokestatic 73, 3, 134, 1, 0, 1198) := (congrArg (fun t => List.lookup 34 t) gt202).trans rfl
theorem t202_37 : zT 202 37 = some (.invokestatic 83, 3, 140, 1, 0, 1220) := (congrArg (fun t => List.lookup 37 t) gt202).trans rfl
theorem t202_40 : zT 202 40 = some (.l2i, 1, 0, 0, 0, 0) := (congrArg (fun t => List.lookup 40 t) gt202).trans rfl
theorem t202_41 : zT 202 41 = some (.aload_n 1, 1, 1, 0, 0, 0) := (congrArg (fun t => List.lookup 41 t) gt202).trans rfl
theorem t202_42 : zT 202 42 = some (.iload_n 2, 1, 2, 0, 0, 0) := (congrArg (fun t => List.lookup 42 t) gt202).trans rfl
theorem t202_43 : zT 202 43 = some (.aload_n 0, 1, 0, 0, 0, 0) := (congrArg (fun t => List.lookup 43 t) gt202).trans rfl
theorem t202_44 : zT 202 44 = some (.getfield 9, 3, 8, 0, 0, 414) := (congrArg (fun t => List.lookup 44 t) gt202).trans rfl
theorem t202_47 : zT 202 47 = some (.invokevirtual 59, 3, 55, 0, 0, 1197) := (congrArg (fun t => List.lookup 47 t) gt202).trans rfl
theorem t202_50 : zT 202 50 = some (.iadd, 1, 0, 0, 0, 0) := (congrArg (fun t => List.lookup 50 t) gt202).trans rfl
theorem t202_51 : zT 202 51 = some (.ireturn, 1, 0, 0, 0, 0) := (congrArg (fun t => List.lookup 51 t) gt202).trans rfl
theorem t203_0 : zT 203 0 = some (.aload_n 0, 1, 0, 0, 0, 0) := (congrArg (fun t => List.lookup 0 t) gt203).trans rfl
theorem t203_1 : zT 203 1 = some (.getfield 50, 3, 11, 6, 0, 604) := (congrArg (fun t => List.lookup 1 t) gt203).trans rfl
theorem t203_4 : zT 203 4 = some (.aload_n 0, 1, 0, 0, 0, 0) := (congrArg (fun t => List.lookup 4 t) gt203).trans rfl
theorem t203_5 : zT 203 5 = some (.getfield 12, 3, 11, 0, 0, 598) := (congrArg (fun t => List.lookup 5 t) gt203).trans rfl
theorem t203_8 : zT 203 8 = some (.invokevirtual 212, 3, 105, 0, 0, 1068) := (congrArg (fun t => List.lookup 8 t) gt203).trans rfl
theorem t203_11 : zT 203 11 = some (.iload_n 1, 1, 1, 0, 0, 0) := (congrArg (fun t => List.lookup 11 t) gt203).trans rfl
theorem t203_12 : zT 203 12 = some (.invokevirtual 256, 3, 163, 0, 0, 1356) := (congrArg (fun t => List.lookup 12 t) gt203).trans rfl
theorem t203_15 : zT 203 15 = some (.astore_n 2, 1, 2, 0, 0, 0) := (congrArg (fun t => List.lookup 15 t) gt203).trans rfl
theorem t203_16 : zT 203 16 = some (.aload_n 2, 1, 2, 0, 0, 0) := (congrArg (fun t => List.lookup 16 t) gt203).trans rfl
theorem t203_17 : zT 203 17 = some (.ifnonnull 5, 3, 22, 0, 0, 0) := (congrArg (fun t => List.lookup 17 t) gt203).trans rfl
theorem t203_20 : zT 203 20 = some (.iconst (-1), 1, 0, 0, (-1), 0) := (congrArg (fun t => List.lookup 20 t) gt203).trans rfl
theorem t203_21 : zT 203 21 = some (.ireturn, 1, 0, 0, 0, 0) := (congrArg (fun t => List.lookup 21 t) gt203).trans rfl
theorem t203_22 : zT 203 22 = some (.iconst 0, 1, 0, 0, 0, 0) := (congrArg (fun t => List.lookup 22 t) gt203).trans rfl
theorem t203_23 : zT 203 23 = some (.istore_n 3, 1, 3, 0, 0, 0) := (congrArg (fun t => List.lookup 23 t) gt203).trans rfl
theorem t203_24 : zT 203 24 = some (.iconst 0, 1, 0, 0, 0, 0) := (congrArg (fun t => List.lookup 24 t) gt203).trans rfl
theorem t203_25 : zT 203 25 = some (.istore 4, 2, 0, 0, 0, 0) := (congrArg (fun t => List.lookup 25 t) gt203).trans rfl
theorem t203_27 : zT 203 27 = some (.iload 4, 2, 0, 0, 0, 0) := (congrArg (fun t => List.lookup 27 t) gt203).trans rfl
theorem t203_29 : zT 203 29 = some (.aload_n 0, 1, 0, 0, 0, 0) := (congrArg (fun t => List.lookup 29 t) gt203).trans rfl
theorem t203_30 : zT 203 30 = some (.getfield 12, 3, 11, 0, 0, 598) := (congrArg (fun t => List.lookup 30 t) gt203).trans rfl
theorem t203_33 : zT 203 33 = some (.getfield 161, 3, 6, 0, 0, 156) := (congrArg (fun t => List.lookup 33 t) gt203).trans rfl
theorem t203_36 : zT 203 36 = some (.if_icmp .ge 35, 3, 71, 0, 0, 0) := (congrArg (fun t => List.lookup 36 t) gt203).trans rfl
theorem t203_39 : zT 203 39 = some (.aload_n 0, 1, 0, 0, 0, 0) := (congrArg (fun t => List.lookup 39 t) gt203).trans rfl
theorem t203_40 : zT 203 40 = some (.getfield 12, 3, 11, 0, 0, 598) := (congrArg (fun t => List.lookup 40 t) gt203).trans rfl
theorem t203_43 : zT 203 43 = some (.getfield 186, 3, 6, 2, 0, 162) := (congrArg (fun t => List.lookup 43 t) gt203).trans rfl
theorem t203_46 : zT 203 46 = some (.iload 4, 2, 0, 0, 0, 0) := (congrArg (fun t => List.lookup 46 t) gt203).trans rfl
theorem t203_48 : zT 203 48 = some (.baload, 1, 0, 0, 0, 0) := (congrArg (fun t => List.lookup 48 t) gt203).trans rfl
theorem t203_49 : zT 203 49 = some (.ifCond .eq 16, 3, 65, 0, 0, 0) := (congrArg (fun t => List.lookup 49 t) gt203).trans rfl
theorem t203_52 : zT 203 52 = some (.aload_n 2, 1, 2, 0, 0, 0) := (congrArg (fun t => List.lookup 52 t) gt203).trans rfl
theorem t203_53 : zT 203 53 = some (.getfield 287, 3, 8, 6, 0, 437) := (congrArg (fun t => List.lookup 53 t) gt203).trans rfl
theorem t203_56 : zT 203 56 = some (.iload 4, 2, 0, 0, 0, 0) := (congrArg (fun t => List.lookup 56 t) gt203).trans rfl
theorem t203_58 : zT 203 58 = some (.iaload, 1, 0, 0, 0, 0) := (congrArg (fun t => List.lookup 58 t) gt203).trans rfl
theorem t203_59 : zT 203 59 = some (.ifCond .ge 6, 3, 65, 0, 0, 0) := (congrArg (fun t => List.lookup 59 t) gt203).trans rfl
theorem t203_62 : zT 203 62 = some (.iinc 3 1, 3, 0, 0, 0, 0) := (congrArg (fun t => List.lookup 62 t) gt203).trans rfl
theorem t203_65 : zT 203 65 = some (.iinc 4 1, 3, 0, 0, 0, 0) := (congrArg (fun t => List.lookup 65 t) gt203).trans rfl
theorem t203_68 : zT 203 68 = some (.goto (-41), 3, 27, 0, 0, 0) := (congrArg (fun t => List.lookup 68 t) gt203).trans rfl
theorem t203_71 : zT 203 71 = some (.iload_n 3, 1, 3, 0, 0, 0) := (congrArg (fun t => List.lookup 71 t) gt203).trans rfl
theorem t203_72 : zT 203 72 = some (.ireturn, 1, 0, 0, 0, 0) := (congrArg (fun t => List.lookup 72 t) gt203).trans rfl
theorem t204_0 : zT 204 0 = some (.aload_n 0, 1, 0, 0, 0, 0) := (congrArg (fun t => List.lookup 0 t) gt204).trans rfl
theorem t204_1 : zT 204 1 = some (.getfield 50, 3, 11, 6, 0, 604) := (congrArg (fun t => List.lookup 1 t) gt204).trans rfl
theorem t204_4 : zT 204 4 = some (.aload_n 0, 1, 0, 0, 0, 0) := (congrArg (fun t => List.lookup 4 t) gt204).trans rfl
theorem t204_5 : zT 204 5 = some (.getfield 12, 3, 11, 0, 0, 598) := (congrArg (fun t => List.lookup 5 t) gt204).trans rfl
theorem t204_8 : zT 204 8 = some (.invokevirtual 212, 3, 105, 0, 0, 1068) := (congrArg (fun t => List.lookup 8 t) gt204).trans rfl
theorem t204_11 : zT 204 11 = some (.iload_n 1, 1, 1, 0, 0, 0) := (congrArg (fun t => List.lookup 11 t) gt204).trans rfl
theorem t204_12 : zT 204 12 = some (.invokevirtual 256, 3, 163, 0, 0, 1356) := (congrArg (fun t => List.lookup 12 t) gt204).trans rfl
theorem t204_15 : zT 204 15 = some (.astore_n 3, 1, 3, 0, 0, 0) := (congrArg (fun t => List.lookup 15 t) gt204).trans rfl
theorem t204_16 : zT 204 16 = some (.aload_n 3, 1, 3, 0, 0, 0) := (congrArg (fun t => List.lookup 16 t) gt204).trans rfl
theorem t204_17 : zT 204 17 = some (.ifnull 14, 3, 31, 0, 0, 0) := (congrArg (fun t => List.lookup 17 t) gt204).trans rfl
theorem t204_20 : zT 204 20 = some (.aload_n 0, 1, 0, 0, 0, 0) := (congrArg (fun t => List.lookup 20 t) gt204).trans rfl
theorem t204_21 : zT 204 21 = some (.getfield 12, 3, 11, 0, 0, 598) := (congrArg (fun t => List.lookup 21 t) gt204).trans rfl
theorem t204_24 : zT 204 24 = some (.iload_n 2, 1, 2, 0, 0, 0) := (congrArg (fun t => List.lookup 24 t) gt204).trans rfl
theorem t204_25 : zT 204 25 = some (.invokevirtual 179, 3, 41, 0, 0, 1023) := (congrArg (fun t => List.lookup 25 t) gt204).trans rfl
theorem t204_28 : zT 204 28 = some (.ifCond .ne 5, 3, 33, 0, 0, 0) := (congrArg (fun t => List.lookup 28 t) gt204).trans rfl
theorem t204_31 : zT 204 31 = some (.iconst (-1), 1, 0, 0, (-1), 0) := (congrArg (fun t => List.lookup 31 t) gt204).trans rfl
theorem t204_32 : zT 204 32 = some (.ireturn, 1, 0, 0, 0, 0) := (congrArg (fun t => List.lookup 32 t) gt204).trans rfl
theorem t204_33 : zT 204 33 = some (.aload_n 3, 1, 3, 0, 0, 0) := (congrArg (fun t => List.lookup 33 t) gt204).trans rfl
theorem t204_34 : zT 204 34 = some (.aload_n 0, 1, 0, 0, 0, 0) := (congrArg (fun t => List.lookup 34 t) gt204).trans rfl
theorem t204_35 : zT 204 35 = some (.getfield 12, 3, 11, 0, 0, 598) := (congrArg (fun t => List.lookup 35 t) gt204).trans rfl
theorem t204_38 : zT 204 38 = some (.iload_n 2, 1, 2, 0, 0, 0) := (congrArg (fun t => List.lookup 38 t) gt204).trans rfl
theorem t204_39 : zT 204 39 = some (.invokevirtual 419, 3, 202, 0, 0, 1507) := (congrArg (fun t => List.lookup 39 t) gt204).trans rfl
theorem t204_42 : zT 204 42 = some (.istore 4, 2, 0, 0, 0, 0) := (congrArg (fun t => List.lookup 42 t) gt204).trans rfl
theorem t204_44 : zT 204 44 = some (.bipush (-2), 2, 0, 0, (-2), 0) := (congrArg (fun t => List.lookup 44 t) gt204).trans rfl
theorem t204_46 : zT 204 46 = some (.istore 5, 2, 0, 0, 0, 0) := (congrArg (fun t => List.lookup 46 t) gt204).trans rfl
theorem t204_48 : zT 204 48 = some (.iconst 0, 1, 0, 0, 0, 0) := (congrArg (fun t => List.lookup 48 t) gt204).trans rfl
theorem t204_49 : zT 204 49 = some (.istore 6, 2, 0, 0, 0, 0) := (congrArg (fun t => List.lookup 49 t) gt204).trans rfl
theorem t204_51 : zT 204 51 = some (.iconst 0, 1, 0, 0, 0, 0) := (congrArg (fun t => List.lookup 51 t) gt204).trans rfl
theorem t204_52 : zT 204 52 = some (.istore 7, 2, 0, 0, 0, 0) := (congrArg (fun t => List.lookup 52 t) gt204).trans rfl
theorem t204_54 : zT 204 54 = some (.iload 7, 2, 0, 0, 0, 0) := (congrArg (fun t => List.lookup 54 t) gt204).trans rfl
theorem t204_56 : zT 204 56 = some (.aload_n 0, 1, 0, 0, 0, 0) := (congrArg (fun t => List.lookup 56 t) gt204).trans rfl
theorem t204_57 : zT 204 57 = some (.getfield 12, 3, 11, 0, 0, 598) := (congrArg (fun t => List.lookup 57 t) gt204).trans rfl
theorem t204_60 : zT 204 60 = some (.getfield 167, 3, 6, 3, 0, 167) := (congrArg (fun t => List.lookup 60 t) gt204).trans rfl
theorem t204_63 : zT 204 63 = some (.if_icmp .ge 88, 3, 151, 0, 0, 0) := (congrArg (fun t => List.lookup 63 t) gt204).trans rfl
theorem t204_66 : zT 204 66 = some (.aload_n 0, 1, 0, 0, 0, 0) := (congrArg (fun t => List.lookup 66 t) gt204).trans rfl
theorem t204_67 : zT 204 67 = some (.getfield 12, 3, 11, 0, 0, 598) := (congrArg (fun t => List.lookup 67 t) gt204).trans rfl
theorem t204_70 : zT 204 70 = some (.getfield 197, 3, 6, 4, 0, 170) := (congrArg (fun t => List.lookup 70 t) gt204).trans rfl
theorem t204_73 : zT 204 73 = some (.iload 7, 2, 0, 0, 0, 0) := (congrArg (fun t => List.lookup 73 t) gt204).trans rfl
theorem t204_75 : zT 204 75 = some (.iaload, 1, 0, 0, 0, 0) := (congrArg (fun t => List.lookup 75 t) gt204).trans rfl
theorem t204_76 : zT 204 76 = some (.iload_n 2, 1, 2, 0, 0, 0) := (congrArg (fun t => List.lookup 76 t) gt204).trans rfl
theorem t204_77 : zT 204 77 = some (.if_icmp .ne 68, 3, 145, 0, 0, 0) := (congrArg (fun t => List.lookup 77 t) gt204).trans rfl
theorem t204_80 : zT 204 80 = some (.aload_n 0, 1, 0, 0, 0, 0) := (congrArg (fun t => List.lookup 80 t) gt204).trans rfl
theorem t204_81 : zT 204 81 = some (.getfield 12, 3, 11, 0, 0, 598) := (congrArg (fun t => List.lookup 81 t) gt204).trans rfl
theorem t204_84 : zT 204 84 = some (.iload 7, 2, 0, 0, 0, 0) := (congrArg (fun t => List.lookup 84 t) gt204).trans rfl
theorem t204_86 : zT 204 86 = some (.invokevirtual 209, 3, 93, 0, 0, 1067) := (congrArg (fun t => List.lookup 86 t) gt204).trans rfl
theorem t204_89 : zT 204 89 = some (.ifCond .eq 56, 3, 145, 0, 0, 0) := (congrArg (fun t => List.lookup 89 t) gt204).trans rfl
theorem t204_92 : zT 204 92 = some (.aload_n 0, 1, 0, 0, 0, 0) := (congrArg (fun t => List.lookup 92 t) gt204).trans rfl
theorem t204_93 : zT 204 93 = some (.getfield 50, 3, 11, 6, 0, 604) := (congrArg (fun t => List.lookup 93 t) gt204).trans rfl
theorem t204_96 : zT 204 96 = some (.iload 7, 2, 0, 0, 0, 0) := (congrArg (fun t => List.lookup 96 t) gt204).trans rfl
theorem t204_98 : zT 204 98 = some (.invokevirtual 216, 3, 142, 0, 0, 1227) := (congrArg (fun t => List.lookup 98 t) gt204).trans rfl
theorem t204_101 : zT 204 101 = some (.ifCond .lt 6, 3, 107, 0, 0, 0) := (congrArg (fun t => List.lookup 101 t) gt204).trans rfl
theorem t204_104 : zT 204 104 = some (.goto 41, 3, 145, 0, 0, 0) := (congrArg (fun t => List.lookup 104 t) gt204).trans rfl
theorem t204_107 : zT 204 107 = some (.aload_n 0, 1, 0, 0, 0, 0) := (congrArg (fun t => List.lookup 107 t) gt204).trans rfl
theorem t204_108 : zT 204 108 = some (.getfield 12, 3, 11, 0, 0, 598) := (congrArg (fun t => List.lookup 108 t) gt204).trans rfl
theorem t204_111 : zT 204 111 = some (.getfield 200, 3, 6, 5, 0, 174) := (congrArg (fun t => List.lookup 111 t) gt204).trans rfl
theorem t204_114 : zT 204 114 = some (.iload 7, 2, 0, 0, 0, 0) := (congrArg (fun t => List.lookup 114 t) gt204).trans rfl
theorem t204_116 : zT 204 116 = some (.iaload, 1, 0, 0, 0, 0) := (congrArg (fun t => List.lookup 116 t) gt204).trans rfl
theorem t204_117 : zT 204 117 = some (.iload 4, 2, 0, 0, 0, 0) := (congrArg (fun t => List.lookup 117 t) gt204).trans rfl
theorem t204_119 : zT 204 119 = some (.isub, 1, 0, 0, 0, 0) := (congrArg (fun t => List.lookup 119 t) gt204).trans rfl
theorem t204_120 : zT 204 120 = some (.invokestatic 422, 3, 122, 1, 0, 1520) := (congrArg (fun t => List.lookup 120 t) gt204).trans rfl
theorem t204_123 : zT 204 123 = some (.istore 8, 2, 0, 0, 0, 0) := (congrArg (fun t => List.lookup 123 t) gt204).trans rfl
theorem t204_125 : zT 204 125 = some (.iload 5, 2, 0, 0, 0, 0) := (congrArg (fun t => List.lookup 125 t) gt204).trans rfl
theorem t204_127 : zT 204 127 = some (.ifCond .lt 10, 3, 137, 0, 0, 0) := (congrArg (fun t => List.lookup 127 t) gt204).trans rfl
theorem t204_130 : zT 204 130 = some (.iload 8, 2, 0, 0, 0, 0) := (congrArg (fun t => List.lookup 130 t) gt204).trans rfl
theorem t204_132 : zT 204 132 = some (.iload 6, 2, 0, 0, 0, 0) := (congrArg (fun t => List.lookup 132 t) gt204).trans rfl
theorem t204_134 : zT 204 134 = some (.if_icmp .ge 11, 3, 145, 0, 0, 0) := (congrArg (fun t => List.lookup 134 t) gt204).trans rfl
theorem t204_137 : zT 204 137 = some (.iload 7, 2, 0, 0, 0, 0) := (congrArg (fun t => List.lookup 137 t) gt204).trans rfl
theorem t204_139 : zT 204 139 = some (.istore 5, 2, 0, 0, 0, 0) := (congrArg (fun t => List.lookup 139 t) gt204).trans rfl
theorem t204_141 : zT 204 141 = some (.iload 8, 2, 0, 0, 0, 0) := (congrArg (fun t => List.lookup 141 t) gt204).trans rfl
theorem t204_143 : zT 204 143 = some (.istore 6, 2, 0, 0, 0, 0) := (congrArg (fun t => List.lookup 143 t) gt204).trans rfl
theorem t204_145 : zT 204 145 = some (.iinc 7 1, 3, 0, 0, 0, 0) := (congrArg (fun t => List.lookup 145 t) gt204).trans (by decide +kernel)
theorem t204_148 : zT 204 148 = some (.goto (-94), 3, 54, 0, 0, 0) := (congrArg (fun t => List.lookup 148 t) gt204).trans (by decide +kernel)
theorem t204_151 : zT 204 151 = some (.iload 5, 2, 0, 0, 0, 0) := (congrArg (fun t => List.lookup 151 t) gt204).trans (by decide +kernel)
theorem t204_153 : zT 204 153 = some (.ireturn, 1, 0, 0, 0, 0) := (congrArg (fun t => List.lookup 153 t) gt204).trans (by decide +kernel)
theorem t205_0 : zT 205 0 = some (.aload_n 0, 1, 0, 0, 0, 0) := (congrArg (fun t => List.lookup 0 t) gt205).trans rfl
theorem t205_1 : zT 205 1 = some (.getfield 12, 3, 11, 0, 0, 598) := (congrArg (fun t => List.lookup 1 t) gt205).trans rfl
theorem t205_4 : zT 205 4 = some (.iload_n 1, 1, 1, 0, 0, 0) := (congrArg (fun t => List.lookup 4 t) gt205).trans rfl
theorem t205_5 : zT 205 5 = some (.invokevirtual 179, 3, 41, 0, 0, 1023) := (congrArg (fun t => List.lookup 5 t) gt205).trans rfl
theorem t205_8 : zT 205 8 = some (.ifCond .eq 12, 3, 20, 0, 0, 0) := (congrArg (fun t => List.lookup 8 t) gt205).trans rfl
theorem t205_11 : zT 205 11 = some (.iload_n 2, 1, 2, 0, 0, 0) := (congrArg (fun t => List.lookup 11 t) gt205).trans rfl
theorem t205_12 : zT 205 12 = some (.iconst 0, 1, 0, 0, 0, 0) := (congrArg (fun t => List.lookup 12 t) gt205).trans rfl
theorem t205_13 : zT 205 13 = some (.iconst 1, 1, 0, 0, 1, 0) := (congrArg (fun t => List.lookup 13 t) gt205).trans rfl
theorem t205_14 : zT 205 14 = some (.invokestatic 246, 3, 39, 1, 0, 1028) := (congrArg (fun t => List.lookup 14 t) gt205).trans rfl
theorem t205_17 : zT 205 17 = some (.ifCond .ne 6, 3, 23, 0, 0, 0) := (congrArg (fun t => List.lookup 17 t) gt205).trans rfl
theorem t205_20 : zT 205 20 = some (.ldc 196, 2, 0, 0, (-100000), 1066) := (congrArg (fun t => List.lookup 20 t) gt205).trans rfl
theorem t205_22 : zT 205 22 = some (.ireturn, 1, 0, 0, 0, 0) := (congrArg (fun t => List.lookup 22 t) gt205).trans rfl
theorem t205_23 : zT 205 23 = some (.iconst 0, 1, 0, 0, 0, 0) := (congrArg (fun t => List.lookup 23 t) gt205).trans rfl
theorem t205_24 : zT 205 24 = some (.istore_n 3, 1, 3, 0, 0, 0) := (congrArg (fun t => List.lookup 24 t) gt205).trans rfl
theorem t205_25 : zT 205 25 = some (.iconst 0, 1, 0, 0, 0, 0) := (congrArg (fun t => List.lookup 25 t) gt205).trans rfl
theorem t205_26 : zT 205 26 = some (.istore 4, 2, 0, 0, 0, 0) := (congrArg (fun t => List.lookup 26 t) gt205).trans rfl
theorem t205_28 : zT 205 28 = some (.aload_n 0, 1, 0, 0, 0, 0) := (congrArg (fun t => List.lookup 28 t) gt205).trans rfl
theorem t205_29 : zT 205 29 = some (.getfield 50, 3, 11, 6, 0, 604) := (congrArg (fun t => List.lookup 29 t) gt205).trans rfl
theorem t205_32 : zT 205 32 = some (.aload_n 0, 1, 0, 0, 0, 0) := (congrArg (fun t => List.lookup 32 t) gt205).trans rfl
theorem t205_33 : zT 205 33 = some (.getfield 12, 3, 11, 0, 0, 598) := (congrArg (fun t => List.lookup 33 t) gt205).trans rfl
theorem t205_36 : zT 205 36 = some (.invokevirtual 212, 3, 105, 0, 0, 1068) := (congrArg (fun t => List.lookup 36 t) gt205).trans rfl
theorem t205_39 : zT 205 39 = some (.invokevirtual 234, 3, 144, 0, 0, 1237) := (congrArg (fun t => List.lookup 39 t) gt205).trans rfl
theorem t205_42 : zT 205 42 = some (.istore 5, 2, 0, 0, 0, 0) := (congrArg (fun t => List.lookup 42 t) gt205).trans rfl
theorem t205_44 : zT 205 44 = some (.iconst 0, 1, 0, 0, 0, 0) := (congrArg (fun t => List.lookup 44 t) gt205).trans rfl
theorem t205_45 : zT 205 45 = some (.istore 6, 2, 0, 0, 0, 0) := (congrArg (fun t => List.lookup 45 t) gt205).trans rfl
theorem t205_47 : zT 205 47 = some (.iload 6, 2, 0, 0, 0, 0) := (congrArg (fun t => List.lookup 47 t) gt205).trans rfl
theorem t205_49 : zT 205 49 = some (.iload 5, 2, 0, 0, 0, 0) := (congrArg (fun t => List.lookup 49 t) gt205).trans rfl
theorem t205_51 : zT 205 51 = some (.if_icmp .ge 69, 3, 120, 0, 0, 0) := (congrArg (fun t => List.lookup 51 t) gt205).trans rfl
theorem t205_54 : zT 205 54 = some (.aload_n 0, 1, 0, 0, 0, 0) := (congrArg (fun t => List.lookup 54 t) gt205).trans rfl
theorem t205_55 : zT 205 55 = some (.getfield 50, 3, 11, 6, 0, 604) := (congrArg (fun t => List.lookup 55 t) gt205).trans rfl
theorem t205_58 : zT 205 58 = some (.iload 6, 2, 0, 0, 0, 0) := (congrArg (fun t => List.lookup 58 t) gt205).trans rfl
theorem t205_60 : zT 205 60 = some (.invokevirtual 256, 3, 163, 0, 0, 1356) := (congrArg (fun t => List.lookup 60 t) gt205).trans rfl
theorem t205_63 : zT 205 63 = some (.astore 7, 2, 0, 0, 0, 0) := (congrArg (fun t => List.lookup 63 t) gt205).trans rfl
theorem t205_65 : zT 205 65 = some (.aload 7, 2, 0, 0, 0, 0) := (congrArg (fun t => List.lookup 65 t) gt205).trans rfl
theorem t205_67 : zT 205 67 = some (.ifnull 47, 3, 114, 0, 0, 0) := (congrArg (fun t => List.lookup 67 t) gt205).trans rfl
theorem t205_70 : zT 205 70 = some (.aload 7, 2, 0, 0, 0, 0) := (congrArg (fun t => List.lookup 70 t) gt205).trans rfl
theorem t205_72 : zT 205 72 = some (.getfield 287, 3, 8, 6, 0, 437) := (congrArg (fun t => List.lookup 72 t) gt205).trans rfl
theorem t205_75 : zT 205 75 = some (.iload_n 1, 1, 1, 0, 0, 0) := (congrArg (fun t => List.lookup 75 t) gt205).trans rfl
theorem t205_76 : zT 205 76 = some (.iaload, 1, 0, 0, 0, 0) := (congrArg (fun t => List.lookup 76 t) gt205).trans rfl
theorem t205_77 : zT 205 77 = some (.ifCond .lt 37, 3, 114, 0, 0, 0) := (congrArg (fun t => List.lookup 77 t) gt205).trans rfl
theorem t205_80 : zT 205 80 = some (.iinc 3 1, 3, 0, 0, 0, 0) := (congrArg (fun t => List.lookup 80 t) gt205).trans rfl
theorem t205_83 : zT 205 83 = some (.iload 4, 2, 0, 0, 0, 0) := (congrArg (fun t => List.lookup 83 t) gt205).trans rfl
theorem t205_85 : zT 205 85 = some (.aload_n 0, 1, 0, 0, 0, 0) := (congrArg (fun t => List.lookup 85 t) gt205).trans rfl
theorem t205_86 : zT 205 86 = some (.getfield 12, 3, 11, 0, 0, 598) := (congrArg (fun t => List.lookup 86 t) gt205).trans rfl
theorem t205_89 : zT 205 89 = some (.getfield 200, 3, 6, 5, 0, 174) := (congrArg (fun t => List.lookup 89 t) gt205).trans rfl
theorem t205_92 : zT 205 92 = some (.aload 7, 2, 0, 0, 0, 0) := (congrArg (fun t => List.lookup 92 t) gt205).trans rfl
theorem t205_94 : zT 205 94 = some (.getfield 287, 3, 8, 6, 0, 437) := (congrArg (fun t => List.lookup 94 t) gt205).trans rfl
theorem t205_97 : zT 205 97 = some (.iload_n 1, 1, 1, 0, 0, 0) := (congrArg (fun t => List.lookup 97 t) gt205).trans rfl
theorem t205_98 : zT 205 98 = some (.iaload, 1, 0, 0, 0, 0) := (congrArg (fun t => List.lookup 98 t) gt205).trans rfl
theorem t205_99 : zT 205 99 = some (.iaload, 1, 0, 0, 0, 0) := (congrArg (fun t => List.lookup 99 t) gt205).trans rfl
theorem t205_100 : zT 205 100 = some (.aload 7, 2, 0, 0, 0, 0) := (congrArg (fun t => List.lookup 100 t) gt205).trans rfl
theorem t205_102 : zT 205 102 = some (.aload_n 0, 1, 0, 0, 0, 0) := (congrArg (fun t => List.lookup 102 t) gt205).trans rfl
theorem t205_103 : zT 205 103 = some (.getfield 12, 3, 11, 0, 0, 598) := (congrArg (fun t => List.lookup 103 t) gt205).trans rfl
theorem t205_106 : zT 205 106 = some (.iload_n 1, 1, 1, 0, 0, 0) := (congrArg (fun t => List.lookup 106 t) gt205).trans rfl
theorem t205_107 : zT 205 107 = some (.invokevirtual 419, 3, 202, 0, 0, 1507) := (congrArg (fun t => List.lookup 107 t) gt205).trans rfl
theorem t205_110 : zT 205 110 = some (.isub, 1, 0, 0, 0, 0) := (congrArg (fun t => List.lookup 110 t) gt205).trans rfl
theorem t205_111 : zT 205 111 = some (.iadd, 1, 0, 0, 0, 0) := (congrArg (fun t => List.lookup 111 t) gt205).trans rfl
theorem t205_112 : zT 205 112 = some (.istore 4, 2, 0, 0, 0, 0) := (congrArg (fun t => List.lookup 112 t) gt205).trans rfl
theorem t205_114 : zT 205 114 = some (.iinc 6 1, 3, 0, 0, 0, 0) := (congrArg (fun t => List.lookup 114 t) gt205).trans rfl
theorem t205_117 : zT 205 117 = some (.goto (-70), 3, 47, 0, 0, 0) := (congrArg (fun t => List.lookup 117 t) gt205).trans rfl
theorem t205_120 : zT 205 120 = some (.iload_n 2, 1, 2, 0, 0, 0) := (congrArg (fun t => List.lookup 120 t) gt205).trans rfl
theorem t205_121 : zT 205 121 = some (.iconst 1, 1, 0, 0, 1, 0) := (congrArg (fun t => List.lookup 121 t) gt205).trans rfl
theorem t205_122 : zT 205 122 = some (.if_icmp .ne 5, 3, 127, 0, 0, 0) := (congrArg (fun t => List.lookup 122 t) gt205).trans rfl
theorem t205_125 : zT 205 125 = some (.iload_n 3, 1, 3, 0, 0, 0) := (congrArg (fun t => List.lookup 125 t) gt205).trans rfl
theorem t205_126 : zT 205 126 = some (.ireturn, 1, 0, 0, 0, 0) := (congrArg (fun t => List.lookup 126 t) gt205).trans rfl
theorem t205_127 : zT 205 127 = some (.iload_n 3, 1, 3, 0, 0, 0) := (congrArg (fun t => List.lookup 127 t) gt205).trans rfl
theorem t205_128 : zT 205 128 = some (.ifCond .ne 7, 3, 135, 0, 0, 0) := (congrArg (fun t => List.lookup 128 t) gt205).trans rfl
theorem t205_131 : zT 205 131 = some (.iconst 0, 1, 0, 0, 0, 0) := (congrArg (fun t => List.lookup 131 t) gt205).trans rfl
theorem t205_132 : zT 205 132 = some (.goto 9, 3, 141, 0, 0, 0) := (congrArg (fun t => List.lookup 132 t) gt205).trans rfl
theorem t205_135 : zT 205 135 = some (.iload 4, 2, 0, 0, 0, 0) := (congrArg (fun t => List.lookup 135 t) gt205).trans rfl
theorem t205_137 : zT 205 137 = some (.iload_n 3, 1, 3, 0, 0, 0) := (congrArg (fun t => List.lookup 137 t) gt205).trans (by decide +kernel)
theorem t205_138 : zT 205 138 = some (.invokestatic 425, 3, 54, 1, 0, 1525) := (congrArg (fun t => List.lookup 138 t) gt205).trans (by decide +kernel)
theorem t205_141 : zT 205 141 = some (.ireturn, 1, 0, 0, 0, 0) := (congrArg (fun t => List.lookup 141 t) gt205).trans (by decide +kernel)
theorem t206_0 : zT 206 0 = some (.aload_n 0, 1, 0, 0, 0, 0) := (congrArg (fun t => List.lookup 0 t) gt206).trans rfl
theorem t206_1 : zT 206 1 = some (.getfield 12, 3, 11, 0, 0, 598) := (congrArg (fun t => List.lookup 1 t) gt206).trans rfl
theorem t206_4 : zT 206 4 = some (.iload_n 1, 1, 1, 0, 0, 0) := (congrArg (fun t => List.lookup 4 t) gt206).trans rfl
theorem t206_5 : zT 206 5 = some (.invokevirtual 179, 3, 41, 0, 0, 1023) := (congrArg (fun t => List.lookup 5 t) gt206).trans rfl
theorem t206_8 : zT 206 8 = some (.ifCond .eq 16, 3, 24, 0, 0, 0) := (congrArg (fun t => List.lookup 8 t) gt206).trans rfl
theorem t206_11 : zT 206 11 = some (.iload_n 2, 1, 2, 0, 0, 0) := (congrArg (fun t => List.lookup 11 t) gt206).trans rfl
theorem t206_12 : zT 206 12 = some (.sipush (-999), 3, 0, 0, (-999), 0) := (congrArg (fun t => List.lookup 12 t) gt206).trans rfl
theorem t206_15 : zT 206 15 = some (.sipush 999, 3, 0, 0, 999, 0) := (congrArg (fun t => List.lookup 15 t) gt206).trans rfl
theorem t206_18 : zT 206 18 = some (.invokestatic 246, 3, 39, 1, 0, 1028) := (congrArg (fun t => List.lookup 18 t) gt206).trans rfl
theorem t206_21 : zT 206 21 = some (.ifCond .ne 5, 3, 26, 0, 0, 0) := (congrArg (fun t => List.lookup 21 t) gt206).trans rfl
theorem t206_24 : zT 206 24 = some (.iconst (-1), 1, 0, 0, (-1), 0) := (congrArg (fun t => List.lookup 24 t) gt206).trans rfl
theorem t206_25 : zT 206 25 = some (.ireturn, 1, 0, 0, 0, 0) := (congrArg (fun t => List.lookup 25 t) gt206).trans rfl
theorem t206_26 : zT 206 26 = some (.aload_n 0, 1, 0, 0, 0, 0) := (congrArg (fun t => List.lookup 26 t) gt206).trans rfl
theorem t206_27 : zT 206 27 = some (.getfield 22, 3, 11, 2, 0, 600) := (congrArg (fun t => List.lookup 27 t) gt206).trans rfl
theorem t206_30 : zT 206 30 = some (.aload_n 0, 1, 0, 0, 0, 0) := (congrArg (fun t => List.lookup 30 t) gt206).trans rfl
theorem t206_31 : zT 206 31 = some (.getfield 12, 3, 11, 0, 0, 598) := (congrArg (fun t => List.lookup 31 t) gt206).trans rfl
theorem t206_34 : zT 206 34 = some (.invokevirtual 108, 3, 58, 0, 0, 817) := (congrArg (fun t => List.lookup 34 t) gt206).trans rfl
theorem t206_37 : zT 206 37 = some (.aload_n 0, 1, 0, 0, 0, 0) := (congrArg (fun t => List.lookup 37 t) gt206).trans rfl
theorem t206_38 : zT 206 38 = some (.invokevirtual 111, 3, 59, 0, 0, 823) := (congrArg (fun t => List.lookup 38 t) gt206).trans rfl
theorem t206_41 : zT 206 41 = some (.iconst 0, 1, 0, 0, 0, 0) := (congrArg (fun t => List.lookup 41 t) gt206).trans rfl
theorem t206_42 : zT 206 42 = some (.istore_n 3, 1, 3, 0, 0, 0) := (congrArg (fun t => List.lookup 42 t) gt206).trans rfl
theorem t206_43 : zT 206 43 = some (.iconst 0, 1, 0, 0, 0, 0) := (congrArg (fun t => List.lookup 43 t) gt206).trans rfl
theorem t206_44 : zT 206 44 = some (.istore 4, 2, 0, 0, 0, 0) := (congrArg (fun t => List.lookup 44 t) gt206).trans rfl
theorem t206_46 : zT 206 46 = some (.iload 4, 2, 0, 0, 0, 0) := (congrArg (fun t => List.lookup 46 t) gt206).trans rfl
theorem t206_48 : zT 206 48 = some (.aload_n 0, 1, 0, 0, 0, 0) := (congrArg (fun t => List.lookup 48 t) gt206).trans rfl
theorem t206_49 : zT 206 49 = some (.getfield 12, 3, 11, 0, 0, 598) := (congrArg (fun t => List.lookup 49 t) gt206).trans rfl
theorem t206_52 : zT 206 52 = some (.getfield 167, 3, 6, 3, 0, 167) := (congrArg (fun t => List.lookup 52 t) gt206).trans rfl
theorem t206_55 : zT 206 55 = some (.if_icmp .ge 58, 3, 113, 0, 0, 0) := (congrArg (fun t => List.lookup 55 t) gt206).trans rfl
theorem t206_58 : zT 206 58 = some (.aload_n 0, 1, 0, 0, 0, 0) := (congrArg (fun t => List.lookup 58 t) gt206).trans rfl
theorem t206_59 : zT 206 59 = some (.getfield 12, 3, 11, 0, 0, 598) := (congrArg (fun t => List.lookup 59 t) gt206).trans rfl
theorem t206_62 : zT 206 62 = some (.getfield 197, 3, 6, 4, 0, 170) := (congrArg (fun t => List.lookup 62 t) gt206).trans rfl
theorem t206_65 : zT 206 65 = some (.iload 4, 2, 0, 0, 0, 0) := (congrArg (fun t => List.lookup 65 t) gt206).trans rfl
theorem t206_67 : zT 206 67 = some (.iaload, 1, 0, 0, 0, 0) := (congrArg (fun t => List.lookup 67 t) gt206).trans rfl
theorem t206_68 : zT 206 68 = some (.iload_n 1, 1, 1, 0, 0, 0) := (congrArg (fun t => List.lookup 68 t) gt206).trans rfl
theorem t206_69 : zT 206 69 = some (.if_icmp .ne 38, 3, 107, 0, 0, 0) := (congrArg (fun t => List.lookup 69 t) gt206).trans rfl
theorem t206_72 : zT 206 72 = some (.aload_n 0, 1, 0, 0, 0, 0) := (congrArg (fun t => List.lookup 72 t) gt206).trans rfl
theorem t206_73 : zT 206 73 = some (.getfield 12, 3, 11, 0, 0, 598) := (congrArg (fun t => List.lookup 73 t) gt206).trans rfl
theorem t206_76 : zT 206 76 = some (.getfield 200, 3, 6, 5, 0, 174) := (congrArg (fun t => List.lookup 76 t) gt206).trans rfl
theorem t206_79 : zT 206 79 = some (.iload 4, 2, 0, 0, 0, 0) := (congrArg (fun t => List.lookup 79 t) gt206).trans rfl
theorem t206_81 : zT 206 81 = some (.iaload, 1, 0, 0, 0, 0) := (congrArg (fun t => List.lookup 81 t) gt206).trans rfl
theorem t206_82 : zT 206 82 = some (.iload_n 2, 1, 2, 0, 0, 0) := (congrArg (fun t => List.lookup 82 t) gt206).trans rfl
theorem t206_83 : zT 206 83 = some (.iadd, 1, 0, 0, 0, 0) := (congrArg (fun t => List.lookup 83 t) gt206).trans rfl
theorem t206_84 : zT 206 84 = some (.invokestatic 428, 3, 42, 1, 0, 1530) := (congrArg (fun t => List.lookup 84 t) gt206).trans rfl
theorem t206_87 : zT 206 87 = some (.ifCond .eq 20, 3, 107, 0, 0, 0) := (congrArg (fun t => List.lookup 87 t) gt206).trans rfl
theorem t206_90 : zT 206 90 = some (.aload_n 0, 1, 0, 0, 0, 0) := (congrArg (fun t => List.lookup 90 t) gt206).trans rfl
theorem t206_91 : zT 206 91 = some (.getfield 12, 3, 11, 0, 0, 598) := (congrArg (fun t => List.lookup 91 t) gt206).trans rfl
theorem t206_94 : zT 206 94 = some (.getfield 200, 3, 6, 5, 0, 174) := (congrArg (fun t => List.lookup 94 t) gt206).trans rfl
theorem t206_97 : zT 206 97 = some (.iload 4, 2, 0, 0, 0, 0) := (congrArg (fun t => List.lookup 97 t) gt206).trans rfl
theorem t206_99 : zT 206 99 = some (.dup2, 1, 0, 0, 0, 0) := (congrArg (fun t => List.lookup 99 t) gt206).trans rfl
theorem t206_100 : zT 206 100 = some (.iaload, 1, 0, 0, 0, 0) := (congrArg (fun t => List.lookup 100 t) gt206).trans rfl
theorem t206_101 : zT 206 101 = some (.iload_n 2, 1, 2, 0, 0, 0) := (congrArg (fun t => List.lookup 101 t) gt206).trans rfl
theorem t206_102 : zT 206 102 = some (.iadd, 1, 0, 0, 0, 0) := (congrArg (fun t => List.lookup 102 t) gt206).trans rfl
theorem t206_103 : zT 206 103 = some (.iastore, 1, 0, 0, 0, 0) := (congrArg (fun t => List.lookup 103 t) gt206).trans rfl
theorem t206_104 : zT 206 104 = some (.iinc 3 1, 3, 0, 0, 0, 0) := (congrArg (fun t => List.lookup 104 t) gt206).trans rfl
theorem t206_107 : zT 206 107 = some (.iinc 4 1, 3, 0, 0, 0, 0) := (congrArg (fun t => List.lookup 107 t) gt206).trans rfl
theorem t206_110 : zT 206 110 = some (.goto (-64), 3, 46, 0, 0, 0) := (congrArg (fun t => List.lookup 110 t) gt206).trans rfl
theorem t206_113 : zT 206 113 = some (.iload_n 3, 1, 3, 0, 0, 0) := (congrArg (fun t => List.lookup 113 t) gt206).trans rfl
theorem t206_114 : zT 206 114 = some (.ireturn, 1, 0, 0, 0, 0) := (congrArg (fun t => List.lookup 114 t) gt206).trans rfl
theorem t207_0 : zT 207 0 = some (.iload_n 1, 1, 1, 0, 0, 0) := (congrArg (fun t => List.lookup 0 t) gt207).trans rfl
theorem t207_1 : zT 207 1 = some (.iconst 0, 1, 0, 0, 0, 0) := (congrArg (fun t => List.lookup 1 t) gt207).trans rfl
theorem t207_2 : zT 207 2 = some (.bipush 19, 2, 0, 0, 19, 0) := (congrArg (fun t => List.lookup 2 t) gt207).trans rfl
theorem t207_4 : zT 207 4 = some (.invokestatic 246, 3, 39, 1, 0, 1028) := (congrArg (fun t => List.lookup 4 t) gt207).trans rfl
theorem t207_7 : zT 207 7 = some (.ifCond .eq 12, 3, 19, 0, 0, 0) := (congrArg (fun t => List.lookup 7 t) gt207).trans rfl
theorem t207_10 : zT 207 10 = some (.iload_n 2, 1, 2, 0, 0, 0) := (congrArg (fun t => List.lookup 10 t) gt207).trans rfl
theorem t207_11 : zT 207 11 = some (.iconst 0, 1, 0, 0, 0, 0) := (congrArg (fun t => List.lookup 11 t) gt207).trans rfl
theorem t207_12 : zT 207 12 = some (.iconst 3, 1, 0, 0, 3, 0) := (congrArg (fun t => List.lookup 12 t) gt207).trans rfl
theorem t207_13 : zT 207 13 = some (.invokestatic 246, 3, 39, 1, 0, 1028) := (congrArg (fun t => List.lookup 13 t) gt207).trans rfl
theorem t207_16 : zT 207 16 = some (.ifCond .ne 6, 3, 22, 0, 0, 0) := (congrArg (fun t => List.lookup 16 t) gt207).trans rfl
theorem t207_19 : zT 207 19 = some (.ldc 196, 2, 0, 0, (-100000), 1066) := (congrArg (fun t => List.lookup 19 t) gt207).trans rfl
theorem t207_21 : zT 207 21 = some (.ireturn, 1, 0, 0, 0, 0) := (congrArg (fun t => List.lookup 21 t) gt207).trans rfl
theorem t207_22 : zT 207 22 = some (.aload_n 0, 1, 0, 0, 0, 0) := (congrArg (fun t => List.lookup 22 t) gt207).trans rfl
theorem t207_23 : zT 207 23 = some (.getfield 57, 3, 11, 7, 0, 605) := (congrArg (fun t => List.lookup 23 t) gt207).trans rfl
theorem t207_26 : zT 207 26 = some (.aload_n 0, 1, 0, 0, 0, 0) := (congrArg (fun t => List.lookup 26 t) gt207).trans rfl
theorem t207_27 : zT 207 27 = some (.getfield 12, 3, 11, 0, 0, 598) := (congrArg (fun t => List.lookup 27 t) gt207).trans rfl
theorem t207_30 : zT 207 30 = some (.aload_n 0, 1, 0, 0, 0, 0) := (congrArg (fun t => List.lookup 30 t) gt207).trans rfl
theorem t207_31 : zT 207 31 = some (.getfield 50, 3, 11, 6, 0, 604) := (congrArg (fun t => List.lookup 31 t) gt207).trans rfl
theorem t207_34 : zT 207 34 = some (.aload_n 0, 1, 0, 0, 0, 0) := (congrArg (fun t => List.lookup 34 t) gt207).trans rfl
theorem t207_35 : zT 207 35 = some (.getfield 12, 3, 11, 0, 0, 598) := (congrArg (fun t => List.lookup 35 t) gt207).trans rfl
theorem t207_38 : zT 207 38 = some (.invokevirtual 212, 3, 105, 0, 0, 1068) := (congrArg (fun t => List.lookup 38 t) gt207).trans rfl
theorem t207_41 : zT 207 41 = some (.invokevirtual 344, 3, 153, 0, 0, 1277) := (congrArg (fun t => List.lookup 41 t) gt207).trans rfl
theorem t207_44 : zT 207 44 = some (.iload_n 1, 1, 1, 0, 0, 0) := (congrArg (fun t => List.lookup 44 t) gt207).trans rfl
theorem t207_45 : zT 207 45 = some (.iload_n 2, 1, 2, 0, 0, 0) := (congrArg (fun t => List.lookup 45 t) gt207).trans rfl
theorem t207_46 : zT 207 46 = some (.invokevirtual 431, 3, 208, 0, 0, 1535) := (congrArg (fun t => List.lookup 46 t) gt207).trans rfl
theorem t207_49 : zT 207 49 = some (.ireturn, 1, 0, 0, 0, 0) := (congrArg (fun t => List.lookup 49 t) gt207).trans rfl
theorem t208_0 : zT 208 0 = some (.iload_n 1, 1, 1, 0, 0, 0) := (congrArg (fun t => List.lookup 0 t) gt208).trans rfl
theorem t208_1 : zT 208 1 = some (.istore_n 3, 1, 3, 0, 0, 0) := (congrArg (fun t => List.lookup 1 t) gt208).trans rfl
theorem t208_2 : zT 208 2 = some (.bipush 8, 2, 0, 0, 8, 0) := (congrArg (fun t => List.lookup 2 t) gt208).trans rfl
theorem t208_4 : zT 208 4 = some (.istore 4, 2, 0, 0, 0, 0) := (congrArg (fun t => List.lookup 4 t) gt208).trans rfl
theorem t208_6 : zT 208 6 = some (.iload 4, 2, 0, 0, 0, 0) := (congrArg (fun t => List.lookup 6 t) gt208).trans rfl
theorem t208_8 : zT 208 8 = some (.ifCond .lt 49, 3, 57, 0, 0, 0) := (congrArg (fun t => List.lookup 8 t) gt208).trans rfl
theorem t208_11 : zT 208 11 = some (.iload_n 3, 1, 3, 0, 0, 0) := (congrArg (fun t => List.lookup 11 t) gt208).trans rfl
theorem t208_12 : zT 208 12 = some (.ifCond .lt 45, 3, 57, 0, 0, 0) := (congrArg (fun t => List.lookup 12 t) gt208).trans rfl
theorem t208_15 : zT 208 15 = some (.iload_n 3, 1, 3, 0, 0, 0) := (congrArg (fun t => List.lookup 15 t) gt208).trans rfl
theorem t208_16 : zT 208 16 = some (.aload_n 0, 1, 0, 0, 0, 0) := (congrArg (fun t => List.lookup 16 t) gt208).trans rfl
theorem t208_17 : zT 208 17 = some (.getfield 19, 3, 1, 2, 0, 546) := (congrArg (fun t => List.lookup 17 t) gt208).trans rfl
theorem t208_20 : zT 208 20 = some (.iload 4, 2, 0, 0, 0, 0) := (congrArg (fun t => List.lookup 20 t) gt208).trans rfl
theorem t208_22 : zT 208 22 = some (.iaload, 1, 0, 0, 0, 0) := (congrArg (fun t => List.lookup 22 t) gt208).trans rfl
theorem t208_23 : zT 208 23 = some (.if_icmp .ge 18, 3, 41, 0, 0, 0) := (congrArg (fun t => List.lookup 23 t) gt208).trans rfl
theorem t208_26 : zT 208 26 = some (.aload_n 0, 1, 0, 0, 0, 0) := (congrArg (fun t => List.lookup 26 t) gt208).trans rfl
theorem t208_27 : zT 208 27 = some (.iload 4, 2, 0, 0, 0, 0) := (congrArg (fun t => List.lookup 27 t) gt208).trans rfl
theorem t208_29 : zT 208 29 = some (.iload 4, 2, 0, 0, 0, 0) := (congrArg (fun t => List.lookup 29 t) gt208).trans rfl
theorem t208_31 : zT 208 31 = some (.bipush 20, 2, 0, 0, 20, 0) := (congrArg (fun t => List.lookup 31 t) gt208).trans rfl
theorem t208_33 : zT 208 33 = some (.imul, 1, 0, 0, 0, 0) := (congrArg (fun t => List.lookup 33 t) gt208).trans rfl
theorem t208_34 : zT 208 34 = some (.iload_n 3, 1, 3, 0, 0, 0) := (congrArg (fun t => List.lookup 34 t) gt208).trans rfl
theorem t208_35 : zT 208 35 = some (.iadd, 1, 0, 0, 0, 0) := (congrArg (fun t => List.lookup 35 t) gt208).trans rfl
theorem t208_36 : zT 208 36 = some (.iload_n 2, 1, 2, 0, 0, 0) := (congrArg (fun t => List.lookup 36 t) gt208).trans rfl
theorem t208_37 : zT 208 37 = some (.invokevirtual 126, 3, 209, 0, 0, 1539) := (congrArg (fun t => List.lookup 37 t) gt208).trans rfl
theorem t208_40 : zT 208 40 = some (.ireturn, 1, 0, 0, 0, 0) := (congrArg (fun t => List.lookup 40 t) gt208).trans rfl
theorem t208_41 : zT 208 41 = some (.iload_n 3, 1, 3, 0, 0, 0) := (congrArg (fun t => List.lookup 41 t) gt208).trans rfl
theorem t208_42 : zT 208 42 = some (.aload_n 0, 1, 0, 0, 0, 0) := (congrArg (fun t => List.lookup 42 t) gt208).trans rfl
theorem t208_43 : zT 208 43 = some (.getfield 19, 3, 1, 2, 0, 546) := (congrArg (fun t => List.lookup 43 t) gt208).trans rfl
theorem t208_46 : zT 208 46 = some (.iload 4, 2, 0, 0, 0, 0) := (congrArg (fun t => List.lookup 46 t) gt208).trans rfl
theorem t208_48 : zT 208 48 = some (.iaload, 1, 0, 0, 0, 0) := (congrArg (fun t => List.lookup 48 t) gt208).trans rfl
theorem t208_49 : zT 208 49 = some (.isub, 1, 0, 0, 0, 0) := (congrArg (fun t => List.lookup 49 t) gt208).trans rfl
theorem t208_50 : zT 208 50 = some (.istore_n 3, 1, 3, 0, 0, 0) := (congrArg (fun t => List.lookup 50 t) gt208).trans rfl
theorem t208_51 : zT 208 51 = some (.iinc 4 (-1), 3, 0, 0, 0, 0) := (congrArg (fun t => List.lookup 51 t) gt208).trans rfl
theorem t208_54 : zT 208 54 = some (.goto (-48), 3, 6, 0, 0, 0) := (congrArg (fun t => List.lookup 54 t) gt208).trans rfl
theorem t208_57 : zT 208 57 = some (.ldc 130, 2, 0, 0, (-100000), 1543) := (congrArg (fun t => List.lookup 57 t) gt208).trans rfl
theorem t208_59 : zT 208 59 = some (.ireturn, 1, 0, 0, 0, 0) := (congrArg (fun t => List.lookup 59 t) gt208).trans rfl
theorem t209_0 : zT 209 0 = some (.iload_n 3, 1, 3, 0, 0, 0) := (congrArg (fun t => List.lookup 0 t) gt209).trans rfl
theorem t209_1 : zT 209 1 = some (.tableswitch 54 0 3 #[31, 38, 45, 52], 31, 0, 0, 0, 0) := (congrArg (fun t => List.lookup 1 t) gt209).trans rfl
theorem t209_32 : zT 209 32 = some (.aload_n 0, 1, 0, 0, 0, 0) := (congrArg (fun t => List.lookup 32 t) gt209).trans rfl
theorem t209_33 : zT 209 33 = some (.getfield 23, 3, 1, 3, 0, 547) := (congrArg (fun t => List.lookup 33 t) gt209).trans rfl
theorem t209_36 : zT 209 36 = some (.iload_n 2, 1, 2, 0, 0, 0) := (congrArg (fun t => List.lookup 36 t) gt209).trans rfl
theorem t209_37 : zT 209 37 = some (.iaload, 1, 0, 0, 0, 0) := (congrArg (fun t => List.lookup 37 t) gt209).trans rfl
theorem t209_38 : zT 209 38 = some (.ireturn, 1, 0, 0, 0, 0) := (congrArg (fun t => List.lookup 38 t) gt209).trans rfl
theorem t209_39 : zT 209 39 = some (.aload_n 0, 1, 0, 0, 0, 0) := (congrArg (fun t => List.lookup 39 t) gt209).trans rfl
theorem t209_40 : zT 209 40 = some (.getfield 26, 3, 1, 4, 0, 548) := (congrArg (fun t => List.lookup 40 t) gt209).trans rfl
theorem t209_43 : zT 209 43 = some (.iload_n 2, 1, 2, 0, 0, 0) := (congrArg (fun t => List.lookup 43 t) gt209).trans rfl
theorem t209_44 : zT 209 44 = some (.iaload, 1, 0, 0, 0, 0) := (congrArg (fun t => List.lookup 44 t) gt209).trans rfl
theorem t209_45 : zT 209 45 = some (.ireturn, 1, 0, 0, 0, 0) := (congrArg (fun t => List.lookup 45 t) gt209).trans rfl
theorem t209_46 : zT 209 46 = some (.aload_n 0, 1, 0, 0, 0, 0) := (congrArg (fun t => List.lookup 46 t) gt209).trans rfl
theorem t209_47 : zT 209 47 = some (.getfield 29, 3, 1, 5, 0, 549) := (congrArg (fun t => List.lookup 47 t) gt209).trans rfl
theorem t209_50 : zT 209 50 = some (.iload_n 2, 1, 2, 0, 0, 0) := (congrArg (fun t => List.lookup 50 t) gt209).trans rfl
theorem t209_51 : zT 209 51 = some (.iaload, 1, 0, 0, 0, 0) := (congrArg (fun t => List.lookup 51 t) gt209).trans rfl
theorem t209_52 : zT 209 52 = some (.ireturn, 1, 0, 0, 0, 0) := (congrArg (fun t => List.lookup 52 t) gt209).trans rfl
theorem t209_53 : zT 209 53 = some (.iload_n 1, 1, 1, 0, 0, 0) := (congrArg (fun t => List.lookup 53 t) gt209).trans rfl
theorem t209_54 : zT 209 54 = some (.ireturn, 1, 0, 0, 0, 0) := (congrArg (fun t => List.lookup 54 t) gt209).trans rfl
theorem t209_55 : zT 209 55 = some (.ldc 130, 2, 0, 0, (-100000), 1543) := (congrArg (fun t => List.lookup 55 t) gt209).trans rfl
theorem t209_57 : zT 209 57 = some (.ireturn, 1, 0, 0, 0, 0) := (congrArg (fun t => List.lookup 57 t) gt209).trans rfl
theorem t210_0 : zT 210 0 = some (.iload_n 1, 1, 1, 0, 0, 0) := (congrArg (fun t => List.lookup 0 t) gt210).trans rfl
theorem t210_1 : zT 210 1 = some (.iconst 1, 1, 0, 0, 1, 0) := (congrArg (fun t => List.lookup 1 t) gt210).trans rfl
theorem t210_2 : zT 210 2 = some (.sipush 1000, 3, 0, 0, 1000, 0) := (congrArg (fun t => List.lookup 2 t) gt210).trans rfl
theorem t210_5 : zT 210 5 = some (.invokestatic 246, 3, 39, 1, 0, 1028) := (congrArg (fun t => List.lookup 5 t) gt210).trans rfl
theorem t210_8 : zT 210 8 = some (.ifCond .eq 12, 3, 20, 0, 0, 0) := (congrArg (fun t => List.lookup 8 t) gt210).trans rfl
theorem t210_11 : zT 210 11 = some (.iload_n 2, 1, 2, 0, 0, 0) := (congrArg (fun t => List.lookup 11 t) gt210).trans rfl
theorem t210_12 : zT 210 12 = some (.iconst 0, 1, 0, 0, 0, 0) := (congrArg (fun t => List.lookup 12 t) gt210).trans rfl
theorem t210_13 : zT 210 13 = some (.iconst 1, 1, 0, 0, 1, 0) := (congrArg (fun t => List.lookup 13 t) gt210).trans rfl
theorem t210_14 : zT 210 14 = some (.invokestatic 246, 3, 39, 1, 0, 1028) := (congrArg (fun t => List.lookup 14 t) gt210).trans rfl
theorem t210_17 : zT 210 17 = some (.ifCond .ne 5, 3, 22, 0, 0, 0) := (congrArg (fun t => List.lookup 17 t) gt210).trans rfl
theorem t210_20 : zT 210 20 = some (.iconst (-1), 1, 0, 0, (-1), 0) := (congrArg (fun t => List.lookup 20 t) gt210).trans rfl
theorem t210_21 : zT 210 21 = some (.ireturn, 1, 0, 0, 0, 0) := (congrArg (fun t => List.lookup 21 t) gt210).trans rfl
theorem t210_22 : zT 210 22 = some (.iconst 0, 1, 0, 0, 0, 0) := (congrArg (fun t => List.lookup 22 t) gt210).trans rfl
theorem t210_23 : zT 210 23 = some (.istore_n 3, 1, 3, 0, 0, 0) := (congrArg (fun t => List.lookup 23 t) gt210).trans rfl
theorem t210_24 : zT 210 24 = some (.aload_n 0, 1, 0, 0, 0, 0) := (congrArg (fun t => List.lookup 24 t) gt210).trans rfl
theorem t210_25 : zT 210 25 = some (.getfield 12, 3, 11, 0, 0, 598) := (congrArg (fun t => List.lookup 25 t) gt210).trans rfl
theorem t210_28 : zT 210 28 = some (.iconst 0, 1, 0, 0, 0, 0) := (congrArg (fun t => List.lookup 28 t) gt210).trans rfl
theorem t210_29 : zT 210 29 = some (.iload_n 1, 1, 1, 0, 0, 0) := (congrArg (fun t => List.lookup 29 t) gt210).trans rfl
theorem t210_30 : zT 210 30 = some (.iconst 1, 1, 0, 0, 1, 0) := (congrArg (fun t => List.lookup 30 t) gt210).trans rfl
theorem t210_31 : zT 210 31 = some (.isub, 1, 0, 0, 0, 0) := (congrArg (fun t => List.lookup 31 t) gt210).trans rfl
theorem t210_32 : zT 210 32 = some (.invokevirtual 434, 3, 211, 0, 0, 1548) := (congrArg (fun t => List.lookup 32 t) gt210).trans rfl
theorem t210_35 : zT 210 35 = some (.istore 4, 2, 0, 0, 0, 0) := (congrArg (fun t => List.lookup 35 t) gt210).trans rfl
theorem t210_37 : zT 210 37 = some (.iconst 0, 1, 0, 0, 0, 0) := (congrArg (fun t => List.lookup 37 t) gt210).trans rfl
theorem t210_38 : zT 210 38 = some (.istore 5, 2, 0, 0, 0, 0) := (congrArg (fun t => List.lookup 38 t) gt210).trans rfl
theorem t210_40 : zT 210 40 = some (.iload 5, 2, 0, 0, 0, 0) := (congrArg (fun t => List.lookup 40 t) gt210).trans rfl
theorem t210_42 : zT 210 42 = some (.aload_n 0, 1, 0, 0, 0, 0) := (congrArg (fun t => List.lookup 42 t) gt210).trans rfl
theorem t210_43 : zT 210 43 = some (.getfield 12, 3, 11, 0, 0, 598) := (congrArg (fun t => List.lookup 43 t) gt210).trans rfl
theorem t210_46 : zT 210 46 = some (.getfield 167, 3, 6, 3, 0, 167) := (congrArg (fun t => List.lookup 46 t) gt210).trans rfl
theorem t210_49 : zT 210 49 = some (.if_icmp .ge 77, 3, 126, 0, 0, 0) := (congrArg (fun t => List.lookup 49 t) gt210).trans rfl
theorem t210_52 : zT 210 52 = some (.aload_n 0, 1, 0, 0, 0, 0) := (congrArg (fun t => List.lookup 52 t) gt210).trans rfl
theorem t210_53 : zT 210 53 = some (.getfield 12, 3, 11, 0, 0, 598) := (congrArg (fun t => List.lookup 53 t) gt210).trans rfl
theorem t210_56 : zT 210 56 = some (.getfield 203, 3, 6, 6, 0, 176) := (congrArg (fun t => List.lookup 56 t) gt210).trans rfl
theorem t210_59 : zT 210 59 = some (.iload 5, 2, 0, 0, 0, 0) := (congrArg (fun t => List.lookup 59 t) gt210).trans rfl
theorem t210_61 : zT 210 61 = some (.iaload, 1, 0, 0, 0, 0) := (congrArg (fun t => List.lookup 61 t) gt210).trans rfl
theorem t210_62 : zT 210 62 = some (.iload_n 1, 1, 1, 0, 0, 0) := (congrArg (fun t => List.lookup 62 t) gt210).trans rfl
theorem t210_63 : zT 210 63 = some (.isub, 1, 0, 0, 0, 0) := (congrArg (fun t => List.lookup 63 t) gt210).trans rfl
theorem t210_64 : zT 210 64 = some (.iconst 1, 1, 0, 0, 1, 0) := (congrArg (fun t => List.lookup 64 t) gt210).trans rfl
theorem t210_65 : zT 210 65 = some (.iadd, 1, 0, 0, 0, 0) := (congrArg (fun t => List.lookup 65 t) gt210).trans rfl
theorem t210_66 : zT 210 66 = some (.istore 6, 2, 0, 0, 0, 0) := (congrArg (fun t => List.lookup 66 t) gt210).trans rfl
theorem t210_68 : zT 210 68 = some (.iload 6, 2, 0, 0, 0, 0) := (congrArg (fun t => List.lookup 68 t) gt210).trans rfl
theorem t210_70 : zT 210 70 = some (.ifCond .gt 6, 3, 76, 0, 0, 0) := (congrArg (fun t => List.lookup 70 t) gt210).trans rfl
theorem t210_73 : zT 210 73 = some (.goto 47, 3, 120, 0, 0, 0) := (congrArg (fun t => List.lookup 73 t) gt210).trans rfl
theorem t210_76 : zT 210 76 = some (.aload_n 0, 1, 0, 0, 0, 0) := (congrArg (fun t => List.lookup 76 t) gt210).trans rfl
theorem t210_77 : zT 210 77 = some (.getfield 12, 3, 11, 0, 0, 598) := (congrArg (fun t => List.lookup 77 t) gt210).trans rfl
theorem t210_80 : zT 210 80 = some (.iload 6, 2, 0, 0, 0, 0) := (congrArg (fun t => List.lookup 80 t) gt210).trans rfl
theorem t210_82 : zT 210 82 = some (.iload 6, 2, 0, 0, 0, 0) := (congrArg (fun t => List.lookup 82 t) gt210).trans rfl
theorem t210_84 : zT 210 84 = some (.iload_n 1, 1, 1, 0, 0, 0) := (congrArg (fun t => List.lookup 84 t) gt210).trans rfl
theorem t210_85 : zT 210 85 = some (.iadd, 1, 0, 0, 0, 0) := (congrArg (fun t => List.lookup 85 t) gt210).trans rfl
theorem t210_86 : zT 210 86 = some (.iconst 1, 1, 0, 0, 1, 0) := (congrArg (fun t => List.lookup 86 t) gt210).trans rfl
theorem t210_87 : zT 210 87 = some (.isub, 1, 0, 0, 0, 0) := (congrArg (fun t => List.lookup 87 t) gt210).trans rfl
theorem t210_88 : zT 210 88 = some (.invokevirtual 434, 3, 211, 0, 0, 1548) := (congrArg (fun t => List.lookup 88 t) gt210).trans rfl
theorem t210_91 : zT 210 91 = some (.istore 7, 2, 0, 0, 0, 0) := (congrArg (fun t => List.lookup 91 t) gt210).trans rfl
theorem t210_93 : zT 210 93 = some (.iload 7, 2, 0, 0, 0, 0) := (congrArg (fun t => List.lookup 93 t) gt210).trans rfl
theorem t210_95 : zT 210 95 = some (.iload 4, 2, 0, 0, 0, 0) := (congrArg (fun t => List.lookup 95 t) gt210).trans rfl
theorem t210_97 : zT 210 97 = some (.if_icmp .gt 16, 3, 113, 0, 0, 0) := (congrArg (fun t => List.lookup 97 t) gt210).trans rfl
theorem t210_100 : zT 210 100 = some (.iload 7, 2, 0, 0, 0, 0) := (congrArg (fun t => List.lookup 100 t) gt210).trans rfl
theorem t210_102 : zT 210 102 = some (.iload 4, 2, 0, 0, 0, 0) := (congrArg (fun t => List.lookup 102 t) gt210).trans rfl
theorem t210_104 : zT 210 104 = some (.if_icmp .ne 16, 3, 120, 0, 0, 0) := (congrArg (fun t => List.lookup 104 t) gt210).trans rfl
theorem t210_107 : zT 210 107 = some (.iload 6, 2, 0, 0, 0, 0) := (congrArg (fun t => List.lookup 107 t) gt210).trans rfl
theorem t210_109 : zT 210 109 = some (.iload_n 3, 1, 3, 0, 0, 0) := (congrArg (fun t => List.lookup 109 t) gt210).trans rfl
theorem t210_110 : zT 210 110 = some (.if_icmp .ge 10, 3, 120, 0, 0, 0) := (congrArg (fun t => List.lookup 110 t) gt210).trans rfl
theorem t210_113 : zT 210 113 = some (.iload 7, 2, 0, 0, 0, 0) := (congrArg (fun t => List.lookup 113 t) gt210).trans rfl
theorem t210_115 : zT 210 115 = some (.istore 4, 2, 0, 0, 0, 0) := (congrArg (fun t => List.lookup 115 t) gt210).trans rfl
theorem t210_117 : zT 210 117 = some (.iload 6, 2, 0, 0, 0, 0) := (congrArg (fun t => List.lookup 117 t) gt210).trans rfl
theorem t210_119 : zT 210 119 = some (.istore_n 3, 1, 3, 0, 0, 0) := (congrArg (fun t => List.lookup 119 t) gt210).trans rfl
theorem t210_120 : zT 210 120 = some (.iinc 5 1, 3, 0, 0, 0, 0) := (congrArg (fun t => List.lookup 120 t) gt210).trans rfl
theorem t210_123 : zT 210 123 = some (.goto (-83), 3, 40, 0, 0, 0) := (congrArg (fun t => List.lookup 123 t) gt210).trans rfl
theorem t210_126 : zT 210 126 = some (.iload_n 2, 1, 2, 0, 0, 0) := (congrArg (fun t => List.lookup 126 t) gt210).trans rfl
theorem t210_127 : zT 210 127 = some (.ifCond .ne 7, 3, 134, 0, 0, 0) := (congrArg (fun t => List.lookup 127 t) gt210).trans rfl
theorem t210_130 : zT 210 130 = some (.iload_n 3, 1, 3, 0, 0, 0) := (congrArg (fun t => List.lookup 130 t) gt210).trans rfl
theorem t210_131 : zT 210 131 = some (.goto 5, 3, 136, 0, 0, 0) := (congrArg (fun t => List.lookup 131 t) gt210).trans (by decide +kernel)
theorem t210_134 : zT 210 134 = some (.iload 4, 2, 0, 0, 0, 0) := (congrArg (fun t => List.lookup 134 t) gt210).trans (by decide +kernel)
theorem t210_136 : zT 210 136 = some (.ireturn, 1, 0, 0, 0, 0) := (congrArg (fun t => List.lookup 136 t) gt210).trans (by decide +kernel)
theorem t211_0 : zT 211 0 = some (.iconst 0, 1, 0, 0, 0, 0) := (congrArg (fun t => List.lookup 0 t) gt211).trans rfl
theorem t211_1 : zT 211 1 = some (.istore_n 3, 1, 3, 0, 0, 0) := (congrArg (fun t => List.lookup 1 t) gt211).trans rfl
theorem t211_2 : zT 211 2 = some (.iconst 0, 1, 0, 0, 0, 0) := (congrArg (fun t => List.lookup 2 t) gt211).trans rfl
theorem t211_3 : zT 211 3 = some (.istore 4, 2, 0, 0, 0, 0) := (congrArg (fun t => List.lookup 3 t) gt211).trans rfl
theorem t211_5 : zT 211 5 = some (.iload 4, 2, 0, 0, 0, 0) := (congrArg (fun t => List.lookup 5 t) gt211).trans rfl
theorem t211_7 : zT 211 7 = some (.aload_n 0, 1, 0, 0, 0, 0) := (congrArg (fun t => List.lookup 7 t) gt211).trans rfl
theorem t211_8 : zT 211 8 = some (.getfield 23, 3, 6, 3, 0, 164) := (congrArg (fun t => List.lookup 8 t) gt211).trans rfl
theorem t211_11 : zT 211 11 = some (.if_icmp .ge 42, 3, 53, 0, 0, 0) := (congrArg (fun t => List.lookup 11 t) gt211).trans rfl
theorem t211_14 : zT 211 14 = some (.aload_n 0, 1, 0, 0, 0, 0) := (congrArg (fun t => List.lookup 14 t) gt211).trans rfl
theorem t211_15 : zT 211 15 = some (.getfield 19, 3, 6, 2, 0, 161) := (congrArg (fun t => List.lookup 15 t) gt211).trans rfl
theorem t211_18 : zT 211 18 = some (.aload_n 0, 1, 0, 0, 0, 0) := (congrArg (fun t => List.lookup 18 t) gt211).trans rfl
theorem t211_19 : zT 211 19 = some (.getfield 26, 3, 6, 4, 0, 168) := (congrArg (fun t => List.lookup 19 t) gt211).trans rfl
theorem t211_22 : zT 211 22 = some (.iload 4, 2, 0, 0, 0, 0) := (congrArg (fun t => List.lookup 22 t) gt211).trans rfl
theorem t211_24 : zT 211 24 = some (.iaload, 1, 0, 0, 0, 0) := (congrArg (fun t => List.lookup 24 t) gt211).trans rfl
theorem t211_25 : zT 211 25 = some (.baload, 1, 0, 0, 0, 0) := (congrArg (fun t => List.lookup 25 t) gt211).trans rfl
theorem t211_26 : zT 211 26 = some (.ifCond .eq 21, 3, 47, 0, 0, 0) := (congrArg (fun t => List.lookup 26 t) gt211).trans rfl
theorem t211_29 : zT 211 29 = some (.aload_n 0, 1, 0, 0, 0, 0) := (congrArg (fun t => List.lookup 29 t) gt211).trans rfl
theorem t211_30 : zT 211 30 = some (.getfield 32, 3, 6, 6, 0, 175) := (congrArg (fun t => List.lookup 30 t) gt211).trans rfl
theorem t211_33 : zT 211 33 = some (.iload 4, 2, 0, 0, 0, 0) := (congrArg (fun t => List.lookup 33 t) gt211).trans rfl
theorem t211_35 : zT 211 35 = some (.iaload, 1, 0, 0, 0, 0) := (congrArg (fun t => List.lookup 35 t) gt211).trans rfl
theorem t211_36 : zT 211 36 = some (.iload_n 1, 1, 1, 0, 0, 0) := (congrArg (fun t => List.lookup 36 t) gt211).trans rfl
theorem t211_37 : zT 211 37 = some (.iload_n 2, 1, 2, 0, 0, 0) := (congrArg (fun t => List.lookup 37 t) gt211).trans rfl
theorem t211_38 : zT 211 38 = some (.invokestatic 91, 3, 39, 2, 0, 792) := (congrArg (fun t => List.lookup 38 t) gt211).trans rfl
theorem t211_41 : zT 211 41 = some (.ifCond .eq 6, 3, 47, 0, 0, 0) := (congrArg (fun t => List.lookup 41 t) gt211).trans rfl
theorem t211_44 : zT 211 44 = some (.iinc 3 1, 3, 0, 0, 0, 0) := (congrArg (fun t => List.lookup 44 t) gt211).trans rfl
theorem t211_47 : zT 211 47 = some (.iinc 4 1, 3, 0, 0, 0, 0) := (congrArg (fun t => List.lookup 47 t) gt211).trans rfl
theorem t211_50 : zT 211 50 = some (.goto (-45), 3, 5, 0, 0, 0) := (congrArg (fun t => List.lookup 50 t) gt211).trans rfl
theorem t211_53 : zT 211 53 = some (.iload_n 3, 1, 3, 0, 0, 0) := (congrArg (fun t => List.lookup 53 t) gt211).trans rfl
theorem t211_54 : zT 211 54 = some (.ireturn, 1, 0, 0, 0, 0) := (congrArg (fun t => List.lookup 54 t) gt211).trans rfl
theorem t212_0 : zT 212 0 = some (.aload_n 0, 1, 0, 0, 0, 0) := (congrArg (fun t => List.lookup 0 t) gt212).trans rfl
theorem t212_1 : zT 212 1 = some (.getfield 22, 3, 11, 2, 0, 600) := (congrArg (fun t => List.lookup 1 t) gt212).trans rfl
