theorem t212_4 : zT 212 4 = some (.aload_n 0, 1, 0, 0, 0, 0) := (congrArg (fun t => List.lookup 4 t) gt212).trans rfl
theorem t212_5 : zT 212 5 = some (.getfield 12, 3, 11, 0, 0, 598) := (congrArg (fun t => List.lookup 5 t) gt212).trans rfl
theorem t212_8 : zT 212 8 = some (.invokevirtual 437, 3, 213, 0, 0, 1556) := (congrArg (fun t => List.lookup 8 t) gt212).trans rfl
theorem t212_11 : zT 212 11 = some (.ifCond .ne 5, 3, 16, 0, 0, 0) := (congrArg (fun t => List.lookup 11 t) gt212).trans rfl
theorem t212_14 : zT 212 14 = some (.iconst (-1), 1, 0, 0, (-1), 0) := (congrArg (fun t => List.lookup 14 t) gt212).trans rfl
theorem t212_15 : zT 212 15 = some (.ireturn, 1, 0, 0, 0, 0) := (congrArg (fun t => List.lookup 15 t) gt212).trans rfl
theorem t212_16 : zT 212 16 = some (.aload_n 0, 1, 0, 0, 0, 0) := (congrArg (fun t => List.lookup 16 t) gt212).trans rfl
theorem t212_17 : zT 212 17 = some (.invokevirtual 111, 3, 59, 0, 0, 823) := (congrArg (fun t => List.lookup 17 t) gt212).trans rfl
theorem t212_20 : zT 212 20 = some (.aload_n 0, 1, 0, 0, 0, 0) := (congrArg (fun t => List.lookup 20 t) gt212).trans rfl
theorem t212_21 : zT 212 21 = some (.getfield 22, 3, 11, 2, 0, 600) := (congrArg (fun t => List.lookup 21 t) gt212).trans rfl
theorem t212_24 : zT 212 24 = some (.invokevirtual 176, 3, 101, 0, 0, 1050) := (congrArg (fun t => List.lookup 24 t) gt212).trans rfl
theorem t212_27 : zT 212 27 = some (.ireturn, 1, 0, 0, 0, 0) := (congrArg (fun t => List.lookup 27 t) gt212).trans rfl
theorem t213_0 : zT 213 0 = some (.aload_n 0, 1, 0, 0, 0, 0) := (congrArg (fun t => List.lookup 0 t) gt213).trans rfl
theorem t213_1 : zT 213 1 = some (.getfield 21, 3, 2, 2, 0, 240) := (congrArg (fun t => List.lookup 1 t) gt213).trans rfl
theorem t213_4 : zT 213 4 = some (.ifCond .ne 5, 3, 9, 0, 0, 0) := (congrArg (fun t => List.lookup 4 t) gt213).trans rfl
theorem t213_7 : zT 213 7 = some (.iconst 0, 1, 0, 0, 0, 0) := (congrArg (fun t => List.lookup 7 t) gt213).trans rfl
theorem t213_8 : zT 213 8 = some (.ireturn, 1, 0, 0, 0, 0) := (congrArg (fun t => List.lookup 8 t) gt213).trans rfl
theorem t213_9 : zT 213 9 = some (.aload_n 1, 1, 1, 0, 0, 0) := (congrArg (fun t => List.lookup 9 t) gt213).trans rfl
theorem t213_10 : zT 213 10 = some (.aload_n 0, 1, 0, 0, 0, 0) := (congrArg (fun t => List.lookup 10 t) gt213).trans rfl
theorem t213_11 : zT 213 11 = some (.getfield 11, 3, 2, 0, 0, 238) := (congrArg (fun t => List.lookup 11 t) gt213).trans rfl
theorem t213_14 : zT 213 14 = some (.aload_n 0, 1, 0, 0, 0, 0) := (congrArg (fun t => List.lookup 14 t) gt213).trans rfl
theorem t213_15 : zT 213 15 = some (.getfield 17, 3, 2, 1, 0, 239) := (congrArg (fun t => List.lookup 15 t) gt213).trans rfl
theorem t213_18 : zT 213 18 = some (.aaload, 1, 0, 0, 0, 0) := (congrArg (fun t => List.lookup 18 t) gt213).trans rfl
theorem t213_19 : zT 213 19 = some (.invokevirtual 32, 3, 23, 0, 0, 821) := (congrArg (fun t => List.lookup 19 t) gt213).trans rfl
theorem t213_22 : zT 213 22 = some (.aload_n 0, 1, 0, 0, 0, 0) := (congrArg (fun t => List.lookup 22 t) gt213).trans rfl
theorem t213_23 : zT 213 23 = some (.aload_n 0, 1, 0, 0, 0, 0) := (congrArg (fun t => List.lookup 23 t) gt213).trans rfl
theorem t213_24 : zT 213 24 = some (.getfield 17, 3, 2, 1, 0, 239) := (congrArg (fun t => List.lookup 24 t) gt213).trans rfl
theorem t213_27 : zT 213 27 = some (.bipush 8, 2, 0, 0, 8, 0) := (congrArg (fun t => List.lookup 27 t) gt213).trans rfl
theorem t213_29 : zT 213 29 = some (.iadd, 1, 0, 0, 0, 0) := (congrArg (fun t => List.lookup 29 t) gt213).trans rfl
theorem t213_30 : zT 213 30 = some (.iconst 1, 1, 0, 0, 1, 0) := (congrArg (fun t => List.lookup 30 t) gt213).trans rfl
theorem t213_31 : zT 213 31 = some (.isub, 1, 0, 0, 0, 0) := (congrArg (fun t => List.lookup 31 t) gt213).trans rfl
theorem t213_32 : zT 213 32 = some (.bipush 8, 2, 0, 0, 8, 0) := (congrArg (fun t => List.lookup 32 t) gt213).trans rfl
theorem t213_34 : zT 213 34 = some (.irem, 1, 0, 0, 0, 0) := (congrArg (fun t => List.lookup 34 t) gt213).trans rfl
theorem t213_35 : zT 213 35 = some (.putfield 17, 3, 2, 1, 0, 239) := (congrArg (fun t => List.lookup 35 t) gt213).trans rfl
theorem t213_38 : zT 213 38 = some (.aload_n 0, 1, 0, 0, 0, 0) := (congrArg (fun t => List.lookup 38 t) gt213).trans rfl
theorem t213_39 : zT 213 39 = some (.dup, 1, 0, 0, 0, 0) := (congrArg (fun t => List.lookup 39 t) gt213).trans rfl
theorem t213_40 : zT 213 40 = some (.getfield 21, 3, 2, 2, 0, 240) := (congrArg (fun t => List.lookup 40 t) gt213).trans rfl
theorem t213_43 : zT 213 43 = some (.iconst 1, 1, 0, 0, 1, 0) := (congrArg (fun t => List.lookup 43 t) gt213).trans rfl
theorem t213_44 : zT 213 44 = some (.isub, 1, 0, 0, 0, 0) := (congrArg (fun t => List.lookup 44 t) gt213).trans rfl
theorem t213_45 : zT 213 45 = some (.putfield 21, 3, 2, 2, 0, 240) := (congrArg (fun t => List.lookup 45 t) gt213).trans rfl
theorem t213_48 : zT 213 48 = some (.iconst 1, 1, 0, 0, 1, 0) := (congrArg (fun t => List.lookup 48 t) gt213).trans rfl
theorem t213_49 : zT 213 49 = some (.ireturn, 1, 0, 0, 0, 0) := (congrArg (fun t => List.lookup 49 t) gt213).trans rfl
theorem t214_0 : zT 214 0 = some (.aload_n 0, 1, 0, 0, 0, 0) := (congrArg (fun t => List.lookup 0 t) gt214).trans rfl
theorem t214_1 : zT 214 1 = some (.getfield 22, 3, 11, 2, 0, 600) := (congrArg (fun t => List.lookup 1 t) gt214).trans rfl
theorem t214_4 : zT 214 4 = some (.iload_n 1, 1, 1, 0, 0, 0) := (congrArg (fun t => List.lookup 4 t) gt214).trans rfl
theorem t214_5 : zT 214 5 = some (.aload_n 0, 1, 0, 0, 0, 0) := (congrArg (fun t => List.lookup 5 t) gt214).trans rfl
theorem t214_6 : zT 214 6 = some (.getfield 12, 3, 11, 0, 0, 598) := (congrArg (fun t => List.lookup 6 t) gt214).trans rfl
theorem t214_9 : zT 214 9 = some (.invokevirtual 441, 3, 215, 0, 0, 1564) := (congrArg (fun t => List.lookup 9 t) gt214).trans rfl
theorem t214_12 : zT 214 12 = some (.ireturn, 1, 0, 0, 0, 0) := (congrArg (fun t => List.lookup 12 t) gt214).trans rfl
theorem t215_0 : zT 215 0 = some (.iload_n 1, 1, 1, 0, 0, 0) := (congrArg (fun t => List.lookup 0 t) gt215).trans rfl
theorem t215_1 : zT 215 1 = some (.ifCond .eq 10, 3, 11, 0, 0, 0) := (congrArg (fun t => List.lookup 1 t) gt215).trans rfl
theorem t215_4 : zT 215 4 = some (.iload_n 1, 1, 1, 0, 0, 0) := (congrArg (fun t => List.lookup 4 t) gt215).trans rfl
theorem t215_5 : zT 215 5 = some (.iconst 1, 1, 0, 0, 1, 0) := (congrArg (fun t => List.lookup 5 t) gt215).trans rfl
theorem t215_6 : zT 215 6 = some (.if_icmp .eq 5, 3, 11, 0, 0, 0) := (congrArg (fun t => List.lookup 6 t) gt215).trans rfl
theorem t215_9 : zT 215 9 = some (.iconst 0, 1, 0, 0, 0, 0) := (congrArg (fun t => List.lookup 9 t) gt215).trans rfl
theorem t215_10 : zT 215 10 = some (.ireturn, 1, 0, 0, 0, 0) := (congrArg (fun t => List.lookup 10 t) gt215).trans rfl
theorem t215_11 : zT 215 11 = some (.aload_n 0, 1, 0, 0, 0, 0) := (congrArg (fun t => List.lookup 11 t) gt215).trans rfl
theorem t215_12 : zT 215 12 = some (.getfield 24, 3, 2, 3, 0, 241) := (congrArg (fun t => List.lookup 12 t) gt215).trans rfl
theorem t215_15 : zT 215 15 = some (.iload_n 1, 1, 1, 0, 0, 0) := (congrArg (fun t => List.lookup 15 t) gt215).trans rfl
theorem t215_16 : zT 215 16 = some (.aaload, 1, 0, 0, 0, 0) := (congrArg (fun t => List.lookup 16 t) gt215).trans rfl
theorem t215_17 : zT 215 17 = some (.aload_n 2, 1, 2, 0, 0, 0) := (congrArg (fun t => List.lookup 17 t) gt215).trans rfl
theorem t215_18 : zT 215 18 = some (.invokevirtual 32, 3, 23, 0, 0, 821) := (congrArg (fun t => List.lookup 18 t) gt215).trans rfl
theorem t215_21 : zT 215 21 = some (.aload_n 0, 1, 0, 0, 0, 0) := (congrArg (fun t => List.lookup 21 t) gt215).trans rfl
theorem t215_22 : zT 215 22 = some (.getfield 27, 3, 2, 4, 0, 242) := (congrArg (fun t => List.lookup 22 t) gt215).trans rfl
theorem t215_25 : zT 215 25 = some (.iload_n 1, 1, 1, 0, 0, 0) := (congrArg (fun t => List.lookup 25 t) gt215).trans rfl
theorem t215_26 : zT 215 26 = some (.iconst 1, 1, 0, 0, 1, 0) := (congrArg (fun t => List.lookup 26 t) gt215).trans rfl
theorem t215_27 : zT 215 27 = some (.bastore, 1, 0, 0, 0, 0) := (congrArg (fun t => List.lookup 27 t) gt215).trans rfl
theorem t215_28 : zT 215 28 = some (.iconst 1, 1, 0, 0, 1, 0) := (congrArg (fun t => List.lookup 28 t) gt215).trans rfl
theorem t215_29 : zT 215 29 = some (.ireturn, 1, 0, 0, 0, 0) := (congrArg (fun t => List.lookup 29 t) gt215).trans rfl
theorem t216_0 : zT 216 0 = some (.aload_n 0, 1, 0, 0, 0, 0) := (congrArg (fun t => List.lookup 0 t) gt216).trans rfl
theorem t216_1 : zT 216 1 = some (.getfield 22, 3, 11, 2, 0, 600) := (congrArg (fun t => List.lookup 1 t) gt216).trans rfl
theorem t216_4 : zT 216 4 = some (.iload_n 1, 1, 1, 0, 0, 0) := (congrArg (fun t => List.lookup 4 t) gt216).trans rfl
theorem t216_5 : zT 216 5 = some (.invokevirtual 445, 3, 217, 0, 0, 1572) := (congrArg (fun t => List.lookup 5 t) gt216).trans rfl
theorem t216_8 : zT 216 8 = some (.ifCond .ne 5, 3, 13, 0, 0, 0) := (congrArg (fun t => List.lookup 8 t) gt216).trans rfl
theorem t216_11 : zT 216 11 = some (.iconst 0, 1, 0, 0, 0, 0) := (congrArg (fun t => List.lookup 11 t) gt216).trans rfl
theorem t216_12 : zT 216 12 = some (.ireturn, 1, 0, 0, 0, 0) := (congrArg (fun t => List.lookup 12 t) gt216).trans rfl
theorem t216_13 : zT 216 13 = some (.aload_n 0, 1, 0, 0, 0, 0) := (congrArg (fun t => List.lookup 13 t) gt216).trans rfl
theorem t216_14 : zT 216 14 = some (.getfield 22, 3, 11, 2, 0, 600) := (congrArg (fun t => List.lookup 14 t) gt216).trans rfl
theorem t216_17 : zT 216 17 = some (.aload_n 0, 1, 0, 0, 0, 0) := (congrArg (fun t => List.lookup 17 t) gt216).trans rfl
theorem t216_18 : zT 216 18 = some (.getfield 12, 3, 11, 0, 0, 598) := (congrArg (fun t => List.lookup 18 t) gt216).trans rfl
theorem t216_21 : zT 216 21 = some (.invokevirtual 108, 3, 58, 0, 0, 817) := (congrArg (fun t => List.lookup 21 t) gt216).trans rfl
theorem t216_24 : zT 216 24 = some (.aload_n 0, 1, 0, 0, 0, 0) := (congrArg (fun t => List.lookup 24 t) gt216).trans rfl
theorem t216_25 : zT 216 25 = some (.invokevirtual 111, 3, 59, 0, 0, 823) := (congrArg (fun t => List.lookup 25 t) gt216).trans rfl
theorem t216_28 : zT 216 28 = some (.aload_n 0, 1, 0, 0, 0, 0) := (congrArg (fun t => List.lookup 28 t) gt216).trans rfl
theorem t216_29 : zT 216 29 = some (.getfield 22, 3, 11, 2, 0, 600) := (congrArg (fun t => List.lookup 29 t) gt216).trans rfl
theorem t216_32 : zT 216 32 = some (.iload_n 1, 1, 1, 0, 0, 0) := (congrArg (fun t => List.lookup 32 t) gt216).trans rfl
theorem t216_33 : zT 216 33 = some (.aload_n 0, 1, 0, 0, 0, 0) := (congrArg (fun t => List.lookup 33 t) gt216).trans rfl
theorem t216_34 : zT 216 34 = some (.getfield 12, 3, 11, 0, 0, 598) := (congrArg (fun t => List.lookup 34 t) gt216).trans rfl
theorem t216_37 : zT 216 37 = some (.invokevirtual 448, 3, 218, 0, 0, 1576) := (congrArg (fun t => List.lookup 37 t) gt216).trans rfl
theorem t216_40 : zT 216 40 = some (.ireturn, 1, 0, 0, 0, 0) := (congrArg (fun t => List.lookup 40 t) gt216).trans rfl
theorem t217_0 : zT 217 0 = some (.iload_n 1, 1, 1, 0, 0, 0) := (congrArg (fun t => List.lookup 0 t) gt217).trans rfl
theorem t217_1 : zT 217 1 = some (.ifCond .eq 8, 3, 9, 0, 0, 0) := (congrArg (fun t => List.lookup 1 t) gt217).trans rfl
theorem t217_4 : zT 217 4 = some (.iload_n 1, 1, 1, 0, 0, 0) := (congrArg (fun t => List.lookup 4 t) gt217).trans rfl
theorem t217_5 : zT 217 5 = some (.iconst 1, 1, 0, 0, 1, 0) := (congrArg (fun t => List.lookup 5 t) gt217).trans rfl
theorem t217_6 : zT 217 6 = some (.if_icmp .ne 16, 3, 22, 0, 0, 0) := (congrArg (fun t => List.lookup 6 t) gt217).trans rfl
theorem t217_9 : zT 217 9 = some (.aload_n 0, 1, 0, 0, 0, 0) := (congrArg (fun t => List.lookup 9 t) gt217).trans rfl
theorem t217_10 : zT 217 10 = some (.getfield 27, 3, 2, 4, 0, 242) := (congrArg (fun t => List.lookup 10 t) gt217).trans rfl
theorem t217_13 : zT 217 13 = some (.iload_n 1, 1, 1, 0, 0, 0) := (congrArg (fun t => List.lookup 13 t) gt217).trans rfl
theorem t217_14 : zT 217 14 = some (.baload, 1, 0, 0, 0, 0) := (congrArg (fun t => List.lookup 14 t) gt217).trans rfl
theorem t217_15 : zT 217 15 = some (.ifCond .eq 7, 3, 22, 0, 0, 0) := (congrArg (fun t => List.lookup 15 t) gt217).trans rfl
theorem t217_18 : zT 217 18 = some (.iconst 1, 1, 0, 0, 1, 0) := (congrArg (fun t => List.lookup 18 t) gt217).trans rfl
theorem t217_19 : zT 217 19 = some (.goto 4, 3, 23, 0, 0, 0) := (congrArg (fun t => List.lookup 19 t) gt217).trans rfl
theorem t217_22 : zT 217 22 = some (.iconst 0, 1, 0, 0, 0, 0) := (congrArg (fun t => List.lookup 22 t) gt217).trans rfl
theorem t217_23 : zT 217 23 = some (.ireturn, 1, 0, 0, 0, 0) := (congrArg (fun t => List.lookup 23 t) gt217).trans rfl
theorem t218_0 : zT 218 0 = some (.aload_n 0, 1, 0, 0, 0, 0) := (congrArg (fun t => List.lookup 0 t) gt218).trans rfl
theorem t218_1 : zT 218 1 = some (.iload_n 1, 1, 1, 0, 0, 0) := (congrArg (fun t => List.lookup 1 t) gt218).trans rfl
theorem t218_2 : zT 218 2 = some (.invokevirtual 42, 3, 217, 0, 0, 1580) := (congrArg (fun t => List.lookup 2 t) gt218).trans rfl
theorem t218_5 : zT 218 5 = some (.ifCond .ne 5, 3, 10, 0, 0, 0) := (congrArg (fun t => List.lookup 5 t) gt218).trans rfl
theorem t218_8 : zT 218 8 = some (.iconst 0, 1, 0, 0, 0, 0) := (congrArg (fun t => List.lookup 8 t) gt218).trans rfl
theorem t218_9 : zT 218 9 = some (.ireturn, 1, 0, 0, 0, 0) := (congrArg (fun t => List.lookup 9 t) gt218).trans rfl
theorem t218_10 : zT 218 10 = some (.aload_n 2, 1, 2, 0, 0, 0) := (congrArg (fun t => List.lookup 10 t) gt218).trans rfl
theorem t218_11 : zT 218 11 = some (.aload_n 0, 1, 0, 0, 0, 0) := (congrArg (fun t => List.lookup 11 t) gt218).trans rfl
theorem t218_12 : zT 218 12 = some (.getfield 24, 3, 2, 3, 0, 241) := (congrArg (fun t => List.lookup 12 t) gt218).trans rfl
theorem t218_15 : zT 218 15 = some (.iload_n 1, 1, 1, 0, 0, 0) := (congrArg (fun t => List.lookup 15 t) gt218).trans rfl
theorem t218_16 : zT 218 16 = some (.aaload, 1, 0, 0, 0, 0) := (congrArg (fun t => List.lookup 16 t) gt218).trans rfl
theorem t218_17 : zT 218 17 = some (.invokevirtual 32, 3, 23, 0, 0, 821) := (congrArg (fun t => List.lookup 17 t) gt218).trans rfl
theorem t218_20 : zT 218 20 = some (.iconst 1, 1, 0, 0, 1, 0) := (congrArg (fun t => List.lookup 20 t) gt218).trans rfl
theorem t218_21 : zT 218 21 = some (.ireturn, 1, 0, 0, 0, 0) := (congrArg (fun t => List.lookup 21 t) gt218).trans rfl
theorem t219_0 : zT 219 0 = some (.aload_n 0, 1, 0, 0, 0, 0) := (congrArg (fun t => List.lookup 0 t) gt219).trans rfl
theorem t219_1 : zT 219 1 = some (.iconst 0, 1, 0, 0, 0, 0) := (congrArg (fun t => List.lookup 1 t) gt219).trans rfl
theorem t219_2 : zT 219 2 = some (.putfield 72, 3, 11, 10, 0, 608) := (congrArg (fun t => List.lookup 2 t) gt219).trans rfl
theorem t219_5 : zT 219 5 = some (.iconst 0, 1, 0, 0, 0, 0) := (congrArg (fun t => List.lookup 5 t) gt219).trans rfl
theorem t219_6 : zT 219 6 = some (.istore_n 1, 1, 1, 0, 0, 0) := (congrArg (fun t => List.lookup 6 t) gt219).trans rfl
theorem t219_7 : zT 219 7 = some (.iload_n 1, 1, 1, 0, 0, 0) := (congrArg (fun t => List.lookup 7 t) gt219).trans rfl
theorem t219_8 : zT 219 8 = some (.aload_n 0, 1, 0, 0, 0, 0) := (congrArg (fun t => List.lookup 8 t) gt219).trans rfl
theorem t219_9 : zT 219 9 = some (.getfield 12, 3, 11, 0, 0, 598) := (congrArg (fun t => List.lookup 9 t) gt219).trans rfl
theorem t219_12 : zT 219 12 = some (.getfield 161, 3, 6, 0, 0, 156) := (congrArg (fun t => List.lookup 12 t) gt219).trans rfl
theorem t219_15 : zT 219 15 = some (.if_icmp .ge 34, 3, 49, 0, 0, 0) := (congrArg (fun t => List.lookup 15 t) gt219).trans rfl
theorem t219_18 : zT 219 18 = some (.aload_n 0, 1, 0, 0, 0, 0) := (congrArg (fun t => List.lookup 18 t) gt219).trans rfl
theorem t219_19 : zT 219 19 = some (.bipush 114, 2, 0, 0, 114, 0) := (congrArg (fun t => List.lookup 19 t) gt219).trans rfl
theorem t219_21 : zT 219 21 = some (.invokevirtual 451, 3, 220, 0, 0, 1585) := (congrArg (fun t => List.lookup 21 t) gt219).trans rfl
theorem t219_24 : zT 219 24 = some (.aload_n 0, 1, 0, 0, 0, 0) := (congrArg (fun t => List.lookup 24 t) gt219).trans rfl
theorem t219_25 : zT 219 25 = some (.aload_n 0, 1, 0, 0, 0, 0) := (congrArg (fun t => List.lookup 25 t) gt219).trans rfl
theorem t219_26 : zT 219 26 = some (.getfield 12, 3, 11, 0, 0, 598) := (congrArg (fun t => List.lookup 26 t) gt219).trans rfl
theorem t219_29 : zT 219 29 = some (.getfield 182, 3, 6, 1, 0, 160) := (congrArg (fun t => List.lookup 29 t) gt219).trans rfl
theorem t219_32 : zT 219 32 = some (.iload_n 1, 1, 1, 0, 0, 0) := (congrArg (fun t => List.lookup 32 t) gt219).trans rfl
theorem t219_33 : zT 219 33 = some (.iaload, 1, 0, 0, 0, 0) := (congrArg (fun t => List.lookup 33 t) gt219).trans rfl
theorem t219_34 : zT 219 34 = some (.invokevirtual 455, 3, 221, 0, 0, 1589) := (congrArg (fun t => List.lookup 34 t) gt219).trans rfl
theorem t219_37 : zT 219 37 = some (.aload_n 0, 1, 0, 0, 0, 0) := (congrArg (fun t => List.lookup 37 t) gt219).trans rfl
theorem t219_38 : zT 219 38 = some (.bipush 59, 2, 0, 0, 59, 0) := (congrArg (fun t => List.lookup 38 t) gt219).trans rfl
theorem t219_40 : zT 219 40 = some (.invokevirtual 451, 3, 220, 0, 0, 1585) := (congrArg (fun t => List.lookup 40 t) gt219).trans rfl
theorem t219_43 : zT 219 43 = some (.iinc 1 1, 3, 0, 0, 0, 0) := (congrArg (fun t => List.lookup 43 t) gt219).trans rfl
theorem t219_46 : zT 219 46 = some (.goto (-39), 3, 7, 0, 0, 0) := (congrArg (fun t => List.lookup 46 t) gt219).trans rfl
theorem t219_49 : zT 219 49 = some (.aload_n 0, 1, 0, 0, 0, 0) := (congrArg (fun t => List.lookup 49 t) gt219).trans rfl
theorem t219_50 : zT 219 50 = some (.bipush 115, 2, 0, 0, 115, 0) := (congrArg (fun t => List.lookup 50 t) gt219).trans rfl
theorem t219_52 : zT 219 52 = some (.iconst 0, 1, 0, 0, 0, 0) := (congrArg (fun t => List.lookup 52 t) gt219).trans rfl
theorem t219_53 : zT 219 53 = some (.iconst 3, 1, 0, 0, 3, 0) := (congrArg (fun t => List.lookup 53 t) gt219).trans rfl
theorem t219_54 : zT 219 54 = some (.invokevirtual 458, 3, 222, 0, 0, 1593) := (congrArg (fun t => List.lookup 54 t) gt219).trans rfl
theorem t219_57 : zT 219 57 = some (.aload_n 0, 1, 0, 0, 0, 0) := (congrArg (fun t => List.lookup 57 t) gt219).trans rfl
theorem t219_58 : zT 219 58 = some (.bipush 103, 2, 0, 0, 103, 0) := (congrArg (fun t => List.lookup 58 t) gt219).trans rfl
theorem t219_60 : zT 219 60 = some (.iconst 4, 1, 0, 0, 4, 0) := (congrArg (fun t => List.lookup 60 t) gt219).trans rfl
theorem t219_61 : zT 219 61 = some (.iconst 4, 1, 0, 0, 4, 0) := (congrArg (fun t => List.lookup 61 t) gt219).trans rfl
theorem t219_62 : zT 219 62 = some (.invokevirtual 458, 3, 222, 0, 0, 1593) := (congrArg (fun t => List.lookup 62 t) gt219).trans rfl
theorem t219_65 : zT 219 65 = some (.aload_n 0, 1, 0, 0, 0, 0) := (congrArg (fun t => List.lookup 65 t) gt219).trans rfl
theorem t219_66 : zT 219 66 = some (.bipush 119, 2, 0, 0, 119, 0) := (congrArg (fun t => List.lookup 66 t) gt219).trans rfl
theorem t219_68 : zT 219 68 = some (.iconst 5, 1, 0, 0, 5, 0) := (congrArg (fun t => List.lookup 68 t) gt219).trans rfl
theorem t219_69 : zT 219 69 = some (.bipush 6, 2, 0, 0, 6, 0) := (congrArg (fun t => List.lookup 69 t) gt219).trans rfl
theorem t219_71 : zT 219 71 = some (.invokevirtual 458, 3, 222, 0, 0, 1593) := (congrArg (fun t => List.lookup 71 t) gt219).trans rfl
theorem t219_74 : zT 219 74 = some (.aload_n 0, 1, 0, 0, 0, 0) := (congrArg (fun t => List.lookup 74 t) gt219).trans rfl
theorem t219_75 : zT 219 75 = some (.bipush 113, 2, 0, 0, 113, 0) := (congrArg (fun t => List.lookup 75 t) gt219).trans rfl
theorem t219_77 : zT 219 77 = some (.bipush 7, 2, 0, 0, 7, 0) := (congrArg (fun t => List.lookup 77 t) gt219).trans rfl
theorem t219_79 : zT 219 79 = some (.bipush 8, 2, 0, 0, 8, 0) := (congrArg (fun t => List.lookup 79 t) gt219).trans rfl
theorem t219_81 : zT 219 81 = some (.invokevirtual 458, 3, 222, 0, 0, 1593) := (congrArg (fun t => List.lookup 81 t) gt219).trans rfl
theorem t219_84 : zT 219 84 = some (.aload_n 0, 1, 0, 0, 0, 0) := (congrArg (fun t => List.lookup 84 t) gt219).trans rfl
theorem t219_85 : zT 219 85 = some (.getfield 72, 3, 11, 10, 0, 608) := (congrArg (fun t => List.lookup 85 t) gt219).trans rfl
theorem t219_88 : zT 219 88 = some (.ireturn, 1, 0, 0, 0, 0) := (congrArg (fun t => List.lookup 88 t) gt219).trans rfl
theorem t220_0 : zT 220 0 = some (.aload_n 0, 1, 0, 0, 0, 0) := (congrArg (fun t => List.lookup 0 t) gt220).trans rfl
theorem t220_1 : zT 220 1 = some (.getfield 72, 3, 11, 10, 0, 608) := (congrArg (fun t => List.lookup 1 t) gt220).trans rfl
theorem t220_4 : zT 220 4 = some (.sipush 128, 3, 0, 0, 128, 0) := (congrArg (fun t => List.lookup 4 t) gt220).trans rfl
theorem t220_7 : zT 220 7 = some (.if_icmp .ge 24, 3, 31, 0, 0, 0) := (congrArg (fun t => List.lookup 7 t) gt220).trans rfl
theorem t220_10 : zT 220 10 = some (.aload_n 0, 1, 0, 0, 0, 0) := (congrArg (fun t => List.lookup 10 t) gt220).trans rfl
theorem t220_11 : zT 220 11 = some (.getfield 68, 3, 11, 9, 0, 607) := (congrArg (fun t => List.lookup 11 t) gt220).trans rfl
theorem t220_14 : zT 220 14 = some (.aload_n 0, 1, 0, 0, 0, 0) := (congrArg (fun t => List.lookup 14 t) gt220).trans rfl
theorem t220_15 : zT 220 15 = some (.getfield 72, 3, 11, 10, 0, 608) := (congrArg (fun t => List.lookup 15 t) gt220).trans rfl
theorem t220_18 : zT 220 18 = some (.iload_n 1, 1, 1, 0, 0, 0) := (congrArg (fun t => List.lookup 18 t) gt220).trans rfl
theorem t220_19 : zT 220 19 = some (.i2b, 1, 0, 0, 0, 0) := (congrArg (fun t => List.lookup 19 t) gt220).trans rfl
theorem t220_20 : zT 220 20 = some (.bastore, 1, 0, 0, 0, 0) := (congrArg (fun t => List.lookup 20 t) gt220).trans rfl
theorem t220_21 : zT 220 21 = some (.aload_n 0, 1, 0, 0, 0, 0) := (congrArg (fun t => List.lookup 21 t) gt220).trans rfl
theorem t220_22 : zT 220 22 = some (.dup, 1, 0, 0, 0, 0) := (congrArg (fun t => List.lookup 22 t) gt220).trans rfl
theorem t220_23 : zT 220 23 = some (.getfield 72, 3, 11, 10, 0, 608) := (congrArg (fun t => List.lookup 23 t) gt220).trans rfl
theorem t220_26 : zT 220 26 = some (.iconst 1, 1, 0, 0, 1, 0) := (congrArg (fun t => List.lookup 26 t) gt220).trans rfl
theorem t220_27 : zT 220 27 = some (.iadd, 1, 0, 0, 0, 0) := (congrArg (fun t => List.lookup 27 t) gt220).trans rfl
theorem t220_28 : zT 220 28 = some (.putfield 72, 3, 11, 10, 0, 608) := (congrArg (fun t => List.lookup 28 t) gt220).trans rfl
theorem t220_31 : zT 220 31 = some (.return_, 1, 0, 0, 0, 0) := (congrArg (fun t => List.lookup 31 t) gt220).trans rfl
theorem t221_0 : zT 221 0 = some (.sipush 1000, 3, 0, 0, 1000, 0) := (congrArg (fun t => List.lookup 0 t) gt221).trans rfl
theorem t221_3 : zT 221 3 = some (.istore_n 2, 1, 2, 0, 0, 0) := (congrArg (fun t => List.lookup 3 t) gt221).trans rfl
theorem t221_4 : zT 221 4 = some (.iload_n 2, 1, 2, 0, 0, 0) := (congrArg (fun t => List.lookup 4 t) gt221).trans rfl
theorem t221_5 : zT 221 5 = some (.iconst 1, 1, 0, 0, 1, 0) := (congrArg (fun t => List.lookup 5 t) gt221).trans rfl
theorem t221_6 : zT 221 6 = some (.if_icmp .lt 35, 3, 41, 0, 0, 0) := (congrArg (fun t => List.lookup 6 t) gt221).trans rfl
theorem t221_9 : zT 221 9 = some (.iload_n 1, 1, 1, 0, 0, 0) := (congrArg (fun t => List.lookup 9 t) gt221).trans rfl
theorem t221_10 : zT 221 10 = some (.iload_n 2, 1, 2, 0, 0, 0) := (congrArg (fun t => List.lookup 10 t) gt221).trans rfl
theorem t221_11 : zT 221 11 = some (.if_icmp .ge 8, 3, 19, 0, 0, 0) := (congrArg (fun t => List.lookup 11 t) gt221).trans rfl
theorem t221_14 : zT 221 14 = some (.iload_n 2, 1, 2, 0, 0, 0) := (congrArg (fun t => List.lookup 14 t) gt221).trans rfl
theorem t221_15 : zT 221 15 = some (.iconst 1, 1, 0, 0, 1, 0) := (congrArg (fun t => List.lookup 15 t) gt221).trans rfl
theorem t221_16 : zT 221 16 = some (.if_icmp .ne 17, 3, 33, 0, 0, 0) := (congrArg (fun t => List.lookup 16 t) gt221).trans rfl
theorem t221_19 : zT 221 19 = some (.aload_n 0, 1, 0, 0, 0, 0) := (congrArg (fun t => List.lookup 19 t) gt221).trans rfl
theorem t221_20 : zT 221 20 = some (.bipush 48, 2, 0, 0, 48, 0) := (congrArg (fun t => List.lookup 20 t) gt221).trans rfl
theorem t221_22 : zT 221 22 = some (.iload_n 1, 1, 1, 0, 0, 0) := (congrArg (fun t => List.lookup 22 t) gt221).trans rfl
theorem t221_23 : zT 221 23 = some (.iload_n 2, 1, 2, 0, 0, 0) := (congrArg (fun t => List.lookup 23 t) gt221).trans rfl
theorem t221_24 : zT 221 24 = some (.idiv, 1, 0, 0, 0, 0) := (congrArg (fun t => List.lookup 24 t) gt221).trans rfl
theorem t221_25 : zT 221 25 = some (.bipush 10, 2, 0, 0, 10, 0) := (congrArg (fun t => List.lookup 25 t) gt221).trans rfl
theorem t221_27 : zT 221 27 = some (.irem, 1, 0, 0, 0, 0) := (congrArg (fun t => List.lookup 27 t) gt221).trans rfl
theorem t221_28 : zT 221 28 = some (.iadd, 1, 0, 0, 0, 0) := (congrArg (fun t => List.lookup 28 t) gt221).trans rfl
theorem t221_29 : zT 221 29 = some (.i2c, 1, 0, 0, 0, 0) := (congrArg (fun t => List.lookup 29 t) gt221).trans rfl
theorem t221_30 : zT 221 30 = some (.invokevirtual 451, 3, 220, 0, 0, 1585) := (congrArg (fun t => List.lookup 30 t) gt221).trans rfl
theorem t221_33 : zT 221 33 = some (.iload_n 2, 1, 2, 0, 0, 0) := (congrArg (fun t => List.lookup 33 t) gt221).trans rfl
theorem t221_34 : zT 221 34 = some (.bipush 10, 2, 0, 0, 10, 0) := (congrArg (fun t => List.lookup 34 t) gt221).trans rfl
theorem t221_36 : zT 221 36 = some (.idiv, 1, 0, 0, 0, 0) := (congrArg (fun t => List.lookup 36 t) gt221).trans rfl
theorem t221_37 : zT 221 37 = some (.istore_n 2, 1, 2, 0, 0, 0) := (congrArg (fun t => List.lookup 37 t) gt221).trans rfl
theorem t221_38 : zT 221 38 = some (.goto (-34), 3, 4, 0, 0, 0) := (congrArg (fun t => List.lookup 38 t) gt221).trans rfl
theorem t221_41 : zT 221 41 = some (.return_, 1, 0, 0, 0, 0) := (congrArg (fun t => List.lookup 41 t) gt221).trans rfl
theorem t222_0 : zT 222 0 = some (.aload_n 0, 1, 0, 0, 0, 0) := (congrArg (fun t => List.lookup 0 t) gt222).trans rfl
theorem t222_1 : zT 222 1 = some (.iload_n 1, 1, 1, 0, 0, 0) := (congrArg (fun t => List.lookup 1 t) gt222).trans rfl
theorem t222_2 : zT 222 2 = some (.invokevirtual 451, 3, 220, 0, 0, 1585) := (congrArg (fun t => List.lookup 2 t) gt222).trans rfl
theorem t222_5 : zT 222 5 = some (.iload_n 2, 1, 2, 0, 0, 0) := (congrArg (fun t => List.lookup 5 t) gt222).trans rfl
theorem t222_6 : zT 222 6 = some (.istore 4, 2, 0, 0, 0, 0) := (congrArg (fun t => List.lookup 6 t) gt222).trans rfl
theorem t222_8 : zT 222 8 = some (.iload 4, 2, 0, 0, 0, 0) := (congrArg (fun t => List.lookup 8 t) gt222).trans rfl
theorem t222_10 : zT 222 10 = some (.iload_n 3, 1, 3, 0, 0, 0) := (congrArg (fun t => List.lookup 10 t) gt222).trans rfl
theorem t222_11 : zT 222 11 = some (.if_icmp .gt 39, 3, 50, 0, 0, 0) := (congrArg (fun t => List.lookup 11 t) gt222).trans rfl
theorem t222_14 : zT 222 14 = some (.aload_n 0, 1, 0, 0, 0, 0) := (congrArg (fun t => List.lookup 14 t) gt222).trans rfl
theorem t222_15 : zT 222 15 = some (.aload_n 0, 1, 0, 0, 0, 0) := (congrArg (fun t => List.lookup 15 t) gt222).trans rfl
theorem t222_16 : zT 222 16 = some (.getfield 12, 3, 11, 0, 0, 598) := (congrArg (fun t => List.lookup 16 t) gt222).trans rfl
theorem t222_19 : zT 222 19 = some (.iload 4, 2, 0, 0, 0, 0) := (congrArg (fun t => List.lookup 19 t) gt222).trans rfl
theorem t222_21 : zT 222 21 = some (.invokevirtual 158, 3, 96, 0, 0, 1029) := (congrArg (fun t => List.lookup 21 t) gt222).trans rfl
theorem t222_24 : zT 222 24 = some (.invokevirtual 455, 3, 221, 0, 0, 1589) := (congrArg (fun t => List.lookup 24 t) gt222).trans rfl
theorem t222_27 : zT 222 27 = some (.aload_n 0, 1, 0, 0, 0, 0) := (congrArg (fun t => List.lookup 27 t) gt222).trans rfl
theorem t222_28 : zT 222 28 = some (.iload 4, 2, 0, 0, 0, 0) := (congrArg (fun t => List.lookup 28 t) gt222).trans rfl
theorem t222_30 : zT 222 30 = some (.iload_n 3, 1, 3, 0, 0, 0) := (congrArg (fun t => List.lookup 30 t) gt222).trans rfl
theorem t222_31 : zT 222 31 = some (.if_icmp .ge 8, 3, 39, 0, 0, 0) := (congrArg (fun t => List.lookup 31 t) gt222).trans rfl
theorem t222_34 : zT 222 34 = some (.bipush 44, 2, 0, 0, 44, 0) := (congrArg (fun t => List.lookup 34 t) gt222).trans rfl
theorem t222_36 : zT 222 36 = some (.goto 5, 3, 41, 0, 0, 0) := (congrArg (fun t => List.lookup 36 t) gt222).trans rfl
theorem t222_39 : zT 222 39 = some (.bipush 59, 2, 0, 0, 59, 0) := (congrArg (fun t => List.lookup 39 t) gt222).trans rfl
theorem t222_41 : zT 222 41 = some (.invokevirtual 451, 3, 220, 0, 0, 1585) := (congrArg (fun t => List.lookup 41 t) gt222).trans rfl
theorem t222_44 : zT 222 44 = some (.iinc 4 1, 3, 0, 0, 0, 0) := (congrArg (fun t => List.lookup 44 t) gt222).trans rfl
theorem t222_47 : zT 222 47 = some (.goto (-39), 3, 8, 0, 0, 0) := (congrArg (fun t => List.lookup 47 t) gt222).trans rfl
theorem t222_50 : zT 222 50 = some (.return_, 1, 0, 0, 0, 0) := (congrArg (fun t => List.lookup 50 t) gt222).trans rfl
theorem t223_0 : zT 223 0 = some (.iload_n 1, 1, 1, 0, 0, 0) := (congrArg (fun t => List.lookup 0 t) gt223).trans rfl
theorem t223_1 : zT 223 1 = some (.ifCond .lt 11, 3, 12, 0, 0, 0) := (congrArg (fun t => List.lookup 1 t) gt223).trans rfl
theorem t223_4 : zT 223 4 = some (.iload_n 1, 1, 1, 0, 0, 0) := (congrArg (fun t => List.lookup 4 t) gt223).trans rfl
theorem t223_5 : zT 223 5 = some (.aload_n 0, 1, 0, 0, 0, 0) := (congrArg (fun t => List.lookup 5 t) gt223).trans rfl
theorem t223_6 : zT 223 6 = some (.getfield 72, 3, 11, 10, 0, 608) := (congrArg (fun t => List.lookup 6 t) gt223).trans rfl
theorem t223_9 : zT 223 9 = some (.if_icmp .lt 7, 3, 16, 0, 0, 0) := (congrArg (fun t => List.lookup 9 t) gt223).trans rfl
theorem t223_12 : zT 223 12 = some (.iconst (-1), 1, 0, 0, (-1), 0) := (congrArg (fun t => List.lookup 12 t) gt223).trans rfl
theorem t223_13 : zT 223 13 = some (.goto 13, 3, 26, 0, 0, 0) := (congrArg (fun t => List.lookup 13 t) gt223).trans rfl
theorem t223_16 : zT 223 16 = some (.aload_n 0, 1, 0, 0, 0, 0) := (congrArg (fun t => List.lookup 16 t) gt223).trans rfl
theorem t223_17 : zT 223 17 = some (.getfield 68, 3, 11, 9, 0, 607) := (congrArg (fun t => List.lookup 17 t) gt223).trans rfl
theorem t223_20 : zT 223 20 = some (.iload_n 1, 1, 1, 0, 0, 0) := (congrArg (fun t => List.lookup 20 t) gt223).trans rfl
theorem t223_21 : zT 223 21 = some (.baload, 1, 0, 0, 0, 0) := (congrArg (fun t => List.lookup 21 t) gt223).trans rfl
theorem t223_22 : zT 223 22 = some (.sipush 255, 3, 0, 0, 255, 0) := (congrArg (fun t => List.lookup 22 t) gt223).trans rfl
theorem t223_25 : zT 223 25 = some (.iand, 1, 0, 0, 0, 0) := (congrArg (fun t => List.lookup 25 t) gt223).trans rfl
theorem t223_26 : zT 223 26 = some (.ireturn, 1, 0, 0, 0, 0) := (congrArg (fun t => List.lookup 26 t) gt223).trans rfl
theorem fk_zMc_10 : zK zMc 10 = (20, 60) := by decide +kernel
theorem fk_zMc_100 : zK zMc 100 = (20, 60) := by decide +kernel
theorem fk_zMc_101 : zK zMc 101 = (20, 60) := by decide +kernel
theorem fk_zMc_102 : zK zMc 102 = (20, 12) := by decide +kernel
theorem fk_zMc_103 : zK zMc 103 = (20, 12) := by decide +kernel
theorem fk_zMc_104 : zK zMc 104 = (20, 12) := by decide +kernel
theorem fk_zMc_105 : zK zMc 105 = (20, 9) := by decide +kernel
theorem fk_zMc_106 : zK zMc 106 = (21, 500) := by decide +kernel
theorem fk_zMc_107 : zK zMc 107 = (6, 0) := by decide +kernel
theorem fk_zMc_108 : zK zMc 108 = (20, 8) := by decide +kernel
theorem fk_zMc_109 : zK zMc 109 = (22, 8) := by decide +kernel
theorem fk_zMc_11 : zK zMc 11 = (20, 60) := by decide +kernel
theorem fk_zMc_110 : zK zMc 110 = (20, 60) := by decide +kernel
theorem fk_zMc_111 : zK zMc 111 = (20, 60) := by decide +kernel
theorem fk_zMc_112 : zK zMc 112 = (20, 60) := by decide +kernel
theorem fk_zMc_113 : zK zMc 113 = (20, 60) := by decide +kernel
theorem fk_zMc_114 : zK zMc 114 = (20, 12) := by decide +kernel
theorem fk_zMc_115 : zK zMc 115 = (20, 12) := by decide +kernel
theorem fk_zMc_116 : zK zMc 116 = (20, 12) := by decide +kernel
theorem fk_zMc_117 : zK zMc 117 = (20, 9) := by decide +kernel
theorem fk_zMc_118 : zK zMc 118 = (21, 500) := by decide +kernel
theorem fk_zMc_119 : zK zMc 119 = (6, 0) := by decide +kernel
theorem fk_zMc_12 : zK zMc 12 = (20, 60) := by decide +kernel
theorem fk_zMc_120 : zK zMc 120 = (20, 8) := by decide +kernel
theorem fk_zMc_121 : zK zMc 121 = (22, 8) := by decide +kernel
theorem fk_zMc_122 : zK zMc 122 = (20, 60) := by decide +kernel
theorem fk_zMc_123 : zK zMc 123 = (20, 60) := by decide +kernel
theorem fk_zMc_124 : zK zMc 124 = (20, 60) := by decide +kernel
theorem fk_zMc_125 : zK zMc 125 = (20, 60) := by decide +kernel
theorem fk_zMc_126 : zK zMc 126 = (20, 12) := by decide +kernel
theorem fk_zMc_127 : zK zMc 127 = (20, 12) := by decide +kernel
theorem fk_zMc_128 : zK zMc 128 = (20, 12) := by decide +kernel
theorem fk_zMc_129 : zK zMc 129 = (20, 9) := by decide +kernel
theorem fk_zMc_13 : zK zMc 13 = (20, 60) := by decide +kernel
theorem fk_zMc_130 : zK zMc 130 = (21, 500) := by decide +kernel
theorem fk_zMc_131 : zK zMc 131 = (6, 0) := by decide +kernel
theorem fk_zMc_132 : zK zMc 132 = (20, 8) := by decide +kernel
theorem fk_zMc_133 : zK zMc 133 = (22, 8) := by decide +kernel
theorem fk_zMc_134 : zK zMc 134 = (20, 60) := by decide +kernel
theorem fk_zMc_135 : zK zMc 135 = (20, 60) := by decide +kernel
theorem fk_zMc_136 : zK zMc 136 = (20, 60) := by decide +kernel
theorem fk_zMc_137 : zK zMc 137 = (20, 60) := by decide +kernel
theorem fk_zMc_138 : zK zMc 138 = (20, 12) := by decide +kernel
theorem fk_zMc_139 : zK zMc 139 = (20, 12) := by decide +kernel
theorem fk_zMc_14 : zK zMc 14 = (20, 12) := by decide +kernel
theorem fk_zMc_140 : zK zMc 140 = (20, 12) := by decide +kernel
theorem fk_zMc_141 : zK zMc 141 = (20, 9) := by decide +kernel
theorem fk_zMc_142 : zK zMc 142 = (21, 500) := by decide +kernel
theorem fk_zMc_143 : zK zMc 143 = (6, 0) := by decide +kernel
theorem fk_zMc_144 : zK zMc 144 = (20, 8) := by decide +kernel
theorem fk_zMc_145 : zK zMc 145 = (22, 8) := by decide +kernel
theorem fk_zMc_146 : zK zMc 146 = (20, 60) := by decide +kernel
theorem fk_zMc_147 : zK zMc 147 = (20, 60) := by decide +kernel
theorem fk_zMc_148 : zK zMc 148 = (20, 60) := by decide +kernel
theorem fk_zMc_149 : zK zMc 149 = (20, 60) := by decide +kernel
theorem fk_zMc_15 : zK zMc 15 = (20, 12) := by decide +kernel
theorem fk_zMc_150 : zK zMc 150 = (20, 12) := by decide +kernel
theorem fk_zMc_151 : zK zMc 151 = (20, 12) := by decide +kernel
theorem fk_zMc_152 : zK zMc 152 = (20, 12) := by decide +kernel
theorem fk_zMc_153 : zK zMc 153 = (20, 9) := by decide +kernel
theorem fk_zMc_154 : zK zMc 154 = (21, 500) := by decide +kernel
theorem fk_zMc_155 : zK zMc 155 = (7, 0) := by decide +kernel
theorem fk_zMc_156 : zK zMc 156 = (21, 500) := by decide +kernel
theorem fk_zMc_157 : zK zMc 157 = (3, 0) := by decide +kernel
theorem fk_zMc_158 : zK zMc 158 = (20, 4) := by decide +kernel
theorem fk_zMc_159 : zK zMc 159 = (20, 20) := by decide +kernel
theorem fk_zMc_16 : zK zMc 16 = (20, 12) := by decide +kernel
theorem fk_zMc_160 : zK zMc 160 = (20, 80) := by decide +kernel
theorem fk_zMc_164 : zK zMc 164 = (4, 0) := by decide +kernel
theorem fk_zMc_165 : zK zMc 165 = (0, 0) := by decide +kernel
theorem fk_zMc_166 : zK zMc 166 = (5, 0) := by decide +kernel
theorem fk_zMc_167 : zK zMc 167 = (20, 287) := by decide +kernel
theorem fk_zMc_168 : zK zMc 168 = (20, 287) := by decide +kernel
theorem fk_zMc_169 : zK zMc 169 = (20, 56) := by decide +kernel
theorem fk_zMc_17 : zK zMc 17 = (20, 9) := by decide +kernel
theorem fk_zMc_170 : zK zMc 170 = (20, 328) := by decide +kernel
theorem fk_zMc_171 : zK zMc 171 = (20, 60) := by decide +kernel
theorem fk_zMc_172 : zK zMc 172 = (20, 60) := by decide +kernel
theorem fk_zMc_173 : zK zMc 173 = (20, 60) := by decide +kernel
theorem fk_zMc_174 : zK zMc 174 = (20, 128) := by decide +kernel
theorem fk_zMc_175 : zK zMc 175 = (20, 128) := by decide +kernel
theorem fk_zMc_176 : zK zMc 176 = (20, 128) := by decide +kernel
theorem fk_zMc_177 : zK zMc 177 = (20, 128) := by decide +kernel
theorem fk_zMc_178 : zK zMc 178 = (20, 60) := by decide +kernel
theorem fk_zMc_179 : zK zMc 179 = (25, 20) := by decide +kernel
theorem fk_zMc_18 : zK zMc 18 = (21, 500) := by decide +kernel
theorem fk_zMc_180 : zK zMc 180 = (20, 287) := by decide +kernel
theorem fk_zMc_19 : zK zMc 19 = (6, 0) := by decide +kernel
theorem fk_zMc_2 : zK zMc 2 = (20, 9) := by decide +kernel
theorem fk_zMc_20 : zK zMc 20 = (20, 8) := by decide +kernel
theorem fk_zMc_21 : zK zMc 21 = (22, 8) := by decide +kernel
theorem fk_zMc_22 : zK zMc 22 = (20, 60) := by decide +kernel
theorem fk_zMc_23 : zK zMc 23 = (20, 60) := by decide +kernel
theorem fk_zMc_24 : zK zMc 24 = (20, 60) := by decide +kernel
theorem fk_zMc_241 : zK zMc 241 = (0, 0) := by decide +kernel
theorem fk_zMc_242 : zK zMc 242 = (5, 0) := by decide +kernel
theorem fk_zMc_243 : zK zMc 243 = (20, 287) := by decide +kernel
theorem fk_zMc_244 : zK zMc 244 = (20, 287) := by decide +kernel
theorem fk_zMc_245 : zK zMc 245 = (20, 56) := by decide +kernel
theorem fk_zMc_246 : zK zMc 246 = (20, 328) := by decide +kernel
theorem fk_zMc_247 : zK zMc 247 = (20, 60) := by decide +kernel
theorem fk_zMc_248 : zK zMc 248 = (20, 60) := by decide +kernel
theorem fk_zMc_249 : zK zMc 249 = (20, 60) := by decide +kernel
theorem fk_zMc_25 : zK zMc 25 = (20, 60) := by decide +kernel
theorem fk_zMc_250 : zK zMc 250 = (20, 128) := by decide +kernel
theorem fk_zMc_251 : zK zMc 251 = (20, 128) := by decide +kernel
theorem fk_zMc_252 : zK zMc 252 = (20, 128) := by decide +kernel
theorem fk_zMc_253 : zK zMc 253 = (20, 128) := by decide +kernel
theorem fk_zMc_254 : zK zMc 254 = (20, 60) := by decide +kernel
theorem fk_zMc_255 : zK zMc 255 = (25, 20) := by decide +kernel
theorem fk_zMc_256 : zK zMc 256 = (20, 287) := by decide +kernel
theorem fk_zMc_26 : zK zMc 26 = (20, 12) := by decide +kernel
theorem fk_zMc_27 : zK zMc 27 = (20, 12) := by decide +kernel
theorem fk_zMc_28 : zK zMc 28 = (20, 12) := by decide +kernel
theorem fk_zMc_29 : zK zMc 29 = (20, 9) := by decide +kernel
theorem fk_zMc_3 : zK zMc 3 = (20, 9) := by decide +kernel
theorem fk_zMc_30 : zK zMc 30 = (21, 500) := by decide +kernel
theorem fk_zMc_31 : zK zMc 31 = (2, 0) := by decide +kernel
theorem fk_zMc_317 : zK zMc 317 = (20, 60) := by decide +kernel
theorem fk_zMc_318 : zK zMc 318 = (20, 12) := by decide +kernel
theorem fk_zMc_319 : zK zMc 319 = (20, 240) := by decide +kernel
theorem fk_zMc_32 : zK zMc 32 = (24, 8) := by decide +kernel
theorem fk_zMc_320 : zK zMc 320 = (20, 20) := by decide +kernel
theorem fk_zMc_321 : zK zMc 321 = (20, 20) := by decide +kernel
theorem fk_zMc_322 : zK zMc 322 = (20, 20) := by decide +kernel
theorem fk_zMc_323 : zK zMc 323 = (22, 8) := by decide +kernel
theorem fk_zMc_324 : zK zMc 324 = (20, 8) := by decide +kernel
theorem fk_zMc_325 : zK zMc 325 = (1, 0) := by decide +kernel
theorem fk_zMc_326 : zK zMc 326 = (20, 9) := by decide +kernel
theorem fk_zMc_327 : zK zMc 327 = (20, 180) := by decide +kernel
theorem fk_zMc_328 : zK zMc 328 = (20, 180) := by decide +kernel
theorem fk_zMc_329 : zK zMc 329 = (20, 180) := by decide +kernel
theorem fk_zMc_33 : zK zMc 33 = (24, 2) := by decide +kernel
theorem fk_zMc_330 : zK zMc 330 = (20, 60) := by decide +kernel
theorem fk_zMc_331 : zK zMc 331 = (20, 60) := by decide +kernel
theorem fk_zMc_332 : zK zMc 332 = (10, 0) := by decide +kernel
theorem fk_zMc_333 : zK zMc 333 = (20, 8) := by decide +kernel
theorem fk_zMc_334 : zK zMc 334 = (20, 200) := by decide +kernel
theorem fk_zMc_335 : zK zMc 335 = (21, 128) := by decide +kernel
theorem fk_zMc_34 : zK zMc 34 = (22, 2) := by decide +kernel
theorem fk_zMc_35 : zK zMc 35 = (6, 0) := by decide +kernel
theorem fk_zMc_36 : zK zMc 36 = (20, 8) := by decide +kernel
theorem fk_zMc_37 : zK zMc 37 = (22, 8) := by decide +kernel
theorem fk_zMc_38 : zK zMc 38 = (20, 60) := by decide +kernel
theorem fk_zMc_39 : zK zMc 39 = (20, 60) := by decide +kernel
theorem fk_zMc_40 : zK zMc 40 = (20, 60) := by decide +kernel
theorem fk_zMc_41 : zK zMc 41 = (20, 60) := by decide +kernel
theorem fk_zMc_42 : zK zMc 42 = (20, 12) := by decide +kernel
theorem fk_zMc_43 : zK zMc 43 = (20, 12) := by decide +kernel
theorem fk_zMc_44 : zK zMc 44 = (20, 12) := by decide +kernel
theorem fk_zMc_45 : zK zMc 45 = (20, 9) := by decide +kernel
theorem fk_zMc_46 : zK zMc 46 = (21, 500) := by decide +kernel
theorem fk_zMc_47 : zK zMc 47 = (6, 0) := by decide +kernel
theorem fk_zMc_48 : zK zMc 48 = (20, 8) := by decide +kernel
theorem fk_zMc_49 : zK zMc 49 = (22, 8) := by decide +kernel
theorem fk_zMc_50 : zK zMc 50 = (20, 60) := by decide +kernel
theorem fk_zMc_51 : zK zMc 51 = (20, 60) := by decide +kernel
theorem fk_zMc_52 : zK zMc 52 = (20, 60) := by decide +kernel
theorem fk_zMc_53 : zK zMc 53 = (20, 60) := by decide +kernel
theorem fk_zMc_54 : zK zMc 54 = (20, 12) := by decide +kernel
theorem fk_zMc_55 : zK zMc 55 = (20, 12) := by decide +kernel
theorem fk_zMc_56 : zK zMc 56 = (20, 12) := by decide +kernel
theorem fk_zMc_57 : zK zMc 57 = (20, 9) := by decide +kernel
theorem fk_zMc_58 : zK zMc 58 = (21, 500) := by decide +kernel
theorem fk_zMc_59 : zK zMc 59 = (6, 0) := by decide +kernel
theorem fk_zMc_6 : zK zMc 6 = (11, 0) := by decide +kernel
theorem fk_zMc_60 : zK zMc 60 = (20, 8) := by decide +kernel
theorem fk_zMc_61 : zK zMc 61 = (22, 8) := by decide +kernel
theorem fk_zMc_62 : zK zMc 62 = (20, 60) := by decide +kernel
theorem fk_zMc_63 : zK zMc 63 = (20, 60) := by decide +kernel
theorem fk_zMc_64 : zK zMc 64 = (20, 60) := by decide +kernel
theorem fk_zMc_65 : zK zMc 65 = (20, 60) := by decide +kernel
theorem fk_zMc_66 : zK zMc 66 = (20, 12) := by decide +kernel
theorem fk_zMc_67 : zK zMc 67 = (20, 12) := by decide +kernel
theorem fk_zMc_68 : zK zMc 68 = (20, 12) := by decide +kernel
theorem fk_zMc_69 : zK zMc 69 = (20, 9) := by decide +kernel
theorem fk_zMc_7 : zK zMc 7 = (6, 0) := by decide +kernel
theorem fk_zMc_70 : zK zMc 70 = (21, 500) := by decide +kernel
theorem fk_zMc_71 : zK zMc 71 = (6, 0) := by decide +kernel
theorem fk_zMc_72 : zK zMc 72 = (20, 8) := by decide +kernel
theorem fk_zMc_73 : zK zMc 73 = (22, 8) := by decide +kernel
theorem fk_zMc_74 : zK zMc 74 = (20, 60) := by decide +kernel
theorem fk_zMc_75 : zK zMc 75 = (20, 60) := by decide +kernel
theorem fk_zMc_76 : zK zMc 76 = (20, 60) := by decide +kernel
theorem fk_zMc_77 : zK zMc 77 = (20, 60) := by decide +kernel
theorem fk_zMc_78 : zK zMc 78 = (20, 12) := by decide +kernel
theorem fk_zMc_79 : zK zMc 79 = (20, 12) := by decide +kernel
theorem fk_zMc_8 : zK zMc 8 = (20, 8) := by decide +kernel
theorem fk_zMc_80 : zK zMc 80 = (20, 12) := by decide +kernel
theorem fk_zMc_81 : zK zMc 81 = (20, 9) := by decide +kernel
theorem fk_zMc_82 : zK zMc 82 = (21, 500) := by decide +kernel
theorem fk_zMc_83 : zK zMc 83 = (6, 0) := by decide +kernel
theorem fk_zMc_84 : zK zMc 84 = (20, 8) := by decide +kernel
theorem fk_zMc_85 : zK zMc 85 = (22, 8) := by decide +kernel
theorem fk_zMc_86 : zK zMc 86 = (20, 60) := by decide +kernel
theorem fk_zMc_87 : zK zMc 87 = (20, 60) := by decide +kernel
theorem fk_zMc_88 : zK zMc 88 = (20, 60) := by decide +kernel
theorem fk_zMc_89 : zK zMc 89 = (20, 60) := by decide +kernel
theorem fk_zMc_9 : zK zMc 9 = (22, 8) := by decide +kernel
theorem fk_zMc_90 : zK zMc 90 = (20, 12) := by decide +kernel
theorem fk_zMc_91 : zK zMc 91 = (20, 12) := by decide +kernel
theorem fk_zMc_92 : zK zMc 92 = (20, 12) := by decide +kernel
theorem fk_zMc_93 : zK zMc 93 = (20, 9) := by decide +kernel
theorem fk_zMc_94 : zK zMc 94 = (21, 500) := by decide +kernel
theorem fk_zMc_95 : zK zMc 95 = (6, 0) := by decide +kernel
theorem fk_zMc_96 : zK zMc 96 = (20, 8) := by decide +kernel
theorem fk_zMc_97 : zK zMc 97 = (22, 8) := by decide +kernel
theorem fk_zMc_98 : zK zMc 98 = (20, 60) := by decide +kernel
theorem fk_zMc_99 : zK zMc 99 = (20, 60) := by decide +kernel
theorem fp_zMc_32_0 : va_rf (zP zMc 32 0) = .ref 35 := by decide +kernel
theorem fp_zMc_32_1 : va_rf (zP zMc 32 1) = .ref 47 := by decide +kernel
theorem fp_zMc_32_2 : va_rf (zP zMc 32 2) = .ref 59 := by decide +kernel
theorem fp_zMc_32_3 : va_rf (zP zMc 32 3) = .ref 71 := by decide +kernel
theorem fp_zMc_32_4 : va_rf (zP zMc 32 4) = .ref 83 := by decide +kernel
theorem fp_zMc_32_5 : va_rf (zP zMc 32 5) = .ref 95 := by decide +kernel
theorem fp_zMc_32_6 : va_rf (zP zMc 32 6) = .ref 107 := by decide +kernel
theorem fp_zMc_32_7 : va_rf (zP zMc 32 7) = .ref 119 := by decide +kernel
theorem fp_zMc_33_0 : va_rf (zP zMc 33 0) = .ref 131 := by decide +kernel
theorem fp_zMc_33_1 : va_rf (zP zMc 33 1) = .ref 143 := by decide +kernel
theorem fv_zMc_107_1 : zfv zMc 107 (cY 6 1) 1 = .ref 108 := by decide +kernel
theorem fv_zMc_107_10 : zfv zMc 107 (cY 6 10) 10 = .ref 115 := by decide +kernel
theorem fv_zMc_107_11 : zfv zMc 107 (cY 6 11) 11 = .ref 116 := by decide +kernel
theorem fv_zMc_107_12 : zfv zMc 107 (cY 6 12) 12 = .ref 117 := by decide +kernel
theorem fv_zMc_107_14 : zfv zMc 107 (cY 6 14) 14 = .ref 118 := by decide +kernel
theorem fv_zMc_107_2 : zfv zMc 107 (cY 6 2) 2 = .ref 109 := by decide +kernel
theorem fv_zMc_107_4 : zfv zMc 107 (cY 6 4) 4 = .ref 110 := by decide +kernel
theorem fv_zMc_107_5 : zfv zMc 107 (cY 6 5) 5 = .ref 111 := by decide +kernel
theorem fv_zMc_107_6 : zfv zMc 107 (cY 6 6) 6 = .ref 112 := by decide +kernel
theorem fv_zMc_107_7 : zfv zMc 107 (cY 6 7) 7 = .ref 113 := by decide +kernel
theorem fv_zMc_107_9 : zfv zMc 107 (cY 6 9) 9 = .ref 114 := by decide +kernel
theorem fv_zMc_119_1 : zfv zMc 119 (cY 6 1) 1 = .ref 120 := by decide +kernel
theorem fv_zMc_119_10 : zfv zMc 119 (cY 6 10) 10 = .ref 127 := by decide +kernel
theorem fv_zMc_119_11 : zfv zMc 119 (cY 6 11) 11 = .ref 128 := by decide +kernel
theorem fv_zMc_119_12 : zfv zMc 119 (cY 6 12) 12 = .ref 129 := by decide +kernel
theorem fv_zMc_119_14 : zfv zMc 119 (cY 6 14) 14 = .ref 130 := by decide +kernel
theorem fv_zMc_119_2 : zfv zMc 119 (cY 6 2) 2 = .ref 121 := by decide +kernel
theorem fv_zMc_119_4 : zfv zMc 119 (cY 6 4) 4 = .ref 122 := by decide +kernel
theorem fv_zMc_119_5 : zfv zMc 119 (cY 6 5) 5 = .ref 123 := by decide +kernel
theorem fv_zMc_119_6 : zfv zMc 119 (cY 6 6) 6 = .ref 124 := by decide +kernel
theorem fv_zMc_119_7 : zfv zMc 119 (cY 6 7) 7 = .ref 125 := by decide +kernel
theorem fv_zMc_119_9 : zfv zMc 119 (cY 6 9) 9 = .ref 126 := by decide +kernel
theorem fv_zMc_131_1 : zfv zMc 131 (cY 6 1) 1 = .ref 132 := by decide +kernel
theorem fv_zMc_131_10 : zfv zMc 131 (cY 6 10) 10 = .ref 139 := by decide +kernel
theorem fv_zMc_131_11 : zfv zMc 131 (cY 6 11) 11 = .ref 140 := by decide +kernel
theorem fv_zMc_131_12 : zfv zMc 131 (cY 6 12) 12 = .ref 141 := by decide +kernel
theorem fv_zMc_131_14 : zfv zMc 131 (cY 6 14) 14 = .ref 142 := by decide +kernel
theorem fv_zMc_131_2 : zfv zMc 131 (cY 6 2) 2 = .ref 133 := by decide +kernel
theorem fv_zMc_131_4 : zfv zMc 131 (cY 6 4) 4 = .ref 134 := by decide +kernel
theorem fv_zMc_131_5 : zfv zMc 131 (cY 6 5) 5 = .ref 135 := by decide +kernel
theorem fv_zMc_131_6 : zfv zMc 131 (cY 6 6) 6 = .ref 136 := by decide +kernel
theorem fv_zMc_131_7 : zfv zMc 131 (cY 6 7) 7 = .ref 137 := by decide +kernel
theorem fv_zMc_131_9 : zfv zMc 131 (cY 6 9) 9 = .ref 138 := by decide +kernel
theorem fv_zMc_143_1 : zfv zMc 143 (cY 6 1) 1 = .ref 144 := by decide +kernel
theorem fv_zMc_143_10 : zfv zMc 143 (cY 6 10) 10 = .ref 151 := by decide +kernel
theorem fv_zMc_143_11 : zfv zMc 143 (cY 6 11) 11 = .ref 152 := by decide +kernel
theorem fv_zMc_143_12 : zfv zMc 143 (cY 6 12) 12 = .ref 153 := by decide +kernel
theorem fv_zMc_143_14 : zfv zMc 143 (cY 6 14) 14 = .ref 154 := by decide +kernel
theorem fv_zMc_143_2 : zfv zMc 143 (cY 6 2) 2 = .ref 145 := by decide +kernel
theorem fv_zMc_143_4 : zfv zMc 143 (cY 6 4) 4 = .ref 146 := by decide +kernel
theorem fv_zMc_143_5 : zfv zMc 143 (cY 6 5) 5 = .ref 147 := by decide +kernel
theorem fv_zMc_143_6 : zfv zMc 143 (cY 6 6) 6 = .ref 148 := by decide +kernel
theorem fv_zMc_143_7 : zfv zMc 143 (cY 6 7) 7 = .ref 149 := by decide +kernel
theorem fv_zMc_143_9 : zfv zMc 143 (cY 6 9) 9 = .ref 150 := by decide +kernel
theorem fv_zMc_155_0 : zfv zMc 155 (cY 7 0) 0 = .ref 156 := by decide +kernel
theorem fv_zMc_157_0 : zfv zMc 157 (cY 3 0) 0 = .ref 158 := by decide +kernel
theorem fv_zMc_157_1 : zfv zMc 157 (cY 3 1) 1 = .ref 159 := by decide +kernel
theorem fv_zMc_157_2 : zfv zMc 157 (cY 3 2) 2 = .ref 160 := by decide +kernel
theorem fv_zMc_164_1 : zfv zMc 164 (cY 4 1) 1 = .ref 165 := by decide +kernel
theorem fv_zMc_164_10 : zfv zMc 164 (cY 4 10) 10 = .ref 320 := by decide +kernel
theorem fv_zMc_164_11 : zfv zMc 164 (cY 4 11) 11 = .ref 321 := by decide +kernel
theorem fv_zMc_164_12 : zfv zMc 164 (cY 4 12) 12 = .ref 322 := by decide +kernel
theorem fv_zMc_164_13 : zfv zMc 164 (cY 4 13) 13 = .ref 323 := by decide +kernel
theorem fv_zMc_164_14 : zfv zMc 164 (cY 4 14) 14 = .ref 324 := by decide +kernel
theorem fv_zMc_164_2 : zfv zMc 164 (cY 4 2) 2 = .ref 241 := by decide +kernel
theorem fv_zMc_164_6 : zfv zMc 164 (cY 4 6) 6 = .ref 317 := by decide +kernel
theorem fv_zMc_164_7 : zfv zMc 164 (cY 4 7) 7 = .ref 318 := by decide +kernel
theorem fv_zMc_164_8 : zfv zMc 164 (cY 4 8) 8 = .ref 319 := by decide +kernel
theorem fv_zMc_165_0 : zfv zMc 165 (cY 0 0) 0 = .ref 166 := by decide +kernel
theorem fv_zMc_165_1 : zfv zMc 165 (cY 0 1) 1 = .ref 179 := by decide +kernel
theorem fv_zMc_165_3 : zfv zMc 165 (cY 0 3) 3 = .ref 180 := by decide +kernel
theorem fv_zMc_166_1 : zfv zMc 166 (cY 5 1) 1 = .ref 167 := by decide +kernel
theorem fv_zMc_166_11 : zfv zMc 166 (cY 5 11) 11 = .ref 174 := by decide +kernel
theorem fv_zMc_166_12 : zfv zMc 166 (cY 5 12) 12 = .ref 175 := by decide +kernel
theorem fv_zMc_166_13 : zfv zMc 166 (cY 5 13) 13 = .ref 176 := by decide +kernel
theorem fv_zMc_166_14 : zfv zMc 166 (cY 5 14) 14 = .ref 177 := by decide +kernel
theorem fv_zMc_166_16 : zfv zMc 166 (cY 5 16) 16 = .ref 178 := by decide +kernel
theorem fv_zMc_166_2 : zfv zMc 166 (cY 5 2) 2 = .ref 168 := by decide +kernel
theorem fv_zMc_166_3 : zfv zMc 166 (cY 5 3) 3 = .ref 169 := by decide +kernel
theorem fv_zMc_166_4 : zfv zMc 166 (cY 5 4) 4 = .ref 170 := by decide +kernel
theorem fv_zMc_166_7 : zfv zMc 166 (cY 5 7) 7 = .ref 171 := by decide +kernel
theorem fv_zMc_166_8 : zfv zMc 166 (cY 5 8) 8 = .ref 172 := by decide +kernel
theorem fv_zMc_166_9 : zfv zMc 166 (cY 5 9) 9 = .ref 173 := by decide +kernel
theorem fv_zMc_19_1 : zfv zMc 19 (cY 6 1) 1 = .ref 20 := by decide +kernel
theorem fv_zMc_19_10 : zfv zMc 19 (cY 6 10) 10 = .ref 27 := by decide +kernel
theorem fv_zMc_19_11 : zfv zMc 19 (cY 6 11) 11 = .ref 28 := by decide +kernel
theorem fv_zMc_19_12 : zfv zMc 19 (cY 6 12) 12 = .ref 29 := by decide +kernel
theorem fv_zMc_19_14 : zfv zMc 19 (cY 6 14) 14 = .ref 30 := by decide +kernel
theorem fv_zMc_19_2 : zfv zMc 19 (cY 6 2) 2 = .ref 21 := by decide +kernel
theorem fv_zMc_19_4 : zfv zMc 19 (cY 6 4) 4 = .ref 22 := by decide +kernel
theorem fv_zMc_19_5 : zfv zMc 19 (cY 6 5) 5 = .ref 23 := by decide +kernel
theorem fv_zMc_19_6 : zfv zMc 19 (cY 6 6) 6 = .ref 24 := by decide +kernel
theorem fv_zMc_19_7 : zfv zMc 19 (cY 6 7) 7 = .ref 25 := by decide +kernel
theorem fv_zMc_19_9 : zfv zMc 19 (cY 6 9) 9 = .ref 26 := by decide +kernel
theorem fv_zMc_241_0 : zfv zMc 241 (cY 0 0) 0 = .ref 242 := by decide +kernel
theorem fv_zMc_241_1 : zfv zMc 241 (cY 0 1) 1 = .ref 255 := by decide +kernel
theorem fv_zMc_241_3 : zfv zMc 241 (cY 0 3) 3 = .ref 256 := by decide +kernel
theorem fv_zMc_242_1 : zfv zMc 242 (cY 5 1) 1 = .ref 243 := by decide +kernel
theorem fv_zMc_242_11 : zfv zMc 242 (cY 5 11) 11 = .ref 250 := by decide +kernel
theorem fv_zMc_242_12 : zfv zMc 242 (cY 5 12) 12 = .ref 251 := by decide +kernel
theorem fv_zMc_242_13 : zfv zMc 242 (cY 5 13) 13 = .ref 252 := by decide +kernel
theorem fv_zMc_242_14 : zfv zMc 242 (cY 5 14) 14 = .ref 253 := by decide +kernel
theorem fv_zMc_242_16 : zfv zMc 242 (cY 5 16) 16 = .ref 254 := by decide +kernel
theorem fv_zMc_242_2 : zfv zMc 242 (cY 5 2) 2 = .ref 244 := by decide +kernel
theorem fv_zMc_242_3 : zfv zMc 242 (cY 5 3) 3 = .ref 245 := by decide +kernel
theorem fv_zMc_242_4 : zfv zMc 242 (cY 5 4) 4 = .ref 246 := by decide +kernel
theorem fv_zMc_242_7 : zfv zMc 242 (cY 5 7) 7 = .ref 247 := by decide +kernel
theorem fv_zMc_242_8 : zfv zMc 242 (cY 5 8) 8 = .ref 248 := by decide +kernel
theorem fv_zMc_242_9 : zfv zMc 242 (cY 5 9) 9 = .ref 249 := by decide +kernel
theorem fv_zMc_31_0 : zfv zMc 31 (cY 2 0) 0 = .ref 32 := by decide +kernel
theorem fv_zMc_31_3 : zfv zMc 31 (cY 2 3) 3 = .ref 33 := by decide +kernel
theorem fv_zMc_31_4 : zfv zMc 31 (cY 2 4) 4 = .ref 34 := by decide +kernel
theorem fv_zMc_325_2 : zfv zMc 325 (cY 1 2) 2 = .ref 326 := by decide +kernel
theorem fv_zMc_325_3 : zfv zMc 325 (cY 1 3) 3 = .ref 327 := by decide +kernel
theorem fv_zMc_325_4 : zfv zMc 325 (cY 1 4) 4 = .ref 328 := by decide +kernel
theorem fv_zMc_325_5 : zfv zMc 325 (cY 1 5) 5 = .ref 329 := by decide +kernel
theorem fv_zMc_325_6 : zfv zMc 325 (cY 1 6) 6 = .ref 330 := by decide +kernel
theorem fv_zMc_325_7 : zfv zMc 325 (cY 1 7) 7 = .ref 331 := by decide +kernel
theorem fv_zMc_332_4 : zfv zMc 332 (cY 10 4) 4 = .ref 333 := by decide +kernel
theorem fv_zMc_332_5 : zfv zMc 332 (cY 10 5) 5 = .ref 334 := by decide +kernel
theorem fv_zMc_35_1 : zfv zMc 35 (cY 6 1) 1 = .ref 36 := by decide +kernel
theorem fv_zMc_35_10 : zfv zMc 35 (cY 6 10) 10 = .ref 43 := by decide +kernel
theorem fv_zMc_35_11 : zfv zMc 35 (cY 6 11) 11 = .ref 44 := by decide +kernel
theorem fv_zMc_35_12 : zfv zMc 35 (cY 6 12) 12 = .ref 45 := by decide +kernel
theorem fv_zMc_35_14 : zfv zMc 35 (cY 6 14) 14 = .ref 46 := by decide +kernel
theorem fv_zMc_35_2 : zfv zMc 35 (cY 6 2) 2 = .ref 37 := by decide +kernel
theorem fv_zMc_35_4 : zfv zMc 35 (cY 6 4) 4 = .ref 38 := by decide +kernel
theorem fv_zMc_35_5 : zfv zMc 35 (cY 6 5) 5 = .ref 39 := by decide +kernel
theorem fv_zMc_35_6 : zfv zMc 35 (cY 6 6) 6 = .ref 40 := by decide +kernel
theorem fv_zMc_35_7 : zfv zMc 35 (cY 6 7) 7 = .ref 41 := by decide +kernel
theorem fv_zMc_35_9 : zfv zMc 35 (cY 6 9) 9 = .ref 42 := by decide +kernel
theorem fv_zMc_47_1 : zfv zMc 47 (cY 6 1) 1 = .ref 48 := by decide +kernel
theorem fv_zMc_47_10 : zfv zMc 47 (cY 6 10) 10 = .ref 55 := by decide +kernel
theorem fv_zMc_47_11 : zfv zMc 47 (cY 6 11) 11 = .ref 56 := by decide +kernel
theorem fv_zMc_47_12 : zfv zMc 47 (cY 6 12) 12 = .ref 57 := by decide +kernel
theorem fv_zMc_47_14 : zfv zMc 47 (cY 6 14) 14 = .ref 58 := by decide +kernel
theorem fv_zMc_47_2 : zfv zMc 47 (cY 6 2) 2 = .ref 49 := by decide +kernel
theorem fv_zMc_47_4 : zfv zMc 47 (cY 6 4) 4 = .ref 50 := by decide +kernel
theorem fv_zMc_47_5 : zfv zMc 47 (cY 6 5) 5 = .ref 51 := by decide +kernel
theorem fv_zMc_47_6 : zfv zMc 47 (cY 6 6) 6 = .ref 52 := by decide +kernel
theorem fv_zMc_47_7 : zfv zMc 47 (cY 6 7) 7 = .ref 53 := by decide +kernel
theorem fv_zMc_47_9 : zfv zMc 47 (cY 6 9) 9 = .ref 54 := by decide +kernel
theorem fv_zMc_59_1 : zfv zMc 59 (cY 6 1) 1 = .ref 60 := by decide +kernel
theorem fv_zMc_59_10 : zfv zMc 59 (cY 6 10) 10 = .ref 67 := by decide +kernel
theorem fv_zMc_59_11 : zfv zMc 59 (cY 6 11) 11 = .ref 68 := by decide +kernel
theorem fv_zMc_59_12 : zfv zMc 59 (cY 6 12) 12 = .ref 69 := by decide +kernel
theorem fv_zMc_59_14 : zfv zMc 59 (cY 6 14) 14 = .ref 70 := by decide +kernel
theorem fv_zMc_59_2 : zfv zMc 59 (cY 6 2) 2 = .ref 61 := by decide +kernel
theorem fv_zMc_59_4 : zfv zMc 59 (cY 6 4) 4 = .ref 62 := by decide +kernel
theorem fv_zMc_59_5 : zfv zMc 59 (cY 6 5) 5 = .ref 63 := by decide +kernel
theorem fv_zMc_59_6 : zfv zMc 59 (cY 6 6) 6 = .ref 64 := by decide +kernel
theorem fv_zMc_59_7 : zfv zMc 59 (cY 6 7) 7 = .ref 65 := by decide +kernel
theorem fv_zMc_59_9 : zfv zMc 59 (cY 6 9) 9 = .ref 66 := by decide +kernel
theorem fv_zMc_6_0 : zfv zMc 6 (cY 11 0) 0 = .ref 7 := by decide +kernel
theorem fv_zMc_6_1 : zfv zMc 6 (cY 11 1) 1 = .ref 19 := by decide +kernel
theorem fv_zMc_6_2 : zfv zMc 6 (cY 11 2) 2 = .ref 31 := by decide +kernel
theorem fv_zMc_6_3 : zfv zMc 6 (cY 11 3) 3 = .ref 155 := by decide +kernel
theorem fv_zMc_6_4 : zfv zMc 6 (cY 11 4) 4 = .ref 157 := by decide +kernel
theorem fv_zMc_6_6 : zfv zMc 6 (cY 11 6) 6 = .ref 164 := by decide +kernel
theorem fv_zMc_6_7 : zfv zMc 6 (cY 11 7) 7 = .ref 325 := by decide +kernel
theorem fv_zMc_6_8 : zfv zMc 6 (cY 11 8) 8 = .ref 332 := by decide +kernel
theorem fv_zMc_6_9 : zfv zMc 6 (cY 11 9) 9 = .ref 335 := by decide +kernel
theorem fv_zMc_71_1 : zfv zMc 71 (cY 6 1) 1 = .ref 72 := by decide +kernel
theorem fv_zMc_71_10 : zfv zMc 71 (cY 6 10) 10 = .ref 79 := by decide +kernel
theorem fv_zMc_71_11 : zfv zMc 71 (cY 6 11) 11 = .ref 80 := by decide +kernel
theorem fv_zMc_71_12 : zfv zMc 71 (cY 6 12) 12 = .ref 81 := by decide +kernel
theorem fv_zMc_71_14 : zfv zMc 71 (cY 6 14) 14 = .ref 82 := by decide +kernel
theorem fv_zMc_71_2 : zfv zMc 71 (cY 6 2) 2 = .ref 73 := by decide +kernel
theorem fv_zMc_71_4 : zfv zMc 71 (cY 6 4) 4 = .ref 74 := by decide +kernel
theorem fv_zMc_71_5 : zfv zMc 71 (cY 6 5) 5 = .ref 75 := by decide +kernel
theorem fv_zMc_71_6 : zfv zMc 71 (cY 6 6) 6 = .ref 76 := by decide +kernel
theorem fv_zMc_71_7 : zfv zMc 71 (cY 6 7) 7 = .ref 77 := by decide +kernel
theorem fv_zMc_71_9 : zfv zMc 71 (cY 6 9) 9 = .ref 78 := by decide +kernel
theorem fv_zMc_7_1 : zfv zMc 7 (cY 6 1) 1 = .ref 8 := by decide +kernel
theorem fv_zMc_7_10 : zfv zMc 7 (cY 6 10) 10 = .ref 15 := by decide +kernel
theorem fv_zMc_7_11 : zfv zMc 7 (cY 6 11) 11 = .ref 16 := by decide +kernel
theorem fv_zMc_7_12 : zfv zMc 7 (cY 6 12) 12 = .ref 17 := by decide +kernel
theorem fv_zMc_7_14 : zfv zMc 7 (cY 6 14) 14 = .ref 18 := by decide +kernel
theorem fv_zMc_7_2 : zfv zMc 7 (cY 6 2) 2 = .ref 9 := by decide +kernel
theorem fv_zMc_7_4 : zfv zMc 7 (cY 6 4) 4 = .ref 10 := by decide +kernel
theorem fv_zMc_7_5 : zfv zMc 7 (cY 6 5) 5 = .ref 11 := by decide +kernel
theorem fv_zMc_7_6 : zfv zMc 7 (cY 6 6) 6 = .ref 12 := by decide +kernel
theorem fv_zMc_7_7 : zfv zMc 7 (cY 6 7) 7 = .ref 13 := by decide +kernel
theorem fv_zMc_7_9 : zfv zMc 7 (cY 6 9) 9 = .ref 14 := by decide +kernel
theorem fv_zMc_83_1 : zfv zMc 83 (cY 6 1) 1 = .ref 84 := by decide +kernel
theorem fv_zMc_83_10 : zfv zMc 83 (cY 6 10) 10 = .ref 91 := by decide +kernel
theorem fv_zMc_83_11 : zfv zMc 83 (cY 6 11) 11 = .ref 92 := by decide +kernel
theorem fv_zMc_83_12 : zfv zMc 83 (cY 6 12) 12 = .ref 93 := by decide +kernel
theorem fv_zMc_83_14 : zfv zMc 83 (cY 6 14) 14 = .ref 94 := by decide +kernel
theorem fv_zMc_83_2 : zfv zMc 83 (cY 6 2) 2 = .ref 85 := by decide +kernel
theorem fv_zMc_83_4 : zfv zMc 83 (cY 6 4) 4 = .ref 86 := by decide +kernel
theorem fv_zMc_83_5 : zfv zMc 83 (cY 6 5) 5 = .ref 87 := by decide +kernel
theorem fv_zMc_83_6 : zfv zMc 83 (cY 6 6) 6 = .ref 88 := by decide +kernel
theorem fv_zMc_83_7 : zfv zMc 83 (cY 6 7) 7 = .ref 89 := by decide +kernel
theorem fv_zMc_83_9 : zfv zMc 83 (cY 6 9) 9 = .ref 90 := by decide +kernel
theorem fv_zMc_95_1 : zfv zMc 95 (cY 6 1) 1 = .ref 96 := by decide +kernel
theorem fv_zMc_95_10 : zfv zMc 95 (cY 6 10) 10 = .ref 103 := by decide +kernel
theorem fv_zMc_95_11 : zfv zMc 95 (cY 6 11) 11 = .ref 104 := by decide +kernel
theorem fv_zMc_95_12 : zfv zMc 95 (cY 6 12) 12 = .ref 105 := by decide +kernel
theorem fv_zMc_95_14 : zfv zMc 95 (cY 6 14) 14 = .ref 106 := by decide +kernel
theorem fv_zMc_95_2 : zfv zMc 95 (cY 6 2) 2 = .ref 97 := by decide +kernel
theorem fv_zMc_95_4 : zfv zMc 95 (cY 6 4) 4 = .ref 98 := by decide +kernel
theorem fv_zMc_95_5 : zfv zMc 95 (cY 6 5) 5 = .ref 99 := by decide +kernel
theorem fv_zMc_95_6 : zfv zMc 95 (cY 6 6) 6 = .ref 100 := by decide +kernel
theorem fv_zMc_95_7 : zfv zMc 95 (cY 6 7) 7 = .ref 101 := by decide +kernel
theorem fv_zMc_95_9 : zfv zMc 95 (cY 6 9) 9 = .ref 102 := by decide +kernel
theorem ib10 {M : zM} (h : zIv cLo cHi M) (j : Nat) : 0 ≤ (zI M 10 j).toInt ∧ (zI M 10 j).toInt ≤ 7 := h 10 j
theorem ib105 {M : zM} (h : zIv cLo cHi M) (j : Nat) : (-300000) ≤ (zI M 105 j).toInt ∧ (zI M 105 j).toInt ≤ 300000 := h 105 j
theorem ib106 {M : zM} (h : zIv cLo cHi M) (j : Nat) : (-128) ≤ (zI M 106 j).toInt ∧ (zI M 106 j).toInt ≤ 127 := h 106 j
theorem ib107_0 {M : zM} (h : zIv cLo cHi M) : 0 ≤ (zI M 107 0).toInt ∧ (zI M 107 0).toInt ≤ 8 := h 107 0
theorem ib107_13 {M : zM} (h : zIv cLo cHi M) : 0 ≤ (zI M 107 13).toInt ∧ (zI M 107 13).toInt ≤ 500 := h 107 13
theorem ib107_3 {M : zM} (h : zIv cLo cHi M) : 0 ≤ (zI M 107 3).toInt ∧ (zI M 107 3).toInt ≤ 60 := h 107 3
theorem ib107_8 {M : zM} (h : zIv cLo cHi M) : 0 ≤ (zI M 107 8).toInt ∧ (zI M 107 8).toInt ≤ 12 := h 107 8
theorem ib109 {M : zM} (h : zIv cLo cHi M) (j : Nat) : 0 ≤ (zI M 109 j).toInt ∧ (zI M 109 j).toInt ≤ 1 := h 109 j
theorem ib110 {M : zM} (h : zIv cLo cHi M) (j : Nat) : 0 ≤ (zI M 110 j).toInt ∧ (zI M 110 j).toInt ≤ 7 := h 110 j
theorem ib117 {M : zM} (h : zIv cLo cHi M) (j : Nat) : (-300000) ≤ (zI M 117 j).toInt ∧ (zI M 117 j).toInt ≤ 300000 := h 117 j
theorem ib118 {M : zM} (h : zIv cLo cHi M) (j : Nat) : (-128) ≤ (zI M 118 j).toInt ∧ (zI M 118 j).toInt ≤ 127 := h 118 j
theorem ib119_0 {M : zM} (h : zIv cLo cHi M) : 0 ≤ (zI M 119 0).toInt ∧ (zI M 119 0).toInt ≤ 8 := h 119 0
theorem ib119_13 {M : zM} (h : zIv cLo cHi M) : 0 ≤ (zI M 119 13).toInt ∧ (zI M 119 13).toInt ≤ 500 := h 119 13
theorem ib119_3 {M : zM} (h : zIv cLo cHi M) : 0 ≤ (zI M 119 3).toInt ∧ (zI M 119 3).toInt ≤ 60 := h 119 3
theorem ib119_8 {M : zM} (h : zIv cLo cHi M) : 0 ≤ (zI M 119 8).toInt ∧ (zI M 119 8).toInt ≤ 12 := h 119 8
theorem ib12 {M : zM} (h : zIv cLo cHi M) (j : Nat) : (-2147483648) ≤ (zI M 12 j).toInt ∧ (zI M 12 j).toInt ≤ 2147483647 := h 12 j
theorem ib121 {M : zM} (h : zIv cLo cHi M) (j : Nat) : 0 ≤ (zI M 121 j).toInt ∧ (zI M 121 j).toInt ≤ 1 := h 121 j
theorem ib122 {M : zM} (h : zIv cLo cHi M) (j : Nat) : 0 ≤ (zI M 122 j).toInt ∧ (zI M 122 j).toInt ≤ 7 := h 122 j
