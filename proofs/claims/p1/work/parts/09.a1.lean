theorem t168_30 : zT 168 30 = some (.ireturn, 1, 0, 0, 0, 0) := by decide +kernel
theorem t169_0 : zT 169 0 = some (.aload_n 0, 1, 0, 0, 0, 0) := by decide +kernel
theorem t169_1 : zT 169 1 = some (.getfield 50, 3, 11, 6, 0, 604) := by decide +kernel
theorem t169_4 : zT 169 4 = some (.aload_n 0, 1, 0, 0, 0, 0) := by decide +kernel
theorem t169_5 : zT 169 5 = some (.getfield 12, 3, 11, 0, 0, 598) := by decide +kernel
theorem t169_8 : zT 169 8 = some (.invokevirtual 212, 3, 105, 0, 0, 1068) := by decide +kernel
theorem t169_11 : zT 169 11 = some (.iload_n 1, 1, 1, 0, 0, 0) := by decide +kernel
theorem t169_12 : zT 169 12 = some (.invokevirtual 256, 3, 163, 0, 0, 1356) := by decide +kernel
theorem t169_15 : zT 169 15 = some (.astore_n 3, 1, 3, 0, 0, 0) := by decide +kernel
theorem t169_16 : zT 169 16 = some (.aload_n 3, 1, 3, 0, 0, 0) := by decide +kernel
theorem t169_17 : zT 169 17 = some (.ifnonnull 6, 3, 23, 0, 0, 0) := by decide +kernel
theorem t169_20 : zT 169 20 = some (.ldc 196, 2, 0, 0, (-100000), 1066) := by decide +kernel
theorem t169_22 : zT 169 22 = some (.ireturn, 1, 0, 0, 0, 0) := by decide +kernel
theorem t172_0 : zT 172 0 = some (.aload_n 0, 1, 0, 0, 0, 0) := by decide +kernel
theorem t172_1 : zT 172 1 = some (.getfield 50, 3, 11, 6, 0, 604) := by decide +kernel
theorem t172_4 : zT 172 4 = some (.aload_n 0, 1, 0, 0, 0, 0) := by decide +kernel
theorem t172_5 : zT 172 5 = some (.getfield 12, 3, 11, 0, 0, 598) := by decide +kernel
theorem t172_8 : zT 172 8 = some (.invokevirtual 212, 3, 105, 0, 0, 1068) := by decide +kernel
theorem t172_11 : zT 172 11 = some (.iload_n 1, 1, 1, 0, 0, 0) := by decide +kernel
theorem t172_12 : zT 172 12 = some (.invokevirtual 256, 3, 163, 0, 0, 1356) := by decide +kernel
theorem t172_15 : zT 172 15 = some (.astore_n 3, 1, 3, 0, 0, 0) := by decide +kernel
theorem t172_16 : zT 172 16 = some (.aload_n 3, 1, 3, 0, 0, 0) := by decide +kernel
theorem t172_17 : zT 172 17 = some (.ifnull 14, 3, 31, 0, 0, 0) := by decide +kernel
theorem t172_31 : zT 172 31 = some (.iconst (-1), 1, 0, 0, (-1), 0) := by decide +kernel
theorem t172_32 : zT 172 32 = some (.goto 9, 3, 41, 0, 0, 0) := by decide +kernel
theorem t172_41 : zT 172 41 = some (.ireturn, 1, 0, 0, 0, 0) := by decide +kernel
theorem t173_0 : zT 173 0 = some (.aload_n 0, 1, 0, 0, 0, 0) := by decide +kernel
theorem t173_1 : zT 173 1 = some (.getfield 50, 3, 11, 6, 0, 604) := by decide +kernel
theorem t173_4 : zT 173 4 = some (.aload_n 0, 1, 0, 0, 0, 0) := by decide +kernel
theorem t173_5 : zT 173 5 = some (.getfield 12, 3, 11, 0, 0, 598) := by decide +kernel
theorem t173_8 : zT 173 8 = some (.invokevirtual 212, 3, 105, 0, 0, 1068) := by decide +kernel
theorem t173_11 : zT 173 11 = some (.iload_n 1, 1, 1, 0, 0, 0) := by decide +kernel
theorem t173_12 : zT 173 12 = some (.invokevirtual 256, 3, 163, 0, 0, 1356) := by decide +kernel
theorem t173_15 : zT 173 15 = some (.astore_n 3, 1, 3, 0, 0, 0) := by decide +kernel
theorem t173_16 : zT 173 16 = some (.aload_n 3, 1, 3, 0, 0, 0) := by decide +kernel
theorem t173_17 : zT 173 17 = some (.ifnonnull 7, 3, 24, 0, 0, 0) := by decide +kernel
theorem t173_20 : zT 173 20 = some (.ldc2_w 290, 3, 1, 0, (-1000000000000), 1375) := by decide +kernel
theorem t173_23 : zT 173 23 = some (.lreturn, 1, 0, 0, 0, 0) := by decide +kernel
theorem t177_0 : zT 177 0 = some (.iload_n 1, 1, 1, 0, 0, 0) := by decide +kernel
theorem t177_1 : zT 177 1 = some (.ifCond .lt 21, 3, 22, 0, 0, 0) := by decide +kernel
theorem t177_4 : zT 177 4 = some (.iload_n 1, 1, 1, 0, 0, 0) := by decide +kernel
theorem t177_5 : zT 177 5 = some (.aload_n 0, 1, 0, 0, 0, 0) := by decide +kernel
theorem t177_6 : zT 177 6 = some (.getfield 50, 3, 11, 6, 0, 604) := by decide +kernel
theorem t177_9 : zT 177 9 = some (.aload_n 0, 1, 0, 0, 0, 0) := by decide +kernel
theorem t177_10 : zT 177 10 = some (.getfield 12, 3, 11, 0, 0, 598) := by decide +kernel
theorem t177_13 : zT 177 13 = some (.invokevirtual 212, 3, 105, 0, 0, 1068) := by decide +kernel
theorem t177_16 : zT 177 16 = some (.invokevirtual 312, 3, 152, 0, 0, 1273) := by decide +kernel
theorem t177_19 : zT 177 19 = some (.if_icmp .lt 6, 3, 25, 0, 0, 0) := by decide +kernel
theorem t177_22 : zT 177 22 = some (.ldc 196, 2, 0, 0, (-100000), 1066) := by decide +kernel
theorem t177_24 : zT 177 24 = some (.ireturn, 1, 0, 0, 0, 0) := by decide +kernel
theorem t194_0 : zT 194 0 = some (.aload_n 0, 1, 0, 0, 0, 0) := by decide +kernel
theorem t194_1 : zT 194 1 = some (.getfield 12, 3, 11, 0, 0, 598) := by decide +kernel
theorem t194_4 : zT 194 4 = some (.iload_n 1, 1, 1, 0, 0, 0) := by decide +kernel
theorem t194_5 : zT 194 5 = some (.invokevirtual 179, 3, 41, 0, 0, 1023) := by decide +kernel
theorem t194_8 : zT 194 8 = some (.ifCond .eq 25, 3, 33, 0, 0, 0) := by decide +kernel
theorem t194_33 : zT 194 33 = some (.ldc 196, 2, 0, 0, (-100000), 1066) := by decide +kernel
theorem t194_35 : zT 194 35 = some (.ireturn, 1, 0, 0, 0, 0) := by decide +kernel
theorem t196_0 : zT 196 0 = some (.iload_n 1, 1, 1, 0, 0, 0) := by decide +kernel
theorem t196_1 : zT 196 1 = some (.iconst 0, 1, 0, 0, 0, 0) := by decide +kernel
theorem t196_2 : zT 196 2 = some (.iconst 2, 1, 0, 0, 2, 0) := by decide +kernel
theorem t196_3 : zT 196 3 = some (.invokestatic 246, 3, 39, 1, 0, 1028) := by decide +kernel
theorem t196_6 : zT 196 6 = some (.ifCond .ne 5, 3, 11, 0, 0, 0) := by decide +kernel
theorem t196_9 : zT 196 9 = some (.iconst (-1), 1, 0, 0, (-1), 0) := by decide +kernel
theorem t196_10 : zT 196 10 = some (.ireturn, 1, 0, 0, 0, 0) := by decide +kernel
theorem t196_11 : zT 196 11 = some (.aload_n 0, 1, 0, 0, 0, 0) := by decide +kernel
theorem t196_12 : zT 196 12 = some (.getfield 50, 3, 11, 6, 0, 604) := by decide +kernel
theorem t196_15 : zT 196 15 = some (.aload_n 0, 1, 0, 0, 0, 0) := by decide +kernel
theorem t196_16 : zT 196 16 = some (.getfield 12, 3, 11, 0, 0, 598) := by decide +kernel
theorem t196_19 : zT 196 19 = some (.invokevirtual 212, 3, 105, 0, 0, 1068) := by decide +kernel
theorem t196_22 : zT 196 22 = some (.invokevirtual 393, 3, 197, 0, 0, 1477) := by decide +kernel
theorem t196_25 : zT 196 25 = some (.istore_n 2, 1, 2, 0, 0, 0) := by decide +kernel
theorem t196_26 : zT 196 26 = some (.iload_n 1, 1, 1, 0, 0, 0) := by decide +kernel
theorem t196_27 : zT 196 27 = some (.ifCond .ne 5, 3, 32, 0, 0, 0) := by decide +kernel
theorem t196_30 : zT 196 30 = some (.iload_n 2, 1, 2, 0, 0, 0) := by decide +kernel
theorem t196_31 : zT 196 31 = some (.ireturn, 1, 0, 0, 0, 0) := by decide +kernel
theorem t196_32 : zT 196 32 = some (.iload_n 1, 1, 1, 0, 0, 0) := by decide +kernel
theorem t196_33 : zT 196 33 = some (.iconst 1, 1, 0, 0, 1, 0) := by decide +kernel
theorem t196_34 : zT 196 34 = some (.if_icmp .ne 14, 3, 48, 0, 0, 0) := by decide +kernel
theorem t196_37 : zT 196 37 = some (.aload_n 0, 1, 0, 0, 0, 0) := by decide +kernel
theorem t196_38 : zT 196 38 = some (.getfield 50, 3, 11, 6, 0, 604) := by decide +kernel
theorem t196_41 : zT 196 41 = some (.iload_n 2, 1, 2, 0, 0, 0) := by decide +kernel
theorem t196_42 : zT 196 42 = some (.invokevirtual 396, 3, 198, 0, 0, 1491) := by decide +kernel
theorem t196_45 : zT 196 45 = some (.goto 11, 3, 56, 0, 0, 0) := by decide +kernel
theorem t196_48 : zT 196 48 = some (.aload_n 0, 1, 0, 0, 0, 0) := by decide +kernel
theorem t196_49 : zT 196 49 = some (.getfield 50, 3, 11, 6, 0, 604) := by decide +kernel
theorem t196_52 : zT 196 52 = some (.iload_n 2, 1, 2, 0, 0, 0) := by decide +kernel
theorem t196_53 : zT 196 53 = some (.invokevirtual 399, 3, 199, 0, 0, 1492) := by decide +kernel
theorem t196_56 : zT 196 56 = some (.ireturn, 1, 0, 0, 0, 0) := by decide +kernel
theorem t200_0 : zT 200 0 = some (.aload_n 0, 1, 0, 0, 0, 0) := by decide +kernel
theorem t200_1 : zT 200 1 = some (.getfield 50, 3, 11, 6, 0, 604) := by decide +kernel
theorem t200_4 : zT 200 4 = some (.aload_n 0, 1, 0, 0, 0, 0) := by decide +kernel
theorem t200_5 : zT 200 5 = some (.getfield 12, 3, 11, 0, 0, 598) := by decide +kernel
theorem t200_8 : zT 200 8 = some (.invokevirtual 212, 3, 105, 0, 0, 1068) := by decide +kernel
theorem t200_11 : zT 200 11 = some (.iload_n 1, 1, 1, 0, 0, 0) := by decide +kernel
theorem t200_12 : zT 200 12 = some (.invokevirtual 256, 3, 163, 0, 0, 1356) := by decide +kernel
theorem t200_15 : zT 200 15 = some (.astore 4, 2, 0, 0, 0, 0) := by decide +kernel
theorem t200_17 : zT 200 17 = some (.aload_n 0, 1, 0, 0, 0, 0) := by decide +kernel
theorem t200_18 : zT 200 18 = some (.getfield 50, 3, 11, 6, 0, 604) := by decide +kernel
theorem t200_21 : zT 200 21 = some (.iload_n 2, 1, 2, 0, 0, 0) := by decide +kernel
theorem t200_22 : zT 200 22 = some (.invokevirtual 256, 3, 163, 0, 0, 1356) := by decide +kernel
theorem t200_25 : zT 200 25 = some (.astore 5, 2, 0, 0, 0, 0) := by decide +kernel
theorem t200_27 : zT 200 27 = some (.aload 4, 2, 0, 0, 0, 0) := by decide +kernel
theorem t200_29 : zT 200 29 = some (.ifnull 22, 3, 51, 0, 0, 0) := by decide +kernel
theorem t200_51 : zT 200 51 = some (.ldc2_w 290, 3, 1, 0, (-1000000000000), 1375) := by decide +kernel
theorem t200_54 : zT 200 54 = some (.lreturn, 1, 0, 0, 0, 0) := by decide +kernel
theorem t201_0 : zT 201 0 = some (.aload_n 0, 1, 0, 0, 0, 0) := by decide +kernel
theorem t201_1 : zT 201 1 = some (.getfield 50, 3, 11, 6, 0, 604) := by decide +kernel
theorem t201_4 : zT 201 4 = some (.aload_n 0, 1, 0, 0, 0, 0) := by decide +kernel
theorem t201_5 : zT 201 5 = some (.getfield 12, 3, 11, 0, 0, 598) := by decide +kernel
theorem t201_8 : zT 201 8 = some (.invokevirtual 212, 3, 105, 0, 0, 1068) := by decide +kernel
theorem t201_11 : zT 201 11 = some (.iload_n 1, 1, 1, 0, 0, 0) := by decide +kernel
theorem t201_12 : zT 201 12 = some (.invokevirtual 256, 3, 163, 0, 0, 1356) := by decide +kernel
theorem t201_15 : zT 201 15 = some (.astore_n 3, 1, 3, 0, 0, 0) := by decide +kernel
theorem t201_16 : zT 201 16 = some (.aload_n 3, 1, 3, 0, 0, 0) := by decide +kernel
theorem t201_17 : zT 201 17 = some (.ifnull 14, 3, 31, 0, 0, 0) := by decide +kernel
theorem t201_31 : zT 201 31 = some (.ldc 196, 2, 0, 0, (-100000), 1066) := by decide +kernel
theorem t201_33 : zT 201 33 = some (.goto 12, 3, 45, 0, 0, 0) := by decide +kernel
theorem t201_45 : zT 201 45 = some (.ireturn, 1, 0, 0, 0, 0) := by decide +kernel
theorem t203_0 : zT 203 0 = some (.aload_n 0, 1, 0, 0, 0, 0) := by decide +kernel
theorem t203_1 : zT 203 1 = some (.getfield 50, 3, 11, 6, 0, 604) := by decide +kernel
theorem t203_4 : zT 203 4 = some (.aload_n 0, 1, 0, 0, 0, 0) := by decide +kernel
theorem t203_5 : zT 203 5 = some (.getfield 12, 3, 11, 0, 0, 598) := by decide +kernel
theorem t203_8 : zT 203 8 = some (.invokevirtual 212, 3, 105, 0, 0, 1068) := by decide +kernel
theorem t203_11 : zT 203 11 = some (.iload_n 1, 1, 1, 0, 0, 0) := by decide +kernel
theorem t203_12 : zT 203 12 = some (.invokevirtual 256, 3, 163, 0, 0, 1356) := by decide +kernel
theorem t203_15 : zT 203 15 = some (.astore_n 2, 1, 2, 0, 0, 0) := by decide +kernel
theorem t203_16 : zT 203 16 = some (.aload_n 2, 1, 2, 0, 0, 0) := by decide +kernel
theorem t203_17 : zT 203 17 = some (.ifnonnull 5, 3, 22, 0, 0, 0) := by decide +kernel
theorem t203_20 : zT 203 20 = some (.iconst (-1), 1, 0, 0, (-1), 0) := by decide +kernel
theorem t203_21 : zT 203 21 = some (.ireturn, 1, 0, 0, 0, 0) := by decide +kernel
theorem t204_0 : zT 204 0 = some (.aload_n 0, 1, 0, 0, 0, 0) := by decide +kernel
theorem t204_1 : zT 204 1 = some (.getfield 50, 3, 11, 6, 0, 604) := by decide +kernel
theorem t204_4 : zT 204 4 = some (.aload_n 0, 1, 0, 0, 0, 0) := by decide +kernel
theorem t204_5 : zT 204 5 = some (.getfield 12, 3, 11, 0, 0, 598) := by decide +kernel
theorem t204_8 : zT 204 8 = some (.invokevirtual 212, 3, 105, 0, 0, 1068) := by decide +kernel
theorem t204_11 : zT 204 11 = some (.iload_n 1, 1, 1, 0, 0, 0) := by decide +kernel
theorem t204_12 : zT 204 12 = some (.invokevirtual 256, 3, 163, 0, 0, 1356) := by decide +kernel
theorem t204_15 : zT 204 15 = some (.astore_n 3, 1, 3, 0, 0, 0) := by decide +kernel
theorem t204_16 : zT 204 16 = some (.aload_n 3, 1, 3, 0, 0, 0) := by decide +kernel
theorem t204_17 : zT 204 17 = some (.ifnull 14, 3, 31, 0, 0, 0) := by decide +kernel
theorem t204_31 : zT 204 31 = some (.iconst (-1), 1, 0, 0, (-1), 0) := by decide +kernel
theorem t204_32 : zT 204 32 = some (.ireturn, 1, 0, 0, 0, 0) := by decide +kernel
theorem t205_0 : zT 205 0 = some (.aload_n 0, 1, 0, 0, 0, 0) := by decide +kernel
theorem t205_1 : zT 205 1 = some (.getfield 12, 3, 11, 0, 0, 598) := by decide +kernel
theorem t205_4 : zT 205 4 = some (.iload_n 1, 1, 1, 0, 0, 0) := by decide +kernel
theorem t205_5 : zT 205 5 = some (.invokevirtual 179, 3, 41, 0, 0, 1023) := by decide +kernel
theorem t205_8 : zT 205 8 = some (.ifCond .eq 12, 3, 20, 0, 0, 0) := by decide +kernel
theorem t205_20 : zT 205 20 = some (.ldc 196, 2, 0, 0, (-100000), 1066) := by decide +kernel
theorem t205_22 : zT 205 22 = some (.ireturn, 1, 0, 0, 0, 0) := by decide +kernel
theorem t206_0 : zT 206 0 = some (.aload_n 0, 1, 0, 0, 0, 0) := by decide +kernel
theorem t206_1 : zT 206 1 = some (.getfield 12, 3, 11, 0, 0, 598) := by decide +kernel
theorem t206_4 : zT 206 4 = some (.iload_n 1, 1, 1, 0, 0, 0) := by decide +kernel
theorem t206_5 : zT 206 5 = some (.invokevirtual 179, 3, 41, 0, 0, 1023) := by decide +kernel
theorem t206_8 : zT 206 8 = some (.ifCond .eq 16, 3, 24, 0, 0, 0) := by decide +kernel
theorem t206_24 : zT 206 24 = some (.iconst (-1), 1, 0, 0, (-1), 0) := by decide +kernel
theorem t206_25 : zT 206 25 = some (.ireturn, 1, 0, 0, 0, 0) := by decide +kernel
theorem t207_0 : zT 207 0 = some (.iload_n 1, 1, 1, 0, 0, 0) := by decide +kernel
theorem t207_1 : zT 207 1 = some (.iconst 0, 1, 0, 0, 0, 0) := by decide +kernel
theorem t207_2 : zT 207 2 = some (.bipush 19, 2, 0, 0, 19, 0) := by decide +kernel
theorem t207_4 : zT 207 4 = some (.invokestatic 246, 3, 39, 1, 0, 1028) := by decide +kernel
theorem t207_7 : zT 207 7 = some (.ifCond .eq 12, 3, 19, 0, 0, 0) := by decide +kernel
theorem t207_10 : zT 207 10 = some (.iload_n 2, 1, 2, 0, 0, 0) := by decide +kernel
theorem t207_11 : zT 207 11 = some (.iconst 0, 1, 0, 0, 0, 0) := by decide +kernel
theorem t207_12 : zT 207 12 = some (.iconst 3, 1, 0, 0, 3, 0) := by decide +kernel
theorem t207_13 : zT 207 13 = some (.invokestatic 246, 3, 39, 1, 0, 1028) := by decide +kernel
theorem t207_16 : zT 207 16 = some (.ifCond .ne 6, 3, 22, 0, 0, 0) := by decide +kernel
theorem t207_19 : zT 207 19 = some (.ldc 196, 2, 0, 0, (-100000), 1066) := by decide +kernel
theorem t207_21 : zT 207 21 = some (.ireturn, 1, 0, 0, 0, 0) := by decide +kernel
theorem t207_22 : zT 207 22 = some (.aload_n 0, 1, 0, 0, 0, 0) := by decide +kernel
theorem t207_23 : zT 207 23 = some (.getfield 57, 3, 11, 7, 0, 605) := by decide +kernel
theorem t207_26 : zT 207 26 = some (.aload_n 0, 1, 0, 0, 0, 0) := by decide +kernel
theorem t207_27 : zT 207 27 = some (.getfield 12, 3, 11, 0, 0, 598) := by decide +kernel
theorem t207_30 : zT 207 30 = some (.aload_n 0, 1, 0, 0, 0, 0) := by decide +kernel
theorem t207_31 : zT 207 31 = some (.getfield 50, 3, 11, 6, 0, 604) := by decide +kernel
theorem t207_34 : zT 207 34 = some (.aload_n 0, 1, 0, 0, 0, 0) := by decide +kernel
theorem t207_35 : zT 207 35 = some (.getfield 12, 3, 11, 0, 0, 598) := by decide +kernel
theorem t207_38 : zT 207 38 = some (.invokevirtual 212, 3, 105, 0, 0, 1068) := by decide +kernel
theorem t207_41 : zT 207 41 = some (.invokevirtual 344, 3, 153, 0, 0, 1277) := by decide +kernel
theorem t207_44 : zT 207 44 = some (.iload_n 1, 1, 1, 0, 0, 0) := by decide +kernel
theorem t207_45 : zT 207 45 = some (.iload_n 2, 1, 2, 0, 0, 0) := by decide +kernel
theorem t207_46 : zT 207 46 = some (.invokevirtual 431, 3, 208, 0, 0, 1535) := by decide +kernel
theorem t207_49 : zT 207 49 = some (.ireturn, 1, 0, 0, 0, 0) := by decide +kernel
theorem t208_0 : zT 208 0 = some (.iload_n 1, 1, 1, 0, 0, 0) := by decide +kernel
theorem t208_1 : zT 208 1 = some (.istore_n 3, 1, 3, 0, 0, 0) := by decide +kernel
theorem t208_2 : zT 208 2 = some (.bipush 8, 2, 0, 0, 8, 0) := by decide +kernel
theorem t208_4 : zT 208 4 = some (.istore 4, 2, 0, 0, 0, 0) := by decide +kernel
theorem t208_6 : zT 208 6 = some (.iload 4, 2, 0, 0, 0, 0) := by decide +kernel
theorem t208_8 : zT 208 8 = some (.ifCond .lt 49, 3, 57, 0, 0, 0) := by decide +kernel
theorem t208_11 : zT 208 11 = some (.iload_n 3, 1, 3, 0, 0, 0) := by decide +kernel
theorem t208_12 : zT 208 12 = some (.ifCond .lt 45, 3, 57, 0, 0, 0) := by decide +kernel
theorem t208_15 : zT 208 15 = some (.iload_n 3, 1, 3, 0, 0, 0) := by decide +kernel
theorem t208_16 : zT 208 16 = some (.aload_n 0, 1, 0, 0, 0, 0) := by decide +kernel
theorem t208_17 : zT 208 17 = some (.getfield 19, 3, 1, 2, 0, 546) := by decide +kernel
theorem t208_20 : zT 208 20 = some (.iload 4, 2, 0, 0, 0, 0) := by decide +kernel
theorem t208_22 : zT 208 22 = some (.iaload, 1, 0, 0, 0, 0) := by decide +kernel
theorem t208_23 : zT 208 23 = some (.if_icmp .ge 18, 3, 41, 0, 0, 0) := by decide +kernel
theorem t208_41 : zT 208 41 = some (.iload_n 3, 1, 3, 0, 0, 0) := by decide +kernel
theorem t208_42 : zT 208 42 = some (.aload_n 0, 1, 0, 0, 0, 0) := by decide +kernel
theorem t208_43 : zT 208 43 = some (.getfield 19, 3, 1, 2, 0, 546) := by decide +kernel
theorem t208_46 : zT 208 46 = some (.iload 4, 2, 0, 0, 0, 0) := by decide +kernel
theorem t208_48 : zT 208 48 = some (.iaload, 1, 0, 0, 0, 0) := by decide +kernel
theorem t208_49 : zT 208 49 = some (.isub, 1, 0, 0, 0, 0) := by decide +kernel
theorem t208_50 : zT 208 50 = some (.istore_n 3, 1, 3, 0, 0, 0) := by decide +kernel
theorem t208_51 : zT 208 51 = some (.iinc 4 (-1), 3, 0, 0, 0, 0) := by decide +kernel
theorem t208_54 : zT 208 54 = some (.goto (-48), 3, 6, 0, 0, 0) := by decide +kernel
theorem t208_57 : zT 208 57 = some (.ldc 130, 2, 0, 0, (-100000), 1543) := by decide +kernel
theorem t208_59 : zT 208 59 = some (.ireturn, 1, 0, 0, 0, 0) := by decide +kernel
theorem t210_0 : zT 210 0 = some (.iload_n 1, 1, 1, 0, 0, 0) := by decide +kernel
theorem t210_1 : zT 210 1 = some (.iconst 1, 1, 0, 0, 1, 0) := by decide +kernel
theorem t210_2 : zT 210 2 = some (.sipush 1000, 3, 0, 0, 1000, 0) := by decide +kernel
theorem t210_5 : zT 210 5 = some (.invokestatic 246, 3, 39, 1, 0, 1028) := by decide +kernel
theorem t210_8 : zT 210 8 = some (.ifCond .eq 12, 3, 20, 0, 0, 0) := by decide +kernel
theorem t210_11 : zT 210 11 = some (.iload_n 2, 1, 2, 0, 0, 0) := by decide +kernel
theorem t210_12 : zT 210 12 = some (.iconst 0, 1, 0, 0, 0, 0) := by decide +kernel
theorem t210_13 : zT 210 13 = some (.iconst 1, 1, 0, 0, 1, 0) := by decide +kernel
theorem t210_14 : zT 210 14 = some (.invokestatic 246, 3, 39, 1, 0, 1028) := by decide +kernel
theorem t210_17 : zT 210 17 = some (.ifCond .ne 5, 3, 22, 0, 0, 0) := by decide +kernel
theorem t210_20 : zT 210 20 = some (.iconst (-1), 1, 0, 0, (-1), 0) := by decide +kernel
theorem t210_21 : zT 210 21 = some (.ireturn, 1, 0, 0, 0, 0) := by decide +kernel
theorem t210_22 : zT 210 22 = some (.iconst 0, 1, 0, 0, 0, 0) := by decide +kernel
theorem t210_23 : zT 210 23 = some (.istore_n 3, 1, 3, 0, 0, 0) := by decide +kernel
theorem t210_24 : zT 210 24 = some (.aload_n 0, 1, 0, 0, 0, 0) := by decide +kernel
theorem t210_25 : zT 210 25 = some (.getfield 12, 3, 11, 0, 0, 598) := by decide +kernel
theorem t210_28 : zT 210 28 = some (.iconst 0, 1, 0, 0, 0, 0) := by decide +kernel
theorem t210_29 : zT 210 29 = some (.iload_n 1, 1, 1, 0, 0, 0) := by decide +kernel
theorem t210_30 : zT 210 30 = some (.iconst 1, 1, 0, 0, 1, 0) := by decide +kernel
theorem t210_31 : zT 210 31 = some (.isub, 1, 0, 0, 0, 0) := by decide +kernel
theorem t210_32 : zT 210 32 = some (.invokevirtual 434, 3, 211, 0, 0, 1548) := by decide +kernel
theorem t210_35 : zT 210 35 = some (.istore 4, 2, 0, 0, 0, 0) := by decide +kernel
theorem t210_37 : zT 210 37 = some (.iconst 0, 1, 0, 0, 0, 0) := by decide +kernel
theorem t210_38 : zT 210 38 = some (.istore 5, 2, 0, 0, 0, 0) := by decide +kernel
theorem t210_40 : zT 210 40 = some (.iload 5, 2, 0, 0, 0, 0) := by decide +kernel
theorem t210_42 : zT 210 42 = some (.aload_n 0, 1, 0, 0, 0, 0) := by decide +kernel
theorem t210_43 : zT 210 43 = some (.getfield 12, 3, 11, 0, 0, 598) := by decide +kernel
theorem t210_46 : zT 210 46 = some (.getfield 167, 3, 6, 3, 0, 167) := by decide +kernel
theorem t210_49 : zT 210 49 = some (.if_icmp .ge 77, 3, 126, 0, 0, 0) := by decide +kernel
theorem t210_126 : zT 210 126 = some (.iload_n 2, 1, 2, 0, 0, 0) := by decide +kernel
theorem t210_127 : zT 210 127 = some (.ifCond .ne 7, 3, 134, 0, 0, 0) := by decide +kernel
theorem t210_130 : zT 210 130 = some (.iload_n 3, 1, 3, 0, 0, 0) := by decide +kernel
theorem t210_131 : zT 210 131 = some (.goto 5, 3, 136, 0, 0, 0) := by decide +kernel
theorem t210_134 : zT 210 134 = some (.iload 4, 2, 0, 0, 0, 0) := by decide +kernel
theorem t210_136 : zT 210 136 = some (.ireturn, 1, 0, 0, 0, 0) := by decide +kernel
theorem t211_0 : zT 211 0 = some (.iconst 0, 1, 0, 0, 0, 0) := by decide +kernel
theorem t211_1 : zT 211 1 = some (.istore_n 3, 1, 3, 0, 0, 0) := by decide +kernel
theorem t211_2 : zT 211 2 = some (.iconst 0, 1, 0, 0, 0, 0) := by decide +kernel
theorem t211_3 : zT 211 3 = some (.istore 4, 2, 0, 0, 0, 0) := by decide +kernel
theorem t211_5 : zT 211 5 = some (.iload 4, 2, 0, 0, 0, 0) := by decide +kernel
theorem t211_7 : zT 211 7 = some (.aload_n 0, 1, 0, 0, 0, 0) := by decide +kernel
theorem t211_8 : zT 211 8 = some (.getfield 23, 3, 6, 3, 0, 164) := by decide +kernel
theorem t211_11 : zT 211 11 = some (.if_icmp .ge 42, 3, 53, 0, 0, 0) := by decide +kernel
theorem t211_53 : zT 211 53 = some (.iload_n 3, 1, 3, 0, 0, 0) := by decide +kernel
theorem t211_54 : zT 211 54 = some (.ireturn, 1, 0, 0, 0, 0) := by decide +kernel
theorem t214_0 : zT 214 0 = some (.aload_n 0, 1, 0, 0, 0, 0) := by decide +kernel
theorem t214_1 : zT 214 1 = some (.getfield 22, 3, 11, 2, 0, 600) := by decide +kernel
theorem t214_4 : zT 214 4 = some (.iload_n 1, 1, 1, 0, 0, 0) := by decide +kernel
theorem t214_5 : zT 214 5 = some (.aload_n 0, 1, 0, 0, 0, 0) := by decide +kernel
theorem t214_6 : zT 214 6 = some (.getfield 12, 3, 11, 0, 0, 598) := by decide +kernel
theorem t214_9 : zT 214 9 = some (.invokevirtual 441, 3, 215, 0, 0, 1564) := by decide +kernel
theorem t214_12 : zT 214 12 = some (.ireturn, 1, 0, 0, 0, 0) := by decide +kernel
theorem t215_0 : zT 215 0 = some (.iload_n 1, 1, 1, 0, 0, 0) := by decide +kernel
theorem t215_1 : zT 215 1 = some (.ifCond .eq 10, 3, 11, 0, 0, 0) := by decide +kernel
theorem t215_4 : zT 215 4 = some (.iload_n 1, 1, 1, 0, 0, 0) := by decide +kernel
theorem t215_5 : zT 215 5 = some (.iconst 1, 1, 0, 0, 1, 0) := by decide +kernel
theorem t215_6 : zT 215 6 = some (.if_icmp .eq 5, 3, 11, 0, 0, 0) := by decide +kernel
theorem t215_9 : zT 215 9 = some (.iconst 0, 1, 0, 0, 0, 0) := by decide +kernel
theorem t215_10 : zT 215 10 = some (.ireturn, 1, 0, 0, 0, 0) := by decide +kernel
theorem t216_0 : zT 216 0 = some (.aload_n 0, 1, 0, 0, 0, 0) := by decide +kernel
theorem t216_1 : zT 216 1 = some (.getfield 22, 3, 11, 2, 0, 600) := by decide +kernel
theorem t216_4 : zT 216 4 = some (.iload_n 1, 1, 1, 0, 0, 0) := by decide +kernel
theorem t216_5 : zT 216 5 = some (.invokevirtual 445, 3, 217, 0, 0, 1572) := by decide +kernel
theorem t216_8 : zT 216 8 = some (.ifCond .ne 5, 3, 13, 0, 0, 0) := by decide +kernel
theorem t216_11 : zT 216 11 = some (.iconst 0, 1, 0, 0, 0, 0) := by decide +kernel
theorem t216_12 : zT 216 12 = some (.ireturn, 1, 0, 0, 0, 0) := by decide +kernel
theorem t217_0 : zT 217 0 = some (.iload_n 1, 1, 1, 0, 0, 0) := by decide +kernel
theorem t217_1 : zT 217 1 = some (.ifCond .eq 8, 3, 9, 0, 0, 0) := by decide +kernel
theorem t217_4 : zT 217 4 = some (.iload_n 1, 1, 1, 0, 0, 0) := by decide +kernel
theorem t217_5 : zT 217 5 = some (.iconst 1, 1, 0, 0, 1, 0) := by decide +kernel
theorem t217_6 : zT 217 6 = some (.if_icmp .ne 16, 3, 22, 0, 0, 0) := by decide +kernel
theorem t217_22 : zT 217 22 = some (.iconst 0, 1, 0, 0, 0, 0) := by decide +kernel
theorem t217_23 : zT 217 23 = some (.ireturn, 1, 0, 0, 0, 0) := by decide +kernel
theorem t223_0 : zT 223 0 = some (.iload_n 1, 1, 1, 0, 0, 0) := by decide +kernel
theorem t223_1 : zT 223 1 = some (.ifCond .lt 11, 3, 12, 0, 0, 0) := by decide +kernel
theorem t223_4 : zT 223 4 = some (.iload_n 1, 1, 1, 0, 0, 0) := by decide +kernel
theorem t223_5 : zT 223 5 = some (.aload_n 0, 1, 0, 0, 0, 0) := by decide +kernel
theorem t223_6 : zT 223 6 = some (.getfield 72, 3, 11, 10, 0, 608) := by decide +kernel
theorem t223_9 : zT 223 9 = some (.if_icmp .lt 7, 3, 16, 0, 0, 0) := by decide +kernel
theorem t223_12 : zT 223 12 = some (.iconst (-1), 1, 0, 0, (-1), 0) := by decide +kernel
theorem t223_13 : zT 223 13 = some (.goto 13, 3, 26, 0, 0, 0) := by decide +kernel
theorem t223_26 : zT 223 26 = some (.ireturn, 1, 0, 0, 0, 0) := by decide +kernel
theorem t227_0 : zT 227 0 = some (.iload_n 1, 1, 1, 0, 0, 0) := by decide +kernel
theorem t227_1 : zT 227 1 = some (.i2l, 1, 0, 0, 0, 0) := by decide +kernel
theorem t227_2 : zT 227 2 = some (.lconst 0, 1, 0, 0, 0, 0) := by decide +kernel
theorem t227_3 : zT 227 3 = some (.lconst 1, 1, 0, 0, 1, 0) := by decide +kernel
theorem t227_4 : zT 227 4 = some (.invokestatic 112, 3, 228, 1, 0, 1774) := by decide +kernel
theorem t227_7 : zT 227 7 = some (.ifCond .ne 5, 3, 12, 0, 0, 0) := by decide +kernel
theorem t227_10 : zT 227 10 = some (.iconst 0, 1, 0, 0, 0, 0) := by decide +kernel
theorem t227_11 : zT 227 11 = some (.ireturn, 1, 0, 0, 0, 0) := by decide +kernel
theorem t228_0 : zT 228 0 = some (.lload_n 0, 1, 0, 0, 0, 0) := by decide +kernel
theorem t228_1 : zT 228 1 = some (.lload_n 2, 1, 2, 0, 0, 0) := by decide +kernel
theorem t228_2 : zT 228 2 = some (.lcmp, 1, 0, 0, 0, 0) := by decide +kernel
theorem t228_3 : zT 228 3 = some (.ifCond .lt 14, 3, 17, 0, 0, 0) := by decide +kernel
theorem t228_6 : zT 228 6 = some (.lload_n 0, 1, 0, 0, 0, 0) := by decide +kernel
theorem t228_7 : zT 228 7 = some (.lload 4, 2, 0, 0, 0, 0) := by decide +kernel
theorem t228_9 : zT 228 9 = some (.lcmp, 1, 0, 0, 0, 0) := by decide +kernel
theorem t228_10 : zT 228 10 = some (.ifCond .gt 7, 3, 17, 0, 0, 0) := by decide +kernel
theorem t228_13 : zT 228 13 = some (.iconst 1, 1, 0, 0, 1, 0) := by decide +kernel
theorem t228_14 : zT 228 14 = some (.goto 4, 3, 18, 0, 0, 0) := by decide +kernel
theorem t228_17 : zT 228 17 = some (.iconst 0, 1, 0, 0, 0, 0) := by decide +kernel
theorem t228_18 : zT 228 18 = some (.ireturn, 1, 0, 0, 0, 0) := by decide +kernel
theorem t229_0 : zT 229 0 = some (.iload_n 1, 1, 1, 0, 0, 0) := by decide +kernel
theorem t229_1 : zT 229 1 = some (.i2l, 1, 0, 0, 0, 0) := by decide +kernel
theorem t229_2 : zT 229 2 = some (.lconst 0, 1, 0, 0, 0, 0) := by decide +kernel
theorem t229_3 : zT 229 3 = some (.lconst 1, 1, 0, 0, 1, 0) := by decide +kernel
theorem t229_4 : zT 229 4 = some (.invokestatic 112, 3, 228, 1, 0, 1774) := by decide +kernel
theorem t229_7 : zT 229 7 = some (.ifCond .eq 12, 3, 19, 0, 0, 0) := by decide +kernel
theorem t229_19 : zT 229 19 = some (.iconst 0, 1, 0, 0, 0, 0) := by decide +kernel
theorem t229_20 : zT 229 20 = some (.ireturn, 1, 0, 0, 0, 0) := by decide +kernel
theorem t233_0 : zT 233 0 = some (.iload_n 1, 1, 1, 0, 0, 0) := by decide +kernel
theorem t233_1 : zT 233 1 = some (.i2l, 1, 0, 0, 0, 0) := by decide +kernel
theorem t233_2 : zT 233 2 = some (.lconst 0, 1, 0, 0, 0, 0) := by decide +kernel
theorem t233_3 : zT 233 3 = some (.aload_n 0, 1, 0, 0, 0, 0) := by decide +kernel
theorem t233_4 : zT 233 4 = some (.getfield 120, 3, 12, 5, 0, 1612) := by decide +kernel
theorem t233_7 : zT 233 7 = some (.i2l, 1, 0, 0, 0, 0) := by decide +kernel
theorem t233_8 : zT 233 8 = some (.invokestatic 112, 3, 228, 1, 0, 1774) := by decide +kernel
theorem t233_11 : zT 233 11 = some (.ifCond .ne 5, 3, 16, 0, 0, 0) := by decide +kernel
theorem t233_14 : zT 233 14 = some (.iconst (-1), 1, 0, 0, (-1), 0) := by decide +kernel
theorem t233_15 : zT 233 15 = some (.ireturn, 1, 0, 0, 0, 0) := by decide +kernel
theorem t260_0 : zT 260 0 = some (.iload_n 0, 1, 0, 0, 0, 0) := by decide +kernel
theorem t260_1 : zT 260 1 = some (.tableswitch 97 103 118 #[85, 81, 97, 97, 97, 89, 87, 79, 94, 97, 97, 97, 97, 97, 91, 83], 79, 0, 0, 0, 0) := by decide +kernel
theorem t260_80 : zT 260 80 = some (.iconst 0, 1, 0, 0, 0, 0) := by decide +kernel
theorem t260_81 : zT 260 81 = some (.ireturn, 1, 0, 0, 0, 0) := by decide +kernel
theorem t260_82 : zT 260 82 = some (.iconst 1, 1, 0, 0, 1, 0) := by decide +kernel
theorem t260_83 : zT 260 83 = some (.ireturn, 1, 0, 0, 0, 0) := by decide +kernel
theorem t260_84 : zT 260 84 = some (.iconst 2, 1, 0, 0, 2, 0) := by decide +kernel
theorem t260_85 : zT 260 85 = some (.ireturn, 1, 0, 0, 0, 0) := by decide +kernel
theorem t260_86 : zT 260 86 = some (.iconst 3, 1, 0, 0, 3, 0) := by decide +kernel
theorem t260_87 : zT 260 87 = some (.ireturn, 1, 0, 0, 0, 0) := by decide +kernel
theorem t260_88 : zT 260 88 = some (.iconst 4, 1, 0, 0, 4, 0) := by decide +kernel
theorem t260_89 : zT 260 89 = some (.ireturn, 1, 0, 0, 0, 0) := by decide +kernel
theorem t260_90 : zT 260 90 = some (.iconst 5, 1, 0, 0, 5, 0) := by decide +kernel
theorem t260_91 : zT 260 91 = some (.ireturn, 1, 0, 0, 0, 0) := by decide +kernel
theorem t260_92 : zT 260 92 = some (.bipush 6, 2, 0, 0, 6, 0) := by decide +kernel
theorem t260_94 : zT 260 94 = some (.ireturn, 1, 0, 0, 0, 0) := by decide +kernel
theorem t260_95 : zT 260 95 = some (.bipush 7, 2, 0, 0, 7, 0) := by decide +kernel
theorem t260_97 : zT 260 97 = some (.ireturn, 1, 0, 0, 0, 0) := by decide +kernel
theorem t260_98 : zT 260 98 = some (.iconst (-1), 1, 0, 0, (-1), 0) := by decide +kernel
theorem t260_99 : zT 260 99 = some (.ireturn, 1, 0, 0, 0, 0) := by decide +kernel
theorem t267_0 : zT 267 0 = some (.aload_n 0, 1, 0, 0, 0, 0) := by decide +kernel
theorem t267_1 : zT 267 1 = some (.invokevirtual 331, 3, 268, 0, 0, 1933) := by decide +kernel
theorem t267_4 : zT 267 4 = some (.iload_n 1, 1, 1, 0, 0, 0) := by decide +kernel
theorem t267_5 : zT 267 5 = some (.tableswitch 87 0 6 #[43, 48, 54, 59, 64, 77, 82], 43, 0, 0, 0, 0) := by decide +kernel
theorem t267_48 : zT 267 48 = some (.aload_n 0, 1, 0, 0, 0, 0) := by decide +kernel
theorem t267_49 : zT 267 49 = some (.getfield 261, 3, 12, 22, 0, 1629) := by decide +kernel
theorem t267_52 : zT 267 52 = some (.ireturn, 1, 0, 0, 0, 0) := by decide +kernel
theorem t267_53 : zT 267 53 = some (.aload_n 0, 1, 0, 0, 0, 0) := by decide +kernel
theorem t267_54 : zT 267 54 = some (.iconst (-1), 1, 0, 0, (-1), 0) := by decide +kernel
theorem t267_55 : zT 267 55 = some (.invokevirtual 372, 3, 290, 0, 0, 2018) := by decide +kernel
theorem t267_58 : zT 267 58 = some (.ireturn, 1, 0, 0, 0, 0) := by decide +kernel
theorem t267_59 : zT 267 59 = some (.aload_n 0, 1, 0, 0, 0, 0) := by decide +kernel
theorem t267_60 : zT 267 60 = some (.getfield 350, 3, 12, 37, 0, 1644) := by decide +kernel
theorem t267_63 : zT 267 63 = some (.ireturn, 1, 0, 0, 0, 0) := by decide +kernel
theorem t267_64 : zT 267 64 = some (.aload_n 0, 1, 0, 0, 0, 0) := by decide +kernel
theorem t267_65 : zT 267 65 = some (.getfield 354, 3, 12, 39, 0, 1646) := by decide +kernel
theorem t267_68 : zT 267 68 = some (.ireturn, 1, 0, 0, 0, 0) := by decide +kernel
theorem t267_69 : zT 267 69 = some (.aload_n 0, 1, 0, 0, 0, 0) := by decide +kernel
theorem t267_70 : zT 267 70 = some (.aload_n 0, 1, 0, 0, 0, 0) := by decide +kernel
theorem t267_71 : zT 267 71 = some (.getfield 49, 3, 12, 26, 0, 1633) := by decide +kernel
theorem t267_74 : zT 267 74 = some (.aload_n 0, 1, 0, 0, 0, 0) := by decide +kernel
theorem t267_75 : zT 267 75 = some (.getfield 261, 3, 12, 22, 0, 1629) := by decide +kernel
theorem t267_78 : zT 267 78 = some (.invokevirtual 401, 3, 291, 0, 0, 2022) := by decide +kernel
theorem t267_81 : zT 267 81 = some (.ireturn, 1, 0, 0, 0, 0) := by decide +kernel
theorem t267_82 : zT 267 82 = some (.aload_n 0, 1, 0, 0, 0, 0) := by decide +kernel
theorem t267_83 : zT 267 83 = some (.invokevirtual 369, 3, 292, 0, 0, 2026) := by decide +kernel
theorem t267_86 : zT 267 86 = some (.ireturn, 1, 0, 0, 0, 0) := by decide +kernel
theorem t267_87 : zT 267 87 = some (.aload_n 0, 1, 0, 0, 0, 0) := by decide +kernel
theorem t267_88 : zT 267 88 = some (.invokevirtual 405, 3, 293, 0, 0, 2030) := by decide +kernel
theorem t267_91 : zT 267 91 = some (.ireturn, 1, 0, 0, 0, 0) := by decide +kernel
theorem t267_92 : zT 267 92 = some (.aload_n 0, 1, 0, 0, 0, 0) := by decide +kernel
theorem t267_93 : zT 267 93 = some (.aload_n 0, 1, 0, 0, 0, 0) := by decide +kernel
theorem t267_94 : zT 267 94 = some (.getfield 74, 3, 12, 34, 0, 1641) := by decide +kernel
theorem t267_97 : zT 267 97 = some (.aload_n 0, 1, 0, 0, 0, 0) := by decide +kernel
theorem t267_98 : zT 267 98 = some (.getfield 350, 3, 12, 37, 0, 1644) := by decide +kernel
theorem t267_101 : zT 267 101 = some (.invokevirtual 401, 3, 291, 0, 0, 2022) := by decide +kernel
theorem t267_104 : zT 267 104 = some (.ireturn, 1, 0, 0, 0, 0) := by decide +kernel
theorem t278_0 : zT 278 0 = some (.iconst 0, 1, 0, 0, 0, 0) := by decide +kernel
theorem t278_1 : zT 278 1 = some (.istore_n 1, 1, 1, 0, 0, 0) := by decide +kernel
theorem t278_2 : zT 278 2 = some (.iconst 0, 1, 0, 0, 0, 0) := by decide +kernel
theorem t278_3 : zT 278 3 = some (.istore_n 2, 1, 2, 0, 0, 0) := by decide +kernel
theorem t278_4 : zT 278 4 = some (.iload_n 2, 1, 2, 0, 0, 0) := by decide +kernel
theorem t278_5 : zT 278 5 = some (.bipush 8, 2, 0, 0, 8, 0) := by decide +kernel
theorem t278_7 : zT 278 7 = some (.if_icmp .ge 17, 3, 24, 0, 0, 0) := by decide +kernel
theorem t278_10 : zT 278 10 = some (.iload_n 1, 1, 1, 0, 0, 0) := by decide +kernel
theorem t278_11 : zT 278 11 = some (.iload_n 0, 1, 0, 0, 0, 0) := by decide +kernel
theorem t278_12 : zT 278 12 = some (.iload_n 2, 1, 2, 0, 0, 0) := by decide +kernel
theorem t278_13 : zT 278 13 = some (.ishr, 1, 0, 0, 0, 0) := by decide +kernel
theorem t278_14 : zT 278 14 = some (.iconst 1, 1, 0, 0, 1, 0) := by decide +kernel
theorem t278_15 : zT 278 15 = some (.iand, 1, 0, 0, 0, 0) := by decide +kernel
theorem t278_16 : zT 278 16 = some (.iadd, 1, 0, 0, 0, 0) := by decide +kernel
theorem t278_17 : zT 278 17 = some (.istore_n 1, 1, 1, 0, 0, 0) := by decide +kernel
theorem t278_18 : zT 278 18 = some (.iinc 2 1, 3, 0, 0, 0, 0) := by decide +kernel
theorem t278_21 : zT 278 21 = some (.goto (-17), 3, 4, 0, 0, 0) := by decide +kernel
theorem t278_24 : zT 278 24 = some (.iload_n 1, 1, 1, 0, 0, 0) := by decide +kernel
theorem t278_25 : zT 278 25 = some (.ireturn, 1, 0, 0, 0, 0) := by decide +kernel
theorem t290_0 : zT 290 0 = some (.iconst 0, 1, 0, 0, 0, 0) := by decide +kernel
theorem t290_1 : zT 290 1 = some (.istore_n 2, 1, 2, 0, 0, 0) := by decide +kernel
theorem t290_2 : zT 290 2 = some (.iconst 0, 1, 0, 0, 0, 0) := by decide +kernel
theorem t290_3 : zT 290 3 = some (.istore_n 3, 1, 3, 0, 0, 0) := by decide +kernel
theorem t290_4 : zT 290 4 = some (.iload_n 3, 1, 3, 0, 0, 0) := by decide +kernel
theorem t290_5 : zT 290 5 = some (.aload_n 0, 1, 0, 0, 0, 0) := by decide +kernel
theorem t290_6 : zT 290 6 = some (.getfield 3, 3, 12, 0, 0, 1607) := by decide +kernel
theorem t290_9 : zT 290 9 = some (.iconst 1, 1, 0, 0, 1, 0) := by decide +kernel
theorem t290_10 : zT 290 10 = some (.iaload, 1, 0, 0, 0, 0) := by decide +kernel
theorem t290_11 : zT 290 11 = some (.if_icmp .ge 41, 3, 52, 0, 0, 0) := by decide +kernel
theorem t290_52 : zT 290 52 = some (.iload_n 2, 1, 2, 0, 0, 0) := by decide +kernel
theorem t290_53 : zT 290 53 = some (.ireturn, 1, 0, 0, 0, 0) := by decide +kernel
theorem t291_0 : zT 291 0 = some (.iconst 0, 1, 0, 0, 0, 0) := by decide +kernel
theorem t291_1 : zT 291 1 = some (.istore_n 3, 1, 3, 0, 0, 0) := by decide +kernel
theorem t291_2 : zT 291 2 = some (.iconst 0, 1, 0, 0, 0, 0) := by decide +kernel
theorem t291_3 : zT 291 3 = some (.istore 4, 2, 0, 0, 0, 0) := by decide +kernel
theorem t291_5 : zT 291 5 = some (.iload 4, 2, 0, 0, 0, 0) := by decide +kernel
theorem t291_7 : zT 291 7 = some (.iload_n 2, 1, 2, 0, 0, 0) := by decide +kernel
theorem t291_8 : zT 291 8 = some (.if_icmp .ge 26, 3, 34, 0, 0, 0) := by decide +kernel
theorem t291_34 : zT 291 34 = some (.iload_n 3, 1, 3, 0, 0, 0) := by decide +kernel
theorem t291_35 : zT 291 35 = some (.ireturn, 1, 0, 0, 0, 0) := by decide +kernel
theorem t292_0 : zT 292 0 = some (.iconst 0, 1, 0, 0, 0, 0) := by decide +kernel
theorem t292_1 : zT 292 1 = some (.istore_n 1, 1, 1, 0, 0, 0) := by decide +kernel
theorem t292_2 : zT 292 2 = some (.iconst 0, 1, 0, 0, 0, 0) := by decide +kernel
theorem t292_3 : zT 292 3 = some (.istore_n 2, 1, 2, 0, 0, 0) := by decide +kernel
theorem t292_4 : zT 292 4 = some (.iload_n 2, 1, 2, 0, 0, 0) := by decide +kernel
theorem t292_5 : zT 292 5 = some (.aload_n 0, 1, 0, 0, 0, 0) := by decide +kernel
theorem t292_6 : zT 292 6 = some (.getfield 3, 3, 12, 0, 0, 1607) := by decide +kernel
theorem t292_9 : zT 292 9 = some (.iconst 0, 1, 0, 0, 0, 0) := by decide +kernel
theorem t292_10 : zT 292 10 = some (.iaload, 1, 0, 0, 0, 0) := by decide +kernel
theorem t292_11 : zT 292 11 = some (.if_icmp .ge 25, 3, 36, 0, 0, 0) := by decide +kernel
theorem t292_36 : zT 292 36 = some (.iload_n 1, 1, 1, 0, 0, 0) := by decide +kernel
theorem t292_37 : zT 292 37 = some (.ireturn, 1, 0, 0, 0, 0) := by decide +kernel
theorem t293_0 : zT 293 0 = some (.iconst 0, 1, 0, 0, 0, 0) := by decide +kernel
theorem t293_1 : zT 293 1 = some (.istore_n 1, 1, 1, 0, 0, 0) := by decide +kernel
theorem t293_2 : zT 293 2 = some (.iconst 0, 1, 0, 0, 0, 0) := by decide +kernel
theorem t293_3 : zT 293 3 = some (.istore_n 2, 1, 2, 0, 0, 0) := by decide +kernel
theorem t293_4 : zT 293 4 = some (.iload_n 2, 1, 2, 0, 0, 0) := by decide +kernel
theorem t293_5 : zT 293 5 = some (.aload_n 0, 1, 0, 0, 0, 0) := by decide +kernel
theorem t293_6 : zT 293 6 = some (.getfield 3, 3, 12, 0, 0, 1607) := by decide +kernel
theorem t293_9 : zT 293 9 = some (.iconst 1, 1, 0, 0, 1, 0) := by decide +kernel
theorem t293_10 : zT 293 10 = some (.iaload, 1, 0, 0, 0, 0) := by decide +kernel
theorem t293_11 : zT 293 11 = some (.if_icmp .ge 37, 3, 48, 0, 0, 0) := by decide +kernel
theorem t293_48 : zT 293 48 = some (.iload_n 1, 1, 1, 0, 0, 0) := by decide +kernel
theorem t293_49 : zT 293 49 = some (.ireturn, 1, 0, 0, 0, 0) := by decide +kernel
theorem t295_0 : zT 295 0 = some (.iload_n 1, 1, 1, 0, 0, 0) := by decide +kernel
theorem t295_1 : zT 295 1 = some (.invokestatic 207, 3, 260, 1, 0, 1903) := by decide +kernel
theorem t295_4 : zT 295 4 = some (.iconst (-1), 1, 0, 0, (-1), 0) := by decide +kernel
theorem t295_5 : zT 295 5 = some (.if_icmp .ne 7, 3, 12, 0, 0, 0) := by decide +kernel
theorem t295_8 : zT 295 8 = some (.iconst (-1), 1, 0, 0, (-1), 0) := by decide +kernel
theorem t295_9 : zT 295 9 = some (.goto 11, 3, 20, 0, 0, 0) := by decide +kernel
theorem t295_12 : zT 295 12 = some (.aload_n 0, 1, 0, 0, 0, 0) := by decide +kernel
theorem t295_13 : zT 295 13 = some (.iload_n 1, 1, 1, 0, 0, 0) := by decide +kernel
theorem t295_14 : zT 295 14 = some (.invokestatic 207, 3, 260, 1, 0, 1903) := by decide +kernel
theorem t295_17 : zT 295 17 = some (.invokevirtual 249, 3, 267, 0, 0, 1929) := by decide +kernel
theorem t295_20 : zT 295 20 = some (.ireturn, 1, 0, 0, 0, 0) := by decide +kernel
theorem t296_0 : zT 296 0 = some (.aload_n 0, 1, 0, 0, 0, 0) := by decide +kernel
theorem t296_1 : zT 296 1 = some (.invokevirtual 331, 3, 268, 0, 0, 1933) := by decide +kernel
theorem t296_4 : zT 296 4 = some (.aload_n 0, 1, 0, 0, 0, 0) := by decide +kernel
theorem t296_5 : zT 296 5 = some (.iload_n 1, 1, 1, 0, 0, 0) := by decide +kernel
theorem t296_6 : zT 296 6 = some (.invokevirtual 334, 3, 297, 0, 0, 2045) := by decide +kernel
theorem t296_9 : zT 296 9 = some (.ifCond .eq 15, 3, 24, 0, 0, 0) := by decide +kernel
theorem t296_24 : zT 296 24 = some (.ldc2_w 339, 3, 1, 0, (-1000000000000), 2050) := by decide +kernel
theorem t296_27 : zT 296 27 = some (.lreturn, 1, 0, 0, 0, 0) := by decide +kernel
theorem t297_0 : zT 297 0 = some (.iload_n 1, 1, 1, 0, 0, 0) := by decide +kernel
theorem t297_1 : zT 297 1 = some (.i2l, 1, 0, 0, 0, 0) := by decide +kernel
theorem t297_2 : zT 297 2 = some (.lconst 0, 1, 0, 0, 0, 0) := by decide +kernel
theorem t297_3 : zT 297 3 = some (.aload_n 0, 1, 0, 0, 0, 0) := by decide +kernel
theorem t297_4 : zT 297 4 = some (.getfield 261, 3, 12, 22, 0, 1629) := by decide +kernel
theorem t297_7 : zT 297 7 = some (.iconst 1, 1, 0, 0, 1, 0) := by decide +kernel
theorem t297_8 : zT 297 8 = some (.isub, 1, 0, 0, 0, 0) := by decide +kernel
theorem t297_9 : zT 297 9 = some (.i2l, 1, 0, 0, 0, 0) := by decide +kernel
theorem t297_10 : zT 297 10 = some (.invokestatic 112, 3, 228, 1, 0, 1774) := by decide +kernel
theorem t297_13 : zT 297 13 = some (.ireturn, 1, 0, 0, 0, 0) := by decide +kernel
theorem t300_0 : zT 300 0 = some (.aload_n 0, 1, 0, 0, 0, 0) := by decide +kernel
theorem t300_1 : zT 300 1 = some (.invokevirtual 331, 3, 268, 0, 0, 1933) := by decide +kernel
theorem t300_4 : zT 300 4 = some (.aload_n 0, 1, 0, 0, 0, 0) := by decide +kernel
theorem t300_5 : zT 300 5 = some (.iload_n 1, 1, 1, 0, 0, 0) := by decide +kernel
theorem t300_6 : zT 300 6 = some (.invokevirtual 334, 3, 297, 0, 0, 2045) := by decide +kernel
theorem t300_9 : zT 300 9 = some (.ifCond .eq 26, 3, 35, 0, 0, 0) := by decide +kernel
theorem t300_35 : zT 300 35 = some (.ldc2_w 339, 3, 1, 0, (-1000000000000), 2050) := by decide +kernel
theorem t300_38 : zT 300 38 = some (.lreturn, 1, 0, 0, 0, 0) := by decide +kernel
theorem t301_0 : zT 301 0 = some (.aload_n 0, 1, 0, 0, 0, 0) := by decide +kernel
theorem t301_1 : zT 301 1 = some (.invokevirtual 331, 3, 268, 0, 0, 1933) := by decide +kernel
theorem t301_4 : zT 301 4 = some (.iload_n 1, 1, 1, 0, 0, 0) := by decide +kernel
theorem t301_5 : zT 301 5 = some (.i2l, 1, 0, 0, 0, 0) := by decide +kernel
theorem t301_6 : zT 301 6 = some (.lconst 0, 1, 0, 0, 0, 0) := by decide +kernel
theorem t301_7 : zT 301 7 = some (.aload_n 0, 1, 0, 0, 0, 0) := by decide +kernel
theorem t301_8 : zT 301 8 = some (.getfield 350, 3, 12, 37, 0, 1644) := by decide +kernel
theorem t301_11 : zT 301 11 = some (.iconst 1, 1, 0, 0, 1, 0) := by decide +kernel
theorem t301_12 : zT 301 12 = some (.isub, 1, 0, 0, 0, 0) := by decide +kernel
theorem t301_13 : zT 301 13 = some (.i2l, 1, 0, 0, 0, 0) := by decide +kernel
theorem t301_14 : zT 301 14 = some (.invokestatic 112, 3, 228, 1, 0, 1774) := by decide +kernel
theorem t301_17 : zT 301 17 = some (.ifCond .eq 13, 3, 30, 0, 0, 0) := by decide +kernel
theorem t301_30 : zT 301 30 = some (.ldc_w 353, 3, 0, 0, (-100000), 2066) := by decide +kernel
theorem t301_33 : zT 301 33 = some (.ireturn, 1, 0, 0, 0, 0) := by decide +kernel
theorem t302_0 : zT 302 0 = some (.aload_n 0, 1, 0, 0, 0, 0) := by decide +kernel
theorem t302_1 : zT 302 1 = some (.invokevirtual 331, 3, 268, 0, 0, 1933) := by decide +kernel
theorem t302_4 : zT 302 4 = some (.iload_n 1, 1, 1, 0, 0, 0) := by decide +kernel
theorem t302_5 : zT 302 5 = some (.i2l, 1, 0, 0, 0, 0) := by decide +kernel
theorem t302_6 : zT 302 6 = some (.lconst 0, 1, 0, 0, 0, 0) := by decide +kernel
theorem t302_7 : zT 302 7 = some (.aload_n 0, 1, 0, 0, 0, 0) := by decide +kernel
theorem t302_8 : zT 302 8 = some (.getfield 354, 3, 12, 39, 0, 1646) := by decide +kernel
theorem t302_11 : zT 302 11 = some (.bipush 20, 2, 0, 0, 20, 0) := by decide +kernel
theorem t302_13 : zT 302 13 = some (.invokestatic 364, 3, 303, 1, 0, 2071) := by decide +kernel
theorem t302_16 : zT 302 16 = some (.iconst 1, 1, 0, 0, 1, 0) := by decide +kernel
theorem t302_17 : zT 302 17 = some (.isub, 1, 0, 0, 0, 0) := by decide +kernel
theorem t302_18 : zT 302 18 = some (.i2l, 1, 0, 0, 0, 0) := by decide +kernel
theorem t302_19 : zT 302 19 = some (.invokestatic 112, 3, 228, 1, 0, 1774) := by decide +kernel
theorem t302_22 : zT 302 22 = some (.ifCond .eq 28, 3, 50, 0, 0, 0) := by decide +kernel
theorem t302_50 : zT 302 50 = some (.ldc_w 353, 3, 0, 0, (-100000), 2066) := by decide +kernel
theorem t302_53 : zT 302 53 = some (.ireturn, 1, 0, 0, 0, 0) := by decide +kernel
theorem t303_0 : zT 303 0 = some (.iload_n 0, 1, 0, 0, 0, 0) := by decide +kernel
theorem t303_1 : zT 303 1 = some (.iload_n 1, 1, 1, 0, 0, 0) := by decide +kernel
theorem t303_2 : zT 303 2 = some (.if_icmp .ge 7, 3, 9, 0, 0, 0) := by decide +kernel
theorem t303_5 : zT 303 5 = some (.iload_n 0, 1, 0, 0, 0, 0) := by decide +kernel
theorem t303_6 : zT 303 6 = some (.goto 4, 3, 10, 0, 0, 0) := by decide +kernel
theorem t303_10 : zT 303 10 = some (.ireturn, 1, 0, 0, 0, 0) := by decide +kernel
theorem t304_0 : zT 304 0 = some (.iload_n 1, 1, 1, 0, 0, 0) := by decide +kernel
theorem t304_1 : zT 304 1 = some (.tableswitch 121 0 15 #[79, 86, 91, 98, 104, 121, 121, 121, 121, 121, 121, 121, 121, 121, 111, 116], 79, 0, 0, 0, 0) := by decide +kernel
theorem t304_122 : zT 304 122 = some (.iload_n 1, 1, 1, 0, 0, 0) := by decide +kernel
theorem t304_123 : zT 304 123 = some (.i2l, 1, 0, 0, 0, 0) := by decide +kernel
theorem t304_124 : zT 304 124 = some (.ldc2_w 337, 3, 1, 0, 5, 2049) := by decide +kernel
theorem t304_127 : zT 304 127 = some (.ldc2_w 375, 3, 1, 0, 13, 2079) := by decide +kernel
theorem t304_130 : zT 304 130 = some (.invokestatic 112, 3, 228, 1, 0, 1774) := by decide +kernel
theorem t304_133 : zT 304 133 = some (.ifCond .eq 16, 3, 149, 0, 0, 0) := by decide +kernel
theorem t304_149 : zT 304 149 = some (.iconst (-1), 1, 0, 0, (-1), 0) := by decide +kernel
theorem t304_150 : zT 304 150 = some (.ireturn, 1, 0, 0, 0, 0) := by decide +kernel
theorem t305_0 : zT 305 0 = some (.aload_n 0, 1, 0, 0, 0, 0) := by decide +kernel
theorem t305_1 : zT 305 1 = some (.iload_n 1, 1, 1, 0, 0, 0) := by decide +kernel
theorem t305_2 : zT 305 2 = some (.invokevirtual 377, 3, 306, 0, 0, 2084) := by decide +kernel
theorem t305_5 : zT 305 5 = some (.ifCond .ne 5, 3, 10, 0, 0, 0) := by decide +kernel
theorem t305_8 : zT 305 8 = some (.iconst (-1), 1, 0, 0, (-1), 0) := by decide +kernel
theorem t305_9 : zT 305 9 = some (.ireturn, 1, 0, 0, 0, 0) := by decide +kernel
theorem t306_0 : zT 306 0 = some (.iload_n 1, 1, 1, 0, 0, 0) := by decide +kernel
theorem t306_1 : zT 306 1 = some (.i2l, 1, 0, 0, 0, 0) := by decide +kernel
theorem t306_2 : zT 306 2 = some (.lconst 0, 1, 0, 0, 0, 0) := by decide +kernel
theorem t306_3 : zT 306 3 = some (.aload_n 0, 1, 0, 0, 0, 0) := by decide +kernel
theorem t306_4 : zT 306 4 = some (.getfield 3, 3, 12, 0, 0, 1607) := by decide +kernel
theorem t306_7 : zT 306 7 = some (.iconst 0, 1, 0, 0, 0, 0) := by decide +kernel
theorem t306_8 : zT 306 8 = some (.iaload, 1, 0, 0, 0, 0) := by decide +kernel
theorem t306_9 : zT 306 9 = some (.iconst 1, 1, 0, 0, 1, 0) := by decide +kernel
theorem t306_10 : zT 306 10 = some (.isub, 1, 0, 0, 0, 0) := by decide +kernel
theorem t306_11 : zT 306 11 = some (.i2l, 1, 0, 0, 0, 0) := by decide +kernel
theorem t306_12 : zT 306 12 = some (.invokestatic 112, 3, 228, 1, 0, 1774) := by decide +kernel
theorem t306_15 : zT 306 15 = some (.ireturn, 1, 0, 0, 0, 0) := by decide +kernel
theorem t307_0 : zT 307 0 = some (.aload_n 0, 1, 0, 0, 0, 0) := by decide +kernel
theorem t307_1 : zT 307 1 = some (.iload_n 1, 1, 1, 0, 0, 0) := by decide +kernel
theorem t307_2 : zT 307 2 = some (.invokevirtual 380, 3, 308, 0, 0, 2092) := by decide +kernel
theorem t307_5 : zT 307 5 = some (.ifCond .eq 15, 3, 20, 0, 0, 0) := by decide +kernel
theorem t307_20 : zT 307 20 = some (.ldc_w 353, 3, 0, 0, (-100000), 2066) := by decide +kernel
theorem t307_23 : zT 307 23 = some (.ireturn, 1, 0, 0, 0, 0) := by decide +kernel
theorem t308_0 : zT 308 0 = some (.iload_n 1, 1, 1, 0, 0, 0) := by decide +kernel
theorem t308_1 : zT 308 1 = some (.i2l, 1, 0, 0, 0, 0) := by decide +kernel
theorem t308_2 : zT 308 2 = some (.lconst 0, 1, 0, 0, 0, 0) := by decide +kernel
theorem t308_3 : zT 308 3 = some (.aload_n 0, 1, 0, 0, 0, 0) := by decide +kernel
theorem t308_4 : zT 308 4 = some (.getfield 3, 3, 12, 0, 0, 1607) := by decide +kernel
theorem t308_7 : zT 308 7 = some (.iconst 1, 1, 0, 0, 1, 0) := by decide +kernel
theorem t308_8 : zT 308 8 = some (.iaload, 1, 0, 0, 0, 0) := by decide +kernel
theorem t308_9 : zT 308 9 = some (.iconst 1, 1, 0, 0, 1, 0) := by decide +kernel
theorem t308_10 : zT 308 10 = some (.isub, 1, 0, 0, 0, 0) := by decide +kernel
theorem t308_11 : zT 308 11 = some (.i2l, 1, 0, 0, 0, 0) := by decide +kernel
theorem t308_12 : zT 308 12 = some (.invokestatic 112, 3, 228, 1, 0, 1774) := by decide +kernel
theorem t308_15 : zT 308 15 = some (.ireturn, 1, 0, 0, 0, 0) := by decide +kernel
theorem t309_0 : zT 309 0 = some (.aload_n 0, 1, 0, 0, 0, 0) := by decide +kernel
theorem t309_1 : zT 309 1 = some (.iload_n 1, 1, 1, 0, 0, 0) := by decide +kernel
theorem t309_2 : zT 309 2 = some (.invokevirtual 389, 3, 310, 0, 0, 2100) := by decide +kernel
theorem t309_5 : zT 309 5 = some (.ifCond .eq 15, 3, 20, 0, 0, 0) := by decide +kernel
theorem t309_20 : zT 309 20 = some (.ldc_w 353, 3, 0, 0, (-100000), 2066) := by decide +kernel
theorem t309_23 : zT 309 23 = some (.ireturn, 1, 0, 0, 0, 0) := by decide +kernel
theorem t310_0 : zT 310 0 = some (.iload_n 1, 1, 1, 0, 0, 0) := by decide +kernel
theorem t310_1 : zT 310 1 = some (.i2l, 1, 0, 0, 0, 0) := by decide +kernel
theorem t310_2 : zT 310 2 = some (.lconst 0, 1, 0, 0, 0, 0) := by decide +kernel
theorem t310_3 : zT 310 3 = some (.aload_n 0, 1, 0, 0, 0, 0) := by decide +kernel
theorem t310_4 : zT 310 4 = some (.getfield 3, 3, 12, 0, 0, 1607) := by decide +kernel
theorem t310_7 : zT 310 7 = some (.iconst 2, 1, 0, 0, 2, 0) := by decide +kernel
theorem t310_8 : zT 310 8 = some (.iaload, 1, 0, 0, 0, 0) := by decide +kernel
theorem t310_9 : zT 310 9 = some (.iconst 1, 1, 0, 0, 1, 0) := by decide +kernel
theorem t310_10 : zT 310 10 = some (.isub, 1, 0, 0, 0, 0) := by decide +kernel
theorem t310_11 : zT 310 11 = some (.i2l, 1, 0, 0, 0, 0) := by decide +kernel
theorem t310_12 : zT 310 12 = some (.invokestatic 112, 3, 228, 1, 0, 1774) := by decide +kernel
theorem t310_15 : zT 310 15 = some (.ireturn, 1, 0, 0, 0, 0) := by decide +kernel
theorem t314_0 : zT 314 0 = some (.aload_n 0, 1, 0, 0, 0, 0) := by decide +kernel
theorem t314_1 : zT 314 1 = some (.iload_n 1, 1, 1, 0, 0, 0) := by decide +kernel
theorem t314_2 : zT 314 2 = some (.invokevirtual 377, 3, 306, 0, 0, 2084) := by decide +kernel
theorem t314_5 : zT 314 5 = some (.ifCond .eq 41, 3, 46, 0, 0, 0) := by decide +kernel
theorem t314_46 : zT 314 46 = some (.ldc_w 353, 3, 0, 0, (-100000), 2066) := by decide +kernel
theorem t314_49 : zT 314 49 = some (.ireturn, 1, 0, 0, 0, 0) := by decide +kernel
theorem t315_0 : zT 315 0 = some (.iload_n 1, 1, 1, 0, 0, 0) := by decide +kernel
theorem t315_1 : zT 315 1 = some (.i2l, 1, 0, 0, 0, 0) := by decide +kernel
theorem t315_2 : zT 315 2 = some (.aload_n 0, 1, 0, 0, 0, 0) := by decide +kernel
theorem t315_3 : zT 315 3 = some (.getfield 3, 3, 12, 0, 0, 1607) := by decide +kernel
theorem t315_6 : zT 315 6 = some (.iconst 5, 1, 0, 0, 5, 0) := by decide +kernel
theorem t315_7 : zT 315 7 = some (.iaload, 1, 0, 0, 0, 0) := by decide +kernel
theorem t315_8 : zT 315 8 = some (.ineg, 1, 0, 0, 0, 0) := by decide +kernel
theorem t315_9 : zT 315 9 = some (.i2l, 1, 0, 0, 0, 0) := by decide +kernel
theorem t315_10 : zT 315 10 = some (.aload_n 0, 1, 0, 0, 0, 0) := by decide +kernel
theorem t315_11 : zT 315 11 = some (.getfield 3, 3, 12, 0, 0, 1607) := by decide +kernel
theorem t315_14 : zT 315 14 = some (.iconst 5, 1, 0, 0, 5, 0) := by decide +kernel
theorem t315_15 : zT 315 15 = some (.iaload, 1, 0, 0, 0, 0) := by decide +kernel
theorem t315_16 : zT 315 16 = some (.i2l, 1, 0, 0, 0, 0) := by decide +kernel
theorem t315_17 : zT 315 17 = some (.invokestatic 112, 3, 228, 1, 0, 1774) := by decide +kernel
theorem t315_20 : zT 315 20 = some (.ifCond .eq 28, 3, 48, 0, 0, 0) := by decide +kernel
theorem t315_23 : zT 315 23 = some (.iload_n 2, 1, 2, 0, 0, 0) := by decide +kernel
theorem t315_24 : zT 315 24 = some (.i2l, 1, 0, 0, 0, 0) := by decide +kernel
theorem t315_25 : zT 315 25 = some (.aload_n 0, 1, 0, 0, 0, 0) := by decide +kernel
theorem t315_26 : zT 315 26 = some (.getfield 3, 3, 12, 0, 0, 1607) := by decide +kernel
theorem t315_29 : zT 315 29 = some (.bipush 6, 2, 0, 0, 6, 0) := by decide +kernel
theorem t315_31 : zT 315 31 = some (.iaload, 1, 0, 0, 0, 0) := by decide +kernel
theorem t315_32 : zT 315 32 = some (.ineg, 1, 0, 0, 0, 0) := by decide +kernel
theorem t315_33 : zT 315 33 = some (.i2l, 1, 0, 0, 0, 0) := by decide +kernel
theorem t315_34 : zT 315 34 = some (.aload_n 0, 1, 0, 0, 0, 0) := by decide +kernel
theorem t315_35 : zT 315 35 = some (.getfield 3, 3, 12, 0, 0, 1607) := by decide +kernel
theorem t315_38 : zT 315 38 = some (.bipush 6, 2, 0, 0, 6, 0) := by decide +kernel
theorem t315_40 : zT 315 40 = some (.iaload, 1, 0, 0, 0, 0) := by decide +kernel
theorem t315_41 : zT 315 41 = some (.i2l, 1, 0, 0, 0, 0) := by decide +kernel
theorem t315_42 : zT 315 42 = some (.invokestatic 112, 3, 228, 1, 0, 1774) := by decide +kernel
theorem t315_45 : zT 315 45 = some (.ifCond .ne 5, 3, 50, 0, 0, 0) := by decide +kernel
theorem t315_48 : zT 315 48 = some (.iconst (-1), 1, 0, 0, (-1), 0) := by decide +kernel
theorem t315_49 : zT 315 49 = some (.ireturn, 1, 0, 0, 0, 0) := by decide +kernel
theorem t315_50 : zT 315 50 = some (.iconst 0, 1, 0, 0, 0, 0) := by decide +kernel
theorem t315_51 : zT 315 51 = some (.istore 4, 2, 0, 0, 0, 0) := by decide +kernel
theorem t315_53 : zT 315 53 = some (.iconst 0, 1, 0, 0, 0, 0) := by decide +kernel
theorem t315_54 : zT 315 54 = some (.istore 5, 2, 0, 0, 0, 0) := by decide +kernel
theorem t315_56 : zT 315 56 = some (.iload 5, 2, 0, 0, 0, 0) := by decide +kernel
theorem t315_58 : zT 315 58 = some (.aload_n 0, 1, 0, 0, 0, 0) := by decide +kernel
theorem t315_59 : zT 315 59 = some (.getfield 3, 3, 12, 0, 0, 1607) := by decide +kernel
theorem t315_62 : zT 315 62 = some (.iconst 1, 1, 0, 0, 1, 0) := by decide +kernel
theorem t315_63 : zT 315 63 = some (.iaload, 1, 0, 0, 0, 0) := by decide +kernel
theorem t315_64 : zT 315 64 = some (.if_icmp .ge 69, 3, 133, 0, 0, 0) := by decide +kernel
theorem t315_133 : zT 315 133 = some (.iload 4, 2, 0, 0, 0, 0) := by decide +kernel
theorem t315_135 : zT 315 135 = some (.invokestatic 264, 3, 278, 1, 0, 1973) := by decide +kernel
theorem t315_138 : zT 315 138 = some (.ireturn, 1, 0, 0, 0, 0) := by decide +kernel
theorem t316_0 : zT 316 0 = some (.iload_n 1, 1, 1, 0, 0, 0) := by decide +kernel
theorem t316_1 : zT 316 1 = some (.tableswitch 77 0 5 #[39, 45, 51, 57, 64, 70], 39, 0, 0, 0, 0) := by decide +kernel
theorem t316_40 : zT 316 40 = some (.aload_n 0, 1, 0, 0, 0, 0) := by decide +kernel
theorem t316_41 : zT 316 41 = some (.iconst 0, 1, 0, 0, 0, 0) := by decide +kernel
theorem t316_42 : zT 316 42 = some (.invokevirtual 249, 3, 267, 0, 0, 1929) := by decide +kernel
theorem t316_45 : zT 316 45 = some (.ireturn, 1, 0, 0, 0, 0) := by decide +kernel
theorem t316_46 : zT 316 46 = some (.aload_n 0, 1, 0, 0, 0, 0) := by decide +kernel
theorem t316_47 : zT 316 47 = some (.iconst 3, 1, 0, 0, 3, 0) := by decide +kernel
theorem t316_48 : zT 316 48 = some (.invokevirtual 249, 3, 267, 0, 0, 1929) := by decide +kernel
theorem t316_51 : zT 316 51 = some (.ireturn, 1, 0, 0, 0, 0) := by decide +kernel
theorem t316_52 : zT 316 52 = some (.aload_n 0, 1, 0, 0, 0, 0) := by decide +kernel
theorem t316_53 : zT 316 53 = some (.iconst 2, 1, 0, 0, 2, 0) := by decide +kernel
theorem t316_54 : zT 316 54 = some (.invokevirtual 249, 3, 267, 0, 0, 1929) := by decide +kernel
theorem t316_57 : zT 316 57 = some (.ireturn, 1, 0, 0, 0, 0) := by decide +kernel
theorem t316_58 : zT 316 58 = some (.aload_n 0, 1, 0, 0, 0, 0) := by decide +kernel
theorem t316_59 : zT 316 59 = some (.bipush 6, 2, 0, 0, 6, 0) := by decide +kernel
theorem t316_61 : zT 316 61 = some (.invokevirtual 249, 3, 267, 0, 0, 1929) := by decide +kernel
theorem t316_64 : zT 316 64 = some (.ireturn, 1, 0, 0, 0, 0) := by decide +kernel
theorem t316_65 : zT 316 65 = some (.aload_n 0, 1, 0, 0, 0, 0) := by decide +kernel
theorem t316_66 : zT 316 66 = some (.iconst 4, 1, 0, 0, 4, 0) := by decide +kernel
theorem t316_67 : zT 316 67 = some (.invokevirtual 249, 3, 267, 0, 0, 1929) := by decide +kernel
theorem t316_70 : zT 316 70 = some (.ireturn, 1, 0, 0, 0, 0) := by decide +kernel
theorem t316_71 : zT 316 71 = some (.aload_n 0, 1, 0, 0, 0, 0) := by decide +kernel
theorem t316_72 : zT 316 72 = some (.bipush 7, 2, 0, 0, 7, 0) := by decide +kernel
theorem t316_74 : zT 316 74 = some (.invokevirtual 249, 3, 267, 0, 0, 1929) := by decide +kernel
theorem t316_77 : zT 316 77 = some (.ireturn, 1, 0, 0, 0, 0) := by decide +kernel
theorem t316_78 : zT 316 78 = some (.iconst (-1), 1, 0, 0, (-1), 0) := by decide +kernel
theorem t316_79 : zT 316 79 = some (.ireturn, 1, 0, 0, 0, 0) := by decide +kernel
theorem t317_0 : zT 317 0 = some (.aload_n 0, 1, 0, 0, 0, 0) := by decide +kernel
theorem t317_1 : zT 317 1 = some (.invokevirtual 331, 3, 268, 0, 0, 1933) := by decide +kernel
theorem t317_4 : zT 317 4 = some (.aload_n 0, 1, 0, 0, 0, 0) := by decide +kernel
theorem t317_5 : zT 317 5 = some (.iload_n 1, 1, 1, 0, 0, 0) := by decide +kernel
theorem t317_6 : zT 317 6 = some (.invokevirtual 334, 3, 297, 0, 0, 2045) := by decide +kernel
theorem t317_9 : zT 317 9 = some (.ifCond .ne 7, 3, 16, 0, 0, 0) := by decide +kernel
theorem t317_12 : zT 317 12 = some (.ldc_w 353, 3, 0, 0, (-100000), 2066) := by decide +kernel
theorem t317_15 : zT 317 15 = some (.ireturn, 1, 0, 0, 0, 0) := by decide +kernel
theorem t321_0 : zT 321 0 = some (.aload_n 0, 1, 0, 0, 0, 0) := by decide +kernel
theorem t321_1 : zT 321 1 = some (.invokevirtual 331, 3, 268, 0, 0, 1933) := by decide +kernel
theorem t321_4 : zT 321 4 = some (.aload_n 0, 1, 0, 0, 0, 0) := by decide +kernel
theorem t321_5 : zT 321 5 = some (.iload_n 1, 1, 1, 0, 0, 0) := by decide +kernel
theorem t321_6 : zT 321 6 = some (.invokevirtual 334, 3, 297, 0, 0, 2045) := by decide +kernel
theorem t321_9 : zT 321 9 = some (.ifCond .eq 25, 3, 34, 0, 0, 0) := by decide +kernel
theorem t321_34 : zT 321 34 = some (.iconst (-1), 1, 0, 0, (-1), 0) := by decide +kernel
theorem t321_35 : zT 321 35 = some (.ireturn, 1, 0, 0, 0, 0) := by decide +kernel
theorem t327_0 : zT 327 0 = some (.aload_n 0, 1, 0, 0, 0, 0) := by decide +kernel
theorem t327_1 : zT 327 1 = some (.iload_n 1, 1, 1, 0, 0, 0) := by decide +kernel
theorem t327_2 : zT 327 2 = some (.invokevirtual 377, 3, 306, 0, 0, 2084) := by decide +kernel
theorem t327_5 : zT 327 5 = some (.ifCond .ne 7, 3, 12, 0, 0, 0) := by decide +kernel
theorem t327_8 : zT 327 8 = some (.ldc_w 353, 3, 0, 0, (-100000), 2066) := by decide +kernel
theorem t327_11 : zT 327 11 = some (.ireturn, 1, 0, 0, 0, 0) := by decide +kernel
theorem t328_0 : zT 328 0 = some (.iload_n 1, 1, 1, 0, 0, 0) := by decide +kernel
theorem t328_1 : zT 328 1 = some (.i2l, 1, 0, 0, 0, 0) := by decide +kernel
theorem t328_2 : zT 328 2 = some (.lconst 0, 1, 0, 0, 0, 0) := by decide +kernel
theorem t328_3 : zT 328 3 = some (.ldc2_w 322, 3, 1, 0, 2, 1994) := by decide +kernel
theorem t328_6 : zT 328 6 = some (.invokestatic 112, 3, 228, 1, 0, 1774) := by decide +kernel
theorem t328_9 : zT 328 9 = some (.ifCond .ne 5, 3, 14, 0, 0, 0) := by decide +kernel
theorem t328_12 : zT 328 12 = some (.iconst (-1), 1, 0, 0, (-1), 0) := by decide +kernel
theorem t328_13 : zT 328 13 = some (.ireturn, 1, 0, 0, 0, 0) := by decide +kernel
theorem t331_0 : zT 331 0 = some (.aload_n 0, 1, 0, 0, 0, 0) := by decide +kernel
theorem t331_1 : zT 331 1 = some (.iload_n 1, 1, 1, 0, 0, 0) := by decide +kernel
theorem t331_2 : zT 331 2 = some (.invokevirtual 377, 3, 306, 0, 0, 2084) := by decide +kernel
theorem t331_5 : zT 331 5 = some (.ifCond .eq 40, 3, 45, 0, 0, 0) := by decide +kernel
theorem t331_45 : zT 331 45 = some (.iconst (-1), 1, 0, 0, (-1), 0) := by decide +kernel
theorem t331_46 : zT 331 46 = some (.ireturn, 1, 0, 0, 0, 0) := by decide +kernel
