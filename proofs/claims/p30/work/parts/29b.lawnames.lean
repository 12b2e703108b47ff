theorem dL_cell_0 : decode cL_cell 0 = .ok (.iload_n 1, 1) := by decide +kernel
theorem dL_cell_1 : decode cL_cell 1 = .ok (.aload_n 0, 1) := by decide +kernel
theorem dL_cell_2 : decode cL_cell 2 = .ok (.arraylength, 1) := by decide +kernel
theorem dL_cell_3 : decode cL_cell 3 = .ok (.if_icmp .ge 9, 3) := by decide +kernel
theorem dL_cell_6 : decode cL_cell 6 = .ok (.aload_n 0, 1) := by decide +kernel
theorem dL_cell_7 : decode cL_cell 7 = .ok (.iload_n 1, 1) := by decide +kernel
theorem dL_cell_8 : decode cL_cell 8 = .ok (.iaload, 1) := by decide +kernel
theorem dL_cell_9 : decode cL_cell 9 = .ok (.goto 9, 3) := by decide +kernel
theorem dL_cell_12 : decode cL_cell 12 = .ok (.ldc 7, 2) := by decide +kernel
theorem dL_cell_14 : decode cL_cell 14 = .ok (.iload_n 1, 1) := by decide +kernel
theorem dL_cell_15 : decode cL_cell 15 = .ok (.iconst 3, 1) := by decide +kernel
theorem dL_cell_16 : decode cL_cell 16 = .ok (.iadd, 1) := by decide +kernel
theorem dL_cell_17 : decode cL_cell 17 = .ok (.imul, 1) := by decide +kernel
theorem dL_cell_18 : decode cL_cell 18 = .ok (.ireturn, 1) := by decide +kernel
theorem dL_low_0 : decode cL_low 0 = .ok (.iload_n 0, 1) := by decide +kernel
theorem dL_low_1 : decode cL_low 1 = .ok (.ldc 8, 2) := by decide +kernel
theorem dL_low_3 : decode cL_low 3 = .ok (.iand, 1) := by decide +kernel
theorem dL_low_4 : decode cL_low 4 = .ok (.iload_n 1, 1) := by decide +kernel
theorem dL_low_5 : decode cL_low 5 = .ok (.irem, 1) := by decide +kernel
theorem dL_low_6 : decode cL_low 6 = .ok (.ireturn, 1) := by decide +kernel
theorem dL_appends_0 : decode cL_appends 0 = .ok (.aload_n 0, 1) := by decide +kernel
theorem dL_appends_1 : decode cL_appends 1 = .ok (.lload_n 1, 1) := by decide +kernel
theorem dL_appends_2 : decode cL_appends 2 = .ok (.invokevirtual 9, 3) := by decide +kernel
theorem dL_appends_5 : decode cL_appends 5 = .ok (.ireturn, 1) := by decide +kernel
theorem dL_appends_6 : decode cL_appends 6 = .ok (.astore_n 3, 1) := by decide +kernel
theorem dL_appends_7 : decode cL_appends 7 = .ok (.ldc 17, 2) := by decide +kernel
theorem dL_appends_9 : decode cL_appends 9 = .ok (.ireturn, 1) := by decide +kernel
theorem dL_inserts_0 : decode cL_inserts 0 = .ok (.aload_n 0, 1) := by decide +kernel
theorem dL_inserts_1 : decode cL_inserts 1 = .ok (.iload_n 1, 1) := by decide +kernel
theorem dL_inserts_2 : decode cL_inserts 2 = .ok (.lload_n 2, 1) := by decide +kernel
theorem dL_inserts_3 : decode cL_inserts 3 = .ok (.invokevirtual 18, 3) := by decide +kernel
theorem dL_inserts_6 : decode cL_inserts 6 = .ok (.ireturn, 1) := by decide +kernel
theorem dL_inserts_7 : decode cL_inserts 7 = .ok (.astore 4, 2) := by decide +kernel
theorem dL_inserts_9 : decode cL_inserts 9 = .ok (.ldc 24, 2) := by decide +kernel
theorem dL_inserts_11 : decode cL_inserts 11 = .ok (.ireturn, 1) := by decide +kernel
theorem dL_inserts_12 : decode cL_inserts 12 = .ok (.astore 4, 2) := by decide +kernel
theorem dL_inserts_14 : decode cL_inserts 14 = .ok (.ldc 17, 2) := by decide +kernel
theorem dL_inserts_16 : decode cL_inserts 16 = .ok (.ireturn, 1) := by decide +kernel
theorem dL_removes_0 : decode cL_removes 0 = .ok (.aload_n 0, 1) := by decide +kernel
theorem dL_removes_1 : decode cL_removes 1 = .ok (.iload_n 1, 1) := by decide +kernel
theorem dL_removes_2 : decode cL_removes 2 = .ok (.invokevirtual 25, 3) := by decide +kernel
theorem dL_removes_5 : decode cL_removes 5 = .ok (.ireturn, 1) := by decide +kernel
theorem dL_removes_6 : decode cL_removes 6 = .ok (.astore_n 2, 1) := by decide +kernel
theorem dL_removes_7 : decode cL_removes 7 = .ok (.ldc 31, 2) := by decide +kernel
theorem dL_removes_9 : decode cL_removes 9 = .ok (.ireturn, 1) := by decide +kernel
theorem dL_values_0 : decode cL_values 0 = .ok (.aload_n 0, 1) := by decide +kernel
theorem dL_values_1 : decode cL_values 1 = .ok (.iload_n 1, 1) := by decide +kernel
theorem dL_values_2 : decode cL_values 2 = .ok (.lload_n 2, 1) := by decide +kernel
theorem dL_values_3 : decode cL_values 3 = .ok (.invokevirtual 32, 3) := by decide +kernel
theorem dL_values_6 : decode cL_values 6 = .ok (.lreturn, 1) := by decide +kernel
theorem dL_values_7 : decode cL_values 7 = .ok (.astore 4, 2) := by decide +kernel
theorem dL_values_9 : decode cL_values 9 = .ok (.ldc2_w 36, 3) := by decide +kernel
theorem dL_values_12 : decode cL_values 12 = .ok (.lreturn, 1) := by decide +kernel
theorem dL_swapsAt_0 : decode cL_swapsAt 0 = .ok (.aload_n 0, 1) := by decide +kernel
theorem dL_swapsAt_1 : decode cL_swapsAt 1 = .ok (.iload_n 1, 1) := by decide +kernel
theorem dL_swapsAt_2 : decode cL_swapsAt 2 = .ok (.invokevirtual 38, 3) := by decide +kernel
theorem dL_swapsAt_5 : decode cL_swapsAt 5 = .ok (.ireturn, 1) := by decide +kernel
theorem dL_swapsAt_6 : decode cL_swapsAt 6 = .ok (.astore_n 2, 1) := by decide +kernel
theorem dL_swapsAt_7 : decode cL_swapsAt 7 = .ok (.ldc 31, 2) := by decide +kernel
theorem dL_swapsAt_9 : decode cL_swapsAt 9 = .ok (.ireturn, 1) := by decide +kernel
theorem dL_bounds_0 : decode cL_bounds 0 = .ok (.aload_n 0, 1) := by decide +kernel
theorem dL_bounds_1 : decode cL_bounds 1 = .ok (.iload_n 1, 1) := by decide +kernel
theorem dL_bounds_2 : decode cL_bounds 2 = .ok (.invokevirtual 41, 3) := by decide +kernel
theorem dL_bounds_5 : decode cL_bounds 5 = .ok (.ireturn, 1) := by decide +kernel
theorem dL_bounds_6 : decode cL_bounds 6 = .ok (.astore_n 2, 1) := by decide +kernel
theorem dL_bounds_7 : decode cL_bounds 7 = .ok (.ldc 24, 2) := by decide +kernel
theorem dL_bounds_9 : decode cL_bounds 9 = .ok (.ireturn, 1) := by decide +kernel
theorem dL_ahead_0 : decode cL_ahead 0 = .ok (.aload_n 0, 1) := by decide +kernel
theorem dL_ahead_1 : decode cL_ahead 1 = .ok (.iconst 2, 1) := by decide +kernel
theorem dL_ahead_2 : decode cL_ahead 2 = .ok (.iaload, 1) := by decide +kernel
theorem dL_ahead_3 : decode cL_ahead 3 = .ok (.iconst 1, 1) := by decide +kernel
theorem dL_ahead_4 : decode cL_ahead 4 = .ok (.if_icmp .ne 17, 3) := by decide +kernel
theorem dL_ahead_7 : decode cL_ahead 7 = .ok (.lload_n 3, 1) := by decide +kernel
theorem dL_ahead_8 : decode cL_ahead 8 = .ok (.lload_n 1, 1) := by decide +kernel
theorem dL_ahead_9 : decode cL_ahead 9 = .ok (.lcmp, 1) := by decide +kernel
theorem dL_ahead_10 : decode cL_ahead 10 = .ok (.ifCond .ge 7, 3) := by decide +kernel
theorem dL_ahead_13 : decode cL_ahead 13 = .ok (.iconst 1, 1) := by decide +kernel
theorem dL_ahead_14 : decode cL_ahead 14 = .ok (.goto 18, 3) := by decide +kernel
theorem dL_ahead_17 : decode cL_ahead 17 = .ok (.iconst 0, 1) := by decide +kernel
theorem dL_ahead_18 : decode cL_ahead 18 = .ok (.goto 14, 3) := by decide +kernel
theorem dL_ahead_21 : decode cL_ahead 21 = .ok (.lload_n 1, 1) := by decide +kernel
theorem dL_ahead_22 : decode cL_ahead 22 = .ok (.lload_n 3, 1) := by decide +kernel
theorem dL_ahead_23 : decode cL_ahead 23 = .ok (.lcmp, 1) := by decide +kernel
theorem dL_ahead_24 : decode cL_ahead 24 = .ok (.ifCond .ge 7, 3) := by decide +kernel
theorem dL_ahead_27 : decode cL_ahead 27 = .ok (.iconst 1, 1) := by decide +kernel
theorem dL_ahead_28 : decode cL_ahead 28 = .ok (.goto 4, 3) := by decide +kernel
theorem dL_ahead_31 : decode cL_ahead 31 = .ok (.iconst 0, 1) := by decide +kernel
theorem dL_ahead_32 : decode cL_ahead 32 = .ok (.ireturn, 1) := by decide +kernel
theorem dL_off_0 : decode cL_off 0 = .ok (.iconst 0, 1) := by decide +kernel
theorem dL_off_1 : decode cL_off 1 = .ok (.istore_n 3, 1) := by decide +kernel
theorem dL_off_2 : decode cL_off 2 = .ok (.iconst 0, 1) := by decide +kernel
theorem dL_off_3 : decode cL_off 3 = .ok (.istore 4, 2) := by decide +kernel
theorem dL_off_5 : decode cL_off 5 = .ok (.iload 4, 2) := by decide +kernel
theorem dL_off_7 : decode cL_off 7 = .ok (.aload_n 0, 1) := by decide +kernel
theorem dL_off_8 : decode cL_off 8 = .ok (.iconst 0, 1) := by decide +kernel
theorem dL_off_9 : decode cL_off 9 = .ok (.iaload, 1) := by decide +kernel
theorem dL_off_10 : decode cL_off 10 = .ok (.if_icmp .ge 51, 3) := by decide +kernel
theorem dL_off_13 : decode cL_off 13 = .ok (.iload_n 3, 1) := by decide +kernel
theorem dL_off_14 : decode cL_off 14 = .ok (.aload_n 0, 1) := by decide +kernel
theorem dL_off_15 : decode cL_off 15 = .ok (.aload_n 1, 1) := by decide +kernel
theorem dL_off_16 : decode cL_off 16 = .ok (.iload 4, 2) := by decide +kernel
theorem dL_off_18 : decode cL_off 18 = .ok (.laload, 1) := by decide +kernel
theorem dL_off_19 : decode cL_off 19 = .ok (.aload_n 1, 1) := by decide +kernel
theorem dL_off_20 : decode cL_off 20 = .ok (.iload_n 2, 1) := by decide +kernel
theorem dL_off_21 : decode cL_off 21 = .ok (.laload, 1) := by decide +kernel
theorem dL_off_22 : decode cL_off 22 = .ok (.invokestatic 44, 3) := by decide +kernel
theorem dL_off_25 : decode cL_off 25 = .ok (.ifCond .ne 23, 3) := by decide +kernel
theorem dL_off_28 : decode cL_off 28 = .ok (.iload 4, 2) := by decide +kernel
theorem dL_off_30 : decode cL_off 30 = .ok (.iload_n 2, 1) := by decide +kernel
theorem dL_off_31 : decode cL_off 31 = .ok (.if_icmp .ge 21, 3) := by decide +kernel
theorem dL_off_34 : decode cL_off 34 = .ok (.aload_n 0, 1) := by decide +kernel
theorem dL_off_35 : decode cL_off 35 = .ok (.aload_n 1, 1) := by decide +kernel
theorem dL_off_36 : decode cL_off 36 = .ok (.iload_n 2, 1) := by decide +kernel
theorem dL_off_37 : decode cL_off 37 = .ok (.laload, 1) := by decide +kernel
theorem dL_off_38 : decode cL_off 38 = .ok (.aload_n 1, 1) := by decide +kernel
theorem dL_off_39 : decode cL_off 39 = .ok (.iload 4, 2) := by decide +kernel
theorem dL_off_41 : decode cL_off 41 = .ok (.laload, 1) := by decide +kernel
theorem dL_off_42 : decode cL_off 42 = .ok (.invokestatic 44, 3) := by decide +kernel
theorem dL_off_45 : decode cL_off 45 = .ok (.ifCond .ne 7, 3) := by decide +kernel
theorem dL_off_48 : decode cL_off 48 = .ok (.iconst 1, 1) := by decide +kernel
theorem dL_off_49 : decode cL_off 49 = .ok (.goto 4, 3) := by decide +kernel
theorem dL_off_52 : decode cL_off 52 = .ok (.iconst 0, 1) := by decide +kernel
theorem dL_off_53 : decode cL_off 53 = .ok (.iadd, 1) := by decide +kernel
theorem dL_off_54 : decode cL_off 54 = .ok (.istore_n 3, 1) := by decide +kernel
theorem dL_off_55 : decode cL_off 55 = .ok (.iinc 4 1, 3) := by decide +kernel
theorem dL_off_58 : decode cL_off 58 = .ok (.goto (-53), 3) := by decide +kernel
theorem dL_off_61 : decode cL_off 61 = .ok (.iload_n 2, 1) := by decide +kernel
theorem dL_off_62 : decode cL_off 62 = .ok (.iload_n 3, 1) := by decide +kernel
theorem dL_off_63 : decode cL_off 63 = .ok (.isub, 1) := by decide +kernel
theorem dL_off_64 : decode cL_off 64 = .ok (.ireturn, 1) := by decide +kernel
theorem dL_far_0 : decode cL_far 0 = .ok (.aload_n 0, 1) := by decide +kernel
theorem dL_far_1 : decode cL_far 1 = .ok (.aload_n 1, 1) := by decide +kernel
theorem dL_far_2 : decode cL_far 2 = .ok (.iload_n 2, 1) := by decide +kernel
theorem dL_far_3 : decode cL_far 3 = .ok (.invokestatic 50, 3) := by decide +kernel
theorem dL_far_6 : decode cL_far 6 = .ok (.istore_n 3, 1) := by decide +kernel
theorem dL_far_7 : decode cL_far 7 = .ok (.iload_n 3, 1) := by decide +kernel
theorem dL_far_8 : decode cL_far 8 = .ok (.ifCond .ge 8, 3) := by decide +kernel
theorem dL_far_11 : decode cL_far 11 = .ok (.iload_n 3, 1) := by decide +kernel
theorem dL_far_12 : decode cL_far 12 = .ok (.ineg, 1) := by decide +kernel
theorem dL_far_13 : decode cL_far 13 = .ok (.goto 4, 3) := by decide +kernel
theorem dL_far_16 : decode cL_far 16 = .ok (.iload_n 3, 1) := by decide +kernel
theorem dL_far_17 : decode cL_far 17 = .ok (.ireturn, 1) := by decide +kernel
theorem dL_fall_0 : decode cL_fall 0 = .ok (.iload_n 2, 1) := by decide +kernel
theorem dL_fall_1 : decode cL_fall 1 = .ok (.ifCond .lt 31, 3) := by decide +kernel
theorem dL_fall_4 : decode cL_fall 4 = .ok (.iload_n 2, 1) := by decide +kernel
theorem dL_fall_5 : decode cL_fall 5 = .ok (.aload_n 0, 1) := by decide +kernel
theorem dL_fall_6 : decode cL_fall 6 = .ok (.iconst 0, 1) := by decide +kernel
theorem dL_fall_7 : decode cL_fall 7 = .ok (.iaload, 1) := by decide +kernel
theorem dL_fall_8 : decode cL_fall 8 = .ok (.iconst 1, 1) := by decide +kernel
theorem dL_fall_9 : decode cL_fall 9 = .ok (.isub, 1) := by decide +kernel
theorem dL_fall_10 : decode cL_fall 10 = .ok (.if_icmp .ge 22, 3) := by decide +kernel
theorem dL_fall_13 : decode cL_fall 13 = .ok (.aload_n 0, 1) := by decide +kernel
theorem dL_fall_14 : decode cL_fall 14 = .ok (.aload_n 1, 1) := by decide +kernel
theorem dL_fall_15 : decode cL_fall 15 = .ok (.iload_n 2, 1) := by decide +kernel
theorem dL_fall_16 : decode cL_fall 16 = .ok (.iconst 1, 1) := by decide +kernel
theorem dL_fall_17 : decode cL_fall 17 = .ok (.iadd, 1) := by decide +kernel
theorem dL_fall_18 : decode cL_fall 18 = .ok (.laload, 1) := by decide +kernel
theorem dL_fall_19 : decode cL_fall 19 = .ok (.aload_n 1, 1) := by decide +kernel
theorem dL_fall_20 : decode cL_fall 20 = .ok (.iload_n 2, 1) := by decide +kernel
theorem dL_fall_21 : decode cL_fall 21 = .ok (.laload, 1) := by decide +kernel
theorem dL_fall_22 : decode cL_fall 22 = .ok (.invokestatic 44, 3) := by decide +kernel
theorem dL_fall_25 : decode cL_fall 25 = .ok (.ifCond .eq 7, 3) := by decide +kernel
theorem dL_fall_28 : decode cL_fall 28 = .ok (.iconst 1, 1) := by decide +kernel
theorem dL_fall_29 : decode cL_fall 29 = .ok (.goto 4, 3) := by decide +kernel
theorem dL_fall_32 : decode cL_fall 32 = .ok (.iconst 0, 1) := by decide +kernel
theorem dL_fall_33 : decode cL_fall 33 = .ok (.ireturn, 1) := by decide +kernel
theorem dL_inversions_0 : decode cL_inversions 0 = .ok (.iconst 0, 1) := by decide +kernel
theorem dL_inversions_1 : decode cL_inversions 1 = .ok (.istore_n 2, 1) := by decide +kernel
theorem dL_inversions_2 : decode cL_inversions 2 = .ok (.iconst 0, 1) := by decide +kernel
theorem dL_inversions_3 : decode cL_inversions 3 = .ok (.istore_n 3, 1) := by decide +kernel
theorem dL_inversions_4 : decode cL_inversions 4 = .ok (.iload_n 3, 1) := by decide +kernel
theorem dL_inversions_5 : decode cL_inversions 5 = .ok (.aload_n 0, 1) := by decide +kernel
theorem dL_inversions_6 : decode cL_inversions 6 = .ok (.iconst 0, 1) := by decide +kernel
theorem dL_inversions_7 : decode cL_inversions 7 = .ok (.iaload, 1) := by decide +kernel
theorem dL_inversions_8 : decode cL_inversions 8 = .ok (.if_icmp .ge 46, 3) := by decide +kernel
theorem dL_inversions_11 : decode cL_inversions 11 = .ok (.iconst 0, 1) := by decide +kernel
theorem dL_inversions_12 : decode cL_inversions 12 = .ok (.istore 4, 2) := by decide +kernel
theorem dL_inversions_14 : decode cL_inversions 14 = .ok (.iload 4, 2) := by decide +kernel
theorem dL_inversions_16 : decode cL_inversions 16 = .ok (.iload_n 3, 1) := by decide +kernel
theorem dL_inversions_17 : decode cL_inversions 17 = .ok (.if_icmp .ge 31, 3) := by decide +kernel
theorem dL_inversions_20 : decode cL_inversions 20 = .ok (.iload_n 2, 1) := by decide +kernel
theorem dL_inversions_21 : decode cL_inversions 21 = .ok (.aload_n 0, 1) := by decide +kernel
theorem dL_inversions_22 : decode cL_inversions 22 = .ok (.aload_n 1, 1) := by decide +kernel
theorem dL_inversions_23 : decode cL_inversions 23 = .ok (.iload_n 3, 1) := by decide +kernel
theorem dL_inversions_24 : decode cL_inversions 24 = .ok (.laload, 1) := by decide +kernel
theorem dL_inversions_25 : decode cL_inversions 25 = .ok (.aload_n 1, 1) := by decide +kernel
theorem dL_inversions_26 : decode cL_inversions 26 = .ok (.iload 4, 2) := by decide +kernel
theorem dL_inversions_28 : decode cL_inversions 28 = .ok (.laload, 1) := by decide +kernel
theorem dL_inversions_29 : decode cL_inversions 29 = .ok (.invokestatic 44, 3) := by decide +kernel
theorem dL_inversions_32 : decode cL_inversions 32 = .ok (.ifCond .eq 7, 3) := by decide +kernel
theorem dL_inversions_35 : decode cL_inversions 35 = .ok (.iconst 1, 1) := by decide +kernel
theorem dL_inversions_36 : decode cL_inversions 36 = .ok (.goto 4, 3) := by decide +kernel
theorem dL_inversions_39 : decode cL_inversions 39 = .ok (.iconst 0, 1) := by decide +kernel
theorem dL_inversions_40 : decode cL_inversions 40 = .ok (.iadd, 1) := by decide +kernel
theorem dL_inversions_41 : decode cL_inversions 41 = .ok (.istore_n 2, 1) := by decide +kernel
theorem dL_inversions_42 : decode cL_inversions 42 = .ok (.iinc 4 1, 3) := by decide +kernel
theorem dL_inversions_45 : decode cL_inversions 45 = .ok (.goto (-31), 3) := by decide +kernel
theorem dL_inversions_48 : decode cL_inversions 48 = .ok (.iinc 3 1, 3) := by decide +kernel
theorem dL_inversions_51 : decode cL_inversions 51 = .ok (.goto (-47), 3) := by decide +kernel
theorem dL_inversions_54 : decode cL_inversions 54 = .ok (.iload_n 2, 1) := by decide +kernel
theorem dL_inversions_55 : decode cL_inversions 55 = .ok (.ireturn, 1) := by decide +kernel
theorem dL_broken_0 : decode cL_broken 0 = .ok (.iconst 0, 1) := by decide +kernel
theorem dL_broken_1 : decode cL_broken 1 = .ok (.istore_n 2, 1) := by decide +kernel
theorem dL_broken_2 : decode cL_broken 2 = .ok (.iconst 0, 1) := by decide +kernel
theorem dL_broken_3 : decode cL_broken 3 = .ok (.istore_n 3, 1) := by decide +kernel
theorem dL_broken_4 : decode cL_broken 4 = .ok (.iload_n 3, 1) := by decide +kernel
theorem dL_broken_5 : decode cL_broken 5 = .ok (.aload_n 0, 1) := by decide +kernel
theorem dL_broken_6 : decode cL_broken 6 = .ok (.iconst 0, 1) := by decide +kernel
theorem dL_broken_7 : decode cL_broken 7 = .ok (.iaload, 1) := by decide +kernel
theorem dL_broken_8 : decode cL_broken 8 = .ok (.if_icmp .ge 29, 3) := by decide +kernel
theorem dL_broken_11 : decode cL_broken 11 = .ok (.iload_n 2, 1) := by decide +kernel
theorem dL_broken_12 : decode cL_broken 12 = .ok (.aload_n 0, 1) := by decide +kernel
theorem dL_broken_13 : decode cL_broken 13 = .ok (.aload_n 1, 1) := by decide +kernel
theorem dL_broken_14 : decode cL_broken 14 = .ok (.iload_n 3, 1) := by decide +kernel
theorem dL_broken_15 : decode cL_broken 15 = .ok (.invokestatic 54, 3) := by decide +kernel
theorem dL_broken_18 : decode cL_broken 18 = .ok (.aload_n 0, 1) := by decide +kernel
theorem dL_broken_19 : decode cL_broken 19 = .ok (.iconst 1, 1) := by decide +kernel
theorem dL_broken_20 : decode cL_broken 20 = .ok (.iaload, 1) := by decide +kernel
theorem dL_broken_21 : decode cL_broken 21 = .ok (.if_icmp .le 7, 3) := by decide +kernel
theorem dL_broken_24 : decode cL_broken 24 = .ok (.iconst 1, 1) := by decide +kernel
theorem dL_broken_25 : decode cL_broken 25 = .ok (.goto 4, 3) := by decide +kernel
theorem dL_broken_28 : decode cL_broken 28 = .ok (.iconst 0, 1) := by decide +kernel
theorem dL_broken_29 : decode cL_broken 29 = .ok (.iadd, 1) := by decide +kernel
theorem dL_broken_30 : decode cL_broken 30 = .ok (.istore_n 2, 1) := by decide +kernel
theorem dL_broken_31 : decode cL_broken 31 = .ok (.iinc 3 1, 3) := by decide +kernel
theorem dL_broken_34 : decode cL_broken 34 = .ok (.goto (-30), 3) := by decide +kernel
theorem dL_broken_37 : decode cL_broken 37 = .ok (.iload_n 2, 1) := by decide +kernel
theorem dL_broken_38 : decode cL_broken 38 = .ok (.ireturn, 1) := by decide +kernel
theorem dL_swap_0 : decode cL_swap 0 = .ok (.aload_n 0, 1) := by decide +kernel
theorem dL_swap_1 : decode cL_swap 1 = .ok (.iload_n 2, 1) := by decide +kernel
theorem dL_swap_2 : decode cL_swap 2 = .ok (.laload, 1) := by decide +kernel
theorem dL_swap_3 : decode cL_swap 3 = .ok (.lstore_n 3, 1) := by decide +kernel
theorem dL_swap_4 : decode cL_swap 4 = .ok (.aload_n 1, 1) := by decide +kernel
theorem dL_swap_5 : decode cL_swap 5 = .ok (.iload_n 2, 1) := by decide +kernel
theorem dL_swap_6 : decode cL_swap 6 = .ok (.iaload, 1) := by decide +kernel
theorem dL_swap_7 : decode cL_swap 7 = .ok (.istore 5, 2) := by decide +kernel
theorem dL_swap_9 : decode cL_swap 9 = .ok (.aload_n 0, 1) := by decide +kernel
theorem dL_swap_10 : decode cL_swap 10 = .ok (.iload_n 2, 1) := by decide +kernel
theorem dL_swap_11 : decode cL_swap 11 = .ok (.aload_n 0, 1) := by decide +kernel
theorem dL_swap_12 : decode cL_swap 12 = .ok (.iload_n 2, 1) := by decide +kernel
theorem dL_swap_13 : decode cL_swap 13 = .ok (.iconst 1, 1) := by decide +kernel
theorem dL_swap_14 : decode cL_swap 14 = .ok (.iadd, 1) := by decide +kernel
theorem dL_swap_15 : decode cL_swap 15 = .ok (.laload, 1) := by decide +kernel
theorem dL_swap_16 : decode cL_swap 16 = .ok (.lastore, 1) := by decide +kernel
theorem dL_swap_17 : decode cL_swap 17 = .ok (.aload_n 1, 1) := by decide +kernel
theorem dL_swap_18 : decode cL_swap 18 = .ok (.iload_n 2, 1) := by decide +kernel
theorem dL_swap_19 : decode cL_swap 19 = .ok (.aload_n 1, 1) := by decide +kernel
theorem dL_swap_20 : decode cL_swap 20 = .ok (.iload_n 2, 1) := by decide +kernel
theorem dL_swap_21 : decode cL_swap 21 = .ok (.iconst 1, 1) := by decide +kernel
theorem dL_swap_22 : decode cL_swap 22 = .ok (.iadd, 1) := by decide +kernel
theorem dL_swap_23 : decode cL_swap 23 = .ok (.iaload, 1) := by decide +kernel
theorem dL_swap_24 : decode cL_swap 24 = .ok (.iastore, 1) := by decide +kernel
theorem dL_swap_25 : decode cL_swap 25 = .ok (.aload_n 0, 1) := by decide +kernel
theorem dL_swap_26 : decode cL_swap 26 = .ok (.iload_n 2, 1) := by decide +kernel
theorem dL_swap_27 : decode cL_swap 27 = .ok (.iconst 1, 1) := by decide +kernel
theorem dL_swap_28 : decode cL_swap 28 = .ok (.iadd, 1) := by decide +kernel
theorem dL_swap_29 : decode cL_swap 29 = .ok (.lload_n 3, 1) := by decide +kernel
theorem dL_swap_30 : decode cL_swap 30 = .ok (.lastore, 1) := by decide +kernel
theorem dL_swap_31 : decode cL_swap 31 = .ok (.aload_n 1, 1) := by decide +kernel
theorem dL_swap_32 : decode cL_swap 32 = .ok (.iload_n 2, 1) := by decide +kernel
theorem dL_swap_33 : decode cL_swap 33 = .ok (.iconst 1, 1) := by decide +kernel
theorem dL_swap_34 : decode cL_swap 34 = .ok (.iadd, 1) := by decide +kernel
theorem dL_swap_35 : decode cL_swap 35 = .ok (.iload 5, 2) := by decide +kernel
theorem dL_swap_37 : decode cL_swap 37 = .ok (.iastore, 1) := by decide +kernel
theorem dL_swap_38 : decode cL_swap 38 = .ok (.return_, 1) := by decide +kernel
theorem dL_step_0 : decode cL_step 0 = .ok (.iconst (-1), 1) := by decide +kernel
theorem dL_step_1 : decode cL_step 1 = .ok (.istore_n 3, 1) := by decide +kernel
theorem dL_step_2 : decode cL_step 2 = .ok (.aload_n 0, 1) := by decide +kernel
theorem dL_step_3 : decode cL_step 3 = .ok (.iconst 1, 1) := by decide +kernel
theorem dL_step_4 : decode cL_step 4 = .ok (.iaload, 1) := by decide +kernel
theorem dL_step_5 : decode cL_step 5 = .ok (.istore 4, 2) := by decide +kernel
theorem dL_step_7 : decode cL_step 7 = .ok (.iconst 0, 1) := by decide +kernel
theorem dL_step_8 : decode cL_step 8 = .ok (.istore 5, 2) := by decide +kernel
theorem dL_step_10 : decode cL_step 10 = .ok (.iload 5, 2) := by decide +kernel
theorem dL_step_12 : decode cL_step 12 = .ok (.aload_n 0, 1) := by decide +kernel
theorem dL_step_13 : decode cL_step 13 = .ok (.iconst 0, 1) := by decide +kernel
theorem dL_step_14 : decode cL_step 14 = .ok (.iaload, 1) := by decide +kernel
theorem dL_step_15 : decode cL_step 15 = .ok (.if_icmp .ge 48, 3) := by decide +kernel
theorem dL_step_18 : decode cL_step 18 = .ok (.aload_n 0, 1) := by decide +kernel
theorem dL_step_19 : decode cL_step 19 = .ok (.aload_n 1, 1) := by decide +kernel
theorem dL_step_20 : decode cL_step 20 = .ok (.iload 5, 2) := by decide +kernel
theorem dL_step_22 : decode cL_step 22 = .ok (.invokestatic 54, 3) := by decide +kernel
theorem dL_step_25 : decode cL_step 25 = .ok (.istore 6, 2) := by decide +kernel
theorem dL_step_27 : decode cL_step 27 = .ok (.iload 6, 2) := by decide +kernel
theorem dL_step_29 : decode cL_step 29 = .ok (.iload 4, 2) := by decide +kernel
theorem dL_step_31 : decode cL_step 31 = .ok (.if_icmp .le 8, 3) := by decide +kernel
theorem dL_step_34 : decode cL_step 34 = .ok (.iload 5, 2) := by decide +kernel
theorem dL_step_36 : decode cL_step 36 = .ok (.goto 4, 3) := by decide +kernel
theorem dL_step_39 : decode cL_step 39 = .ok (.iload_n 3, 1) := by decide +kernel
theorem dL_step_40 : decode cL_step 40 = .ok (.istore_n 3, 1) := by decide +kernel
theorem dL_step_41 : decode cL_step 41 = .ok (.iload 6, 2) := by decide +kernel
theorem dL_step_43 : decode cL_step 43 = .ok (.iload 4, 2) := by decide +kernel
theorem dL_step_45 : decode cL_step 45 = .ok (.if_icmp .le 8, 3) := by decide +kernel
theorem dL_step_48 : decode cL_step 48 = .ok (.iload 6, 2) := by decide +kernel
theorem dL_step_50 : decode cL_step 50 = .ok (.goto 5, 3) := by decide +kernel
theorem dL_step_53 : decode cL_step 53 = .ok (.iload 4, 2) := by decide +kernel
theorem dL_step_55 : decode cL_step 55 = .ok (.istore 4, 2) := by decide +kernel
theorem dL_step_57 : decode cL_step 57 = .ok (.iinc 5 1, 3) := by decide +kernel
theorem dL_step_60 : decode cL_step 60 = .ok (.goto (-50), 3) := by decide +kernel
theorem dL_step_63 : decode cL_step 63 = .ok (.iload_n 3, 1) := by decide +kernel
theorem dL_step_64 : decode cL_step 64 = .ok (.ifCond .ge 7, 3) := by decide +kernel
theorem dL_step_67 : decode cL_step 67 = .ok (.sipush (-1000), 3) := by decide +kernel
theorem dL_step_70 : decode cL_step 70 = .ok (.ireturn, 1) := by decide +kernel
theorem dL_step_71 : decode cL_step 71 = .ok (.aload_n 0, 1) := by decide +kernel
theorem dL_step_72 : decode cL_step 72 = .ok (.aload_n 1, 1) := by decide +kernel
theorem dL_step_73 : decode cL_step 73 = .ok (.iload_n 3, 1) := by decide +kernel
theorem dL_step_74 : decode cL_step 74 = .ok (.invokestatic 50, 3) := by decide +kernel
theorem dL_step_77 : decode cL_step 77 = .ok (.ifCond .le 7, 3) := by decide +kernel
theorem dL_step_80 : decode cL_step 80 = .ok (.iconst (-1), 1) := by decide +kernel
theorem dL_step_81 : decode cL_step 81 = .ok (.goto 4, 3) := by decide +kernel
theorem dL_step_84 : decode cL_step 84 = .ok (.iconst 1, 1) := by decide +kernel
theorem dL_step_85 : decode cL_step 85 = .ok (.istore 5, 2) := by decide +kernel
theorem dL_step_87 : decode cL_step 87 = .ok (.iload 5, 2) := by decide +kernel
theorem dL_step_89 : decode cL_step 89 = .ok (.ifCond .ge 9, 3) := by decide +kernel
theorem dL_step_92 : decode cL_step 92 = .ok (.iload_n 3, 1) := by decide +kernel
theorem dL_step_93 : decode cL_step 93 = .ok (.iconst 1, 1) := by decide +kernel
theorem dL_step_94 : decode cL_step 94 = .ok (.isub, 1) := by decide +kernel
theorem dL_step_95 : decode cL_step 95 = .ok (.goto 4, 3) := by decide +kernel
theorem dL_step_98 : decode cL_step 98 = .ok (.iload_n 3, 1) := by decide +kernel
theorem dL_step_99 : decode cL_step 99 = .ok (.istore 6, 2) := by decide +kernel
theorem dL_step_101 : decode cL_step 101 = .ok (.aload_n 0, 1) := by decide +kernel
theorem dL_step_102 : decode cL_step 102 = .ok (.aload_n 1, 1) := by decide +kernel
theorem dL_step_103 : decode cL_step 103 = .ok (.iload 6, 2) := by decide +kernel
theorem dL_step_105 : decode cL_step 105 = .ok (.invokestatic 57, 3) := by decide +kernel
theorem dL_step_108 : decode cL_step 108 = .ok (.ifCond .ne 25, 3) := by decide +kernel
theorem dL_step_111 : decode cL_step 111 = .ok (.iload 6, 2) := by decide +kernel
theorem dL_step_113 : decode cL_step 113 = .ok (.ifCond .lt 20, 3) := by decide +kernel
theorem dL_step_116 : decode cL_step 116 = .ok (.iload 6, 2) := by decide +kernel
theorem dL_step_118 : decode cL_step 118 = .ok (.bipush 32, 2) := by decide +kernel
theorem dL_step_120 : decode cL_step 120 = .ok (.if_icmp .ge 13, 3) := by decide +kernel
theorem dL_step_123 : decode cL_step 123 = .ok (.iload 6, 2) := by decide +kernel
theorem dL_step_125 : decode cL_step 125 = .ok (.iload 5, 2) := by decide +kernel
theorem dL_step_127 : decode cL_step 127 = .ok (.iadd, 1) := by decide +kernel
theorem dL_step_128 : decode cL_step 128 = .ok (.istore 6, 2) := by decide +kernel
theorem dL_step_130 : decode cL_step 130 = .ok (.goto (-29), 3) := by decide +kernel
theorem dL_step_133 : decode cL_step 133 = .ok (.iload 6, 2) := by decide +kernel
theorem dL_step_135 : decode cL_step 135 = .ok (.ifCond .lt 17, 3) := by decide +kernel
theorem dL_step_138 : decode cL_step 138 = .ok (.iload 6, 2) := by decide +kernel
theorem dL_step_140 : decode cL_step 140 = .ok (.bipush 31, 2) := by decide +kernel
theorem dL_step_142 : decode cL_step 142 = .ok (.if_icmp .ge 10, 3) := by decide +kernel
theorem dL_step_145 : decode cL_step 145 = .ok (.aload_n 1, 1) := by decide +kernel
theorem dL_step_146 : decode cL_step 146 = .ok (.aload_n 2, 1) := by decide +kernel
theorem dL_step_147 : decode cL_step 147 = .ok (.iload 6, 2) := by decide +kernel
theorem dL_step_149 : decode cL_step 149 = .ok (.invokestatic 61, 3) := by decide +kernel
theorem dL_step_152 : decode cL_step 152 = .ok (.aload_n 0, 1) := by decide +kernel
theorem dL_step_153 : decode cL_step 153 = .ok (.iconst 4, 1) := by decide +kernel
theorem dL_step_154 : decode cL_step 154 = .ok (.dup2, 1) := by decide +kernel
theorem dL_step_155 : decode cL_step 155 = .ok (.iaload, 1) := by decide +kernel
theorem dL_step_156 : decode cL_step 156 = .ok (.iconst 1, 1) := by decide +kernel
theorem dL_step_157 : decode cL_step 157 = .ok (.iadd, 1) := by decide +kernel
theorem dL_step_158 : decode cL_step 158 = .ok (.iastore, 1) := by decide +kernel
theorem dL_step_159 : decode cL_step 159 = .ok (.iload 6, 2) := by decide +kernel
theorem dL_step_161 : decode cL_step 161 = .ok (.ireturn, 1) := by decide +kernel
theorem dL_mend_0 : decode cL_mend 0 = .ok (.iconst 0, 1) := by decide +kernel
theorem dL_mend_1 : decode cL_mend 1 = .ok (.istore_n 3, 1) := by decide +kernel
theorem dL_mend_2 : decode cL_mend 2 = .ok (.aload_n 0, 1) := by decide +kernel
theorem dL_mend_3 : decode cL_mend 3 = .ok (.aload_n 1, 1) := by decide +kernel
theorem dL_mend_4 : decode cL_mend 4 = .ok (.aload_n 2, 1) := by decide +kernel
theorem dL_mend_5 : decode cL_mend 5 = .ok (.invokestatic 64, 3) := by decide +kernel
theorem dL_mend_8 : decode cL_mend 8 = .ok (.sipush (-1000), 3) := by decide +kernel
theorem dL_mend_11 : decode cL_mend 11 = .ok (.if_icmp .le 9, 3) := by decide +kernel
theorem dL_mend_14 : decode cL_mend 14 = .ok (.iinc 3 1, 3) := by decide +kernel
theorem dL_mend_17 : decode cL_mend 17 = .ok (.goto (-15), 3) := by decide +kernel
theorem dL_mend_20 : decode cL_mend 20 = .ok (.iload_n 3, 1) := by decide +kernel
theorem dL_mend_21 : decode cL_mend 21 = .ok (.ireturn, 1) := by decide +kernel
theorem dL_ends_0 : decode cL_ends 0 = .ok (.aload_n 0, 1) := by decide +kernel
theorem dL_ends_1 : decode cL_ends 1 = .ok (.iconst 3, 1) := by decide +kernel
theorem dL_ends_2 : decode cL_ends 2 = .ok (.iaload, 1) := by decide +kernel
theorem dL_ends_3 : decode cL_ends 3 = .ok (.iconst 1, 1) := by decide +kernel
theorem dL_ends_4 : decode cL_ends 4 = .ok (.if_icmp .ne 22, 3) := by decide +kernel
theorem dL_ends_7 : decode cL_ends 7 = .ok (.aload_n 0, 1) := by decide +kernel
theorem dL_ends_8 : decode cL_ends 8 = .ok (.aload_n 1, 1) := by decide +kernel
theorem dL_ends_9 : decode cL_ends 9 = .ok (.aload_n 2, 1) := by decide +kernel
theorem dL_ends_10 : decode cL_ends 10 = .ok (.invokestatic 68, 3) := by decide +kernel
theorem dL_ends_13 : decode cL_ends 13 = .ok (.istore_n 3, 1) := by decide +kernel
theorem dL_ends_14 : decode cL_ends 14 = .ok (.aload_n 0, 1) := by decide +kernel
theorem dL_ends_15 : decode cL_ends 15 = .ok (.iconst 3, 1) := by decide +kernel
theorem dL_ends_16 : decode cL_ends 16 = .ok (.iload_n 3, 1) := by decide +kernel
theorem dL_ends_17 : decode cL_ends 17 = .ok (.ifCond .ge 7, 3) := by decide +kernel
theorem dL_ends_20 : decode cL_ends 20 = .ok (.iconst 0, 1) := by decide +kernel
theorem dL_ends_21 : decode cL_ends 21 = .ok (.goto 4, 3) := by decide +kernel
theorem dL_ends_24 : decode cL_ends 24 = .ok (.iconst 1, 1) := by decide +kernel
theorem dL_ends_25 : decode cL_ends 25 = .ok (.iastore, 1) := by decide +kernel
theorem dL_ends_26 : decode cL_ends 26 = .ok (.return_, 1) := by decide +kernel
theorem dL_put_0 : decode cL_put 0 = .ok (.aload_n 0, 1) := by decide +kernel
theorem dL_put_1 : decode cL_put 1 = .ok (.iconst 0, 1) := by decide +kernel
theorem dL_put_2 : decode cL_put 2 = .ok (.iaload, 1) := by decide +kernel
theorem dL_put_3 : decode cL_put 3 = .ok (.istore 6, 2) := by decide +kernel
theorem dL_put_5 : decode cL_put 5 = .ok (.iload 6, 2) := by decide +kernel
theorem dL_put_7 : decode cL_put 7 = .ok (.iload_n 3, 1) := by decide +kernel
theorem dL_put_8 : decode cL_put 8 = .ok (.if_icmp .le 29, 3) := by decide +kernel
theorem dL_put_11 : decode cL_put 11 = .ok (.aload_n 1, 1) := by decide +kernel
theorem dL_put_12 : decode cL_put 12 = .ok (.iload 6, 2) := by decide +kernel
theorem dL_put_14 : decode cL_put 14 = .ok (.aload_n 1, 1) := by decide +kernel
theorem dL_put_15 : decode cL_put 15 = .ok (.iload 6, 2) := by decide +kernel
theorem dL_put_17 : decode cL_put 17 = .ok (.iconst 1, 1) := by decide +kernel
theorem dL_put_18 : decode cL_put 18 = .ok (.isub, 1) := by decide +kernel
theorem dL_put_19 : decode cL_put 19 = .ok (.laload, 1) := by decide +kernel
theorem dL_put_20 : decode cL_put 20 = .ok (.lastore, 1) := by decide +kernel
theorem dL_put_21 : decode cL_put 21 = .ok (.aload_n 2, 1) := by decide +kernel
theorem dL_put_22 : decode cL_put 22 = .ok (.iload 6, 2) := by decide +kernel
theorem dL_put_24 : decode cL_put 24 = .ok (.aload_n 2, 1) := by decide +kernel
theorem dL_put_25 : decode cL_put 25 = .ok (.iload 6, 2) := by decide +kernel
theorem dL_put_27 : decode cL_put 27 = .ok (.iconst 1, 1) := by decide +kernel
theorem dL_put_28 : decode cL_put 28 = .ok (.isub, 1) := by decide +kernel
theorem dL_put_29 : decode cL_put 29 = .ok (.iaload, 1) := by decide +kernel
theorem dL_put_30 : decode cL_put 30 = .ok (.iastore, 1) := by decide +kernel
theorem dL_put_31 : decode cL_put 31 = .ok (.iinc 6 (-1), 3) := by decide +kernel
theorem dL_put_34 : decode cL_put 34 = .ok (.goto (-29), 3) := by decide +kernel
theorem dL_put_37 : decode cL_put 37 = .ok (.aload_n 1, 1) := by decide +kernel
theorem dL_put_38 : decode cL_put 38 = .ok (.iload_n 3, 1) := by decide +kernel
theorem dL_put_39 : decode cL_put 39 = .ok (.lload 4, 2) := by decide +kernel
theorem dL_put_41 : decode cL_put 41 = .ok (.lastore, 1) := by decide +kernel
theorem dL_put_42 : decode cL_put 42 = .ok (.aload_n 2, 1) := by decide +kernel
theorem dL_put_43 : decode cL_put 43 = .ok (.iload_n 3, 1) := by decide +kernel
theorem dL_put_44 : decode cL_put 44 = .ok (.aload_n 0, 1) := by decide +kernel
theorem dL_put_45 : decode cL_put 45 = .ok (.bipush 6, 2) := by decide +kernel
theorem dL_put_47 : decode cL_put 47 = .ok (.iaload, 1) := by decide +kernel
theorem dL_put_48 : decode cL_put 48 = .ok (.iastore, 1) := by decide +kernel
theorem dL_put_49 : decode cL_put 49 = .ok (.aload_n 0, 1) := by decide +kernel
theorem dL_put_50 : decode cL_put 50 = .ok (.bipush 6, 2) := by decide +kernel
theorem dL_put_52 : decode cL_put 52 = .ok (.dup2, 1) := by decide +kernel
theorem dL_put_53 : decode cL_put 53 = .ok (.iaload, 1) := by decide +kernel
theorem dL_put_54 : decode cL_put 54 = .ok (.iconst 1, 1) := by decide +kernel
theorem dL_put_55 : decode cL_put 55 = .ok (.iadd, 1) := by decide +kernel
theorem dL_put_56 : decode cL_put 56 = .ok (.iastore, 1) := by decide +kernel
theorem dL_put_57 : decode cL_put 57 = .ok (.aload_n 0, 1) := by decide +kernel
theorem dL_put_58 : decode cL_put 58 = .ok (.iconst 0, 1) := by decide +kernel
theorem dL_put_59 : decode cL_put 59 = .ok (.dup2, 1) := by decide +kernel
theorem dL_put_60 : decode cL_put 60 = .ok (.iaload, 1) := by decide +kernel
theorem dL_put_61 : decode cL_put 61 = .ok (.iconst 1, 1) := by decide +kernel
theorem dL_put_62 : decode cL_put 62 = .ok (.iadd, 1) := by decide +kernel
theorem dL_put_63 : decode cL_put 63 = .ok (.iastore, 1) := by decide +kernel
theorem dL_put_64 : decode cL_put 64 = .ok (.return_, 1) := by decide +kernel
theorem dL_search_0 : decode cL_search 0 = .ok (.iconst 0, 1) := by decide +kernel
theorem dL_search_1 : decode cL_search 1 = .ok (.istore 5, 2) := by decide +kernel
theorem dL_search_3 : decode cL_search 3 = .ok (.aload_n 0, 1) := by decide +kernel
theorem dL_search_4 : decode cL_search 4 = .ok (.iconst 0, 1) := by decide +kernel
theorem dL_search_5 : decode cL_search 5 = .ok (.iaload, 1) := by decide +kernel
theorem dL_search_6 : decode cL_search 6 = .ok (.istore 6, 2) := by decide +kernel
theorem dL_search_8 : decode cL_search 8 = .ok (.aload 4, 2) := by decide +kernel
theorem dL_search_10 : decode cL_search 10 = .ok (.iconst 0, 1) := by decide +kernel
theorem dL_search_11 : decode cL_search 11 = .ok (.iconst 0, 1) := by decide +kernel
theorem dL_search_12 : decode cL_search 12 = .ok (.iastore, 1) := by decide +kernel
theorem dL_search_13 : decode cL_search 13 = .ok (.aload 4, 2) := by decide +kernel
theorem dL_search_15 : decode cL_search 15 = .ok (.iconst 1, 1) := by decide +kernel
theorem dL_search_16 : decode cL_search 16 = .ok (.sipush (-1000), 3) := by decide +kernel
theorem dL_search_19 : decode cL_search 19 = .ok (.iastore, 1) := by decide +kernel
theorem dL_search_20 : decode cL_search 20 = .ok (.aload 4, 2) := by decide +kernel
theorem dL_search_22 : decode cL_search 22 = .ok (.iconst 2, 1) := by decide +kernel
theorem dL_search_23 : decode cL_search 23 = .ok (.sipush (-1000), 3) := by decide +kernel
theorem dL_search_26 : decode cL_search 26 = .ok (.iastore, 1) := by decide +kernel
theorem dL_search_27 : decode cL_search 27 = .ok (.iload 6, 2) := by decide +kernel
theorem dL_search_29 : decode cL_search 29 = .ok (.iload 5, 2) := by decide +kernel
theorem dL_search_31 : decode cL_search 31 = .ok (.isub, 1) := by decide +kernel
theorem dL_search_32 : decode cL_search 32 = .ok (.iconst 4, 1) := by decide +kernel
theorem dL_search_33 : decode cL_search 33 = .ok (.aload_n 0, 1) := by decide +kernel
theorem dL_search_34 : decode cL_search 34 = .ok (.iconst 1, 1) := by decide +kernel
theorem dL_search_35 : decode cL_search 35 = .ok (.iaload, 1) := by decide +kernel
theorem dL_search_36 : decode cL_search 36 = .ok (.imul, 1) := by decide +kernel
theorem dL_search_37 : decode cL_search 37 = .ok (.iconst 2, 1) := by decide +kernel
theorem dL_search_38 : decode cL_search 38 = .ok (.iadd, 1) := by decide +kernel
theorem dL_search_39 : decode cL_search 39 = .ok (.if_icmp .le 119, 3) := by decide +kernel
theorem dL_search_42 : decode cL_search 42 = .ok (.iload 5, 2) := by decide +kernel
theorem dL_search_44 : decode cL_search 44 = .ok (.iload 6, 2) := by decide +kernel
theorem dL_search_46 : decode cL_search 46 = .ok (.iload 5, 2) := by decide +kernel
theorem dL_search_48 : decode cL_search 48 = .ok (.isub, 1) := by decide +kernel
theorem dL_search_49 : decode cL_search 49 = .ok (.iconst 2, 1) := by decide +kernel
theorem dL_search_50 : decode cL_search 50 = .ok (.idiv, 1) := by decide +kernel
theorem dL_search_51 : decode cL_search 51 = .ok (.iadd, 1) := by decide +kernel
theorem dL_search_52 : decode cL_search 52 = .ok (.istore 7, 2) := by decide +kernel
theorem dL_search_54 : decode cL_search 54 = .ok (.aload 4, 2) := by decide +kernel
theorem dL_search_56 : decode cL_search 56 = .ok (.iconst 0, 1) := by decide +kernel
theorem dL_search_57 : decode cL_search 57 = .ok (.dup2, 1) := by decide +kernel
theorem dL_search_58 : decode cL_search 58 = .ok (.iaload, 1) := by decide +kernel
theorem dL_search_59 : decode cL_search 59 = .ok (.iconst 1, 1) := by decide +kernel
theorem dL_search_60 : decode cL_search 60 = .ok (.iadd, 1) := by decide +kernel
theorem dL_search_61 : decode cL_search 61 = .ok (.iastore, 1) := by decide +kernel
theorem dL_search_62 : decode cL_search 62 = .ok (.aload_n 1, 1) := by decide +kernel
theorem dL_search_63 : decode cL_search 63 = .ok (.iload 7, 2) := by decide +kernel
theorem dL_search_65 : decode cL_search 65 = .ok (.laload, 1) := by decide +kernel
theorem dL_search_66 : decode cL_search 66 = .ok (.lload_n 2, 1) := by decide +kernel
theorem dL_search_67 : decode cL_search 67 = .ok (.lcmp, 1) := by decide +kernel
theorem dL_search_68 : decode cL_search 68 = .ok (.ifCond .ne 6, 3) := by decide +kernel
theorem dL_search_71 : decode cL_search 71 = .ok (.iload 7, 2) := by decide +kernel
theorem dL_search_73 : decode cL_search 73 = .ok (.ireturn, 1) := by decide +kernel
theorem dL_search_74 : decode cL_search 74 = .ok (.aload_n 0, 1) := by decide +kernel
theorem dL_search_75 : decode cL_search 75 = .ok (.aload_n 1, 1) := by decide +kernel
theorem dL_search_76 : decode cL_search 76 = .ok (.iload 7, 2) := by decide +kernel
theorem dL_search_78 : decode cL_search 78 = .ok (.laload, 1) := by decide +kernel
theorem dL_search_79 : decode cL_search 79 = .ok (.lload_n 2, 1) := by decide +kernel
theorem dL_search_80 : decode cL_search 80 = .ok (.invokestatic 44, 3) := by decide +kernel
theorem dL_search_83 : decode cL_search 83 = .ok (.istore 8, 2) := by decide +kernel
theorem dL_search_85 : decode cL_search 85 = .ok (.iload 8, 2) := by decide +kernel
theorem dL_search_87 : decode cL_search 87 = .ok (.ifCond .eq 14, 3) := by decide +kernel
theorem dL_search_90 : decode cL_search 90 = .ok (.iload 7, 2) := by decide +kernel
theorem dL_search_92 : decode cL_search 92 = .ok (.iconst 2, 1) := by decide +kernel
theorem dL_search_93 : decode cL_search 93 = .ok (.aload_n 0, 1) := by decide +kernel
theorem dL_search_94 : decode cL_search 94 = .ok (.iconst 1, 1) := by decide +kernel
theorem dL_search_95 : decode cL_search 95 = .ok (.iaload, 1) := by decide +kernel
theorem dL_search_96 : decode cL_search 96 = .ok (.imul, 1) := by decide +kernel
theorem dL_search_97 : decode cL_search 97 = .ok (.isub, 1) := by decide +kernel
theorem dL_search_98 : decode cL_search 98 = .ok (.goto 13, 3) := by decide +kernel
theorem dL_search_101 : decode cL_search 101 = .ok (.iload 7, 2) := by decide +kernel
theorem dL_search_103 : decode cL_search 103 = .ok (.iconst 2, 1) := by decide +kernel
theorem dL_search_104 : decode cL_search 104 = .ok (.aload_n 0, 1) := by decide +kernel
theorem dL_search_105 : decode cL_search 105 = .ok (.iconst 1, 1) := by decide +kernel
theorem dL_search_106 : decode cL_search 106 = .ok (.iaload, 1) := by decide +kernel
theorem dL_search_107 : decode cL_search 107 = .ok (.imul, 1) := by decide +kernel
theorem dL_search_108 : decode cL_search 108 = .ok (.iadd, 1) := by decide +kernel
theorem dL_search_109 : decode cL_search 109 = .ok (.iconst 1, 1) := by decide +kernel
theorem dL_search_110 : decode cL_search 110 = .ok (.iadd, 1) := by decide +kernel
theorem dL_search_111 : decode cL_search 111 = .ok (.istore 9, 2) := by decide +kernel
theorem dL_search_113 : decode cL_search 113 = .ok (.iload 8, 2) := by decide +kernel
theorem dL_search_115 : decode cL_search 115 = .ok (.ifCond .eq 15, 3) := by decide +kernel
theorem dL_search_118 : decode cL_search 118 = .ok (.iload 9, 2) := by decide +kernel
theorem dL_search_120 : decode cL_search 120 = .ok (.iload 5, 2) := by decide +kernel
theorem dL_search_122 : decode cL_search 122 = .ok (.if_icmp .le 8, 3) := by decide +kernel
theorem dL_search_125 : decode cL_search 125 = .ok (.iload 9, 2) := by decide +kernel
theorem dL_search_127 : decode cL_search 127 = .ok (.goto 5, 3) := by decide +kernel
theorem dL_search_130 : decode cL_search 130 = .ok (.iload 5, 2) := by decide +kernel
theorem dL_search_132 : decode cL_search 132 = .ok (.istore 5, 2) := by decide +kernel
theorem dL_search_134 : decode cL_search 134 = .ok (.iload 8, 2) := by decide +kernel
theorem dL_search_136 : decode cL_search 136 = .ok (.ifCond .ne 15, 3) := by decide +kernel
theorem dL_search_139 : decode cL_search 139 = .ok (.iload 9, 2) := by decide +kernel
theorem dL_search_141 : decode cL_search 141 = .ok (.iload 6, 2) := by decide +kernel
theorem dL_search_143 : decode cL_search 143 = .ok (.if_icmp .ge 8, 3) := by decide +kernel
theorem dL_search_146 : decode cL_search 146 = .ok (.iload 9, 2) := by decide +kernel
theorem dL_search_148 : decode cL_search 148 = .ok (.goto 5, 3) := by decide +kernel
theorem dL_search_151 : decode cL_search 151 = .ok (.iload 6, 2) := by decide +kernel
theorem dL_search_153 : decode cL_search 153 = .ok (.istore 6, 2) := by decide +kernel
theorem dL_search_155 : decode cL_search 155 = .ok (.goto (-128), 3) := by decide +kernel
theorem dL_search_158 : decode cL_search 158 = .ok (.aload 4, 2) := by decide +kernel
theorem dL_search_160 : decode cL_search 160 = .ok (.iconst 1, 1) := by decide +kernel
theorem dL_search_161 : decode cL_search 161 = .ok (.iload 5, 2) := by decide +kernel
theorem dL_search_163 : decode cL_search 163 = .ok (.iastore, 1) := by decide +kernel
theorem dL_search_164 : decode cL_search 164 = .ok (.aload 4, 2) := by decide +kernel
theorem dL_search_166 : decode cL_search 166 = .ok (.iconst 2, 1) := by decide +kernel
theorem dL_search_167 : decode cL_search 167 = .ok (.iload 6, 2) := by decide +kernel
theorem dL_search_169 : decode cL_search 169 = .ok (.iastore, 1) := by decide +kernel
theorem dL_search_170 : decode cL_search 170 = .ok (.iload 5, 2) := by decide +kernel
theorem dL_search_172 : decode cL_search 172 = .ok (.iload 6, 2) := by decide +kernel
theorem dL_search_174 : decode cL_search 174 = .ok (.if_icmp .ge 29, 3) := by decide +kernel
theorem dL_search_177 : decode cL_search 177 = .ok (.aload 4, 2) := by decide +kernel
theorem dL_search_179 : decode cL_search 179 = .ok (.iconst 0, 1) := by decide +kernel
theorem dL_search_180 : decode cL_search 180 = .ok (.dup2, 1) := by decide +kernel
theorem dL_search_181 : decode cL_search 181 = .ok (.iaload, 1) := by decide +kernel
theorem dL_search_182 : decode cL_search 182 = .ok (.iconst 1, 1) := by decide +kernel
theorem dL_search_183 : decode cL_search 183 = .ok (.iadd, 1) := by decide +kernel
theorem dL_search_184 : decode cL_search 184 = .ok (.iastore, 1) := by decide +kernel
theorem dL_search_185 : decode cL_search 185 = .ok (.aload_n 1, 1) := by decide +kernel
theorem dL_search_186 : decode cL_search 186 = .ok (.iload 5, 2) := by decide +kernel
theorem dL_search_188 : decode cL_search 188 = .ok (.laload, 1) := by decide +kernel
theorem dL_search_189 : decode cL_search 189 = .ok (.lload_n 2, 1) := by decide +kernel
theorem dL_search_190 : decode cL_search 190 = .ok (.lcmp, 1) := by decide +kernel
theorem dL_search_191 : decode cL_search 191 = .ok (.ifCond .ne 6, 3) := by decide +kernel
theorem dL_search_194 : decode cL_search 194 = .ok (.iload 5, 2) := by decide +kernel
theorem dL_search_196 : decode cL_search 196 = .ok (.ireturn, 1) := by decide +kernel
theorem dL_search_197 : decode cL_search 197 = .ok (.iinc 5 1, 3) := by decide +kernel
theorem dL_search_200 : decode cL_search 200 = .ok (.goto (-30), 3) := by decide +kernel
theorem dL_search_203 : decode cL_search 203 = .ok (.sipush (-1000), 3) := by decide +kernel
theorem dL_search_206 : decode cL_search 206 = .ok (.ireturn, 1) := by decide +kernel
theorem dL_value_0 : decode cL_value 0 = .ok (.iload_n 0, 1) := by decide +kernel
theorem dL_value_1 : decode cL_value 1 = .ok (.bipush 9, 2) := by decide +kernel
theorem dL_value_3 : decode cL_value 3 = .ok (.irem, 1) := by decide +kernel
theorem dL_value_4 : decode cL_value 4 = .ok (.ifCond .ne 20, 3) := by decide +kernel
theorem dL_value_7 : decode cL_value 7 = .ok (.ldc2_w 71, 3) := by decide +kernel
theorem dL_value_10 : decode cL_value 10 = .ok (.iload_n 0, 1) := by decide +kernel
theorem dL_value_11 : decode cL_value 11 = .ok (.bipush 9, 2) := by decide +kernel
theorem dL_value_13 : decode cL_value 13 = .ok (.idiv, 1) := by decide +kernel
theorem dL_value_14 : decode cL_value 14 = .ok (.bipush 7, 2) := by decide +kernel
theorem dL_value_16 : decode cL_value 16 = .ok (.irem, 1) := by decide +kernel
theorem dL_value_17 : decode cL_value 17 = .ok (.iconst 3, 1) := by decide +kernel
theorem dL_value_18 : decode cL_value 18 = .ok (.isub, 1) := by decide +kernel
theorem dL_value_19 : decode cL_value 19 = .ok (.i2l, 1) := by decide +kernel
theorem dL_value_20 : decode cL_value 20 = .ok (.lmul, 1) := by decide +kernel
theorem dL_value_21 : decode cL_value 21 = .ok (.goto 14, 3) := by decide +kernel
theorem dL_value_24 : decode cL_value 24 = .ok (.iload_n 0, 1) := by decide +kernel
theorem dL_value_25 : decode cL_value 25 = .ok (.bipush 9, 2) := by decide +kernel
theorem dL_value_27 : decode cL_value 27 = .ok (.idiv, 1) := by decide +kernel
theorem dL_value_28 : decode cL_value 28 = .ok (.bipush 24, 2) := by decide +kernel
theorem dL_value_30 : decode cL_value 30 = .ok (.irem, 1) := by decide +kernel
theorem dL_value_31 : decode cL_value 31 = .ok (.bipush 8, 2) := by decide +kernel
theorem dL_value_33 : decode cL_value 33 = .ok (.isub, 1) := by decide +kernel
theorem dL_value_34 : decode cL_value 34 = .ok (.i2l, 1) := by decide +kernel
theorem dL_value_35 : decode cL_value 35 = .ok (.lreturn, 1) := by decide +kernel
theorem dL_acts_0 : decode cL_acts 0 = .ok (.iload 4, 2) := by decide +kernel
theorem dL_acts_2 : decode cL_acts 2 = .ok (.iconst 5, 1) := by decide +kernel
theorem dL_acts_3 : decode cL_acts 3 = .ok (.ishr, 1) := by decide +kernel
theorem dL_acts_4 : decode cL_acts 4 = .ok (.ldc 73, 2) := by decide +kernel
theorem dL_acts_6 : decode cL_acts 6 = .ok (.invokestatic 74, 3) := by decide +kernel
theorem dL_acts_9 : decode cL_acts 9 = .ok (.istore 5, 2) := by decide +kernel
theorem dL_acts_11 : decode cL_acts 11 = .ok (.iload 4, 2) := by decide +kernel
theorem dL_acts_13 : decode cL_acts 13 = .ok (.bipush 25, 2) := by decide +kernel
theorem dL_acts_15 : decode cL_acts 15 = .ok (.invokestatic 74, 3) := by decide +kernel
theorem dL_acts_18 : decode cL_acts 18 = .ok (.istore 6, 2) := by decide +kernel
theorem dL_acts_20 : decode cL_acts 20 = .ok (.iload 5, 2) := by decide +kernel
theorem dL_acts_22 : decode cL_acts 22 = .ok (.bipush 33, 2) := by decide +kernel
theorem dL_acts_24 : decode cL_acts 24 = .ok (.idiv, 1) := by decide +kernel
theorem dL_acts_25 : decode cL_acts 25 = .ok (.invokestatic 78, 3) := by decide +kernel
theorem dL_acts_28 : decode cL_acts 28 = .ok (.lstore 7, 2) := by decide +kernel
theorem dL_acts_30 : decode cL_acts 30 = .ok (.iload 6, 2) := by decide +kernel
theorem dL_acts_32 : decode cL_acts 32 = .ok (.bipush 9, 2) := by decide +kernel
theorem dL_acts_34 : decode cL_acts 34 = .ok (.if_icmp .ge 74, 3) := by decide +kernel
theorem dL_acts_37 : decode cL_acts 37 = .ok (.aload_n 1, 1) := by decide +kernel
theorem dL_acts_38 : decode cL_acts 38 = .ok (.iconst 0, 1) := by decide +kernel
theorem dL_acts_39 : decode cL_acts 39 = .ok (.iaload, 1) := by decide +kernel
theorem dL_acts_40 : decode cL_acts 40 = .ok (.bipush 32, 2) := by decide +kernel
theorem dL_acts_42 : decode cL_acts 42 = .ok (.if_icmp .ne 20, 3) := by decide +kernel
theorem dL_acts_45 : decode cL_acts 45 = .ok (.aload_n 0, 1) := by decide +kernel
theorem dL_acts_46 : decode cL_acts 46 = .ok (.lload 7, 2) := by decide +kernel
theorem dL_acts_48 : decode cL_acts 48 = .ok (.invokestatic 82, 3) := by decide +kernel
theorem dL_acts_51 : decode cL_acts 51 = .ok (.ldc 17, 2) := by decide +kernel
theorem dL_acts_53 : decode cL_acts 53 = .ok (.if_icmp .ne 7, 3) := by decide +kernel
theorem dL_acts_56 : decode cL_acts 56 = .ok (.iconst 1, 1) := by decide +kernel
theorem dL_acts_57 : decode cL_acts 57 = .ok (.goto 4, 3) := by decide +kernel
theorem dL_acts_60 : decode cL_acts 60 = .ok (.iconst 0, 1) := by decide +kernel
theorem dL_acts_61 : decode cL_acts 61 = .ok (.ireturn, 1) := by decide +kernel
theorem dL_acts_62 : decode cL_acts 62 = .ok (.aload_n 1, 1) := by decide +kernel
theorem dL_acts_63 : decode cL_acts 63 = .ok (.aload_n 2, 1) := by decide +kernel
theorem dL_acts_64 : decode cL_acts 64 = .ok (.aload_n 3, 1) := by decide +kernel
theorem dL_acts_65 : decode cL_acts 65 = .ok (.aload_n 1, 1) := by decide +kernel
theorem dL_acts_66 : decode cL_acts 66 = .ok (.iconst 0, 1) := by decide +kernel
theorem dL_acts_67 : decode cL_acts 67 = .ok (.iaload, 1) := by decide +kernel
theorem dL_acts_68 : decode cL_acts 68 = .ok (.lload 7, 2) := by decide +kernel
theorem dL_acts_70 : decode cL_acts 70 = .ok (.invokestatic 86, 3) := by decide +kernel
theorem dL_acts_73 : decode cL_acts 73 = .ok (.aload_n 1, 1) := by decide +kernel
theorem dL_acts_74 : decode cL_acts 74 = .ok (.aload_n 2, 1) := by decide +kernel
theorem dL_acts_75 : decode cL_acts 75 = .ok (.aload_n 1, 1) := by decide +kernel
theorem dL_acts_76 : decode cL_acts 76 = .ok (.iconst 0, 1) := by decide +kernel
theorem dL_acts_77 : decode cL_acts 77 = .ok (.iaload, 1) := by decide +kernel
theorem dL_acts_78 : decode cL_acts 78 = .ok (.iconst 1, 1) := by decide +kernel
theorem dL_acts_79 : decode cL_acts 79 = .ok (.isub, 1) := by decide +kernel
theorem dL_acts_80 : decode cL_acts 80 = .ok (.invokestatic 50, 3) := by decide +kernel
theorem dL_acts_83 : decode cL_acts 83 = .ok (.istore 9, 2) := by decide +kernel
theorem dL_acts_85 : decode cL_acts 85 = .ok (.aload_n 1, 1) := by decide +kernel
theorem dL_acts_86 : decode cL_acts 86 = .ok (.aload_n 2, 1) := by decide +kernel
theorem dL_acts_87 : decode cL_acts 87 = .ok (.aload_n 3, 1) := by decide +kernel
theorem dL_acts_88 : decode cL_acts 88 = .ok (.invokestatic 90, 3) := by decide +kernel
theorem dL_acts_91 : decode cL_acts 91 = .ok (.aload_n 0, 1) := by decide +kernel
theorem dL_acts_92 : decode cL_acts 92 = .ok (.lload 7, 2) := by decide +kernel
theorem dL_acts_94 : decode cL_acts 94 = .ok (.invokestatic 82, 3) := by decide +kernel
theorem dL_acts_97 : decode cL_acts 97 = .ok (.iload 9, 2) := by decide +kernel
theorem dL_acts_99 : decode cL_acts 99 = .ok (.if_icmp .ne 7, 3) := by decide +kernel
theorem dL_acts_102 : decode cL_acts 102 = .ok (.iconst 1, 1) := by decide +kernel
theorem dL_acts_103 : decode cL_acts 103 = .ok (.goto 4, 3) := by decide +kernel
theorem dL_acts_106 : decode cL_acts 106 = .ok (.iconst 0, 1) := by decide +kernel
theorem dL_acts_107 : decode cL_acts 107 = .ok (.ireturn, 1) := by decide +kernel
theorem dL_acts_108 : decode cL_acts 108 = .ok (.iload 6, 2) := by decide +kernel
theorem dL_acts_110 : decode cL_acts 110 = .ok (.bipush 12, 2) := by decide +kernel
theorem dL_acts_112 : decode cL_acts 112 = .ok (.if_icmp .ge 97, 3) := by decide +kernel
theorem dL_acts_115 : decode cL_acts 115 = .ok (.iload 5, 2) := by decide +kernel
theorem dL_acts_117 : decode cL_acts 117 = .ok (.bipush 34, 2) := by decide +kernel
theorem dL_acts_119 : decode cL_acts 119 = .ok (.irem, 1) := by decide +kernel
theorem dL_acts_120 : decode cL_acts 120 = .ok (.istore 9, 2) := by decide +kernel
theorem dL_acts_122 : decode cL_acts 122 = .ok (.iload 9, 2) := by decide +kernel
theorem dL_acts_124 : decode cL_acts 124 = .ok (.aload_n 1, 1) := by decide +kernel
theorem dL_acts_125 : decode cL_acts 125 = .ok (.iconst 0, 1) := by decide +kernel
theorem dL_acts_126 : decode cL_acts 126 = .ok (.iaload, 1) := by decide +kernel
theorem dL_acts_127 : decode cL_acts 127 = .ok (.if_icmp .gt 11, 3) := by decide +kernel
theorem dL_acts_130 : decode cL_acts 130 = .ok (.aload_n 1, 1) := by decide +kernel
theorem dL_acts_131 : decode cL_acts 131 = .ok (.iconst 0, 1) := by decide +kernel
theorem dL_acts_132 : decode cL_acts 132 = .ok (.iaload, 1) := by decide +kernel
theorem dL_acts_133 : decode cL_acts 133 = .ok (.bipush 32, 2) := by decide +kernel
theorem dL_acts_135 : decode cL_acts 135 = .ok (.if_icmp .ne 35, 3) := by decide +kernel
theorem dL_acts_138 : decode cL_acts 138 = .ok (.aload_n 0, 1) := by decide +kernel
theorem dL_acts_139 : decode cL_acts 139 = .ok (.iload 9, 2) := by decide +kernel
theorem dL_acts_141 : decode cL_acts 141 = .ok (.lload 7, 2) := by decide +kernel
theorem dL_acts_143 : decode cL_acts 143 = .ok (.invokestatic 94, 3) := by decide +kernel
theorem dL_acts_146 : decode cL_acts 146 = .ok (.iload 9, 2) := by decide +kernel
theorem dL_acts_148 : decode cL_acts 148 = .ok (.aload_n 1, 1) := by decide +kernel
theorem dL_acts_149 : decode cL_acts 149 = .ok (.iconst 0, 1) := by decide +kernel
theorem dL_acts_150 : decode cL_acts 150 = .ok (.iaload, 1) := by decide +kernel
theorem dL_acts_151 : decode cL_acts 151 = .ok (.if_icmp .le 8, 3) := by decide +kernel
theorem dL_acts_154 : decode cL_acts 154 = .ok (.ldc 24, 2) := by decide +kernel
theorem dL_acts_156 : decode cL_acts 156 = .ok (.goto 5, 3) := by decide +kernel
theorem dL_acts_159 : decode cL_acts 159 = .ok (.ldc 17, 2) := by decide +kernel
theorem dL_acts_161 : decode cL_acts 161 = .ok (.if_icmp .ne 7, 3) := by decide +kernel
theorem dL_acts_164 : decode cL_acts 164 = .ok (.iconst 1, 1) := by decide +kernel
theorem dL_acts_165 : decode cL_acts 165 = .ok (.goto 4, 3) := by decide +kernel
theorem dL_acts_168 : decode cL_acts 168 = .ok (.iconst 0, 1) := by decide +kernel
theorem dL_acts_169 : decode cL_acts 169 = .ok (.ireturn, 1) := by decide +kernel
theorem dL_acts_170 : decode cL_acts 170 = .ok (.aload_n 1, 1) := by decide +kernel
theorem dL_acts_171 : decode cL_acts 171 = .ok (.aload_n 2, 1) := by decide +kernel
theorem dL_acts_172 : decode cL_acts 172 = .ok (.aload_n 3, 1) := by decide +kernel
theorem dL_acts_173 : decode cL_acts 173 = .ok (.iload 9, 2) := by decide +kernel
theorem dL_acts_175 : decode cL_acts 175 = .ok (.lload 7, 2) := by decide +kernel
theorem dL_acts_177 : decode cL_acts 177 = .ok (.invokestatic 86, 3) := by decide +kernel
theorem dL_acts_180 : decode cL_acts 180 = .ok (.aload_n 1, 1) := by decide +kernel
theorem dL_acts_181 : decode cL_acts 181 = .ok (.aload_n 2, 1) := by decide +kernel
theorem dL_acts_182 : decode cL_acts 182 = .ok (.aload_n 3, 1) := by decide +kernel
theorem dL_acts_183 : decode cL_acts 183 = .ok (.invokestatic 90, 3) := by decide +kernel
theorem dL_acts_186 : decode cL_acts 186 = .ok (.aload_n 0, 1) := by decide +kernel
theorem dL_acts_187 : decode cL_acts 187 = .ok (.iload 9, 2) := by decide +kernel
theorem dL_acts_189 : decode cL_acts 189 = .ok (.lload 7, 2) := by decide +kernel
theorem dL_acts_191 : decode cL_acts 191 = .ok (.invokestatic 94, 3) := by decide +kernel
theorem dL_acts_194 : decode cL_acts 194 = .ok (.aload_n 1, 1) := by decide +kernel
theorem dL_acts_195 : decode cL_acts 195 = .ok (.bipush 6, 2) := by decide +kernel
theorem dL_acts_197 : decode cL_acts 197 = .ok (.iaload, 1) := by decide +kernel
theorem dL_acts_198 : decode cL_acts 198 = .ok (.iconst 1, 1) := by decide +kernel
theorem dL_acts_199 : decode cL_acts 199 = .ok (.isub, 1) := by decide +kernel
theorem dL_acts_200 : decode cL_acts 200 = .ok (.if_icmp .ne 7, 3) := by decide +kernel
theorem dL_acts_203 : decode cL_acts 203 = .ok (.iconst 1, 1) := by decide +kernel
theorem dL_acts_204 : decode cL_acts 204 = .ok (.goto 4, 3) := by decide +kernel
theorem dL_acts_207 : decode cL_acts 207 = .ok (.iconst 0, 1) := by decide +kernel
theorem dL_acts_208 : decode cL_acts 208 = .ok (.ireturn, 1) := by decide +kernel
theorem dL_acts_209 : decode cL_acts 209 = .ok (.iload 6, 2) := by decide +kernel
theorem dL_acts_211 : decode cL_acts 211 = .ok (.bipush 16, 2) := by decide +kernel
theorem dL_acts_213 : decode cL_acts 213 = .ok (.if_icmp .ge 208, 3) := by decide +kernel
theorem dL_acts_216 : decode cL_acts 216 = .ok (.aload_n 1, 1) := by decide +kernel
theorem dL_acts_217 : decode cL_acts 217 = .ok (.iconst 0, 1) := by decide +kernel
theorem dL_acts_218 : decode cL_acts 218 = .ok (.iaload, 1) := by decide +kernel
theorem dL_acts_219 : decode cL_acts 219 = .ok (.ifCond .ne 7, 3) := by decide +kernel
theorem dL_acts_222 : decode cL_acts 222 = .ok (.iconst 0, 1) := by decide +kernel
theorem dL_acts_223 : decode cL_acts 223 = .ok (.goto 11, 3) := by decide +kernel
theorem dL_acts_226 : decode cL_acts 226 = .ok (.iload 5, 2) := by decide +kernel
theorem dL_acts_228 : decode cL_acts 228 = .ok (.aload_n 1, 1) := by decide +kernel
theorem dL_acts_229 : decode cL_acts 229 = .ok (.iconst 0, 1) := by decide +kernel
theorem dL_acts_230 : decode cL_acts 230 = .ok (.iaload, 1) := by decide +kernel
theorem dL_acts_231 : decode cL_acts 231 = .ok (.iconst 1, 1) := by decide +kernel
theorem dL_acts_232 : decode cL_acts 232 = .ok (.iadd, 1) := by decide +kernel
theorem dL_acts_233 : decode cL_acts 233 = .ok (.irem, 1) := by decide +kernel
theorem dL_acts_234 : decode cL_acts 234 = .ok (.istore 9, 2) := by decide +kernel
theorem dL_acts_236 : decode cL_acts 236 = .ok (.iload 9, 2) := by decide +kernel
theorem dL_acts_238 : decode cL_acts 238 = .ok (.aload_n 1, 1) := by decide +kernel
theorem dL_acts_239 : decode cL_acts 239 = .ok (.iconst 0, 1) := by decide +kernel
theorem dL_acts_240 : decode cL_acts 240 = .ok (.iaload, 1) := by decide +kernel
theorem dL_acts_241 : decode cL_acts 241 = .ok (.if_icmp .ne 59, 3) := by decide +kernel
theorem dL_acts_244 : decode cL_acts 244 = .ok (.aload_n 0, 1) := by decide +kernel
theorem dL_acts_245 : decode cL_acts 245 = .ok (.iload 9, 2) := by decide +kernel
theorem dL_acts_247 : decode cL_acts 247 = .ok (.invokestatic 98, 3) := by decide +kernel
theorem dL_acts_250 : decode cL_acts 250 = .ok (.ldc 31, 2) := by decide +kernel
theorem dL_acts_252 : decode cL_acts 252 = .ok (.if_icmp .ne 46, 3) := by decide +kernel
theorem dL_acts_255 : decode cL_acts 255 = .ok (.aload_n 0, 1) := by decide +kernel
theorem dL_acts_256 : decode cL_acts 256 = .ok (.iload 9, 2) := by decide +kernel
theorem dL_acts_258 : decode cL_acts 258 = .ok (.lload 7, 2) := by decide +kernel
theorem dL_acts_260 : decode cL_acts 260 = .ok (.invokestatic 102, 3) := by decide +kernel
theorem dL_acts_263 : decode cL_acts 263 = .ok (.ldc2_w 36, 3) := by decide +kernel
theorem dL_acts_266 : decode cL_acts 266 = .ok (.lcmp, 1) := by decide +kernel
theorem dL_acts_267 : decode cL_acts 267 = .ok (.ifCond .ne 31, 3) := by decide +kernel
theorem dL_acts_270 : decode cL_acts 270 = .ok (.aload_n 0, 1) := by decide +kernel
theorem dL_acts_271 : decode cL_acts 271 = .ok (.iload 9, 2) := by decide +kernel
theorem dL_acts_273 : decode cL_acts 273 = .ok (.invokestatic 106, 3) := by decide +kernel
theorem dL_acts_276 : decode cL_acts 276 = .ok (.ldc 31, 2) := by decide +kernel
theorem dL_acts_278 : decode cL_acts 278 = .ok (.if_icmp .ne 20, 3) := by decide +kernel
theorem dL_acts_281 : decode cL_acts 281 = .ok (.aload_n 0, 1) := by decide +kernel
theorem dL_acts_282 : decode cL_acts 282 = .ok (.iload 9, 2) := by decide +kernel
theorem dL_acts_284 : decode cL_acts 284 = .ok (.iconst 1, 1) := by decide +kernel
theorem dL_acts_285 : decode cL_acts 285 = .ok (.isub, 1) := by decide +kernel
theorem dL_acts_286 : decode cL_acts 286 = .ok (.invokestatic 106, 3) := by decide +kernel
theorem dL_acts_289 : decode cL_acts 289 = .ok (.ldc 31, 2) := by decide +kernel
theorem dL_acts_291 : decode cL_acts 291 = .ok (.if_icmp .ne 7, 3) := by decide +kernel
theorem dL_acts_294 : decode cL_acts 294 = .ok (.iconst 1, 1) := by decide +kernel
theorem dL_acts_295 : decode cL_acts 295 = .ok (.goto 4, 3) := by decide +kernel
theorem dL_acts_298 : decode cL_acts 298 = .ok (.iconst 0, 1) := by decide +kernel
theorem dL_acts_299 : decode cL_acts 299 = .ok (.ireturn, 1) := by decide +kernel
theorem dL_acts_300 : decode cL_acts 300 = .ok (.iload 6, 2) := by decide +kernel
theorem dL_acts_302 : decode cL_acts 302 = .ok (.bipush 14, 2) := by decide +kernel
theorem dL_acts_304 : decode cL_acts 304 = .ok (.if_icmp .ge 79, 3) := by decide +kernel
theorem dL_acts_307 : decode cL_acts 307 = .ok (.aload_n 3, 1) := by decide +kernel
theorem dL_acts_308 : decode cL_acts 308 = .ok (.iload 9, 2) := by decide +kernel
theorem dL_acts_310 : decode cL_acts 310 = .ok (.iaload, 1) := by decide +kernel
theorem dL_acts_311 : decode cL_acts 311 = .ok (.istore 10, 2) := by decide +kernel
theorem dL_acts_313 : decode cL_acts 313 = .ok (.iload 9, 2) := by decide +kernel
theorem dL_acts_315 : decode cL_acts 315 = .ok (.istore 11, 2) := by decide +kernel
theorem dL_acts_317 : decode cL_acts 317 = .ok (.iload 11, 2) := by decide +kernel
theorem dL_acts_319 : decode cL_acts 319 = .ok (.aload_n 1, 1) := by decide +kernel
theorem dL_acts_320 : decode cL_acts 320 = .ok (.iconst 0, 1) := by decide +kernel
theorem dL_acts_321 : decode cL_acts 321 = .ok (.iaload, 1) := by decide +kernel
theorem dL_acts_322 : decode cL_acts 322 = .ok (.iconst 1, 1) := by decide +kernel
theorem dL_acts_323 : decode cL_acts 323 = .ok (.isub, 1) := by decide +kernel
theorem dL_acts_324 : decode cL_acts 324 = .ok (.if_icmp .ge 29, 3) := by decide +kernel
theorem dL_acts_327 : decode cL_acts 327 = .ok (.aload_n 2, 1) := by decide +kernel
theorem dL_acts_328 : decode cL_acts 328 = .ok (.iload 11, 2) := by decide +kernel
theorem dL_acts_330 : decode cL_acts 330 = .ok (.aload_n 2, 1) := by decide +kernel
theorem dL_acts_331 : decode cL_acts 331 = .ok (.iload 11, 2) := by decide +kernel
theorem dL_acts_333 : decode cL_acts 333 = .ok (.iconst 1, 1) := by decide +kernel
theorem dL_acts_334 : decode cL_acts 334 = .ok (.iadd, 1) := by decide +kernel
theorem dL_acts_335 : decode cL_acts 335 = .ok (.laload, 1) := by decide +kernel
theorem dL_acts_336 : decode cL_acts 336 = .ok (.lastore, 1) := by decide +kernel
theorem dL_acts_337 : decode cL_acts 337 = .ok (.aload_n 3, 1) := by decide +kernel
theorem dL_acts_338 : decode cL_acts 338 = .ok (.iload 11, 2) := by decide +kernel
theorem dL_acts_340 : decode cL_acts 340 = .ok (.aload_n 3, 1) := by decide +kernel
theorem dL_acts_341 : decode cL_acts 341 = .ok (.iload 11, 2) := by decide +kernel
theorem dL_acts_343 : decode cL_acts 343 = .ok (.iconst 1, 1) := by decide +kernel
theorem dL_acts_344 : decode cL_acts 344 = .ok (.iadd, 1) := by decide +kernel
theorem dL_acts_345 : decode cL_acts 345 = .ok (.iaload, 1) := by decide +kernel
theorem dL_acts_346 : decode cL_acts 346 = .ok (.iastore, 1) := by decide +kernel
theorem dL_acts_347 : decode cL_acts 347 = .ok (.iinc 11 1, 3) := by decide +kernel
theorem dL_acts_350 : decode cL_acts 350 = .ok (.goto (-33), 3) := by decide +kernel
theorem dL_acts_353 : decode cL_acts 353 = .ok (.aload_n 1, 1) := by decide +kernel
theorem dL_acts_354 : decode cL_acts 354 = .ok (.iconst 0, 1) := by decide +kernel
theorem dL_acts_355 : decode cL_acts 355 = .ok (.dup2, 1) := by decide +kernel
theorem dL_acts_356 : decode cL_acts 356 = .ok (.iaload, 1) := by decide +kernel
theorem dL_acts_357 : decode cL_acts 357 = .ok (.iconst 1, 1) := by decide +kernel
theorem dL_acts_358 : decode cL_acts 358 = .ok (.isub, 1) := by decide +kernel
theorem dL_acts_359 : decode cL_acts 359 = .ok (.iastore, 1) := by decide +kernel
theorem dL_acts_360 : decode cL_acts 360 = .ok (.aload_n 1, 1) := by decide +kernel
theorem dL_acts_361 : decode cL_acts 361 = .ok (.aload_n 2, 1) := by decide +kernel
theorem dL_acts_362 : decode cL_acts 362 = .ok (.aload_n 3, 1) := by decide +kernel
theorem dL_acts_363 : decode cL_acts 363 = .ok (.invokestatic 90, 3) := by decide +kernel
theorem dL_acts_366 : decode cL_acts 366 = .ok (.aload_n 0, 1) := by decide +kernel
theorem dL_acts_367 : decode cL_acts 367 = .ok (.iload 9, 2) := by decide +kernel
theorem dL_acts_369 : decode cL_acts 369 = .ok (.invokestatic 98, 3) := by decide +kernel
theorem dL_acts_372 : decode cL_acts 372 = .ok (.iload 10, 2) := by decide +kernel
theorem dL_acts_374 : decode cL_acts 374 = .ok (.if_icmp .ne 7, 3) := by decide +kernel
theorem dL_acts_377 : decode cL_acts 377 = .ok (.iconst 1, 1) := by decide +kernel
theorem dL_acts_378 : decode cL_acts 378 = .ok (.goto 4, 3) := by decide +kernel
theorem dL_acts_381 : decode cL_acts 381 = .ok (.iconst 0, 1) := by decide +kernel
theorem dL_acts_382 : decode cL_acts 382 = .ok (.ireturn, 1) := by decide +kernel
theorem dL_acts_383 : decode cL_acts 383 = .ok (.aload_n 2, 1) := by decide +kernel
theorem dL_acts_384 : decode cL_acts 384 = .ok (.iload 9, 2) := by decide +kernel
theorem dL_acts_386 : decode cL_acts 386 = .ok (.laload, 1) := by decide +kernel
theorem dL_acts_387 : decode cL_acts 387 = .ok (.lstore 10, 2) := by decide +kernel
theorem dL_acts_389 : decode cL_acts 389 = .ok (.aload_n 2, 1) := by decide +kernel
theorem dL_acts_390 : decode cL_acts 390 = .ok (.iload 9, 2) := by decide +kernel
theorem dL_acts_392 : decode cL_acts 392 = .ok (.lload 7, 2) := by decide +kernel
theorem dL_acts_394 : decode cL_acts 394 = .ok (.lastore, 1) := by decide +kernel
theorem dL_acts_395 : decode cL_acts 395 = .ok (.aload_n 1, 1) := by decide +kernel
theorem dL_acts_396 : decode cL_acts 396 = .ok (.aload_n 2, 1) := by decide +kernel
theorem dL_acts_397 : decode cL_acts 397 = .ok (.aload_n 3, 1) := by decide +kernel
theorem dL_acts_398 : decode cL_acts 398 = .ok (.invokestatic 90, 3) := by decide +kernel
theorem dL_acts_401 : decode cL_acts 401 = .ok (.aload_n 0, 1) := by decide +kernel
theorem dL_acts_402 : decode cL_acts 402 = .ok (.iload 9, 2) := by decide +kernel
theorem dL_acts_404 : decode cL_acts 404 = .ok (.lload 7, 2) := by decide +kernel
theorem dL_acts_406 : decode cL_acts 406 = .ok (.invokestatic 102, 3) := by decide +kernel
theorem dL_acts_409 : decode cL_acts 409 = .ok (.lload 10, 2) := by decide +kernel
theorem dL_acts_411 : decode cL_acts 411 = .ok (.lcmp, 1) := by decide +kernel
theorem dL_acts_412 : decode cL_acts 412 = .ok (.ifCond .ne 7, 3) := by decide +kernel
theorem dL_acts_415 : decode cL_acts 415 = .ok (.iconst 1, 1) := by decide +kernel
theorem dL_acts_416 : decode cL_acts 416 = .ok (.goto 4, 3) := by decide +kernel
theorem dL_acts_419 : decode cL_acts 419 = .ok (.iconst 0, 1) := by decide +kernel
theorem dL_acts_420 : decode cL_acts 420 = .ok (.ireturn, 1) := by decide +kernel
theorem dL_acts_421 : decode cL_acts 421 = .ok (.iload 6, 2) := by decide +kernel
theorem dL_acts_423 : decode cL_acts 423 = .ok (.bipush 18, 2) := by decide +kernel
theorem dL_acts_425 : decode cL_acts 425 = .ok (.if_icmp .ge 83, 3) := by decide +kernel
theorem dL_acts_428 : decode cL_acts 428 = .ok (.aload_n 1, 1) := by decide +kernel
theorem dL_acts_429 : decode cL_acts 429 = .ok (.iconst 0, 1) := by decide +kernel
theorem dL_acts_430 : decode cL_acts 430 = .ok (.iaload, 1) := by decide +kernel
theorem dL_acts_431 : decode cL_acts 431 = .ok (.iconst 2, 1) := by decide +kernel
theorem dL_acts_432 : decode cL_acts 432 = .ok (.if_icmp .ge 19, 3) := by decide +kernel
theorem dL_acts_435 : decode cL_acts 435 = .ok (.aload_n 0, 1) := by decide +kernel
theorem dL_acts_436 : decode cL_acts 436 = .ok (.iconst 0, 1) := by decide +kernel
theorem dL_acts_437 : decode cL_acts 437 = .ok (.invokestatic 106, 3) := by decide +kernel
theorem dL_acts_440 : decode cL_acts 440 = .ok (.ldc 31, 2) := by decide +kernel
theorem dL_acts_442 : decode cL_acts 442 = .ok (.if_icmp .ne 7, 3) := by decide +kernel
theorem dL_acts_445 : decode cL_acts 445 = .ok (.iconst 1, 1) := by decide +kernel
theorem dL_acts_446 : decode cL_acts 446 = .ok (.goto 4, 3) := by decide +kernel
theorem dL_acts_449 : decode cL_acts 449 = .ok (.iconst 0, 1) := by decide +kernel
theorem dL_acts_450 : decode cL_acts 450 = .ok (.ireturn, 1) := by decide +kernel
theorem dL_acts_451 : decode cL_acts 451 = .ok (.iload 5, 2) := by decide +kernel
theorem dL_acts_453 : decode cL_acts 453 = .ok (.aload_n 1, 1) := by decide +kernel
theorem dL_acts_454 : decode cL_acts 454 = .ok (.iconst 0, 1) := by decide +kernel
theorem dL_acts_455 : decode cL_acts 455 = .ok (.iaload, 1) := by decide +kernel
theorem dL_acts_456 : decode cL_acts 456 = .ok (.iconst 1, 1) := by decide +kernel
theorem dL_acts_457 : decode cL_acts 457 = .ok (.isub, 1) := by decide +kernel
theorem dL_acts_458 : decode cL_acts 458 = .ok (.irem, 1) := by decide +kernel
theorem dL_acts_459 : decode cL_acts 459 = .ok (.istore 9, 2) := by decide +kernel
theorem dL_acts_461 : decode cL_acts 461 = .ok (.aload_n 1, 1) := by decide +kernel
theorem dL_acts_462 : decode cL_acts 462 = .ok (.aload_n 2, 1) := by decide +kernel
theorem dL_acts_463 : decode cL_acts 463 = .ok (.invokestatic 109, 3) := by decide +kernel
theorem dL_acts_466 : decode cL_acts 466 = .ok (.istore 10, 2) := by decide +kernel
theorem dL_acts_468 : decode cL_acts 468 = .ok (.aload_n 2, 1) := by decide +kernel
theorem dL_acts_469 : decode cL_acts 469 = .ok (.aload_n 3, 1) := by decide +kernel
theorem dL_acts_470 : decode cL_acts 470 = .ok (.iload 9, 2) := by decide +kernel
theorem dL_acts_472 : decode cL_acts 472 = .ok (.invokestatic 61, 3) := by decide +kernel
theorem dL_acts_475 : decode cL_acts 475 = .ok (.aload_n 1, 1) := by decide +kernel
theorem dL_acts_476 : decode cL_acts 476 = .ok (.aload_n 2, 1) := by decide +kernel
theorem dL_acts_477 : decode cL_acts 477 = .ok (.invokestatic 109, 3) := by decide +kernel
theorem dL_acts_480 : decode cL_acts 480 = .ok (.iload 10, 2) := by decide +kernel
theorem dL_acts_482 : decode cL_acts 482 = .ok (.isub, 1) := by decide +kernel
theorem dL_acts_483 : decode cL_acts 483 = .ok (.istore 11, 2) := by decide +kernel
theorem dL_acts_485 : decode cL_acts 485 = .ok (.aload_n 1, 1) := by decide +kernel
theorem dL_acts_486 : decode cL_acts 486 = .ok (.aload_n 2, 1) := by decide +kernel
theorem dL_acts_487 : decode cL_acts 487 = .ok (.aload_n 3, 1) := by decide +kernel
theorem dL_acts_488 : decode cL_acts 488 = .ok (.invokestatic 90, 3) := by decide +kernel
theorem dL_acts_491 : decode cL_acts 491 = .ok (.aload_n 0, 1) := by decide +kernel
theorem dL_acts_492 : decode cL_acts 492 = .ok (.iload 9, 2) := by decide +kernel
theorem dL_acts_494 : decode cL_acts 494 = .ok (.invokestatic 106, 3) := by decide +kernel
theorem dL_acts_497 : decode cL_acts 497 = .ok (.iload 11, 2) := by decide +kernel
theorem dL_acts_499 : decode cL_acts 499 = .ok (.if_icmp .ne 7, 3) := by decide +kernel
theorem dL_acts_502 : decode cL_acts 502 = .ok (.iconst 1, 1) := by decide +kernel
theorem dL_acts_503 : decode cL_acts 503 = .ok (.goto 4, 3) := by decide +kernel
theorem dL_acts_506 : decode cL_acts 506 = .ok (.iconst 0, 1) := by decide +kernel
theorem dL_acts_507 : decode cL_acts 507 = .ok (.ireturn, 1) := by decide +kernel
theorem dL_acts_508 : decode cL_acts 508 = .ok (.iload 6, 2) := by decide +kernel
theorem dL_acts_510 : decode cL_acts 510 = .ok (.bipush 18, 2) := by decide +kernel
theorem dL_acts_512 : decode cL_acts 512 = .ok (.if_icmp .ne 53, 3) := by decide +kernel
theorem dL_acts_515 : decode cL_acts 515 = .ok (.aload_n 1, 1) := by decide +kernel
theorem dL_acts_516 : decode cL_acts 516 = .ok (.iconst 1, 1) := by decide +kernel
theorem dL_acts_517 : decode cL_acts 517 = .ok (.iload 5, 2) := by decide +kernel
theorem dL_acts_519 : decode cL_acts 519 = .ok (.iload 5, 2) := by decide +kernel
theorem dL_acts_521 : decode cL_acts 521 = .ok (.iconst 5, 1) := by decide +kernel
theorem dL_acts_522 : decode cL_acts 522 = .ok (.irem, 1) := by decide +kernel
theorem dL_acts_523 : decode cL_acts 523 = .ok (.ifCond .ne 8, 3) := by decide +kernel
theorem dL_acts_526 : decode cL_acts 526 = .ok (.bipush 32, 2) := by decide +kernel
theorem dL_acts_528 : decode cL_acts 528 = .ok (.goto 4, 3) := by decide +kernel
theorem dL_acts_531 : decode cL_acts 531 = .ok (.iconst 5, 1) := by decide +kernel
theorem dL_acts_532 : decode cL_acts 532 = .ok (.irem, 1) := by decide +kernel
theorem dL_acts_533 : decode cL_acts 533 = .ok (.iastore, 1) := by decide +kernel
