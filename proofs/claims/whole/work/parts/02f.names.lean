theorem dX7_swaps_69 : decode cX7_swaps 69 = .ok (.iconst 1, 1) := by decide +kernel
theorem dX7_swaps_70 : decode cX7_swaps 70 = .ok (.iadd, 1) := by decide +kernel
theorem dX7_swaps_71 : decode cX7_swaps 71 = .ok (.laload, 1) := by decide +kernel
theorem dX7_swaps_72 : decode cX7_swaps 72 = .ok (.lastore, 1) := by decide +kernel
theorem dX7_swaps_73 : decode cX7_swaps 73 = .ok (.aload_n 0, 1) := by decide +kernel
theorem dX7_swaps_74 : decode cX7_swaps 74 = .ok (.getfield 7, 3) := by decide +kernel
theorem dX7_swaps_77 : decode cX7_swaps 77 = .ok (.bipush 39, 2) := by decide +kernel
theorem dX7_swaps_79 : decode cX7_swaps 79 = .ok (.iload_n 1, 1) := by decide +kernel
theorem dX7_swaps_80 : decode cX7_swaps 80 = .ok (.iadd, 1) := by decide +kernel
theorem dX7_swaps_81 : decode cX7_swaps 81 = .ok (.iconst 1, 1) := by decide +kernel
theorem dX7_swaps_82 : decode cX7_swaps 82 = .ok (.iadd, 1) := by decide +kernel
theorem dX7_swaps_83 : decode cX7_swaps 83 = .ok (.lload 4, 2) := by decide +kernel
theorem dX7_swaps_85 : decode cX7_swaps 85 = .ok (.lastore, 1) := by decide +kernel
theorem dX7_swaps_86 : decode cX7_swaps 86 = .ok (.return_, 1) := by decide +kernel
set_option maxRecDepth 20000 in
theorem ggX7_steps_X7_of : GoodIn wsX7_steps wsX7_of := goodIn_r _ [6, 1, 34, 35, 36, 37, 38, 39, 40, 41, 42, 43, 44, 45, 46, 47, 48] (by decide +kernel) (by decide +kernel)
set_option maxRecDepth 20000 in
theorem gX7_steps_X7_of : GoodIn wsX7_steps (wsV RX7 36 RX7 yX7_of wsX7_of) := goodIn_app (goodIn_of _ (by decide +kernel)) ggX7_steps_X7_of
set_option maxRecDepth 20000 in
theorem ggX7_steps_X7_isBroken : GoodIn wsX7_steps wsX7_isBroken := goodIn_r _ [10, 1, 11, 12, 13, 5, 14, 15, 16, 17, 18, 2, 3, 4, 6, 19, 20, 21, 22, 23, 24, 25, 34, 35, 36, 37, 38, 39, 40, 41, 42, 43, 44, 45, 46, 47, 48] (by decide +kernel) (by decide +kernel)
set_option maxRecDepth 20000 in
theorem gX7_steps_X7_isBroken : GoodIn wsX7_steps (wsV RX7 53 RX7 yX7_isBroken wsX7_isBroken) := goodIn_app (goodIn_of _ (by decide +kernel)) ggX7_steps_X7_isBroken
set_option maxRecDepth 20000 in
theorem ggX7_steps_X7_distance : GoodIn wsX7_steps wsX7_distance := goodIn_r _ [14, 15, 16, 17, 5, 18, 1, 2, 3, 4, 6, 19, 20, 21, 22, 34, 35, 36, 37, 38, 39, 40, 41, 42, 43, 44, 45, 46, 47, 48] (by decide +kernel) (by decide +kernel)
set_option maxRecDepth 20000 in
theorem gX7_steps_X7_distance : GoodIn wsX7_steps (wsV RX7 47 RX7 yX7_distance wsX7_distance) := goodIn_app (goodIn_of _ (by decide +kernel)) ggX7_steps_X7_distance
set_option maxRecDepth 20000 in
theorem ggX7_steps_X7_size : GoodIn wsX7_steps wsX7_size := goodIn_r _ [25] (by decide +kernel) (by decide +kernel)
set_option maxRecDepth 20000 in
theorem gX7_steps_X7_size : GoodIn wsX7_steps (va_wsS RX7 50 yX7_size wsX7_size) := goodIn_app (goodIn_of _ (by decide +kernel)) ggX7_steps_X7_size
set_option maxRecDepth 20000 in
theorem ggX7_steps_X7_isFall : GoodIn wsX7_steps wsX7_isFall := goodIn_r _ [29, 1, 19, 20, 21, 5, 22, 34, 35, 36, 37, 38, 39, 40, 41, 42, 43, 44, 45, 46, 47, 48] (by decide +kernel) (by decide +kernel)
set_option maxRecDepth 20000 in
theorem gX7_steps_X7_isFall : GoodIn wsX7_steps (wsV RX7 60 RX7 yX7_isFall wsX7_isFall) := goodIn_app (goodIn_of _ (by decide +kernel)) ggX7_steps_X7_isFall
set_option maxRecDepth 20000 in
theorem ggX7_steps_X7_swaps : GoodIn wsX7_steps wsX7_swaps := goodIn_r _ [33, 1, 34, 35, 36, 37, 38, 39, 40, 41, 42, 43, 44, 45, 46, 47, 48] (by decide +kernel) (by decide +kernel)
set_option maxRecDepth 20000 in
theorem gX7_steps_X7_swaps : GoodIn wsX7_steps (wsV RX7 63 RX7 yX7_swaps wsX7_swaps) := goodIn_app (goodIn_of _ (by decide +kernel)) ggX7_steps_X7_swaps
theorem dX7_steps_0 : decode cX7_steps 0 = .ok (.sipush (-1000), 3) := by decide +kernel
theorem dX7_steps_3 : decode cX7_steps 3 = .ok (.istore_n 1, 1) := by decide +kernel
theorem dX7_steps_4 : decode cX7_steps 4 = .ok (.iconst 0, 1) := by decide +kernel
theorem dX7_steps_5 : decode cX7_steps 5 = .ok (.istore_n 2, 1) := by decide +kernel
theorem dX7_steps_6 : decode cX7_steps 6 = .ok (.iload_n 2, 1) := by decide +kernel
theorem dX7_steps_7 : decode cX7_steps 7 = .ok (.aload_n 0, 1) := by decide +kernel
theorem dX7_steps_8 : decode cX7_steps 8 = .ok (.iconst 0, 1) := by decide +kernel
theorem dX7_steps_9 : decode cX7_steps 9 = .ok (.invokevirtual 36, 3) := by decide +kernel
theorem dX7_steps_12 : decode cX7_steps 12 = .ok (.if_icmp .ge 56, 3) := by decide +kernel
theorem dX7_steps_15 : decode cX7_steps 15 = .ok (.aload_n 0, 1) := by decide +kernel
theorem dX7_steps_16 : decode cX7_steps 16 = .ok (.iload_n 2, 1) := by decide +kernel
theorem dX7_steps_17 : decode cX7_steps 17 = .ok (.invokevirtual 53, 3) := by decide +kernel
theorem dX7_steps_20 : decode cX7_steps 20 = .ok (.ifCond .eq 30, 3) := by decide +kernel
theorem dX7_steps_23 : decode cX7_steps 23 = .ok (.iload_n 1, 1) := by decide +kernel
theorem dX7_steps_24 : decode cX7_steps 24 = .ok (.ifCond .lt 22, 3) := by decide +kernel
theorem dX7_steps_27 : decode cX7_steps 27 = .ok (.aload_n 0, 1) := by decide +kernel
theorem dX7_steps_28 : decode cX7_steps 28 = .ok (.iload_n 2, 1) := by decide +kernel
theorem dX7_steps_29 : decode cX7_steps 29 = .ok (.invokevirtual 47, 3) := by decide +kernel
theorem dX7_steps_32 : decode cX7_steps 32 = .ok (.invokestatic 50, 3) := by decide +kernel
theorem dX7_steps_35 : decode cX7_steps 35 = .ok (.aload_n 0, 1) := by decide +kernel
theorem dX7_steps_36 : decode cX7_steps 36 = .ok (.iload_n 1, 1) := by decide +kernel
theorem dX7_steps_37 : decode cX7_steps 37 = .ok (.invokevirtual 47, 3) := by decide +kernel
theorem dX7_steps_40 : decode cX7_steps 40 = .ok (.invokestatic 50, 3) := by decide +kernel
theorem dX7_steps_43 : decode cX7_steps 43 = .ok (.if_icmp .le 7, 3) := by decide +kernel
theorem dX7_steps_46 : decode cX7_steps 46 = .ok (.iconst 1, 1) := by decide +kernel
theorem dX7_steps_47 : decode cX7_steps 47 = .ok (.goto 4, 3) := by decide +kernel
theorem dX7_steps_50 : decode cX7_steps 50 = .ok (.iconst 0, 1) := by decide +kernel
theorem dX7_steps_51 : decode cX7_steps 51 = .ok (.istore_n 3, 1) := by decide +kernel
theorem dX7_steps_52 : decode cX7_steps 52 = .ok (.iload_n 3, 1) := by decide +kernel
theorem dX7_steps_53 : decode cX7_steps 53 = .ok (.ifCond .eq 7, 3) := by decide +kernel
theorem dX7_steps_56 : decode cX7_steps 56 = .ok (.iload_n 2, 1) := by decide +kernel
theorem dX7_steps_57 : decode cX7_steps 57 = .ok (.goto 4, 3) := by decide +kernel
theorem dX7_steps_60 : decode cX7_steps 60 = .ok (.iload_n 1, 1) := by decide +kernel
theorem dX7_steps_61 : decode cX7_steps 61 = .ok (.istore_n 1, 1) := by decide +kernel
theorem dX7_steps_62 : decode cX7_steps 62 = .ok (.iinc 2 1, 3) := by decide +kernel
theorem dX7_steps_65 : decode cX7_steps 65 = .ok (.goto (-59), 3) := by decide +kernel
theorem dX7_steps_68 : decode cX7_steps 68 = .ok (.iload_n 1, 1) := by decide +kernel
theorem dX7_steps_69 : decode cX7_steps 69 = .ok (.ifCond .ge 7, 3) := by decide +kernel
theorem dX7_steps_72 : decode cX7_steps 72 = .ok (.sipush (-1000), 3) := by decide +kernel
theorem dX7_steps_75 : decode cX7_steps 75 = .ok (.ireturn, 1) := by decide +kernel
theorem dX7_steps_76 : decode cX7_steps 76 = .ok (.iload_n 1, 1) := by decide +kernel
theorem dX7_steps_77 : decode cX7_steps 77 = .ok (.istore_n 2, 1) := by decide +kernel
theorem dX7_steps_78 : decode cX7_steps 78 = .ok (.aload_n 0, 1) := by decide +kernel
theorem dX7_steps_79 : decode cX7_steps 79 = .ok (.iload_n 1, 1) := by decide +kernel
theorem dX7_steps_80 : decode cX7_steps 80 = .ok (.invokevirtual 47, 3) := by decide +kernel
theorem dX7_steps_83 : decode cX7_steps 83 = .ok (.ifCond .le 20, 3) := by decide +kernel
theorem dX7_steps_86 : decode cX7_steps 86 = .ok (.iinc 2 (-1), 3) := by decide +kernel
theorem dX7_steps_89 : decode cX7_steps 89 = .ok (.aload_n 0, 1) := by decide +kernel
theorem dX7_steps_90 : decode cX7_steps 90 = .ok (.iload_n 2, 1) := by decide +kernel
theorem dX7_steps_91 : decode cX7_steps 91 = .ok (.invokevirtual 60, 3) := by decide +kernel
theorem dX7_steps_94 : decode cX7_steps 94 = .ok (.ifCond .ne 23, 3) := by decide +kernel
theorem dX7_steps_97 : decode cX7_steps 97 = .ok (.iinc 2 (-1), 3) := by decide +kernel
theorem dX7_steps_100 : decode cX7_steps 100 = .ok (.goto (-11), 3) := by decide +kernel
theorem dX7_steps_103 : decode cX7_steps 103 = .ok (.aload_n 0, 1) := by decide +kernel
theorem dX7_steps_104 : decode cX7_steps 104 = .ok (.iload_n 2, 1) := by decide +kernel
theorem dX7_steps_105 : decode cX7_steps 105 = .ok (.invokevirtual 60, 3) := by decide +kernel
theorem dX7_steps_108 : decode cX7_steps 108 = .ok (.ifCond .ne 9, 3) := by decide +kernel
theorem dX7_steps_111 : decode cX7_steps 111 = .ok (.iinc 2 1, 3) := by decide +kernel
theorem dX7_steps_114 : decode cX7_steps 114 = .ok (.goto (-11), 3) := by decide +kernel
theorem dX7_steps_117 : decode cX7_steps 117 = .ok (.aload_n 0, 1) := by decide +kernel
theorem dX7_steps_118 : decode cX7_steps 118 = .ok (.iload_n 2, 1) := by decide +kernel
theorem dX7_steps_119 : decode cX7_steps 119 = .ok (.invokevirtual 63, 3) := by decide +kernel
theorem dX7_steps_122 : decode cX7_steps 122 = .ok (.aload_n 0, 1) := by decide +kernel
theorem dX7_steps_123 : decode cX7_steps 123 = .ok (.getfield 7, 3) := by decide +kernel
theorem dX7_steps_126 : decode cX7_steps 126 = .ok (.iconst 4, 1) := by decide +kernel
theorem dX7_steps_127 : decode cX7_steps 127 = .ok (.dup2, 1) := by decide +kernel
theorem dX7_steps_128 : decode cX7_steps 128 = .ok (.laload, 1) := by decide +kernel
theorem dX7_steps_129 : decode cX7_steps 129 = .ok (.lconst 1, 1) := by decide +kernel
theorem dX7_steps_130 : decode cX7_steps 130 = .ok (.ladd, 1) := by decide +kernel
theorem dX7_steps_131 : decode cX7_steps 131 = .ok (.lastore, 1) := by decide +kernel
theorem dX7_steps_132 : decode cX7_steps 132 = .ok (.iload_n 2, 1) := by decide +kernel
theorem dX7_steps_133 : decode cX7_steps 133 = .ok (.ireturn, 1) := by decide +kernel
set_option maxRecDepth 20000 in
theorem ggX7_mends_X7_steps : GoodIn wsX7_mends wsX7_steps := goodIn_r _ [5, 6, 7, 8, 9, 4, 10, 11, 12, 13, 14, 15, 16, 17, 18, 19, 20, 21, 22, 23, 24, 25, 26, 27, 28, 29, 30, 31, 32, 33, 34, 35, 36, 37, 38, 39, 40, 41, 42, 43, 44, 45, 46, 47, 48, 49, 50, 51, 52] (by decide +kernel) (by decide +kernel)
set_option maxRecDepth 20000 in
theorem gX7_mends_X7_steps : GoodIn wsX7_mends (wsV RX7 67 RX7 yX7_steps wsX7_steps) := goodIn_app (goodIn_of _ (by decide +kernel)) ggX7_mends_X7_steps
theorem dX7_mends_0 : decode cX7_mends 0 = .ok (.iconst 0, 1) := by decide +kernel
theorem dX7_mends_1 : decode cX7_mends 1 = .ok (.istore_n 1, 1) := by decide +kernel
theorem dX7_mends_2 : decode cX7_mends 2 = .ok (.aload_n 0, 1) := by decide +kernel
theorem dX7_mends_3 : decode cX7_mends 3 = .ok (.invokevirtual 67, 3) := by decide +kernel
theorem dX7_mends_6 : decode cX7_mends 6 = .ok (.sipush (-1000), 3) := by decide +kernel
theorem dX7_mends_9 : decode cX7_mends 9 = .ok (.if_icmp .eq 9, 3) := by decide +kernel
theorem dX7_mends_12 : decode cX7_mends 12 = .ok (.iinc 1 1, 3) := by decide +kernel
theorem dX7_mends_15 : decode cX7_mends 15 = .ok (.goto (-13), 3) := by decide +kernel
theorem dX7_mends_18 : decode cX7_mends 18 = .ok (.iload_n 1, 1) := by decide +kernel
theorem dX7_mends_19 : decode cX7_mends 19 = .ok (.ireturn, 1) := by decide +kernel
set_option maxRecDepth 20000 in
theorem ggX7_ends_X7_mends : GoodIn wsX7_ends wsX7_mends := goodIn_r _ [6, 7, 8, 9, 5, 10, 1, 11, 12, 13, 14, 15, 16, 17, 18, 19, 20, 21, 22, 23, 24, 25, 26, 27, 28, 29, 30, 31, 32, 33, 34, 35, 36, 37, 38, 39, 40, 41, 42, 43, 44, 45, 46, 47, 48, 49, 50, 51, 52, 53, 54, 55, 56] (by decide +kernel) (by decide +kernel)
set_option maxRecDepth 20000 in
theorem gX7_ends_X7_mends : GoodIn wsX7_ends (wsV RX7 71 RX7 yX7_mends wsX7_mends) := goodIn_app (goodIn_of _ (by decide +kernel)) ggX7_ends_X7_mends
theorem dX7_ends_0 : decode cX7_ends 0 = .ok (.aload_n 0, 1) := by decide +kernel
theorem dX7_ends_1 : decode cX7_ends 1 = .ok (.getfield 7, 3) := by decide +kernel
theorem dX7_ends_4 : decode cX7_ends 4 = .ok (.iconst 3, 1) := by decide +kernel
theorem dX7_ends_5 : decode cX7_ends 5 = .ok (.laload, 1) := by decide +kernel
theorem dX7_ends_6 : decode cX7_ends 6 = .ok (.lconst 1, 1) := by decide +kernel
theorem dX7_ends_7 : decode cX7_ends 7 = .ok (.lcmp, 1) := by decide +kernel
theorem dX7_ends_8 : decode cX7_ends 8 = .ok (.ifCond .ne 10, 3) := by decide +kernel
theorem dX7_ends_11 : decode cX7_ends 11 = .ok (.aload_n 0, 1) := by decide +kernel
theorem dX7_ends_12 : decode cX7_ends 12 = .ok (.invokevirtual 71, 3) := by decide +kernel
theorem dX7_ends_15 : decode cX7_ends 15 = .ok (.goto 4, 3) := by decide +kernel
theorem dX7_ends_18 : decode cX7_ends 18 = .ok (.iconst 0, 1) := by decide +kernel
theorem dX7_ends_19 : decode cX7_ends 19 = .ok (.istore_n 2, 1) := by decide +kernel
theorem dX7_ends_20 : decode cX7_ends 20 = .ok (.iload_n 2, 1) := by decide +kernel
theorem dX7_ends_21 : decode cX7_ends 21 = .ok (.ifCond .ge 7, 3) := by decide +kernel
theorem dX7_ends_24 : decode cX7_ends 24 = .ok (.iload_n 2, 1) := by decide +kernel
theorem dX7_ends_25 : decode cX7_ends 25 = .ok (.goto 4, 3) := by decide +kernel
theorem dX7_ends_28 : decode cX7_ends 28 = .ok (.iload_n 1, 1) := by decide +kernel
theorem dX7_ends_29 : decode cX7_ends 29 = .ok (.ireturn, 1) := by decide +kernel
set_option maxRecDepth 20000 in
theorem ggX7_puts_X7_of : GoodIn wsX7_puts wsX7_of := goodIn_r _ [6, 1, 7, 8, 9, 10, 11, 12, 13, 14, 15, 16, 17, 18, 19, 20, 21] (by decide +kernel) (by decide +kernel)
set_option maxRecDepth 20000 in
theorem gX7_puts_X7_of : GoodIn wsX7_puts (wsV RX7 36 RX7 yX7_of wsX7_of) := goodIn_app (goodIn_of _ (by decide +kernel)) ggX7_puts_X7_of
theorem dX7_puts_0 : decode cX7_puts 0 = .ok (.aload_n 0, 1) := by decide +kernel
theorem dX7_puts_1 : decode cX7_puts 1 = .ok (.iconst 0, 1) := by decide +kernel
theorem dX7_puts_2 : decode cX7_puts 2 = .ok (.invokevirtual 36, 3) := by decide +kernel
theorem dX7_puts_5 : decode cX7_puts 5 = .ok (.istore 4, 2) := by decide +kernel
theorem dX7_puts_7 : decode cX7_puts 7 = .ok (.iload 4, 2) := by decide +kernel
theorem dX7_puts_9 : decode cX7_puts 9 = .ok (.iload_n 1, 1) := by decide +kernel
theorem dX7_puts_10 : decode cX7_puts 10 = .ok (.if_icmp .le 53, 3) := by decide +kernel
theorem dX7_puts_13 : decode cX7_puts 13 = .ok (.aload_n 0, 1) := by decide +kernel
theorem dX7_puts_14 : decode cX7_puts 14 = .ok (.getfield 7, 3) := by decide +kernel
theorem dX7_puts_17 : decode cX7_puts 17 = .ok (.bipush 7, 2) := by decide +kernel
theorem dX7_puts_19 : decode cX7_puts 19 = .ok (.iload 4, 2) := by decide +kernel
theorem dX7_puts_21 : decode cX7_puts 21 = .ok (.iadd, 1) := by decide +kernel
theorem dX7_puts_22 : decode cX7_puts 22 = .ok (.aload_n 0, 1) := by decide +kernel
theorem dX7_puts_23 : decode cX7_puts 23 = .ok (.getfield 7, 3) := by decide +kernel
theorem dX7_puts_26 : decode cX7_puts 26 = .ok (.bipush 7, 2) := by decide +kernel
theorem dX7_puts_28 : decode cX7_puts 28 = .ok (.iload 4, 2) := by decide +kernel
theorem dX7_puts_30 : decode cX7_puts 30 = .ok (.iadd, 1) := by decide +kernel
theorem dX7_puts_31 : decode cX7_puts 31 = .ok (.iconst 1, 1) := by decide +kernel
theorem dX7_puts_32 : decode cX7_puts 32 = .ok (.isub, 1) := by decide +kernel
theorem dX7_puts_33 : decode cX7_puts 33 = .ok (.laload, 1) := by decide +kernel
theorem dX7_puts_34 : decode cX7_puts 34 = .ok (.lastore, 1) := by decide +kernel
theorem dX7_puts_35 : decode cX7_puts 35 = .ok (.aload_n 0, 1) := by decide +kernel
theorem dX7_puts_36 : decode cX7_puts 36 = .ok (.getfield 7, 3) := by decide +kernel
theorem dX7_puts_39 : decode cX7_puts 39 = .ok (.bipush 39, 2) := by decide +kernel
theorem dX7_puts_41 : decode cX7_puts 41 = .ok (.iload 4, 2) := by decide +kernel
theorem dX7_puts_43 : decode cX7_puts 43 = .ok (.iadd, 1) := by decide +kernel
theorem dX7_puts_44 : decode cX7_puts 44 = .ok (.aload_n 0, 1) := by decide +kernel
theorem dX7_puts_45 : decode cX7_puts 45 = .ok (.getfield 7, 3) := by decide +kernel
theorem dX7_puts_48 : decode cX7_puts 48 = .ok (.bipush 39, 2) := by decide +kernel
theorem dX7_puts_50 : decode cX7_puts 50 = .ok (.iload 4, 2) := by decide +kernel
theorem dX7_puts_52 : decode cX7_puts 52 = .ok (.iadd, 1) := by decide +kernel
theorem dX7_puts_53 : decode cX7_puts 53 = .ok (.iconst 1, 1) := by decide +kernel
theorem dX7_puts_54 : decode cX7_puts 54 = .ok (.isub, 1) := by decide +kernel
theorem dX7_puts_55 : decode cX7_puts 55 = .ok (.laload, 1) := by decide +kernel
theorem dX7_puts_56 : decode cX7_puts 56 = .ok (.lastore, 1) := by decide +kernel
theorem dX7_puts_57 : decode cX7_puts 57 = .ok (.iinc 4 (-1), 3) := by decide +kernel
theorem dX7_puts_60 : decode cX7_puts 60 = .ok (.goto (-53), 3) := by decide +kernel
theorem dX7_puts_63 : decode cX7_puts 63 = .ok (.aload_n 0, 1) := by decide +kernel
theorem dX7_puts_64 : decode cX7_puts 64 = .ok (.getfield 7, 3) := by decide +kernel
theorem dX7_puts_67 : decode cX7_puts 67 = .ok (.bipush 7, 2) := by decide +kernel
theorem dX7_puts_69 : decode cX7_puts 69 = .ok (.iload_n 1, 1) := by decide +kernel
theorem dX7_puts_70 : decode cX7_puts 70 = .ok (.iadd, 1) := by decide +kernel
theorem dX7_puts_71 : decode cX7_puts 71 = .ok (.lload_n 2, 1) := by decide +kernel
theorem dX7_puts_72 : decode cX7_puts 72 = .ok (.lastore, 1) := by decide +kernel
theorem dX7_puts_73 : decode cX7_puts 73 = .ok (.aload_n 0, 1) := by decide +kernel
theorem dX7_puts_74 : decode cX7_puts 74 = .ok (.getfield 7, 3) := by decide +kernel
theorem dX7_puts_77 : decode cX7_puts 77 = .ok (.bipush 39, 2) := by decide +kernel
theorem dX7_puts_79 : decode cX7_puts 79 = .ok (.iload_n 1, 1) := by decide +kernel
theorem dX7_puts_80 : decode cX7_puts 80 = .ok (.iadd, 1) := by decide +kernel
theorem dX7_puts_81 : decode cX7_puts 81 = .ok (.aload_n 0, 1) := by decide +kernel
theorem dX7_puts_82 : decode cX7_puts 82 = .ok (.getfield 7, 3) := by decide +kernel
theorem dX7_puts_85 : decode cX7_puts 85 = .ok (.bipush 6, 2) := by decide +kernel
theorem dX7_puts_87 : decode cX7_puts 87 = .ok (.laload, 1) := by decide +kernel
theorem dX7_puts_88 : decode cX7_puts 88 = .ok (.lastore, 1) := by decide +kernel
theorem dX7_puts_89 : decode cX7_puts 89 = .ok (.aload_n 0, 1) := by decide +kernel
theorem dX7_puts_90 : decode cX7_puts 90 = .ok (.getfield 7, 3) := by decide +kernel
theorem dX7_puts_93 : decode cX7_puts 93 = .ok (.bipush 6, 2) := by decide +kernel
theorem dX7_puts_95 : decode cX7_puts 95 = .ok (.dup2, 1) := by decide +kernel
theorem dX7_puts_96 : decode cX7_puts 96 = .ok (.laload, 1) := by decide +kernel
theorem dX7_puts_97 : decode cX7_puts 97 = .ok (.lconst 1, 1) := by decide +kernel
theorem dX7_puts_98 : decode cX7_puts 98 = .ok (.ladd, 1) := by decide +kernel
theorem dX7_puts_99 : decode cX7_puts 99 = .ok (.lastore, 1) := by decide +kernel
theorem dX7_puts_100 : decode cX7_puts 100 = .ok (.aload_n 0, 1) := by decide +kernel
theorem dX7_puts_101 : decode cX7_puts 101 = .ok (.getfield 7, 3) := by decide +kernel
theorem dX7_puts_104 : decode cX7_puts 104 = .ok (.iconst 0, 1) := by decide +kernel
theorem dX7_puts_105 : decode cX7_puts 105 = .ok (.dup2, 1) := by decide +kernel
theorem dX7_puts_106 : decode cX7_puts 106 = .ok (.laload, 1) := by decide +kernel
theorem dX7_puts_107 : decode cX7_puts 107 = .ok (.lconst 1, 1) := by decide +kernel
theorem dX7_puts_108 : decode cX7_puts 108 = .ok (.ladd, 1) := by decide +kernel
theorem dX7_puts_109 : decode cX7_puts 109 = .ok (.lastore, 1) := by decide +kernel
theorem dX7_puts_110 : decode cX7_puts 110 = .ok (.return_, 1) := by decide +kernel
set_option maxRecDepth 20000 in
theorem ggX7_takes_X7_of : GoodIn wsX7_takes wsX7_of := goodIn_r _ [6, 1, 7, 8, 9, 10, 11, 12, 13, 14, 15, 16, 17, 18, 19, 20, 21] (by decide +kernel) (by decide +kernel)
set_option maxRecDepth 20000 in
theorem gX7_takes_X7_of : GoodIn wsX7_takes (wsV RX7 36 RX7 yX7_of wsX7_of) := goodIn_app (goodIn_of _ (by decide +kernel)) ggX7_takes_X7_of
theorem dX7_takes_0 : decode cX7_takes 0 = .ok (.aload_n 0, 1) := by decide +kernel
theorem dX7_takes_1 : decode cX7_takes 1 = .ok (.getfield 7, 3) := by decide +kernel
theorem dX7_takes_4 : decode cX7_takes 4 = .ok (.iconst 0, 1) := by decide +kernel
theorem dX7_takes_5 : decode cX7_takes 5 = .ok (.dup2, 1) := by decide +kernel
theorem dX7_takes_6 : decode cX7_takes 6 = .ok (.laload, 1) := by decide +kernel
theorem dX7_takes_7 : decode cX7_takes 7 = .ok (.lconst 1, 1) := by decide +kernel
theorem dX7_takes_8 : decode cX7_takes 8 = .ok (.lsub, 1) := by decide +kernel
theorem dX7_takes_9 : decode cX7_takes 9 = .ok (.lastore, 1) := by decide +kernel
theorem dX7_takes_10 : decode cX7_takes 10 = .ok (.iload_n 1, 1) := by decide +kernel
theorem dX7_takes_11 : decode cX7_takes 11 = .ok (.istore_n 2, 1) := by decide +kernel
theorem dX7_takes_12 : decode cX7_takes 12 = .ok (.iload_n 2, 1) := by decide +kernel
theorem dX7_takes_13 : decode cX7_takes 13 = .ok (.aload_n 0, 1) := by decide +kernel
theorem dX7_takes_14 : decode cX7_takes 14 = .ok (.iconst 0, 1) := by decide +kernel
theorem dX7_takes_15 : decode cX7_takes 15 = .ok (.invokevirtual 36, 3) := by decide +kernel
theorem dX7_takes_18 : decode cX7_takes 18 = .ok (.if_icmp .ge 49, 3) := by decide +kernel
theorem dX7_takes_21 : decode cX7_takes 21 = .ok (.aload_n 0, 1) := by decide +kernel
theorem dX7_takes_22 : decode cX7_takes 22 = .ok (.getfield 7, 3) := by decide +kernel
theorem dX7_takes_25 : decode cX7_takes 25 = .ok (.bipush 7, 2) := by decide +kernel
theorem dX7_takes_27 : decode cX7_takes 27 = .ok (.iload_n 2, 1) := by decide +kernel
theorem dX7_takes_28 : decode cX7_takes 28 = .ok (.iadd, 1) := by decide +kernel
theorem dX7_takes_29 : decode cX7_takes 29 = .ok (.aload_n 0, 1) := by decide +kernel
theorem dX7_takes_30 : decode cX7_takes 30 = .ok (.getfield 7, 3) := by decide +kernel
theorem dX7_takes_33 : decode cX7_takes 33 = .ok (.bipush 7, 2) := by decide +kernel
theorem dX7_takes_35 : decode cX7_takes 35 = .ok (.iload_n 2, 1) := by decide +kernel
theorem dX7_takes_36 : decode cX7_takes 36 = .ok (.iadd, 1) := by decide +kernel
theorem dX7_takes_37 : decode cX7_takes 37 = .ok (.iconst 1, 1) := by decide +kernel
theorem dX7_takes_38 : decode cX7_takes 38 = .ok (.iadd, 1) := by decide +kernel
theorem dX7_takes_39 : decode cX7_takes 39 = .ok (.laload, 1) := by decide +kernel
theorem dX7_takes_40 : decode cX7_takes 40 = .ok (.lastore, 1) := by decide +kernel
theorem dX7_takes_41 : decode cX7_takes 41 = .ok (.aload_n 0, 1) := by decide +kernel
theorem dX7_takes_42 : decode cX7_takes 42 = .ok (.getfield 7, 3) := by decide +kernel
theorem dX7_takes_45 : decode cX7_takes 45 = .ok (.bipush 39, 2) := by decide +kernel
theorem dX7_takes_47 : decode cX7_takes 47 = .ok (.iload_n 2, 1) := by decide +kernel
theorem dX7_takes_48 : decode cX7_takes 48 = .ok (.iadd, 1) := by decide +kernel
theorem dX7_takes_49 : decode cX7_takes 49 = .ok (.aload_n 0, 1) := by decide +kernel
theorem dX7_takes_50 : decode cX7_takes 50 = .ok (.getfield 7, 3) := by decide +kernel
theorem dX7_takes_53 : decode cX7_takes 53 = .ok (.bipush 39, 2) := by decide +kernel
theorem dX7_takes_55 : decode cX7_takes 55 = .ok (.iload_n 2, 1) := by decide +kernel
theorem dX7_takes_56 : decode cX7_takes 56 = .ok (.iadd, 1) := by decide +kernel
theorem dX7_takes_57 : decode cX7_takes 57 = .ok (.iconst 1, 1) := by decide +kernel
theorem dX7_takes_58 : decode cX7_takes 58 = .ok (.iadd, 1) := by decide +kernel
theorem dX7_takes_59 : decode cX7_takes 59 = .ok (.laload, 1) := by decide +kernel
theorem dX7_takes_60 : decode cX7_takes 60 = .ok (.lastore, 1) := by decide +kernel
theorem dX7_takes_61 : decode cX7_takes 61 = .ok (.iinc 2 1, 3) := by decide +kernel
theorem dX7_takes_64 : decode cX7_takes 64 = .ok (.goto (-52), 3) := by decide +kernel
theorem dX7_takes_67 : decode cX7_takes 67 = .ok (.return_, 1) := by decide +kernel
set_option maxRecDepth 20000 in
theorem ggX7_append_X7_throwsAt : GoodIn wsX7_append wsX7_throwsAt := goodIn_r _ [7, 8, 63, 64, 65, 66, 67, 68, 69, 70, 71, 72, 73, 74, 75, 76, 77] (by decide +kernel) (by decide +kernel)
set_option maxRecDepth 20000 in
theorem gX7_append_X7_throwsAt : GoodIn wsX7_append (wsV RX7 76 RX7 yX7_throwsAt wsX7_throwsAt) := goodIn_app (goodIn_of _ (by decide +kernel)) ggX7_append_X7_throwsAt
set_option maxRecDepth 20000 in
theorem ggX7_append_X7_saves : GoodIn wsX7_append wsX7_saves := goodIn_r _ [12, 13, 14, 15, 1, 63, 64, 65, 66, 67, 68, 69, 70, 71, 72, 73, 74, 75, 76, 77] (by decide +kernel) (by decide +kernel)
set_option maxRecDepth 20000 in
theorem gX7_append_X7_saves : GoodIn wsX7_append (wsV RX7 79 RX7 yX7_saves wsX7_saves) := goodIn_app (goodIn_of _ (by decide +kernel)) ggX7_append_X7_saves
set_option maxRecDepth 20000 in
theorem ggX7_append_X7_of : GoodIn wsX7_append wsX7_of := goodIn_r _ [19, 1, 63, 64, 65, 66, 67, 68, 69, 70, 71, 72, 73, 74, 75, 76, 77] (by decide +kernel) (by decide +kernel)
set_option maxRecDepth 20000 in
theorem gX7_append_X7_of : GoodIn wsX7_append (wsV RX7 36 RX7 yX7_of wsX7_of) := goodIn_app (goodIn_of _ (by decide +kernel)) ggX7_append_X7_of
set_option maxRecDepth 20000 in
theorem ggX7_append_X7_puts : GoodIn wsX7_append wsX7_puts := goodIn_r _ [23, 1, 16, 17, 18, 6, 19, 63, 64, 65, 66, 67, 68, 69, 70, 71, 72, 73, 74, 75, 76, 77] (by decide +kernel) (by decide +kernel)
set_option maxRecDepth 20000 in
theorem gX7_append_X7_puts : GoodIn wsX7_append (wsV RX7 82 RX7 yX7_puts wsX7_puts) := goodIn_app (goodIn_of _ (by decide +kernel)) ggX7_append_X7_puts
set_option maxRecDepth 20000 in
theorem ggX7_append_X7_distance : GoodIn wsX7_append wsX7_distance := goodIn_r _ [27, 28, 29, 30, 6, 31, 1, 16, 17, 18, 19, 32, 33, 34, 35, 63, 64, 65, 66, 67, 68, 69, 70, 71, 72, 73, 74, 75, 76, 77] (by decide +kernel) (by decide +kernel)
set_option maxRecDepth 20000 in
theorem gX7_append_X7_distance : GoodIn wsX7_append (wsV RX7 47 RX7 yX7_distance wsX7_distance) := goodIn_app (goodIn_of _ (by decide +kernel)) ggX7_append_X7_distance
set_option maxRecDepth 20000 in
theorem ggX7_append_X7_ends : GoodIn wsX7_append wsX7_ends := goodIn_r _ [39, 1, 40, 41, 42, 6, 43, 44, 45, 46, 47, 16, 17, 18, 19, 48, 49, 50, 51, 24, 25, 26, 27, 28, 29, 30, 31, 32, 33, 34, 35, 52, 53, 54, 55, 56, 57, 58, 59, 60, 61, 62, 63, 64, 65, 66, 67, 68, 69, 70, 71, 72, 73, 74, 75, 76, 77] (by decide +kernel) (by decide +kernel)
set_option maxRecDepth 20000 in
theorem gX7_append_X7_ends : GoodIn wsX7_append (wsV RX7 86 RX7 yX7_ends wsX7_ends) := goodIn_app (goodIn_of _ (by decide +kernel)) ggX7_append_X7_ends
theorem dX7_append_0 : decode cX7_append 0 = .ok (.aload_n 0, 1) := by decide +kernel
theorem dX7_append_1 : decode cX7_append 1 = .ok (.aload_n 0, 1) := by decide +kernel
theorem dX7_append_2 : decode cX7_append 2 = .ok (.getfield 7, 3) := by decide +kernel
theorem dX7_append_5 : decode cX7_append 5 = .ok (.iconst 0, 1) := by decide +kernel
theorem dX7_append_6 : decode cX7_append 6 = .ok (.laload, 1) := by decide +kernel
theorem dX7_append_7 : decode cX7_append 7 = .ok (.ldc2_w 74, 3) := by decide +kernel
theorem dX7_append_10 : decode cX7_append 10 = .ok (.lcmp, 1) := by decide +kernel
theorem dX7_append_11 : decode cX7_append 11 = .ok (.ifCond .ne 7, 3) := by decide +kernel
theorem dX7_append_14 : decode cX7_append 14 = .ok (.iconst 1, 1) := by decide +kernel
theorem dX7_append_15 : decode cX7_append 15 = .ok (.goto 4, 3) := by decide +kernel
theorem dX7_append_18 : decode cX7_append 18 = .ok (.iconst 0, 1) := by decide +kernel
theorem dX7_append_19 : decode cX7_append 19 = .ok (.invokevirtual 76, 3) := by decide +kernel
theorem dX7_append_22 : decode cX7_append 22 = .ok (.ifCond .eq 5, 3) := by decide +kernel
theorem dX7_append_25 : decode cX7_append 25 = .ok (.iconst 0, 1) := by decide +kernel
theorem dX7_append_26 : decode cX7_append 26 = .ok (.ireturn, 1) := by decide +kernel
theorem dX7_append_27 : decode cX7_append 27 = .ok (.aload_n 0, 1) := by decide +kernel
theorem dX7_append_28 : decode cX7_append 28 = .ok (.invokevirtual 79, 3) := by decide +kernel
theorem dX7_append_31 : decode cX7_append 31 = .ok (.aload_n 0, 1) := by decide +kernel
theorem dX7_append_32 : decode cX7_append 32 = .ok (.iconst 0, 1) := by decide +kernel
theorem dX7_append_33 : decode cX7_append 33 = .ok (.invokevirtual 36, 3) := by decide +kernel
theorem dX7_append_36 : decode cX7_append 36 = .ok (.istore_n 3, 1) := by decide +kernel
theorem dX7_append_37 : decode cX7_append 37 = .ok (.aload_n 0, 1) := by decide +kernel
theorem dX7_append_38 : decode cX7_append 38 = .ok (.iload_n 3, 1) := by decide +kernel
theorem dX7_append_39 : decode cX7_append 39 = .ok (.lload_n 1, 1) := by decide +kernel
theorem dX7_append_40 : decode cX7_append 40 = .ok (.invokevirtual 82, 3) := by decide +kernel
theorem dX7_append_43 : decode cX7_append 43 = .ok (.aload_n 0, 1) := by decide +kernel
theorem dX7_append_44 : decode cX7_append 44 = .ok (.aload_n 0, 1) := by decide +kernel
theorem dX7_append_45 : decode cX7_append 45 = .ok (.iload_n 3, 1) := by decide +kernel
theorem dX7_append_46 : decode cX7_append 46 = .ok (.invokevirtual 47, 3) := by decide +kernel
theorem dX7_append_49 : decode cX7_append 49 = .ok (.invokevirtual 86, 3) := by decide +kernel
theorem dX7_append_52 : decode cX7_append 52 = .ok (.ireturn, 1) := by decide +kernel
set_option maxRecDepth 20000 in
theorem ggX7_insert_X7_in : GoodIn wsX7_insert wsX7_in := goodIn_r _ [6] (by decide +kernel) (by decide +kernel)
set_option maxRecDepth 20000 in
theorem gX7_insert_X7_in : GoodIn wsX7_insert (va_wsS RX7 89 yX7_in wsX7_in) := goodIn_app (goodIn_of _ (by decide +kernel)) ggX7_insert_X7_in
set_option maxRecDepth 20000 in
theorem ggX7_insert_X7_throwsAt : GoodIn wsX7_insert wsX7_throwsAt := goodIn_r _ [10, 11, 66, 67, 68, 69, 70, 71, 72, 73, 74, 75, 76, 77, 78, 79, 80] (by decide +kernel) (by decide +kernel)
set_option maxRecDepth 20000 in
theorem gX7_insert_X7_throwsAt : GoodIn wsX7_insert (wsV RX7 76 RX7 yX7_throwsAt wsX7_throwsAt) := goodIn_app (goodIn_of _ (by decide +kernel)) ggX7_insert_X7_throwsAt
set_option maxRecDepth 20000 in
theorem ggX7_insert_X7_saves : GoodIn wsX7_insert wsX7_saves := goodIn_r _ [15, 16, 17, 18, 1, 66, 67, 68, 69, 70, 71, 72, 73, 74, 75, 76, 77, 78, 79, 80] (by decide +kernel) (by decide +kernel)
set_option maxRecDepth 20000 in
theorem gX7_insert_X7_saves : GoodIn wsX7_insert (wsV RX7 79 RX7 yX7_saves wsX7_saves) := goodIn_app (goodIn_of _ (by decide +kernel)) ggX7_insert_X7_saves
set_option maxRecDepth 20000 in
theorem ggX7_insert_X7_puts : GoodIn wsX7_insert wsX7_puts := goodIn_r _ [22, 1, 23, 24, 25, 5, 26, 66, 67, 68, 69, 70, 71, 72, 73, 74, 75, 76, 77, 78, 79, 80] (by decide +kernel) (by decide +kernel)
set_option maxRecDepth 20000 in
theorem gX7_insert_X7_puts : GoodIn wsX7_insert (wsV RX7 82 RX7 yX7_puts wsX7_puts) := goodIn_app (goodIn_of _ (by decide +kernel)) ggX7_insert_X7_puts
set_option maxRecDepth 20000 in
theorem ggX7_insert_X7_of : GoodIn wsX7_insert wsX7_of := goodIn_r _ [26, 1, 66, 67, 68, 69, 70, 71, 72, 73, 74, 75, 76, 77, 78, 79, 80] (by decide +kernel) (by decide +kernel)
set_option maxRecDepth 20000 in
theorem gX7_insert_X7_of : GoodIn wsX7_insert (wsV RX7 36 RX7 yX7_of wsX7_of) := goodIn_app (goodIn_of _ (by decide +kernel)) ggX7_insert_X7_of
set_option maxRecDepth 20000 in
theorem ggX7_insert_X7_ends : GoodIn wsX7_insert wsX7_ends := goodIn_r _ [30, 1, 31, 32, 33, 5, 34, 35, 36, 37, 38, 23, 24, 25, 26, 39, 40, 41, 42, 43, 44, 45, 46, 47, 48, 49, 50, 51, 52, 53, 54, 55, 56, 57, 58, 59, 60, 61, 62, 63, 64, 65, 66, 67, 68, 69, 70, 71, 72, 73, 74, 75, 76, 77, 78, 79, 80] (by decide +kernel) (by decide +kernel)
set_option maxRecDepth 20000 in
theorem gX7_insert_X7_ends : GoodIn wsX7_insert (wsV RX7 86 RX7 yX7_ends wsX7_ends) := goodIn_app (goodIn_of _ (by decide +kernel)) ggX7_insert_X7_ends
theorem dX7_insert_0 : decode cX7_insert 0 = .ok (.aload_n 0, 1) := by decide +kernel
theorem dX7_insert_1 : decode cX7_insert 1 = .ok (.iload_n 1, 1) := by decide +kernel
theorem dX7_insert_2 : decode cX7_insert 2 = .ok (.i2l, 1) := by decide +kernel
theorem dX7_insert_3 : decode cX7_insert 3 = .ok (.lconst 0, 1) := by decide +kernel
theorem dX7_insert_4 : decode cX7_insert 4 = .ok (.aload_n 0, 1) := by decide +kernel
theorem dX7_insert_5 : decode cX7_insert 5 = .ok (.getfield 7, 3) := by decide +kernel
theorem dX7_insert_8 : decode cX7_insert 8 = .ok (.iconst 0, 1) := by decide +kernel
theorem dX7_insert_9 : decode cX7_insert 9 = .ok (.laload, 1) := by decide +kernel
theorem dX7_insert_10 : decode cX7_insert 10 = .ok (.invokestatic 89, 3) := by decide +kernel
theorem dX7_insert_13 : decode cX7_insert 13 = .ok (.ifCond .ne 7, 3) := by decide +kernel
theorem dX7_insert_16 : decode cX7_insert 16 = .ok (.iconst 1, 1) := by decide +kernel
theorem dX7_insert_17 : decode cX7_insert 17 = .ok (.goto 21, 3) := by decide +kernel
theorem dX7_insert_20 : decode cX7_insert 20 = .ok (.aload_n 0, 1) := by decide +kernel
theorem dX7_insert_21 : decode cX7_insert 21 = .ok (.getfield 7, 3) := by decide +kernel
theorem dX7_insert_24 : decode cX7_insert 24 = .ok (.iconst 0, 1) := by decide +kernel
theorem dX7_insert_25 : decode cX7_insert 25 = .ok (.laload, 1) := by decide +kernel
theorem dX7_insert_26 : decode cX7_insert 26 = .ok (.ldc2_w 74, 3) := by decide +kernel
theorem dX7_insert_29 : decode cX7_insert 29 = .ok (.lcmp, 1) := by decide +kernel
theorem dX7_insert_30 : decode cX7_insert 30 = .ok (.ifCond .ne 7, 3) := by decide +kernel
theorem dX7_insert_33 : decode cX7_insert 33 = .ok (.iconst 2, 1) := by decide +kernel
theorem dX7_insert_34 : decode cX7_insert 34 = .ok (.goto 4, 3) := by decide +kernel
theorem dX7_insert_37 : decode cX7_insert 37 = .ok (.iconst 0, 1) := by decide +kernel
theorem dX7_insert_38 : decode cX7_insert 38 = .ok (.invokevirtual 76, 3) := by decide +kernel
theorem dX7_insert_41 : decode cX7_insert 41 = .ok (.ifCond .eq 5, 3) := by decide +kernel
theorem dX7_insert_44 : decode cX7_insert 44 = .ok (.iconst 0, 1) := by decide +kernel
theorem dX7_insert_45 : decode cX7_insert 45 = .ok (.ireturn, 1) := by decide +kernel
theorem dX7_insert_46 : decode cX7_insert 46 = .ok (.aload_n 0, 1) := by decide +kernel
theorem dX7_insert_47 : decode cX7_insert 47 = .ok (.invokevirtual 79, 3) := by decide +kernel
theorem dX7_insert_50 : decode cX7_insert 50 = .ok (.aload_n 0, 1) := by decide +kernel
theorem dX7_insert_51 : decode cX7_insert 51 = .ok (.iload_n 1, 1) := by decide +kernel
theorem dX7_insert_52 : decode cX7_insert 52 = .ok (.lload_n 2, 1) := by decide +kernel
theorem dX7_insert_53 : decode cX7_insert 53 = .ok (.invokevirtual 82, 3) := by decide +kernel
theorem dX7_insert_56 : decode cX7_insert 56 = .ok (.aload_n 0, 1) := by decide +kernel
theorem dX7_insert_57 : decode cX7_insert 57 = .ok (.aload_n 0, 1) := by decide +kernel
theorem dX7_insert_58 : decode cX7_insert 58 = .ok (.bipush 6, 2) := by decide +kernel
theorem dX7_insert_60 : decode cX7_insert 60 = .ok (.invokevirtual 36, 3) := by decide +kernel
theorem dX7_insert_63 : decode cX7_insert 63 = .ok (.iconst 1, 1) := by decide +kernel
theorem dX7_insert_64 : decode cX7_insert 64 = .ok (.isub, 1) := by decide +kernel
theorem dX7_insert_65 : decode cX7_insert 65 = .ok (.invokevirtual 86, 3) := by decide +kernel
theorem dX7_insert_68 : decode cX7_insert 68 = .ok (.ireturn, 1) := by decide +kernel
set_option maxRecDepth 20000 in
theorem ggX7_removeAt_X7_isPlace : GoodIn wsX7_removeAt wsX7_isPlace := goodIn_r _ [5, 6, 66, 67, 68, 69, 70, 71, 72, 73, 74, 75, 76, 77, 78, 79, 80] (by decide +kernel) (by decide +kernel)
set_option maxRecDepth 20000 in
theorem gX7_removeAt_X7_isPlace : GoodIn wsX7_removeAt (wsV RX7 93 RX7 yX7_isPlace wsX7_isPlace) := goodIn_app (goodIn_of _ (by decide +kernel)) ggX7_removeAt_X7_isPlace
set_option maxRecDepth 20000 in
theorem ggX7_removeAt_X7_throwsAt : GoodIn wsX7_removeAt wsX7_throwsAt := goodIn_r _ [10, 11, 66, 67, 68, 69, 70, 71, 72, 73, 74, 75, 76, 77, 78, 79, 80] (by decide +kernel) (by decide +kernel)
set_option maxRecDepth 20000 in
theorem gX7_removeAt_X7_throwsAt : GoodIn wsX7_removeAt (wsV RX7 76 RX7 yX7_throwsAt wsX7_throwsAt) := goodIn_app (goodIn_of _ (by decide +kernel)) ggX7_removeAt_X7_throwsAt
set_option maxRecDepth 20000 in
theorem ggX7_removeAt_X7_saves : GoodIn wsX7_removeAt wsX7_saves := goodIn_r _ [15, 16, 17, 18, 6, 66, 67, 68, 69, 70, 71, 72, 73, 74, 75, 76, 77, 78, 79, 80] (by decide +kernel) (by decide +kernel)
set_option maxRecDepth 20000 in
theorem gX7_removeAt_X7_saves : GoodIn wsX7_removeAt (wsV RX7 79 RX7 yX7_saves wsX7_saves) := goodIn_app (goodIn_of _ (by decide +kernel)) ggX7_removeAt_X7_saves
set_option maxRecDepth 20000 in
theorem ggX7_removeAt_X7_of : GoodIn wsX7_removeAt wsX7_of := goodIn_r _ [22, 6, 66, 67, 68, 69, 70, 71, 72, 73, 74, 75, 76, 77, 78, 79, 80] (by decide +kernel) (by decide +kernel)
set_option maxRecDepth 20000 in
theorem gX7_removeAt_X7_of : GoodIn wsX7_removeAt (wsV RX7 36 RX7 yX7_of wsX7_of) := goodIn_app (goodIn_of _ (by decide +kernel)) ggX7_removeAt_X7_of
set_option maxRecDepth 20000 in
theorem ggX7_removeAt_X7_takes : GoodIn wsX7_removeAt wsX7_takes := goodIn_r _ [26, 6, 19, 20, 21, 4, 22, 66, 67, 68, 69, 70, 71, 72, 73, 74, 75, 76, 77, 78, 79, 80] (by decide +kernel) (by decide +kernel)
set_option maxRecDepth 20000 in
theorem gX7_removeAt_X7_takes : GoodIn wsX7_removeAt (wsV RX7 96 RX7 yX7_takes wsX7_takes) := goodIn_app (goodIn_of _ (by decide +kernel)) ggX7_removeAt_X7_takes
set_option maxRecDepth 20000 in
theorem ggX7_removeAt_X7_ends : GoodIn wsX7_removeAt wsX7_ends := goodIn_r _ [30, 6, 31, 32, 33, 4, 34, 35, 36, 37, 38, 19, 20, 21, 22, 39, 40, 41, 42, 43, 44, 45, 46, 47, 48, 49, 50, 51, 52, 53, 54, 55, 56, 57, 58, 59, 60, 61, 62, 63, 64, 65, 66, 67, 68, 69, 70, 71, 72, 73, 74, 75, 76, 77, 78, 79, 80] (by decide +kernel) (by decide +kernel)
set_option maxRecDepth 20000 in
theorem gX7_removeAt_X7_ends : GoodIn wsX7_removeAt (wsV RX7 86 RX7 yX7_ends wsX7_ends) := goodIn_app (goodIn_of _ (by decide +kernel)) ggX7_removeAt_X7_ends
theorem dX7_removeAt_0 : decode cX7_removeAt 0 = .ok (.aload_n 0, 1) := by decide +kernel
theorem dX7_removeAt_1 : decode cX7_removeAt 1 = .ok (.aload_n 0, 1) := by decide +kernel
theorem dX7_removeAt_2 : decode cX7_removeAt 2 = .ok (.iload_n 1, 1) := by decide +kernel
theorem dX7_removeAt_3 : decode cX7_removeAt 3 = .ok (.invokevirtual 93, 3) := by decide +kernel
theorem dX7_removeAt_6 : decode cX7_removeAt 6 = .ok (.ifCond .eq 7, 3) := by decide +kernel
theorem dX7_removeAt_9 : decode cX7_removeAt 9 = .ok (.iconst 0, 1) := by decide +kernel
theorem dX7_removeAt_10 : decode cX7_removeAt 10 = .ok (.goto 4, 3) := by decide +kernel
theorem dX7_removeAt_13 : decode cX7_removeAt 13 = .ok (.iconst 1, 1) := by decide +kernel
theorem dX7_removeAt_14 : decode cX7_removeAt 14 = .ok (.invokevirtual 76, 3) := by decide +kernel
theorem dX7_removeAt_17 : decode cX7_removeAt 17 = .ok (.ifCond .eq 5, 3) := by decide +kernel
theorem dX7_removeAt_20 : decode cX7_removeAt 20 = .ok (.iconst 0, 1) := by decide +kernel
theorem dX7_removeAt_21 : decode cX7_removeAt 21 = .ok (.ireturn, 1) := by decide +kernel
theorem dX7_removeAt_22 : decode cX7_removeAt 22 = .ok (.aload_n 0, 1) := by decide +kernel
theorem dX7_removeAt_23 : decode cX7_removeAt 23 = .ok (.invokevirtual 79, 3) := by decide +kernel
theorem dX7_removeAt_26 : decode cX7_removeAt 26 = .ok (.aload_n 0, 1) := by decide +kernel
theorem dX7_removeAt_27 : decode cX7_removeAt 27 = .ok (.bipush 39, 2) := by decide +kernel
theorem dX7_removeAt_29 : decode cX7_removeAt 29 = .ok (.iload_n 1, 1) := by decide +kernel
theorem dX7_removeAt_30 : decode cX7_removeAt 30 = .ok (.iadd, 1) := by decide +kernel
theorem dX7_removeAt_31 : decode cX7_removeAt 31 = .ok (.invokevirtual 36, 3) := by decide +kernel
theorem dX7_removeAt_34 : decode cX7_removeAt 34 = .ok (.istore_n 2, 1) := by decide +kernel
theorem dX7_removeAt_35 : decode cX7_removeAt 35 = .ok (.aload_n 0, 1) := by decide +kernel
theorem dX7_removeAt_36 : decode cX7_removeAt 36 = .ok (.iload_n 1, 1) := by decide +kernel
theorem dX7_removeAt_37 : decode cX7_removeAt 37 = .ok (.invokevirtual 96, 3) := by decide +kernel
theorem dX7_removeAt_40 : decode cX7_removeAt 40 = .ok (.aload_n 0, 1) := by decide +kernel
theorem dX7_removeAt_41 : decode cX7_removeAt 41 = .ok (.iload_n 2, 1) := by decide +kernel
theorem dX7_removeAt_42 : decode cX7_removeAt 42 = .ok (.invokevirtual 86, 3) := by decide +kernel
theorem dX7_removeAt_45 : decode cX7_removeAt 45 = .ok (.ireturn, 1) := by decide +kernel
set_option maxRecDepth 20000 in
theorem ggX7_setValue_X7_isPlace : GoodIn wsX7_setValue wsX7_isPlace := goodIn_r _ [6, 1, 62, 63, 64, 65, 66, 67, 68, 69, 70, 71, 72, 73, 74, 75, 76] (by decide +kernel) (by decide +kernel)
set_option maxRecDepth 20000 in
theorem gX7_setValue_X7_isPlace : GoodIn wsX7_setValue (wsV RX7 93 RX7 yX7_isPlace wsX7_isPlace) := goodIn_app (goodIn_of _ (by decide +kernel)) ggX7_setValue_X7_isPlace
set_option maxRecDepth 20000 in
theorem ggX7_setValue_X7_throwsAt : GoodIn wsX7_setValue wsX7_throwsAt := goodIn_r _ [10, 11, 62, 63, 64, 65, 66, 67, 68, 69, 70, 71, 72, 73, 74, 75, 76] (by decide +kernel) (by decide +kernel)
set_option maxRecDepth 20000 in
theorem gX7_setValue_X7_throwsAt : GoodIn wsX7_setValue (wsV RX7 76 RX7 yX7_throwsAt wsX7_throwsAt) := goodIn_app (goodIn_of _ (by decide +kernel)) ggX7_setValue_X7_throwsAt
set_option maxRecDepth 20000 in
theorem ggX7_setValue_X7_saves : GoodIn wsX7_setValue wsX7_saves := goodIn_r _ [15, 16, 17, 18, 1, 62, 63, 64, 65, 66, 67, 68, 69, 70, 71, 72, 73, 74, 75, 76] (by decide +kernel) (by decide +kernel)
set_option maxRecDepth 20000 in
theorem gX7_setValue_X7_saves : GoodIn wsX7_setValue (wsV RX7 79 RX7 yX7_saves wsX7_saves) := goodIn_app (goodIn_of _ (by decide +kernel)) ggX7_setValue_X7_saves
set_option maxRecDepth 20000 in
theorem ggX7_setValue_X7_ends : GoodIn wsX7_setValue wsX7_ends := goodIn_r _ [22, 1, 23, 24, 25, 5, 26, 27, 28, 29, 30, 31, 32, 33, 34, 35, 36, 37, 38, 39, 40, 41, 42, 43, 44, 45, 46, 47, 48, 49, 50, 51, 52, 53, 54, 55, 56, 57, 58, 59, 60, 61, 62, 63, 64, 65, 66, 67, 68, 69, 70, 71, 72, 73, 74, 75, 76] (by decide +kernel) (by decide +kernel)
set_option maxRecDepth 20000 in
theorem gX7_setValue_X7_ends : GoodIn wsX7_setValue (wsV RX7 86 RX7 yX7_ends wsX7_ends) := goodIn_app (goodIn_of _ (by decide +kernel)) ggX7_setValue_X7_ends
theorem dX7_setValue_0 : decode cX7_setValue 0 = .ok (.aload_n 0, 1) := by decide +kernel
theorem dX7_setValue_1 : decode cX7_setValue 1 = .ok (.aload_n 0, 1) := by decide +kernel
theorem dX7_setValue_2 : decode cX7_setValue 2 = .ok (.iload_n 1, 1) := by decide +kernel
theorem dX7_setValue_3 : decode cX7_setValue 3 = .ok (.invokevirtual 93, 3) := by decide +kernel
theorem dX7_setValue_6 : decode cX7_setValue 6 = .ok (.ifCond .eq 7, 3) := by decide +kernel
theorem dX7_setValue_9 : decode cX7_setValue 9 = .ok (.iconst 0, 1) := by decide +kernel
theorem dX7_setValue_10 : decode cX7_setValue 10 = .ok (.goto 4, 3) := by decide +kernel
theorem dX7_setValue_13 : decode cX7_setValue 13 = .ok (.iconst 1, 1) := by decide +kernel
theorem dX7_setValue_14 : decode cX7_setValue 14 = .ok (.invokevirtual 76, 3) := by decide +kernel
theorem dX7_setValue_17 : decode cX7_setValue 17 = .ok (.ifCond .eq 5, 3) := by decide +kernel
theorem dX7_setValue_20 : decode cX7_setValue 20 = .ok (.lconst 0, 1) := by decide +kernel
theorem dX7_setValue_21 : decode cX7_setValue 21 = .ok (.lreturn, 1) := by decide +kernel
theorem dX7_setValue_22 : decode cX7_setValue 22 = .ok (.aload_n 0, 1) := by decide +kernel
theorem dX7_setValue_23 : decode cX7_setValue 23 = .ok (.invokevirtual 79, 3) := by decide +kernel
theorem dX7_setValue_26 : decode cX7_setValue 26 = .ok (.aload_n 0, 1) := by decide +kernel
theorem dX7_setValue_27 : decode cX7_setValue 27 = .ok (.getfield 7, 3) := by decide +kernel
theorem dX7_setValue_30 : decode cX7_setValue 30 = .ok (.bipush 7, 2) := by decide +kernel
theorem dX7_setValue_32 : decode cX7_setValue 32 = .ok (.iload_n 1, 1) := by decide +kernel
theorem dX7_setValue_33 : decode cX7_setValue 33 = .ok (.iadd, 1) := by decide +kernel
theorem dX7_setValue_34 : decode cX7_setValue 34 = .ok (.laload, 1) := by decide +kernel
theorem dX7_setValue_35 : decode cX7_setValue 35 = .ok (.lstore 4, 2) := by decide +kernel
theorem dX7_setValue_37 : decode cX7_setValue 37 = .ok (.aload_n 0, 1) := by decide +kernel
theorem dX7_setValue_38 : decode cX7_setValue 38 = .ok (.getfield 7, 3) := by decide +kernel
theorem dX7_setValue_41 : decode cX7_setValue 41 = .ok (.bipush 7, 2) := by decide +kernel
theorem dX7_setValue_43 : decode cX7_setValue 43 = .ok (.iload_n 1, 1) := by decide +kernel
theorem dX7_setValue_44 : decode cX7_setValue 44 = .ok (.iadd, 1) := by decide +kernel
theorem dX7_setValue_45 : decode cX7_setValue 45 = .ok (.lload_n 2, 1) := by decide +kernel
theorem dX7_setValue_46 : decode cX7_setValue 46 = .ok (.lastore, 1) := by decide +kernel
theorem dX7_setValue_47 : decode cX7_setValue 47 = .ok (.aload_n 0, 1) := by decide +kernel
theorem dX7_setValue_48 : decode cX7_setValue 48 = .ok (.iconst 0, 1) := by decide +kernel
theorem dX7_setValue_49 : decode cX7_setValue 49 = .ok (.invokevirtual 86, 3) := by decide +kernel
theorem dX7_setValue_52 : decode cX7_setValue 52 = .ok (.ifCond .ne 8, 3) := by decide +kernel
theorem dX7_setValue_55 : decode cX7_setValue 55 = .ok (.lload 4, 2) := by decide +kernel
theorem dX7_setValue_57 : decode cX7_setValue 57 = .ok (.goto 4, 3) := by decide +kernel
theorem dX7_setValue_60 : decode cX7_setValue 60 = .ok (.lconst 0, 1) := by decide +kernel
theorem dX7_setValue_61 : decode cX7_setValue 61 = .ok (.lreturn, 1) := by decide +kernel
set_option maxRecDepth 20000 in
theorem ggX7_swap_X7_isPlace : GoodIn wsX7_swap wsX7_isPlace := goodIn_r _ [6, 1, 62, 63, 64, 65, 66, 67, 68, 69, 70, 71, 72, 73, 74, 75, 76] (by decide +kernel) (by decide +kernel)
set_option maxRecDepth 20000 in
theorem gX7_swap_X7_isPlace : GoodIn wsX7_swap (wsV RX7 93 RX7 yX7_isPlace wsX7_isPlace) := goodIn_app (goodIn_of _ (by decide +kernel)) ggX7_swap_X7_isPlace
set_option maxRecDepth 20000 in
theorem ggX7_swap_X7_throwsAt : GoodIn wsX7_swap wsX7_throwsAt := goodIn_r _ [10, 11, 62, 63, 64, 65, 66, 67, 68, 69, 70, 71, 72, 73, 74, 75, 76] (by decide +kernel) (by decide +kernel)
set_option maxRecDepth 20000 in
theorem gX7_swap_X7_throwsAt : GoodIn wsX7_swap (wsV RX7 76 RX7 yX7_throwsAt wsX7_throwsAt) := goodIn_app (goodIn_of _ (by decide +kernel)) ggX7_swap_X7_throwsAt
set_option maxRecDepth 20000 in
theorem ggX7_swap_X7_saves : GoodIn wsX7_swap wsX7_saves := goodIn_r _ [15, 16, 17, 18, 1, 62, 63, 64, 65, 66, 67, 68, 69, 70, 71, 72, 73, 74, 75, 76] (by decide +kernel) (by decide +kernel)
set_option maxRecDepth 20000 in
theorem gX7_swap_X7_saves : GoodIn wsX7_swap (wsV RX7 79 RX7 yX7_saves wsX7_saves) := goodIn_app (goodIn_of _ (by decide +kernel)) ggX7_swap_X7_saves
set_option maxRecDepth 20000 in
theorem ggX7_swap_X7_isFall : GoodIn wsX7_swap wsX7_isFall := goodIn_r _ [22, 1, 23, 24, 25, 5, 26, 62, 63, 64, 65, 66, 67, 68, 69, 70, 71, 72, 73, 74, 75, 76] (by decide +kernel) (by decide +kernel)
set_option maxRecDepth 20000 in
theorem gX7_swap_X7_isFall : GoodIn wsX7_swap (wsV RX7 60 RX7 yX7_isFall wsX7_isFall) := goodIn_app (goodIn_of _ (by decide +kernel)) ggX7_swap_X7_isFall
set_option maxRecDepth 20000 in
theorem ggX7_swap_X7_swaps : GoodIn wsX7_swap wsX7_swaps := goodIn_r _ [30, 1, 62, 63, 64, 65, 66, 67, 68, 69, 70, 71, 72, 73, 74, 75, 76] (by decide +kernel) (by decide +kernel)
set_option maxRecDepth 20000 in
theorem gX7_swap_X7_swaps : GoodIn wsX7_swap (wsV RX7 63 RX7 yX7_swaps wsX7_swaps) := goodIn_app (goodIn_of _ (by decide +kernel)) ggX7_swap_X7_swaps
set_option maxRecDepth 20000 in
theorem ggX7_swap_X7_ends : GoodIn wsX7_swap wsX7_ends := goodIn_r _ [34, 1, 35, 36, 37, 5, 38, 39, 40, 41, 42, 43, 44, 45, 46, 47, 48, 49, 50, 51, 52, 53, 54, 55, 56, 57, 58, 23, 24, 25, 26, 59, 60, 61, 19, 20, 21, 22, 27, 28, 29, 30, 62, 63, 64, 65, 66, 67, 68, 69, 70, 71, 72, 73, 74, 75, 76] (by decide +kernel) (by decide +kernel)
set_option maxRecDepth 20000 in
theorem gX7_swap_X7_ends : GoodIn wsX7_swap (wsV RX7 86 RX7 yX7_ends wsX7_ends) := goodIn_app (goodIn_of _ (by decide +kernel)) ggX7_swap_X7_ends
theorem dX7_swap_0 : decode cX7_swap 0 = .ok (.aload_n 0, 1) := by decide +kernel
theorem dX7_swap_1 : decode cX7_swap 1 = .ok (.aload_n 0, 1) := by decide +kernel
theorem dX7_swap_2 : decode cX7_swap 2 = .ok (.iload_n 1, 1) := by decide +kernel
theorem dX7_swap_3 : decode cX7_swap 3 = .ok (.invokevirtual 93, 3) := by decide +kernel
theorem dX7_swap_6 : decode cX7_swap 6 = .ok (.ifCond .eq 21, 3) := by decide +kernel
theorem dX7_swap_9 : decode cX7_swap 9 = .ok (.iload_n 1, 1) := by decide +kernel
theorem dX7_swap_10 : decode cX7_swap 10 = .ok (.iconst 1, 1) := by decide +kernel
theorem dX7_swap_11 : decode cX7_swap 11 = .ok (.iadd, 1) := by decide +kernel
theorem dX7_swap_12 : decode cX7_swap 12 = .ok (.i2l, 1) := by decide +kernel
theorem dX7_swap_13 : decode cX7_swap 13 = .ok (.aload_n 0, 1) := by decide +kernel
theorem dX7_swap_14 : decode cX7_swap 14 = .ok (.getfield 7, 3) := by decide +kernel
theorem dX7_swap_17 : decode cX7_swap 17 = .ok (.iconst 0, 1) := by decide +kernel
theorem dX7_swap_18 : decode cX7_swap 18 = .ok (.laload, 1) := by decide +kernel
theorem dX7_swap_19 : decode cX7_swap 19 = .ok (.lcmp, 1) := by decide +kernel
theorem dX7_swap_20 : decode cX7_swap 20 = .ok (.ifCond .ge 7, 3) := by decide +kernel
theorem dX7_swap_23 : decode cX7_swap 23 = .ok (.iconst 0, 1) := by decide +kernel
theorem dX7_swap_24 : decode cX7_swap 24 = .ok (.goto 4, 3) := by decide +kernel
theorem dX7_swap_27 : decode cX7_swap 27 = .ok (.iconst 1, 1) := by decide +kernel
theorem dX7_swap_28 : decode cX7_swap 28 = .ok (.invokevirtual 76, 3) := by decide +kernel
theorem dX7_swap_31 : decode cX7_swap 31 = .ok (.ifCond .eq 5, 3) := by decide +kernel
theorem dX7_swap_34 : decode cX7_swap 34 = .ok (.iconst 0, 1) := by decide +kernel
theorem dX7_swap_35 : decode cX7_swap 35 = .ok (.ireturn, 1) := by decide +kernel
theorem dX7_swap_36 : decode cX7_swap 36 = .ok (.aload_n 0, 1) := by decide +kernel
theorem dX7_swap_37 : decode cX7_swap 37 = .ok (.invokevirtual 79, 3) := by decide +kernel
theorem dX7_swap_40 : decode cX7_swap 40 = .ok (.aload_n 0, 1) := by decide +kernel
theorem dX7_swap_41 : decode cX7_swap 41 = .ok (.iload_n 1, 1) := by decide +kernel
theorem dX7_swap_42 : decode cX7_swap 42 = .ok (.invokevirtual 60, 3) := by decide +kernel
theorem dX7_swap_45 : decode cX7_swap 45 = .ok (.ifCond .eq 7, 3) := by decide +kernel
theorem dX7_swap_48 : decode cX7_swap 48 = .ok (.iconst (-1), 1) := by decide +kernel
theorem dX7_swap_49 : decode cX7_swap 49 = .ok (.goto 32, 3) := by decide +kernel
theorem dX7_swap_52 : decode cX7_swap 52 = .ok (.aload_n 0, 1) := by decide +kernel
theorem dX7_swap_53 : decode cX7_swap 53 = .ok (.getfield 7, 3) := by decide +kernel
theorem dX7_swap_56 : decode cX7_swap 56 = .ok (.bipush 7, 2) := by decide +kernel
theorem dX7_swap_58 : decode cX7_swap 58 = .ok (.iload_n 1, 1) := by decide +kernel
theorem dX7_swap_59 : decode cX7_swap 59 = .ok (.iadd, 1) := by decide +kernel
theorem dX7_swap_60 : decode cX7_swap 60 = .ok (.laload, 1) := by decide +kernel
theorem dX7_swap_61 : decode cX7_swap 61 = .ok (.aload_n 0, 1) := by decide +kernel
theorem dX7_swap_62 : decode cX7_swap 62 = .ok (.getfield 7, 3) := by decide +kernel
theorem dX7_swap_65 : decode cX7_swap 65 = .ok (.bipush 7, 2) := by decide +kernel
theorem dX7_swap_67 : decode cX7_swap 67 = .ok (.iload_n 1, 1) := by decide +kernel
theorem dX7_swap_68 : decode cX7_swap 68 = .ok (.iadd, 1) := by decide +kernel
theorem dX7_swap_69 : decode cX7_swap 69 = .ok (.iconst 1, 1) := by decide +kernel
theorem dX7_swap_70 : decode cX7_swap 70 = .ok (.iadd, 1) := by decide +kernel
theorem dX7_swap_71 : decode cX7_swap 71 = .ok (.laload, 1) := by decide +kernel
theorem dX7_swap_72 : decode cX7_swap 72 = .ok (.lcmp, 1) := by decide +kernel
theorem dX7_swap_73 : decode cX7_swap 73 = .ok (.ifCond .ne 7, 3) := by decide +kernel
theorem dX7_swap_76 : decode cX7_swap 76 = .ok (.iconst 0, 1) := by decide +kernel
theorem dX7_swap_77 : decode cX7_swap 77 = .ok (.goto 4, 3) := by decide +kernel
theorem dX7_swap_80 : decode cX7_swap 80 = .ok (.iconst 1, 1) := by decide +kernel
theorem dX7_swap_81 : decode cX7_swap 81 = .ok (.istore_n 2, 1) := by decide +kernel
theorem dX7_swap_82 : decode cX7_swap 82 = .ok (.aload_n 0, 1) := by decide +kernel
theorem dX7_swap_83 : decode cX7_swap 83 = .ok (.iload_n 1, 1) := by decide +kernel
theorem dX7_swap_84 : decode cX7_swap 84 = .ok (.invokevirtual 63, 3) := by decide +kernel
theorem dX7_swap_87 : decode cX7_swap 87 = .ok (.aload_n 0, 1) := by decide +kernel
theorem dX7_swap_88 : decode cX7_swap 88 = .ok (.iload_n 2, 1) := by decide +kernel
theorem dX7_swap_89 : decode cX7_swap 89 = .ok (.invokevirtual 86, 3) := by decide +kernel
theorem dX7_swap_92 : decode cX7_swap 92 = .ok (.ireturn, 1) := by decide +kernel
set_option maxRecDepth 20000 in
theorem ggX7_setBound_X7_in : GoodIn wsX7_setBound wsX7_in := goodIn_r _ [6] (by decide +kernel) (by decide +kernel)
set_option maxRecDepth 20000 in
theorem gX7_setBound_X7_in : GoodIn wsX7_setBound (va_wsS RX7 89 yX7_in wsX7_in) := goodIn_app (goodIn_of _ (by decide +kernel)) ggX7_setBound_X7_in
set_option maxRecDepth 20000 in
theorem ggX7_setBound_X7_throwsAt : GoodIn wsX7_setBound wsX7_throwsAt := goodIn_r _ [10, 11, 66, 67, 68, 69, 70, 71, 72, 73, 74, 75, 76, 77, 78, 79, 80] (by decide +kernel) (by decide +kernel)
set_option maxRecDepth 20000 in
theorem gX7_setBound_X7_throwsAt : GoodIn wsX7_setBound (wsV RX7 76 RX7 yX7_throwsAt wsX7_throwsAt) := goodIn_app (goodIn_of _ (by decide +kernel)) ggX7_setBound_X7_throwsAt
set_option maxRecDepth 20000 in
theorem ggX7_setBound_X7_saves : GoodIn wsX7_setBound wsX7_saves := goodIn_r _ [15, 16, 17, 18, 2, 66, 67, 68, 69, 70, 71, 72, 73, 74, 75, 76, 77, 78, 79, 80] (by decide +kernel) (by decide +kernel)
set_option maxRecDepth 20000 in
theorem gX7_setBound_X7_saves : GoodIn wsX7_setBound (wsV RX7 79 RX7 yX7_saves wsX7_saves) := goodIn_app (goodIn_of _ (by decide +kernel)) ggX7_setBound_X7_saves
set_option maxRecDepth 20000 in
theorem ggX7_setBound_X7_brokenOnes : GoodIn wsX7_setBound wsX7_brokenOnes := goodIn_r _ [22, 23, 24, 25, 5, 26, 2, 27, 28, 29, 30, 31, 32, 33, 34, 35, 36, 37, 38, 39, 40, 41, 42, 43, 44, 45, 66, 67, 68, 69, 70, 71, 72, 73, 74, 75, 76, 77, 78, 79, 80] (by decide +kernel) (by decide +kernel)
set_option maxRecDepth 20000 in
theorem gX7_setBound_X7_brokenOnes : GoodIn wsX7_setBound (wsV RX7 101 RX7 yX7_brokenOnes wsX7_brokenOnes) := goodIn_app (goodIn_of _ (by decide +kernel)) ggX7_setBound_X7_brokenOnes
set_option maxRecDepth 20000 in
theorem ggX7_setBound_X7_ends : GoodIn wsX7_setBound wsX7_ends := goodIn_r _ [49, 2, 50, 51, 52, 5, 53, 54, 55, 56, 57, 23, 24, 25, 26, 27, 28, 29, 30, 31, 32, 33, 34, 35, 36, 37, 38, 39, 40, 41, 42, 43, 44, 45, 58, 59, 60, 61, 62, 63, 64, 65, 66, 67, 68, 69, 70, 71, 72, 73, 74, 75, 76, 77, 78, 79, 80] (by decide +kernel) (by decide +kernel)
set_option maxRecDepth 20000 in
theorem gX7_setBound_X7_ends : GoodIn wsX7_setBound (wsV RX7 86 RX7 yX7_ends wsX7_ends) := goodIn_app (goodIn_of _ (by decide +kernel)) ggX7_setBound_X7_ends
theorem dX7_setBound_0 : decode cX7_setBound 0 = .ok (.aload_n 0, 1) := by decide +kernel
theorem dX7_setBound_1 : decode cX7_setBound 1 = .ok (.iload_n 1, 1) := by decide +kernel
theorem dX7_setBound_2 : decode cX7_setBound 2 = .ok (.i2l, 1) := by decide +kernel
theorem dX7_setBound_3 : decode cX7_setBound 3 = .ok (.lconst 0, 1) := by decide +kernel
theorem dX7_setBound_4 : decode cX7_setBound 4 = .ok (.ldc2_w 99, 3) := by decide +kernel
theorem dX7_setBound_7 : decode cX7_setBound 7 = .ok (.invokestatic 89, 3) := by decide +kernel
theorem dX7_setBound_10 : decode cX7_setBound 10 = .ok (.ifCond .eq 7, 3) := by decide +kernel
theorem dX7_setBound_13 : decode cX7_setBound 13 = .ok (.iconst 0, 1) := by decide +kernel
theorem dX7_setBound_14 : decode cX7_setBound 14 = .ok (.goto 4, 3) := by decide +kernel
theorem dX7_setBound_17 : decode cX7_setBound 17 = .ok (.iconst 1, 1) := by decide +kernel
theorem dX7_setBound_18 : decode cX7_setBound 18 = .ok (.invokevirtual 76, 3) := by decide +kernel
theorem dX7_setBound_21 : decode cX7_setBound 21 = .ok (.ifCond .eq 5, 3) := by decide +kernel
theorem dX7_setBound_24 : decode cX7_setBound 24 = .ok (.iconst 0, 1) := by decide +kernel
theorem dX7_setBound_25 : decode cX7_setBound 25 = .ok (.ireturn, 1) := by decide +kernel
theorem dX7_setBound_26 : decode cX7_setBound 26 = .ok (.aload_n 0, 1) := by decide +kernel
theorem dX7_setBound_27 : decode cX7_setBound 27 = .ok (.invokevirtual 79, 3) := by decide +kernel
theorem dX7_setBound_30 : decode cX7_setBound 30 = .ok (.aload_n 0, 1) := by decide +kernel
theorem dX7_setBound_31 : decode cX7_setBound 31 = .ok (.getfield 7, 3) := by decide +kernel
theorem dX7_setBound_34 : decode cX7_setBound 34 = .ok (.iconst 1, 1) := by decide +kernel
theorem dX7_setBound_35 : decode cX7_setBound 35 = .ok (.iload_n 1, 1) := by decide +kernel
theorem dX7_setBound_36 : decode cX7_setBound 36 = .ok (.i2l, 1) := by decide +kernel
theorem dX7_setBound_37 : decode cX7_setBound 37 = .ok (.lastore, 1) := by decide +kernel
theorem dX7_setBound_38 : decode cX7_setBound 38 = .ok (.aload_n 0, 1) := by decide +kernel
theorem dX7_setBound_39 : decode cX7_setBound 39 = .ok (.aload_n 0, 1) := by decide +kernel
theorem dX7_setBound_40 : decode cX7_setBound 40 = .ok (.invokevirtual 101, 3) := by decide +kernel
theorem dX7_setBound_43 : decode cX7_setBound 43 = .ok (.invokevirtual 86, 3) := by decide +kernel
theorem dX7_setBound_46 : decode cX7_setBound 46 = .ok (.ireturn, 1) := by decide +kernel
set_option maxRecDepth 20000 in
theorem ggX7_setOrder_X7_saves : GoodIn wsX7_setOrder wsX7_saves := goodIn_r _ [7, 8, 9, 10, 2, 62, 63, 64, 65, 66, 67, 68, 69, 70, 71, 72, 73, 74, 75, 76] (by decide +kernel) (by decide +kernel)
set_option maxRecDepth 20000 in
theorem gX7_setOrder_X7_saves : GoodIn wsX7_setOrder (wsV RX7 79 RX7 yX7_saves wsX7_saves) := goodIn_app (goodIn_of _ (by decide +kernel)) ggX7_setOrder_X7_saves
set_option maxRecDepth 20000 in
theorem ggX7_setOrder_X7_inversions : GoodIn wsX7_setOrder wsX7_inversions := goodIn_r _ [14, 15, 16, 17, 6, 18, 2, 19, 20, 21, 22, 23, 24, 25, 26, 62, 63, 64, 65, 66, 67, 68, 69, 70, 71, 72, 73, 74, 75, 76] (by decide +kernel) (by decide +kernel)
set_option maxRecDepth 20000 in
theorem gX7_setOrder_X7_inversions : GoodIn wsX7_setOrder (wsV RX7 104 RX7 yX7_inversions wsX7_inversions) := goodIn_app (goodIn_of _ (by decide +kernel)) ggX7_setOrder_X7_inversions
set_option maxRecDepth 20000 in
theorem ggX7_setOrder_X7_ends : GoodIn wsX7_setOrder wsX7_ends := goodIn_r _ [30, 2, 31, 32, 33, 6, 34, 35, 36, 37, 38, 15, 16, 17, 18, 39, 40, 41, 42, 43, 44, 45, 46, 47, 48, 49, 50, 23, 24, 25, 26, 51, 52, 53, 54, 55, 56, 57, 58, 59, 60, 61, 62, 63, 64, 65, 66, 67, 68, 69, 70, 71, 72, 73, 74, 75, 76] (by decide +kernel) (by decide +kernel)
set_option maxRecDepth 20000 in
theorem gX7_setOrder_X7_ends : GoodIn wsX7_setOrder (wsV RX7 86 RX7 yX7_ends wsX7_ends) := goodIn_app (goodIn_of _ (by decide +kernel)) ggX7_setOrder_X7_ends
theorem dX7_setOrder_0 : decode cX7_setOrder 0 = .ok (.aload_n 0, 1) := by decide +kernel
theorem dX7_setOrder_1 : decode cX7_setOrder 1 = .ok (.iconst 0, 1) := by decide +kernel
theorem dX7_setOrder_2 : decode cX7_setOrder 2 = .ok (.putfield 25, 3) := by decide +kernel
theorem dX7_setOrder_5 : decode cX7_setOrder 5 = .ok (.aload_n 0, 1) := by decide +kernel
theorem dX7_setOrder_6 : decode cX7_setOrder 6 = .ok (.invokevirtual 79, 3) := by decide +kernel
theorem dX7_setOrder_9 : decode cX7_setOrder 9 = .ok (.aload_n 0, 1) := by decide +kernel
theorem dX7_setOrder_10 : decode cX7_setOrder 10 = .ok (.getfield 7, 3) := by decide +kernel
theorem dX7_setOrder_13 : decode cX7_setOrder 13 = .ok (.iconst 2, 1) := by decide +kernel
theorem dX7_setOrder_14 : decode cX7_setOrder 14 = .ok (.iload_n 1, 1) := by decide +kernel
theorem dX7_setOrder_15 : decode cX7_setOrder 15 = .ok (.ifCond .eq 7, 3) := by decide +kernel
theorem dX7_setOrder_18 : decode cX7_setOrder 18 = .ok (.lconst 1, 1) := by decide +kernel
theorem dX7_setOrder_19 : decode cX7_setOrder 19 = .ok (.goto 4, 3) := by decide +kernel
theorem dX7_setOrder_22 : decode cX7_setOrder 22 = .ok (.lconst 0, 1) := by decide +kernel
theorem dX7_setOrder_23 : decode cX7_setOrder 23 = .ok (.lastore, 1) := by decide +kernel
theorem dX7_setOrder_24 : decode cX7_setOrder 24 = .ok (.aload_n 0, 1) := by decide +kernel
theorem dX7_setOrder_25 : decode cX7_setOrder 25 = .ok (.aload_n 0, 1) := by decide +kernel
theorem dX7_setOrder_26 : decode cX7_setOrder 26 = .ok (.invokevirtual 104, 3) := by decide +kernel
theorem dX7_setOrder_29 : decode cX7_setOrder 29 = .ok (.invokevirtual 86, 3) := by decide +kernel
theorem dX7_setOrder_32 : decode cX7_setOrder 32 = .ok (.ireturn, 1) := by decide +kernel
set_option maxRecDepth 20000 in
theorem ggX7_setSelf_X7_saves : GoodIn wsX7_setSelf wsX7_saves := goodIn_r _ [7, 8, 9, 10, 2, 50, 51, 52, 53, 54, 55, 56, 57, 58, 59, 60, 61, 62, 63, 64] (by decide +kernel) (by decide +kernel)
set_option maxRecDepth 20000 in
theorem gX7_setSelf_X7_saves : GoodIn wsX7_setSelf (wsV RX7 79 RX7 yX7_saves wsX7_saves) := goodIn_app (goodIn_of _ (by decide +kernel)) ggX7_setSelf_X7_saves
set_option maxRecDepth 20000 in
theorem ggX7_setSelf_X7_mends : GoodIn wsX7_setSelf wsX7_mends := goodIn_r _ [14, 15, 16, 17, 6, 18, 2, 19, 20, 21, 22, 23, 24, 25, 26, 27, 28, 29, 30, 31, 32, 33, 34, 35, 36, 37, 38, 39, 40, 41, 42, 43, 44, 45, 46, 47, 48, 49, 50, 51, 52, 53, 54, 55, 56, 57, 58, 59, 60, 61, 62, 63, 64] (by decide +kernel) (by decide +kernel)
set_option maxRecDepth 20000 in
theorem gX7_setSelf_X7_mends : GoodIn wsX7_setSelf (wsV RX7 71 RX7 yX7_mends wsX7_mends) := goodIn_app (goodIn_of _ (by decide +kernel)) ggX7_setSelf_X7_mends
theorem dX7_setSelf_0 : decode cX7_setSelf 0 = .ok (.aload_n 0, 1) := by decide +kernel
theorem dX7_setSelf_1 : decode cX7_setSelf 1 = .ok (.iconst 0, 1) := by decide +kernel
theorem dX7_setSelf_2 : decode cX7_setSelf 2 = .ok (.putfield 25, 3) := by decide +kernel
theorem dX7_setSelf_5 : decode cX7_setSelf 5 = .ok (.aload_n 0, 1) := by decide +kernel
theorem dX7_setSelf_6 : decode cX7_setSelf 6 = .ok (.invokevirtual 79, 3) := by decide +kernel
theorem dX7_setSelf_9 : decode cX7_setSelf 9 = .ok (.aload_n 0, 1) := by decide +kernel
theorem dX7_setSelf_10 : decode cX7_setSelf 10 = .ok (.getfield 7, 3) := by decide +kernel
theorem dX7_setSelf_13 : decode cX7_setSelf 13 = .ok (.iconst 3, 1) := by decide +kernel
theorem dX7_setSelf_14 : decode cX7_setSelf 14 = .ok (.iload_n 1, 1) := by decide +kernel
theorem dX7_setSelf_15 : decode cX7_setSelf 15 = .ok (.ifCond .eq 7, 3) := by decide +kernel
theorem dX7_setSelf_18 : decode cX7_setSelf 18 = .ok (.lconst 1, 1) := by decide +kernel
theorem dX7_setSelf_19 : decode cX7_setSelf 19 = .ok (.goto 4, 3) := by decide +kernel
theorem dX7_setSelf_22 : decode cX7_setSelf 22 = .ok (.lconst 0, 1) := by decide +kernel
theorem dX7_setSelf_23 : decode cX7_setSelf 23 = .ok (.lastore, 1) := by decide +kernel
theorem dX7_setSelf_24 : decode cX7_setSelf 24 = .ok (.iload_n 1, 1) := by decide +kernel
theorem dX7_setSelf_25 : decode cX7_setSelf 25 = .ok (.ifCond .eq 10, 3) := by decide +kernel
theorem dX7_setSelf_28 : decode cX7_setSelf 28 = .ok (.aload_n 0, 1) := by decide +kernel
theorem dX7_setSelf_29 : decode cX7_setSelf 29 = .ok (.invokevirtual 71, 3) := by decide +kernel
theorem dX7_setSelf_32 : decode cX7_setSelf 32 = .ok (.goto 4, 3) := by decide +kernel
theorem dX7_setSelf_35 : decode cX7_setSelf 35 = .ok (.iconst 0, 1) := by decide +kernel
theorem dX7_setSelf_36 : decode cX7_setSelf 36 = .ok (.ireturn, 1) := by decide +kernel
set_option maxRecDepth 20000 in
theorem ggX7_step_X7_saves : GoodIn wsX7_step wsX7_saves := goodIn_r _ [6, 7, 8, 9, 10, 46, 47, 48, 49, 50, 51, 52, 53, 54, 55, 56, 57, 58, 59, 60] (by decide +kernel) (by decide +kernel)
set_option maxRecDepth 20000 in
theorem gX7_step_X7_saves : GoodIn wsX7_step (wsV RX7 79 RX7 yX7_saves wsX7_saves) := goodIn_app (goodIn_of _ (by decide +kernel)) ggX7_step_X7_saves
set_option maxRecDepth 20000 in
theorem ggX7_step_X7_steps : GoodIn wsX7_step wsX7_steps := goodIn_r _ [14, 10, 15, 16, 17, 5, 18, 19, 20, 21, 22, 23, 24, 25, 26, 27, 28, 29, 30, 31, 32, 33, 34, 35, 36, 37, 38, 39, 40, 41, 42, 43, 44, 45, 46, 47, 48, 49, 50, 51, 52, 53, 54, 55, 56, 57, 58, 59, 60] (by decide +kernel) (by decide +kernel)
set_option maxRecDepth 20000 in
theorem gX7_step_X7_steps : GoodIn wsX7_step (wsV RX7 67 RX7 yX7_steps wsX7_steps) := goodIn_app (goodIn_of _ (by decide +kernel)) ggX7_step_X7_steps
theorem dX7_step_0 : decode cX7_step 0 = .ok (.aload_n 0, 1) := by decide +kernel
theorem dX7_step_1 : decode cX7_step 1 = .ok (.iconst 0, 1) := by decide +kernel
theorem dX7_step_2 : decode cX7_step 2 = .ok (.putfield 25, 3) := by decide +kernel
theorem dX7_step_5 : decode cX7_step 5 = .ok (.aload_n 0, 1) := by decide +kernel
theorem dX7_step_6 : decode cX7_step 6 = .ok (.invokevirtual 79, 3) := by decide +kernel
theorem dX7_step_9 : decode cX7_step 9 = .ok (.aload_n 0, 1) := by decide +kernel
theorem dX7_step_10 : decode cX7_step 10 = .ok (.invokevirtual 67, 3) := by decide +kernel
theorem dX7_step_13 : decode cX7_step 13 = .ok (.ireturn, 1) := by decide +kernel
set_option maxRecDepth 20000 in
theorem ggX7_mend_X7_saves : GoodIn wsX7_mend wsX7_saves := goodIn_r _ [6, 7, 8, 9, 10, 50, 51, 52, 53, 54, 55, 56, 57, 58, 59, 60, 61, 62, 63, 64] (by decide +kernel) (by decide +kernel)
set_option maxRecDepth 20000 in
theorem gX7_mend_X7_saves : GoodIn wsX7_mend (wsV RX7 79 RX7 yX7_saves wsX7_saves) := goodIn_app (goodIn_of _ (by decide +kernel)) ggX7_mend_X7_saves
set_option maxRecDepth 20000 in
theorem ggX7_mend_X7_mends : GoodIn wsX7_mend wsX7_mends := goodIn_r _ [14, 15, 16, 17, 5, 18, 10, 19, 20, 21, 22, 23, 24, 25, 26, 27, 28, 29, 30, 31, 32, 33, 34, 35, 36, 37, 38, 39, 40, 41, 42, 43, 44, 45, 46, 47, 48, 49, 50, 51, 52, 53, 54, 55, 56, 57, 58, 59, 60, 61, 62, 63, 64] (by decide +kernel) (by decide +kernel)
set_option maxRecDepth 20000 in
theorem gX7_mend_X7_mends : GoodIn wsX7_mend (wsV RX7 71 RX7 yX7_mends wsX7_mends) := goodIn_app (goodIn_of _ (by decide +kernel)) ggX7_mend_X7_mends
theorem dX7_mend_0 : decode cX7_mend 0 = .ok (.aload_n 0, 1) := by decide +kernel
theorem dX7_mend_1 : decode cX7_mend 1 = .ok (.iconst 0, 1) := by decide +kernel
theorem dX7_mend_2 : decode cX7_mend 2 = .ok (.putfield 25, 3) := by decide +kernel
theorem dX7_mend_5 : decode cX7_mend 5 = .ok (.aload_n 0, 1) := by decide +kernel
theorem dX7_mend_6 : decode cX7_mend 6 = .ok (.invokevirtual 79, 3) := by decide +kernel
theorem dX7_mend_9 : decode cX7_mend 9 = .ok (.aload_n 0, 1) := by decide +kernel
theorem dX7_mend_10 : decode cX7_mend 10 = .ok (.invokevirtual 71, 3) := by decide +kernel
theorem dX7_mend_13 : decode cX7_mend 13 = .ok (.ireturn, 1) := by decide +kernel
set_option maxRecDepth 20000 in
theorem ggX7_searches_X7_of : GoodIn wsX7_searches wsX7_of := goodIn_r _ [9, 4, 14, 15, 16, 17, 18, 19, 20, 21, 22, 23, 24, 25, 26, 27, 28] (by decide +kernel) (by decide +kernel)
set_option maxRecDepth 20000 in
theorem gX7_searches_X7_of : GoodIn wsX7_searches (wsV RX7 36 RX7 yX7_of wsX7_of) := goodIn_app (goodIn_of _ (by decide +kernel)) ggX7_searches_X7_of
set_option maxRecDepth 20000 in
theorem ggX7_searches_X7_isAhead : GoodIn wsX7_searches wsX7_isAhead := goodIn_r _ [13, 4, 14, 15, 16, 17, 18, 19, 20, 21, 22, 23, 24, 25, 26, 27, 28] (by decide +kernel) (by decide +kernel)
set_option maxRecDepth 20000 in
theorem gX7_searches_X7_isAhead : GoodIn wsX7_searches (wsV RX7 40 RX7 yX7_isAhead wsX7_isAhead) := goodIn_app (goodIn_of _ (by decide +kernel)) ggX7_searches_X7_isAhead
theorem dX7_searches_0 : decode cX7_searches 0 = .ok (.iconst 2, 1) := by decide +kernel
theorem dX7_searches_1 : decode cX7_searches 1 = .ok (.aload_n 0, 1) := by decide +kernel
theorem dX7_searches_2 : decode cX7_searches 2 = .ok (.iconst 1, 1) := by decide +kernel
theorem dX7_searches_3 : decode cX7_searches 3 = .ok (.invokevirtual 36, 3) := by decide +kernel
theorem dX7_searches_6 : decode cX7_searches 6 = .ok (.imul, 1) := by decide +kernel
theorem dX7_searches_7 : decode cX7_searches 7 = .ok (.istore_n 3, 1) := by decide +kernel
theorem dX7_searches_8 : decode cX7_searches 8 = .ok (.iconst 0, 1) := by decide +kernel
theorem dX7_searches_9 : decode cX7_searches 9 = .ok (.istore 4, 2) := by decide +kernel
theorem dX7_searches_11 : decode cX7_searches 11 = .ok (.aload_n 0, 1) := by decide +kernel
theorem dX7_searches_12 : decode cX7_searches 12 = .ok (.iconst 0, 1) := by decide +kernel
theorem dX7_searches_13 : decode cX7_searches 13 = .ok (.invokevirtual 36, 3) := by decide +kernel
theorem dX7_searches_16 : decode cX7_searches 16 = .ok (.istore 5, 2) := by decide +kernel
theorem dX7_searches_18 : decode cX7_searches 18 = .ok (.aload_n 0, 1) := by decide +kernel
theorem dX7_searches_19 : decode cX7_searches 19 = .ok (.iconst 0, 1) := by decide +kernel
theorem dX7_searches_20 : decode cX7_searches 20 = .ok (.putfield 107, 3) := by decide +kernel
theorem dX7_searches_23 : decode cX7_searches 23 = .ok (.aload_n 0, 1) := by decide +kernel
theorem dX7_searches_24 : decode cX7_searches 24 = .ok (.sipush (-1000), 3) := by decide +kernel
theorem dX7_searches_27 : decode cX7_searches 27 = .ok (.putfield 110, 3) := by decide +kernel
theorem dX7_searches_30 : decode cX7_searches 30 = .ok (.aload_n 0, 1) := by decide +kernel
theorem dX7_searches_31 : decode cX7_searches 31 = .ok (.sipush (-1000), 3) := by decide +kernel
theorem dX7_searches_34 : decode cX7_searches 34 = .ok (.putfield 113, 3) := by decide +kernel
theorem dX7_searches_37 : decode cX7_searches 37 = .ok (.iload 5, 2) := by decide +kernel
theorem dX7_searches_39 : decode cX7_searches 39 = .ok (.iload 4, 2) := by decide +kernel
theorem dX7_searches_41 : decode cX7_searches 41 = .ok (.isub, 1) := by decide +kernel
theorem dX7_searches_42 : decode cX7_searches 42 = .ok (.iconst 2, 1) := by decide +kernel
theorem dX7_searches_43 : decode cX7_searches 43 = .ok (.iload_n 3, 1) := by decide +kernel
theorem dX7_searches_44 : decode cX7_searches 44 = .ok (.imul, 1) := by decide +kernel
theorem dX7_searches_45 : decode cX7_searches 45 = .ok (.iconst 2, 1) := by decide +kernel
theorem dX7_searches_46 : decode cX7_searches 46 = .ok (.iadd, 1) := by decide +kernel
theorem dX7_searches_47 : decode cX7_searches 47 = .ok (.if_icmp .le 108, 3) := by decide +kernel
theorem dX7_searches_50 : decode cX7_searches 50 = .ok (.iload 4, 2) := by decide +kernel
theorem dX7_searches_52 : decode cX7_searches 52 = .ok (.iload 5, 2) := by decide +kernel
theorem dX7_searches_54 : decode cX7_searches 54 = .ok (.iadd, 1) := by decide +kernel
theorem dX7_searches_55 : decode cX7_searches 55 = .ok (.iconst 2, 1) := by decide +kernel
theorem dX7_searches_56 : decode cX7_searches 56 = .ok (.idiv, 1) := by decide +kernel
theorem dX7_searches_57 : decode cX7_searches 57 = .ok (.istore 6, 2) := by decide +kernel
theorem dX7_searches_59 : decode cX7_searches 59 = .ok (.aload_n 0, 1) := by decide +kernel
theorem dX7_searches_60 : decode cX7_searches 60 = .ok (.dup, 1) := by decide +kernel
theorem dX7_searches_61 : decode cX7_searches 61 = .ok (.getfield 107, 3) := by decide +kernel
theorem dX7_searches_64 : decode cX7_searches 64 = .ok (.iconst 1, 1) := by decide +kernel
theorem dX7_searches_65 : decode cX7_searches 65 = .ok (.iadd, 1) := by decide +kernel
theorem dX7_searches_66 : decode cX7_searches 66 = .ok (.putfield 107, 3) := by decide +kernel
theorem dX7_searches_69 : decode cX7_searches 69 = .ok (.aload_n 0, 1) := by decide +kernel
theorem dX7_searches_70 : decode cX7_searches 70 = .ok (.getfield 7, 3) := by decide +kernel
theorem dX7_searches_73 : decode cX7_searches 73 = .ok (.bipush 7, 2) := by decide +kernel
theorem dX7_searches_75 : decode cX7_searches 75 = .ok (.iload 6, 2) := by decide +kernel
theorem dX7_searches_77 : decode cX7_searches 77 = .ok (.iadd, 1) := by decide +kernel
theorem dX7_searches_78 : decode cX7_searches 78 = .ok (.laload, 1) := by decide +kernel
theorem dX7_searches_79 : decode cX7_searches 79 = .ok (.lload_n 1, 1) := by decide +kernel
theorem dX7_searches_80 : decode cX7_searches 80 = .ok (.lcmp, 1) := by decide +kernel
theorem dX7_searches_81 : decode cX7_searches 81 = .ok (.ifCond .ne 6, 3) := by decide +kernel
theorem dX7_searches_84 : decode cX7_searches 84 = .ok (.iload 6, 2) := by decide +kernel
theorem dX7_searches_86 : decode cX7_searches 86 = .ok (.ireturn, 1) := by decide +kernel
theorem dX7_searches_87 : decode cX7_searches 87 = .ok (.aload_n 0, 1) := by decide +kernel
theorem dX7_searches_88 : decode cX7_searches 88 = .ok (.aload_n 0, 1) := by decide +kernel
theorem dX7_searches_89 : decode cX7_searches 89 = .ok (.getfield 7, 3) := by decide +kernel
theorem dX7_searches_92 : decode cX7_searches 92 = .ok (.bipush 7, 2) := by decide +kernel
theorem dX7_searches_94 : decode cX7_searches 94 = .ok (.iload 6, 2) := by decide +kernel
theorem dX7_searches_96 : decode cX7_searches 96 = .ok (.iadd, 1) := by decide +kernel
theorem dX7_searches_97 : decode cX7_searches 97 = .ok (.laload, 1) := by decide +kernel
theorem dX7_searches_98 : decode cX7_searches 98 = .ok (.lload_n 1, 1) := by decide +kernel
theorem dX7_searches_99 : decode cX7_searches 99 = .ok (.invokevirtual 40, 3) := by decide +kernel
theorem dX7_searches_102 : decode cX7_searches 102 = .ok (.ifCond .eq 26, 3) := by decide +kernel
theorem dX7_searches_105 : decode cX7_searches 105 = .ok (.iload 6, 2) := by decide +kernel
theorem dX7_searches_107 : decode cX7_searches 107 = .ok (.iload_n 3, 1) := by decide +kernel
theorem dX7_searches_108 : decode cX7_searches 108 = .ok (.isub, 1) := by decide +kernel
theorem dX7_searches_109 : decode cX7_searches 109 = .ok (.iload 4, 2) := by decide +kernel
theorem dX7_searches_111 : decode cX7_searches 111 = .ok (.if_icmp .le 10, 3) := by decide +kernel
theorem dX7_searches_114 : decode cX7_searches 114 = .ok (.iload 6, 2) := by decide +kernel
theorem dX7_searches_116 : decode cX7_searches 116 = .ok (.iload_n 3, 1) := by decide +kernel
theorem dX7_searches_117 : decode cX7_searches 117 = .ok (.isub, 1) := by decide +kernel
theorem dX7_searches_118 : decode cX7_searches 118 = .ok (.goto 5, 3) := by decide +kernel
theorem dX7_searches_121 : decode cX7_searches 121 = .ok (.iload 4, 2) := by decide +kernel
theorem dX7_searches_123 : decode cX7_searches 123 = .ok (.istore 4, 2) := by decide +kernel
theorem dX7_searches_125 : decode cX7_searches 125 = .ok (.goto 27, 3) := by decide +kernel
theorem dX7_searches_128 : decode cX7_searches 128 = .ok (.iload 6, 2) := by decide +kernel
theorem dX7_searches_130 : decode cX7_searches 130 = .ok (.iload_n 3, 1) := by decide +kernel
theorem dX7_searches_131 : decode cX7_searches 131 = .ok (.iadd, 1) := by decide +kernel
theorem dX7_searches_132 : decode cX7_searches 132 = .ok (.iconst 1, 1) := by decide +kernel
theorem dX7_searches_133 : decode cX7_searches 133 = .ok (.iadd, 1) := by decide +kernel
theorem dX7_searches_134 : decode cX7_searches 134 = .ok (.iload 5, 2) := by decide +kernel
theorem dX7_searches_136 : decode cX7_searches 136 = .ok (.if_icmp .ge 12, 3) := by decide +kernel
theorem dX7_searches_139 : decode cX7_searches 139 = .ok (.iload 6, 2) := by decide +kernel
theorem dX7_searches_141 : decode cX7_searches 141 = .ok (.iload_n 3, 1) := by decide +kernel
theorem dX7_searches_142 : decode cX7_searches 142 = .ok (.iadd, 1) := by decide +kernel
theorem dX7_searches_143 : decode cX7_searches 143 = .ok (.iconst 1, 1) := by decide +kernel
theorem dX7_searches_144 : decode cX7_searches 144 = .ok (.iadd, 1) := by decide +kernel
theorem dX7_searches_145 : decode cX7_searches 145 = .ok (.goto 5, 3) := by decide +kernel
theorem dX7_searches_148 : decode cX7_searches 148 = .ok (.iload 5, 2) := by decide +kernel
theorem dX7_searches_150 : decode cX7_searches 150 = .ok (.istore 5, 2) := by decide +kernel
theorem dX7_searches_152 : decode cX7_searches 152 = .ok (.goto (-115), 3) := by decide +kernel
theorem dX7_searches_155 : decode cX7_searches 155 = .ok (.aload_n 0, 1) := by decide +kernel
theorem dX7_searches_156 : decode cX7_searches 156 = .ok (.iload 4, 2) := by decide +kernel
theorem dX7_searches_158 : decode cX7_searches 158 = .ok (.putfield 110, 3) := by decide +kernel
theorem dX7_searches_161 : decode cX7_searches 161 = .ok (.aload_n 0, 1) := by decide +kernel
theorem dX7_searches_162 : decode cX7_searches 162 = .ok (.iload 5, 2) := by decide +kernel
theorem dX7_searches_164 : decode cX7_searches 164 = .ok (.putfield 113, 3) := by decide +kernel
theorem dX7_searches_167 : decode cX7_searches 167 = .ok (.iload 4, 2) := by decide +kernel
theorem dX7_searches_169 : decode cX7_searches 169 = .ok (.istore 6, 2) := by decide +kernel
theorem dX7_searches_171 : decode cX7_searches 171 = .ok (.iload 6, 2) := by decide +kernel
theorem dX7_searches_173 : decode cX7_searches 173 = .ok (.iload 5, 2) := by decide +kernel
theorem dX7_searches_175 : decode cX7_searches 175 = .ok (.if_icmp .ge 37, 3) := by decide +kernel
theorem dX7_searches_178 : decode cX7_searches 178 = .ok (.aload_n 0, 1) := by decide +kernel
theorem dX7_searches_179 : decode cX7_searches 179 = .ok (.dup, 1) := by decide +kernel
theorem dX7_searches_180 : decode cX7_searches 180 = .ok (.getfield 107, 3) := by decide +kernel
theorem dX7_searches_183 : decode cX7_searches 183 = .ok (.iconst 1, 1) := by decide +kernel
theorem dX7_searches_184 : decode cX7_searches 184 = .ok (.iadd, 1) := by decide +kernel
theorem dX7_searches_185 : decode cX7_searches 185 = .ok (.putfield 107, 3) := by decide +kernel
theorem dX7_searches_188 : decode cX7_searches 188 = .ok (.aload_n 0, 1) := by decide +kernel
theorem dX7_searches_189 : decode cX7_searches 189 = .ok (.getfield 7, 3) := by decide +kernel
theorem dX7_searches_192 : decode cX7_searches 192 = .ok (.bipush 7, 2) := by decide +kernel
theorem dX7_searches_194 : decode cX7_searches 194 = .ok (.iload 6, 2) := by decide +kernel
theorem dX7_searches_196 : decode cX7_searches 196 = .ok (.iadd, 1) := by decide +kernel
theorem dX7_searches_197 : decode cX7_searches 197 = .ok (.laload, 1) := by decide +kernel
theorem dX7_searches_198 : decode cX7_searches 198 = .ok (.lload_n 1, 1) := by decide +kernel
theorem dX7_searches_199 : decode cX7_searches 199 = .ok (.lcmp, 1) := by decide +kernel
theorem dX7_searches_200 : decode cX7_searches 200 = .ok (.ifCond .ne 6, 3) := by decide +kernel
theorem dX7_searches_203 : decode cX7_searches 203 = .ok (.iload 6, 2) := by decide +kernel
theorem dX7_searches_205 : decode cX7_searches 205 = .ok (.ireturn, 1) := by decide +kernel
theorem dX7_searches_206 : decode cX7_searches 206 = .ok (.iinc 6 1, 3) := by decide +kernel
theorem dX7_searches_209 : decode cX7_searches 209 = .ok (.goto (-38), 3) := by decide +kernel
theorem dX7_searches_212 : decode cX7_searches 212 = .ok (.sipush (-1000), 3) := by decide +kernel
theorem dX7_searches_215 : decode cX7_searches 215 = .ok (.ireturn, 1) := by decide +kernel
set_option maxRecDepth 20000 in
theorem ggX7_search_X7_saves : GoodIn wsX7_search wsX7_saves := goodIn_r _ [8, 9, 10, 11, 2, 26, 27, 28, 29, 30, 31, 32, 33, 34, 35, 36, 37, 38, 39, 40] (by decide +kernel) (by decide +kernel)
set_option maxRecDepth 20000 in
theorem gX7_search_X7_saves : GoodIn wsX7_search (wsV RX7 79 RX7 yX7_saves wsX7_saves) := goodIn_app (goodIn_of _ (by decide +kernel)) ggX7_search_X7_saves
set_option maxRecDepth 20000 in
theorem ggX7_search_X7_searches : GoodIn wsX7_search wsX7_searches := goodIn_r _ [15, 3, 16, 17, 2, 18, 19, 20, 7, 21, 22, 23, 24, 25, 26, 27, 28, 29, 30, 31, 32, 33, 34, 35, 36, 37, 38, 39, 40] (by decide +kernel) (by decide +kernel)
set_option maxRecDepth 20000 in
theorem gX7_search_X7_searches : GoodIn wsX7_search (wsV RX7 116 RX7 yX7_searches wsX7_searches) := goodIn_app (goodIn_of _ (by decide +kernel)) ggX7_search_X7_searches
theorem dX7_search_0 : decode cX7_search 0 = .ok (.aload_n 0, 1) := by decide +kernel
theorem dX7_search_1 : decode cX7_search 1 = .ok (.iconst 0, 1) := by decide +kernel
theorem dX7_search_2 : decode cX7_search 2 = .ok (.putfield 25, 3) := by decide +kernel
theorem dX7_search_5 : decode cX7_search 5 = .ok (.aload_n 0, 1) := by decide +kernel
theorem dX7_search_6 : decode cX7_search 6 = .ok (.invokevirtual 79, 3) := by decide +kernel
theorem dX7_search_9 : decode cX7_search 9 = .ok (.aload_n 0, 1) := by decide +kernel
theorem dX7_search_10 : decode cX7_search 10 = .ok (.lload_n 1, 1) := by decide +kernel
theorem dX7_search_11 : decode cX7_search 11 = .ok (.invokevirtual 116, 3) := by decide +kernel
theorem dX7_search_14 : decode cX7_search 14 = .ok (.istore_n 3, 1) := by decide +kernel
theorem dX7_search_15 : decode cX7_search 15 = .ok (.aload_n 0, 1) := by decide +kernel
theorem dX7_search_16 : decode cX7_search 16 = .ok (.getfield 7, 3) := by decide +kernel
theorem dX7_search_19 : decode cX7_search 19 = .ok (.iconst 5, 1) := by decide +kernel
theorem dX7_search_20 : decode cX7_search 20 = .ok (.dup2, 1) := by decide +kernel
theorem dX7_search_21 : decode cX7_search 21 = .ok (.laload, 1) := by decide +kernel
theorem dX7_search_22 : decode cX7_search 22 = .ok (.aload_n 0, 1) := by decide +kernel
theorem dX7_search_23 : decode cX7_search 23 = .ok (.getfield 107, 3) := by decide +kernel
theorem dX7_search_26 : decode cX7_search 26 = .ok (.i2l, 1) := by decide +kernel
theorem dX7_search_27 : decode cX7_search 27 = .ok (.ladd, 1) := by decide +kernel
theorem dX7_search_28 : decode cX7_search 28 = .ok (.lastore, 1) := by decide +kernel
theorem dX7_search_29 : decode cX7_search 29 = .ok (.iload_n 3, 1) := by decide +kernel
theorem dX7_search_30 : decode cX7_search 30 = .ok (.ireturn, 1) := by decide +kernel
set_option maxRecDepth 20000 in
theorem ggX7_at_X7_isPlace : GoodIn wsX7_at wsX7_isPlace := goodIn_r _ [6, 1, 12, 13, 14, 15, 16, 17, 18, 19, 20, 21, 22, 23, 24, 25, 26] (by decide +kernel) (by decide +kernel)
set_option maxRecDepth 20000 in
theorem gX7_at_X7_isPlace : GoodIn wsX7_at (wsV RX7 93 RX7 yX7_isPlace wsX7_isPlace) := goodIn_app (goodIn_of _ (by decide +kernel)) ggX7_at_X7_isPlace
set_option maxRecDepth 20000 in
theorem ggX7_at_X7_throwsAt : GoodIn wsX7_at wsX7_throwsAt := goodIn_r _ [10, 11, 12, 13, 14, 15, 16, 17, 18, 19, 20, 21, 22, 23, 24, 25, 26] (by decide +kernel) (by decide +kernel)
set_option maxRecDepth 20000 in
theorem gX7_at_X7_throwsAt : GoodIn wsX7_at (wsV RX7 76 RX7 yX7_throwsAt wsX7_throwsAt) := goodIn_app (goodIn_of _ (by decide +kernel)) ggX7_at_X7_throwsAt
theorem dX7_at_0 : decode cX7_at 0 = .ok (.aload_n 0, 1) := by decide +kernel
theorem dX7_at_1 : decode cX7_at 1 = .ok (.aload_n 0, 1) := by decide +kernel
theorem dX7_at_2 : decode cX7_at 2 = .ok (.iload_n 1, 1) := by decide +kernel
theorem dX7_at_3 : decode cX7_at 3 = .ok (.invokevirtual 93, 3) := by decide +kernel
theorem dX7_at_6 : decode cX7_at 6 = .ok (.ifCond .eq 7, 3) := by decide +kernel
theorem dX7_at_9 : decode cX7_at 9 = .ok (.iconst 0, 1) := by decide +kernel
theorem dX7_at_10 : decode cX7_at 10 = .ok (.goto 4, 3) := by decide +kernel
theorem dX7_at_13 : decode cX7_at 13 = .ok (.iconst 1, 1) := by decide +kernel
theorem dX7_at_14 : decode cX7_at 14 = .ok (.invokevirtual 76, 3) := by decide +kernel
theorem dX7_at_17 : decode cX7_at 17 = .ok (.ifCond .eq 7, 3) := by decide +kernel
theorem dX7_at_20 : decode cX7_at 20 = .ok (.lconst 0, 1) := by decide +kernel
theorem dX7_at_21 : decode cX7_at 21 = .ok (.goto 12, 3) := by decide +kernel
theorem dX7_at_24 : decode cX7_at 24 = .ok (.aload_n 0, 1) := by decide +kernel
theorem dX7_at_25 : decode cX7_at 25 = .ok (.getfield 7, 3) := by decide +kernel
theorem dX7_at_28 : decode cX7_at 28 = .ok (.bipush 7, 2) := by decide +kernel
theorem dX7_at_30 : decode cX7_at 30 = .ok (.iload_n 1, 1) := by decide +kernel
theorem dX7_at_31 : decode cX7_at 31 = .ok (.iadd, 1) := by decide +kernel
theorem dX7_at_32 : decode cX7_at 32 = .ok (.laload, 1) := by decide +kernel
theorem dX7_at_33 : decode cX7_at 33 = .ok (.lreturn, 1) := by decide +kernel
set_option maxRecDepth 20000 in
theorem ggX7_elementOf_X7_of : GoodIn wsX7_elementOf wsX7_of := goodIn_r _ [5, 6, 34, 35, 36, 37, 38, 39, 40, 41, 42, 43, 44, 45, 46, 47, 48] (by decide +kernel) (by decide +kernel)
set_option maxRecDepth 20000 in
theorem gX7_elementOf_X7_of : GoodIn wsX7_elementOf (wsV RX7 36 RX7 yX7_of wsX7_of) := goodIn_app (goodIn_of _ (by decide +kernel)) ggX7_elementOf_X7_of
set_option maxRecDepth 20000 in
theorem ggX7_elementOf_X7_rank : GoodIn wsX7_elementOf wsX7_rank := goodIn_r _ [10, 6, 1, 2, 3, 4, 5, 11, 12, 13, 14, 34, 35, 36, 37, 38, 39, 40, 41, 42, 43, 44, 45, 46, 47, 48] (by decide +kernel) (by decide +kernel)
set_option maxRecDepth 20000 in
theorem gX7_elementOf_X7_rank : GoodIn wsX7_elementOf (wsV RX7 44 RX7 yX7_rank wsX7_rank) := goodIn_app (goodIn_of _ (by decide +kernel)) ggX7_elementOf_X7_rank
set_option maxRecDepth 20000 in
theorem ggX7_elementOf_X7_distance : GoodIn wsX7_elementOf wsX7_distance := goodIn_r _ [18, 7, 8, 9, 4, 10, 6, 1, 2, 3, 5, 11, 12, 13, 14, 34, 35, 36, 37, 38, 39, 40, 41, 42, 43, 44, 45, 46, 47, 48] (by decide +kernel) (by decide +kernel)
set_option maxRecDepth 20000 in
theorem gX7_elementOf_X7_distance : GoodIn wsX7_elementOf (wsV RX7 47 RX7 yX7_distance wsX7_distance) := goodIn_app (goodIn_of _ (by decide +kernel)) ggX7_elementOf_X7_distance
set_option maxRecDepth 20000 in
theorem ggX7_elementOf_X7_isBroken : GoodIn wsX7_elementOf wsX7_isBroken := goodIn_r _ [22, 6, 15, 16, 17, 4, 18, 7, 8, 9, 10, 1, 2, 3, 5, 11, 12, 13, 14, 23, 24, 25, 34, 35, 36, 37, 38, 39, 40, 41, 42, 43, 44, 45, 46, 47, 48] (by decide +kernel) (by decide +kernel)
set_option maxRecDepth 20000 in
theorem gX7_elementOf_X7_isBroken : GoodIn wsX7_elementOf (wsV RX7 53 RX7 yX7_isBroken wsX7_isBroken) := goodIn_app (goodIn_of _ (by decide +kernel)) ggX7_elementOf_X7_isBroken
set_option maxRecDepth 20000 in
theorem ggX7_elementOf_X7_isFall : GoodIn wsX7_elementOf wsX7_isFall := goodIn_r _ [29, 6, 11, 12, 13, 4, 14, 34, 35, 36, 37, 38, 39, 40, 41, 42, 43, 44, 45, 46, 47, 48] (by decide +kernel) (by decide +kernel)
set_option maxRecDepth 20000 in
theorem gX7_elementOf_X7_isFall : GoodIn wsX7_elementOf (wsV RX7 60 RX7 yX7_isFall wsX7_isFall) := goodIn_app (goodIn_of _ (by decide +kernel)) ggX7_elementOf_X7_isFall
set_option maxRecDepth 20000 in
theorem ggX7_elementOf_X7_inversionsOf : GoodIn wsX7_elementOf wsX7_inversionsOf := goodIn_r _ [33, 6, 1, 2, 3, 4, 5, 11, 12, 13, 14, 34, 35, 36, 37, 38, 39, 40, 41, 42, 43, 44, 45, 46, 47, 48] (by decide +kernel) (by decide +kernel)
set_option maxRecDepth 20000 in
theorem gX7_elementOf_X7_inversionsOf : GoodIn wsX7_elementOf (wsV RX7 57 RX7 yX7_inversionsOf wsX7_inversionsOf) := goodIn_app (goodIn_of _ (by decide +kernel)) ggX7_elementOf_X7_inversionsOf
theorem dX7_elementOf_0 : decode cX7_elementOf 0 = .ok (.iload_n 2, 1) := by decide +kernel
theorem dX7_elementOf_1 : decode cX7_elementOf 1 = .ok (.tableswitch 84 0 4 #[35, 44, 50, 56, 70], 35) := by decide +kernel
theorem dX7_elementOf_36 : decode cX7_elementOf 36 = .ok (.aload_n 0, 1) := by decide +kernel
theorem dX7_elementOf_37 : decode cX7_elementOf 37 = .ok (.bipush 39, 2) := by decide +kernel
theorem dX7_elementOf_39 : decode cX7_elementOf 39 = .ok (.iload_n 1, 1) := by decide +kernel
theorem dX7_elementOf_40 : decode cX7_elementOf 40 = .ok (.iadd, 1) := by decide +kernel
theorem dX7_elementOf_41 : decode cX7_elementOf 41 = .ok (.invokevirtual 36, 3) := by decide +kernel
theorem dX7_elementOf_44 : decode cX7_elementOf 44 = .ok (.ireturn, 1) := by decide +kernel
theorem dX7_elementOf_45 : decode cX7_elementOf 45 = .ok (.aload_n 0, 1) := by decide +kernel
theorem dX7_elementOf_46 : decode cX7_elementOf 46 = .ok (.iload_n 1, 1) := by decide +kernel
theorem dX7_elementOf_47 : decode cX7_elementOf 47 = .ok (.invokevirtual 44, 3) := by decide +kernel
theorem dX7_elementOf_50 : decode cX7_elementOf 50 = .ok (.ireturn, 1) := by decide +kernel
theorem dX7_elementOf_51 : decode cX7_elementOf 51 = .ok (.aload_n 0, 1) := by decide +kernel
theorem dX7_elementOf_52 : decode cX7_elementOf 52 = .ok (.iload_n 1, 1) := by decide +kernel
theorem dX7_elementOf_53 : decode cX7_elementOf 53 = .ok (.invokevirtual 47, 3) := by decide +kernel
theorem dX7_elementOf_56 : decode cX7_elementOf 56 = .ok (.ireturn, 1) := by decide +kernel
theorem dX7_elementOf_57 : decode cX7_elementOf 57 = .ok (.aload_n 0, 1) := by decide +kernel
theorem dX7_elementOf_58 : decode cX7_elementOf 58 = .ok (.iload_n 1, 1) := by decide +kernel
theorem dX7_elementOf_59 : decode cX7_elementOf 59 = .ok (.invokevirtual 53, 3) := by decide +kernel
theorem dX7_elementOf_62 : decode cX7_elementOf 62 = .ok (.ifCond .eq 7, 3) := by decide +kernel
theorem dX7_elementOf_65 : decode cX7_elementOf 65 = .ok (.iconst 1, 1) := by decide +kernel
theorem dX7_elementOf_66 : decode cX7_elementOf 66 = .ok (.goto 4, 3) := by decide +kernel
theorem dX7_elementOf_69 : decode cX7_elementOf 69 = .ok (.iconst 0, 1) := by decide +kernel
theorem dX7_elementOf_70 : decode cX7_elementOf 70 = .ok (.ireturn, 1) := by decide +kernel
theorem dX7_elementOf_71 : decode cX7_elementOf 71 = .ok (.aload_n 0, 1) := by decide +kernel
theorem dX7_elementOf_72 : decode cX7_elementOf 72 = .ok (.iload_n 1, 1) := by decide +kernel
theorem dX7_elementOf_73 : decode cX7_elementOf 73 = .ok (.invokevirtual 60, 3) := by decide +kernel
theorem dX7_elementOf_76 : decode cX7_elementOf 76 = .ok (.ifCond .eq 7, 3) := by decide +kernel
theorem dX7_elementOf_79 : decode cX7_elementOf 79 = .ok (.iconst 1, 1) := by decide +kernel
theorem dX7_elementOf_80 : decode cX7_elementOf 80 = .ok (.goto 4, 3) := by decide +kernel
theorem dX7_elementOf_83 : decode cX7_elementOf 83 = .ok (.iconst 0, 1) := by decide +kernel
theorem dX7_elementOf_84 : decode cX7_elementOf 84 = .ok (.ireturn, 1) := by decide +kernel
theorem dX7_elementOf_85 : decode cX7_elementOf 85 = .ok (.aload_n 0, 1) := by decide +kernel
theorem dX7_elementOf_86 : decode cX7_elementOf 86 = .ok (.iload_n 1, 1) := by decide +kernel
theorem dX7_elementOf_87 : decode cX7_elementOf 87 = .ok (.invokevirtual 57, 3) := by decide +kernel
theorem dX7_elementOf_90 : decode cX7_elementOf 90 = .ok (.ireturn, 1) := by decide +kernel
set_option maxRecDepth 20000 in
theorem ggX7_element_X7_isPlace : GoodIn wsX7_element wsX7_isPlace := goodIn_r _ [6, 7, 51, 52, 53, 54, 55, 56, 57, 58, 59, 60, 61, 62, 63, 64, 65] (by decide +kernel) (by decide +kernel)
set_option maxRecDepth 20000 in
theorem gX7_element_X7_isPlace : GoodIn wsX7_element (wsV RX7 93 RX7 yX7_isPlace wsX7_isPlace) := goodIn_app (goodIn_of _ (by decide +kernel)) ggX7_element_X7_isPlace
set_option maxRecDepth 20000 in
theorem ggX7_element_X7_in : GoodIn wsX7_element wsX7_in := goodIn_r _ [10] (by decide +kernel) (by decide +kernel)
set_option maxRecDepth 20000 in
theorem gX7_element_X7_in : GoodIn wsX7_element (va_wsS RX7 89 yX7_in wsX7_in) := goodIn_app (goodIn_of _ (by decide +kernel)) ggX7_element_X7_in
set_option maxRecDepth 20000 in
theorem ggX7_element_X7_throwsAt : GoodIn wsX7_element wsX7_throwsAt := goodIn_r _ [14, 15, 51, 52, 53, 54, 55, 56, 57, 58, 59, 60, 61, 62, 63, 64, 65] (by decide +kernel) (by decide +kernel)
set_option maxRecDepth 20000 in
theorem gX7_element_X7_throwsAt : GoodIn wsX7_element (wsV RX7 76 RX7 yX7_throwsAt wsX7_throwsAt) := goodIn_app (goodIn_of _ (by decide +kernel)) ggX7_element_X7_throwsAt
set_option maxRecDepth 20000 in
theorem ggX7_element_X7_elementOf : GoodIn wsX7_element wsX7_elementOf := goodIn_r _ [19, 20, 21, 22, 5, 23, 7, 24, 25, 26, 27, 28, 29, 30, 31, 32, 33, 34, 35, 36, 37, 38, 39, 40, 41, 42, 43, 44, 45, 46, 47, 48, 49, 50, 51, 52, 53, 54, 55, 56, 57, 58, 59, 60, 61, 62, 63, 64, 65] (by decide +kernel) (by decide +kernel)
set_option maxRecDepth 20000 in
theorem gX7_element_X7_elementOf : GoodIn wsX7_element (wsV RX7 122 RX7 yX7_elementOf wsX7_elementOf) := goodIn_app (goodIn_of _ (by decide +kernel)) ggX7_element_X7_elementOf
theorem dX7_element_0 : decode cX7_element 0 = .ok (.aload_n 0, 1) := by decide +kernel
theorem dX7_element_1 : decode cX7_element 1 = .ok (.aload_n 0, 1) := by decide +kernel
theorem dX7_element_2 : decode cX7_element 2 = .ok (.iload_n 1, 1) := by decide +kernel
theorem dX7_element_3 : decode cX7_element 3 = .ok (.invokevirtual 93, 3) := by decide +kernel
theorem dX7_element_6 : decode cX7_element 6 = .ok (.ifCond .ne 7, 3) := by decide +kernel
theorem dX7_element_9 : decode cX7_element 9 = .ok (.iconst 1, 1) := by decide +kernel
theorem dX7_element_10 : decode cX7_element 10 = .ok (.goto 20, 3) := by decide +kernel
theorem dX7_element_13 : decode cX7_element 13 = .ok (.iload_n 2, 1) := by decide +kernel
theorem dX7_element_14 : decode cX7_element 14 = .ok (.i2l, 1) := by decide +kernel
theorem dX7_element_15 : decode cX7_element 15 = .ok (.lconst 0, 1) := by decide +kernel
theorem dX7_element_16 : decode cX7_element 16 = .ok (.ldc2_w 120, 3) := by decide +kernel
theorem dX7_element_19 : decode cX7_element 19 = .ok (.invokestatic 89, 3) := by decide +kernel
theorem dX7_element_22 : decode cX7_element 22 = .ok (.ifCond .eq 7, 3) := by decide +kernel
theorem dX7_element_25 : decode cX7_element 25 = .ok (.iconst 0, 1) := by decide +kernel
theorem dX7_element_26 : decode cX7_element 26 = .ok (.goto 4, 3) := by decide +kernel
theorem dX7_element_29 : decode cX7_element 29 = .ok (.iconst 2, 1) := by decide +kernel
theorem dX7_element_30 : decode cX7_element 30 = .ok (.invokevirtual 76, 3) := by decide +kernel
theorem dX7_element_33 : decode cX7_element 33 = .ok (.ifCond .eq 7, 3) := by decide +kernel
theorem dX7_element_36 : decode cX7_element 36 = .ok (.iconst 0, 1) := by decide +kernel
theorem dX7_element_37 : decode cX7_element 37 = .ok (.goto 9, 3) := by decide +kernel
theorem dX7_element_40 : decode cX7_element 40 = .ok (.aload_n 0, 1) := by decide +kernel
theorem dX7_element_41 : decode cX7_element 41 = .ok (.iload_n 1, 1) := by decide +kernel
theorem dX7_element_42 : decode cX7_element 42 = .ok (.iload_n 2, 1) := by decide +kernel
theorem dX7_element_43 : decode cX7_element 43 = .ok (.invokevirtual 122, 3) := by decide +kernel
theorem dX7_element_46 : decode cX7_element 46 = .ok (.ireturn, 1) := by decide +kernel
set_option maxRecDepth 20000 in
theorem ggX7_ranked_X7_isPlace : GoodIn wsX7_ranked wsX7_isPlace := goodIn_r _ [6, 1, 24, 25, 26, 27, 28, 29, 30, 31, 32, 33, 34, 35, 36, 37, 38] (by decide +kernel) (by decide +kernel)
set_option maxRecDepth 20000 in
theorem gX7_ranked_X7_isPlace : GoodIn wsX7_ranked (wsV RX7 93 RX7 yX7_isPlace wsX7_isPlace) := goodIn_app (goodIn_of _ (by decide +kernel)) ggX7_ranked_X7_isPlace
set_option maxRecDepth 20000 in
theorem ggX7_ranked_X7_throwsAt : GoodIn wsX7_ranked wsX7_throwsAt := goodIn_r _ [10, 11, 24, 25, 26, 27, 28, 29, 30, 31, 32, 33, 34, 35, 36, 37, 38] (by decide +kernel) (by decide +kernel)
set_option maxRecDepth 20000 in
theorem gX7_ranked_X7_throwsAt : GoodIn wsX7_ranked (wsV RX7 76 RX7 yX7_throwsAt wsX7_throwsAt) := goodIn_app (goodIn_of _ (by decide +kernel)) ggX7_ranked_X7_throwsAt
set_option maxRecDepth 20000 in
theorem ggX7_ranked_X7_of : GoodIn wsX7_ranked wsX7_of := goodIn_r _ [15, 1, 24, 25, 26, 27, 28, 29, 30, 31, 32, 33, 34, 35, 36, 37, 38] (by decide +kernel) (by decide +kernel)
set_option maxRecDepth 20000 in
theorem gX7_ranked_X7_of : GoodIn wsX7_ranked (wsV RX7 36 RX7 yX7_of wsX7_of) := goodIn_app (goodIn_of _ (by decide +kernel)) ggX7_ranked_X7_of
set_option maxRecDepth 20000 in
theorem ggX7_ranked_X7_rank : GoodIn wsX7_ranked wsX7_rank := goodIn_r _ [19, 1, 12, 13, 14, 5, 15, 20, 21, 22, 23, 24, 25, 26, 27, 28, 29, 30, 31, 32, 33, 34, 35, 36, 37, 38] (by decide +kernel) (by decide +kernel)
set_option maxRecDepth 20000 in
theorem gX7_ranked_X7_rank : GoodIn wsX7_ranked (wsV RX7 44 RX7 yX7_rank wsX7_rank) := goodIn_app (goodIn_of _ (by decide +kernel)) ggX7_ranked_X7_rank
theorem dX7_ranked_0 : decode cX7_ranked 0 = .ok (.aload_n 0, 1) := by decide +kernel
theorem dX7_ranked_1 : decode cX7_ranked 1 = .ok (.aload_n 0, 1) := by decide +kernel
theorem dX7_ranked_2 : decode cX7_ranked 2 = .ok (.iload_n 1, 1) := by decide +kernel
theorem dX7_ranked_3 : decode cX7_ranked 3 = .ok (.invokevirtual 93, 3) := by decide +kernel
theorem dX7_ranked_6 : decode cX7_ranked 6 = .ok (.ifCond .eq 7, 3) := by decide +kernel
theorem dX7_ranked_9 : decode cX7_ranked 9 = .ok (.iconst 0, 1) := by decide +kernel
theorem dX7_ranked_10 : decode cX7_ranked 10 = .ok (.goto 4, 3) := by decide +kernel
theorem dX7_ranked_13 : decode cX7_ranked 13 = .ok (.iconst 1, 1) := by decide +kernel
theorem dX7_ranked_14 : decode cX7_ranked 14 = .ok (.invokevirtual 76, 3) := by decide +kernel
theorem dX7_ranked_17 : decode cX7_ranked 17 = .ok (.ifCond .eq 5, 3) := by decide +kernel
theorem dX7_ranked_20 : decode cX7_ranked 20 = .ok (.lconst 0, 1) := by decide +kernel
theorem dX7_ranked_21 : decode cX7_ranked 21 = .ok (.lreturn, 1) := by decide +kernel
theorem dX7_ranked_22 : decode cX7_ranked 22 = .ok (.lconst 0, 1) := by decide +kernel
theorem dX7_ranked_23 : decode cX7_ranked 23 = .ok (.lstore_n 2, 1) := by decide +kernel
theorem dX7_ranked_24 : decode cX7_ranked 24 = .ok (.iconst 0, 1) := by decide +kernel
theorem dX7_ranked_25 : decode cX7_ranked 25 = .ok (.istore 4, 2) := by decide +kernel
theorem dX7_ranked_27 : decode cX7_ranked 27 = .ok (.iload 4, 2) := by decide +kernel
theorem dX7_ranked_29 : decode cX7_ranked 29 = .ok (.aload_n 0, 1) := by decide +kernel
theorem dX7_ranked_30 : decode cX7_ranked 30 = .ok (.iconst 0, 1) := by decide +kernel
theorem dX7_ranked_31 : decode cX7_ranked 31 = .ok (.invokevirtual 36, 3) := by decide +kernel
theorem dX7_ranked_34 : decode cX7_ranked 34 = .ok (.if_icmp .ge 34, 3) := by decide +kernel
theorem dX7_ranked_37 : decode cX7_ranked 37 = .ok (.aload_n 0, 1) := by decide +kernel
theorem dX7_ranked_38 : decode cX7_ranked 38 = .ok (.iload 4, 2) := by decide +kernel
theorem dX7_ranked_40 : decode cX7_ranked 40 = .ok (.invokevirtual 44, 3) := by decide +kernel
theorem dX7_ranked_43 : decode cX7_ranked 43 = .ok (.iload_n 1, 1) := by decide +kernel
theorem dX7_ranked_44 : decode cX7_ranked 44 = .ok (.if_icmp .ne 16, 3) := by decide +kernel
theorem dX7_ranked_47 : decode cX7_ranked 47 = .ok (.aload_n 0, 1) := by decide +kernel
theorem dX7_ranked_48 : decode cX7_ranked 48 = .ok (.getfield 7, 3) := by decide +kernel
theorem dX7_ranked_51 : decode cX7_ranked 51 = .ok (.bipush 7, 2) := by decide +kernel
theorem dX7_ranked_53 : decode cX7_ranked 53 = .ok (.iload 4, 2) := by decide +kernel
theorem dX7_ranked_55 : decode cX7_ranked 55 = .ok (.iadd, 1) := by decide +kernel
theorem dX7_ranked_56 : decode cX7_ranked 56 = .ok (.laload, 1) := by decide +kernel
theorem dX7_ranked_57 : decode cX7_ranked 57 = .ok (.goto 4, 3) := by decide +kernel
theorem dX7_ranked_60 : decode cX7_ranked 60 = .ok (.lload_n 2, 1) := by decide +kernel
theorem dX7_ranked_61 : decode cX7_ranked 61 = .ok (.lstore_n 2, 1) := by decide +kernel
theorem dX7_ranked_62 : decode cX7_ranked 62 = .ok (.iinc 4 1, 3) := by decide +kernel
theorem dX7_ranked_65 : decode cX7_ranked 65 = .ok (.goto (-38), 3) := by decide +kernel
theorem dX7_ranked_68 : decode cX7_ranked 68 = .ok (.lload_n 2, 1) := by decide +kernel
theorem dX7_ranked_69 : decode cX7_ranked 69 = .ok (.lreturn, 1) := by decide +kernel
set_option maxRecDepth 20000 in
theorem ggX7_brokenSet_X7_of : GoodIn wsX7_brokenSet wsX7_of := goodIn_r _ [5, 6, 26, 27, 28, 29, 30, 31, 32, 33, 34, 35, 36, 37, 38, 39, 40] (by decide +kernel) (by decide +kernel)
set_option maxRecDepth 20000 in
theorem gX7_brokenSet_X7_of : GoodIn wsX7_brokenSet (wsV RX7 36 RX7 yX7_of wsX7_of) := goodIn_app (goodIn_of _ (by decide +kernel)) ggX7_brokenSet_X7_of
set_option maxRecDepth 20000 in
theorem ggX7_brokenSet_X7_isBroken : GoodIn wsX7_brokenSet wsX7_isBroken := goodIn_r _ [10, 6, 11, 12, 13, 4, 14, 15, 16, 17, 18, 1, 2, 3, 5, 19, 20, 21, 22, 23, 24, 25, 26, 27, 28, 29, 30, 31, 32, 33, 34, 35, 36, 37, 38, 39, 40] (by decide +kernel) (by decide +kernel)
set_option maxRecDepth 20000 in
theorem gX7_brokenSet_X7_isBroken : GoodIn wsX7_brokenSet (wsV RX7 53 RX7 yX7_isBroken wsX7_isBroken) := goodIn_app (goodIn_of _ (by decide +kernel)) ggX7_brokenSet_X7_isBroken
theorem dX7_brokenSet_0 : decode cX7_brokenSet 0 = .ok (.lconst 0, 1) := by decide +kernel
theorem dX7_brokenSet_1 : decode cX7_brokenSet 1 = .ok (.lstore_n 1, 1) := by decide +kernel
theorem dX7_brokenSet_2 : decode cX7_brokenSet 2 = .ok (.iconst 0, 1) := by decide +kernel
theorem dX7_brokenSet_3 : decode cX7_brokenSet 3 = .ok (.istore_n 3, 1) := by decide +kernel
theorem dX7_brokenSet_4 : decode cX7_brokenSet 4 = .ok (.iload_n 3, 1) := by decide +kernel
theorem dX7_brokenSet_5 : decode cX7_brokenSet 5 = .ok (.aload_n 0, 1) := by decide +kernel
theorem dX7_brokenSet_6 : decode cX7_brokenSet 6 = .ok (.iconst 0, 1) := by decide +kernel
theorem dX7_brokenSet_7 : decode cX7_brokenSet 7 = .ok (.invokevirtual 36, 3) := by decide +kernel
theorem dX7_brokenSet_10 : decode cX7_brokenSet 10 = .ok (.if_icmp .ge 27, 3) := by decide +kernel
theorem dX7_brokenSet_13 : decode cX7_brokenSet 13 = .ok (.lload_n 1, 1) := by decide +kernel
theorem dX7_brokenSet_14 : decode cX7_brokenSet 14 = .ok (.aload_n 0, 1) := by decide +kernel
theorem dX7_brokenSet_15 : decode cX7_brokenSet 15 = .ok (.iload_n 3, 1) := by decide +kernel
theorem dX7_brokenSet_16 : decode cX7_brokenSet 16 = .ok (.invokevirtual 53, 3) := by decide +kernel
theorem dX7_brokenSet_19 : decode cX7_brokenSet 19 = .ok (.ifCond .eq 9, 3) := by decide +kernel
theorem dX7_brokenSet_22 : decode cX7_brokenSet 22 = .ok (.lconst 1, 1) := by decide +kernel
theorem dX7_brokenSet_23 : decode cX7_brokenSet 23 = .ok (.iload_n 3, 1) := by decide +kernel
theorem dX7_brokenSet_24 : decode cX7_brokenSet 24 = .ok (.lshl, 1) := by decide +kernel
theorem dX7_brokenSet_25 : decode cX7_brokenSet 25 = .ok (.goto 4, 3) := by decide +kernel
theorem dX7_brokenSet_28 : decode cX7_brokenSet 28 = .ok (.lconst 0, 1) := by decide +kernel
theorem dX7_brokenSet_29 : decode cX7_brokenSet 29 = .ok (.lor, 1) := by decide +kernel
theorem dX7_brokenSet_30 : decode cX7_brokenSet 30 = .ok (.lstore_n 1, 1) := by decide +kernel
theorem dX7_brokenSet_31 : decode cX7_brokenSet 31 = .ok (.iinc 3 1, 3) := by decide +kernel
theorem dX7_brokenSet_34 : decode cX7_brokenSet 34 = .ok (.goto (-30), 3) := by decide +kernel
theorem dX7_brokenSet_37 : decode cX7_brokenSet 37 = .ok (.lload_n 1, 1) := by decide +kernel
theorem dX7_brokenSet_38 : decode cX7_brokenSet 38 = .ok (.lreturn, 1) := by decide +kernel
set_option maxRecDepth 20000 in
theorem ggX7_broken_X7_brokenSet : GoodIn wsX7_broken wsX7_brokenSet := goodIn_r _ [6, 7, 8, 9, 5, 10, 11, 12, 13, 14, 15, 16, 17, 18, 19, 20, 21, 22, 23, 24, 25, 26, 27, 28, 29, 30, 31, 32, 33, 34, 35, 36, 37, 38, 39, 40, 41, 42, 43, 44, 45] (by decide +kernel) (by decide +kernel)
set_option maxRecDepth 20000 in
theorem gX7_broken_X7_brokenSet : GoodIn wsX7_broken (wsV RX7 126 RX7 yX7_brokenSet wsX7_brokenSet) := goodIn_app (goodIn_of _ (by decide +kernel)) ggX7_broken_X7_brokenSet
theorem dX7_broken_0 : decode cX7_broken 0 = .ok (.aload_n 0, 1) := by decide +kernel
theorem dX7_broken_1 : decode cX7_broken 1 = .ok (.iconst 0, 1) := by decide +kernel
theorem dX7_broken_2 : decode cX7_broken 2 = .ok (.putfield 25, 3) := by decide +kernel
theorem dX7_broken_5 : decode cX7_broken 5 = .ok (.aload_n 0, 1) := by decide +kernel
theorem dX7_broken_6 : decode cX7_broken 6 = .ok (.invokevirtual 126, 3) := by decide +kernel
theorem dX7_broken_9 : decode cX7_broken 9 = .ok (.lreturn, 1) := by decide +kernel
