set_option maxRecDepth 20000 in
theorem ggX7_falls_X7_of : GoodIn wsX7_falls wsX7_of := goodIn_r _ [5, 6, 15, 16, 17, 18, 19, 20, 21, 22, 23, 24, 25, 26, 27, 28, 29] (by decide +kernel) (by decide +kernel)
set_option maxRecDepth 20000 in
theorem gX7_falls_X7_of : GoodIn wsX7_falls (wsV RX7 36 RX7 yX7_of wsX7_of) := goodIn_app (goodIn_of _ (by decide +kernel)) ggX7_falls_X7_of
set_option maxRecDepth 20000 in
theorem ggX7_falls_X7_isFall : GoodIn wsX7_falls wsX7_isFall := goodIn_r _ [10, 6, 11, 12, 13, 4, 14, 15, 16, 17, 18, 19, 20, 21, 22, 23, 24, 25, 26, 27, 28, 29] (by decide +kernel) (by decide +kernel)
set_option maxRecDepth 20000 in
theorem gX7_falls_X7_isFall : GoodIn wsX7_falls (wsV RX7 60 RX7 yX7_isFall wsX7_isFall) := goodIn_app (goodIn_of _ (by decide +kernel)) ggX7_falls_X7_isFall
theorem dX7_falls_0 : decode cX7_falls 0 = .ok (.iconst 0, 1) := by decide +kernel
theorem dX7_falls_1 : decode cX7_falls 1 = .ok (.istore_n 1, 1) := by decide +kernel
theorem dX7_falls_2 : decode cX7_falls 2 = .ok (.iconst 0, 1) := by decide +kernel
theorem dX7_falls_3 : decode cX7_falls 3 = .ok (.istore_n 2, 1) := by decide +kernel
theorem dX7_falls_4 : decode cX7_falls 4 = .ok (.iload_n 2, 1) := by decide +kernel
theorem dX7_falls_5 : decode cX7_falls 5 = .ok (.aload_n 0, 1) := by decide +kernel
theorem dX7_falls_6 : decode cX7_falls 6 = .ok (.iconst 0, 1) := by decide +kernel
theorem dX7_falls_7 : decode cX7_falls 7 = .ok (.invokevirtual 36, 3) := by decide +kernel
theorem dX7_falls_10 : decode cX7_falls 10 = .ok (.if_icmp .ge 25, 3) := by decide +kernel
theorem dX7_falls_13 : decode cX7_falls 13 = .ok (.iload_n 1, 1) := by decide +kernel
theorem dX7_falls_14 : decode cX7_falls 14 = .ok (.aload_n 0, 1) := by decide +kernel
theorem dX7_falls_15 : decode cX7_falls 15 = .ok (.iload_n 2, 1) := by decide +kernel
theorem dX7_falls_16 : decode cX7_falls 16 = .ok (.invokevirtual 60, 3) := by decide +kernel
theorem dX7_falls_19 : decode cX7_falls 19 = .ok (.ifCond .eq 7, 3) := by decide +kernel
theorem dX7_falls_22 : decode cX7_falls 22 = .ok (.iconst 1, 1) := by decide +kernel
theorem dX7_falls_23 : decode cX7_falls 23 = .ok (.goto 4, 3) := by decide +kernel
theorem dX7_falls_26 : decode cX7_falls 26 = .ok (.iconst 0, 1) := by decide +kernel
theorem dX7_falls_27 : decode cX7_falls 27 = .ok (.iadd, 1) := by decide +kernel
theorem dX7_falls_28 : decode cX7_falls 28 = .ok (.istore_n 1, 1) := by decide +kernel
theorem dX7_falls_29 : decode cX7_falls 29 = .ok (.iinc 2 1, 3) := by decide +kernel
theorem dX7_falls_32 : decode cX7_falls 32 = .ok (.goto (-28), 3) := by decide +kernel
theorem dX7_falls_35 : decode cX7_falls 35 = .ok (.iload_n 1, 1) := by decide +kernel
theorem dX7_falls_36 : decode cX7_falls 36 = .ok (.ireturn, 1) := by decide +kernel
set_option maxRecDepth 20000 in
theorem ggX7_farthest_X7_of : GoodIn wsX7_farthest wsX7_of := goodIn_r _ [5, 6, 22, 23, 24, 25, 26, 27, 28, 29, 30, 31, 32, 33, 34, 35, 36] (by decide +kernel) (by decide +kernel)
set_option maxRecDepth 20000 in
theorem gX7_farthest_X7_of : GoodIn wsX7_farthest (wsV RX7 36 RX7 yX7_of wsX7_of) := goodIn_app (goodIn_of _ (by decide +kernel)) ggX7_farthest_X7_of
set_option maxRecDepth 20000 in
theorem ggX7_farthest_X7_distance : GoodIn wsX7_farthest wsX7_distance := goodIn_r _ [10, 11, 12, 13, 4, 14, 6, 1, 2, 3, 5, 15, 16, 17, 18, 22, 23, 24, 25, 26, 27, 28, 29, 30, 31, 32, 33, 34, 35, 36] (by decide +kernel) (by decide +kernel)
set_option maxRecDepth 20000 in
theorem gX7_farthest_X7_distance : GoodIn wsX7_farthest (wsV RX7 47 RX7 yX7_distance wsX7_distance) := goodIn_app (goodIn_of _ (by decide +kernel)) ggX7_farthest_X7_distance
set_option maxRecDepth 20000 in
theorem ggX7_farthest_X7_size : GoodIn wsX7_farthest wsX7_size := goodIn_r _ [21] (by decide +kernel) (by decide +kernel)
set_option maxRecDepth 20000 in
theorem gX7_farthest_X7_size : GoodIn wsX7_farthest (va_wsS RX7 50 yX7_size wsX7_size) := goodIn_app (goodIn_of _ (by decide +kernel)) ggX7_farthest_X7_size
theorem dX7_farthest_0 : decode cX7_farthest 0 = .ok (.iconst 0, 1) := by decide +kernel
theorem dX7_farthest_1 : decode cX7_farthest 1 = .ok (.istore_n 1, 1) := by decide +kernel
theorem dX7_farthest_2 : decode cX7_farthest 2 = .ok (.iconst 0, 1) := by decide +kernel
theorem dX7_farthest_3 : decode cX7_farthest 3 = .ok (.istore_n 2, 1) := by decide +kernel
theorem dX7_farthest_4 : decode cX7_farthest 4 = .ok (.iload_n 2, 1) := by decide +kernel
theorem dX7_farthest_5 : decode cX7_farthest 5 = .ok (.aload_n 0, 1) := by decide +kernel
theorem dX7_farthest_6 : decode cX7_farthest 6 = .ok (.iconst 0, 1) := by decide +kernel
theorem dX7_farthest_7 : decode cX7_farthest 7 = .ok (.invokevirtual 36, 3) := by decide +kernel
theorem dX7_farthest_10 : decode cX7_farthest 10 = .ok (.if_icmp .ge 34, 3) := by decide +kernel
theorem dX7_farthest_13 : decode cX7_farthest 13 = .ok (.aload_n 0, 1) := by decide +kernel
theorem dX7_farthest_14 : decode cX7_farthest 14 = .ok (.iload_n 2, 1) := by decide +kernel
theorem dX7_farthest_15 : decode cX7_farthest 15 = .ok (.invokevirtual 47, 3) := by decide +kernel
theorem dX7_farthest_18 : decode cX7_farthest 18 = .ok (.invokestatic 50, 3) := by decide +kernel
theorem dX7_farthest_21 : decode cX7_farthest 21 = .ok (.iload_n 1, 1) := by decide +kernel
theorem dX7_farthest_22 : decode cX7_farthest 22 = .ok (.if_icmp .le 14, 3) := by decide +kernel
theorem dX7_farthest_25 : decode cX7_farthest 25 = .ok (.aload_n 0, 1) := by decide +kernel
theorem dX7_farthest_26 : decode cX7_farthest 26 = .ok (.iload_n 2, 1) := by decide +kernel
theorem dX7_farthest_27 : decode cX7_farthest 27 = .ok (.invokevirtual 47, 3) := by decide +kernel
theorem dX7_farthest_30 : decode cX7_farthest 30 = .ok (.invokestatic 50, 3) := by decide +kernel
theorem dX7_farthest_33 : decode cX7_farthest 33 = .ok (.goto 4, 3) := by decide +kernel
theorem dX7_farthest_36 : decode cX7_farthest 36 = .ok (.iload_n 1, 1) := by decide +kernel
theorem dX7_farthest_37 : decode cX7_farthest 37 = .ok (.istore_n 1, 1) := by decide +kernel
theorem dX7_farthest_38 : decode cX7_farthest 38 = .ok (.iinc 2 1, 3) := by decide +kernel
theorem dX7_farthest_41 : decode cX7_farthest 41 = .ok (.goto (-37), 3) := by decide +kernel
theorem dX7_farthest_44 : decode cX7_farthest 44 = .ok (.iload_n 1, 1) := by decide +kernel
theorem dX7_farthest_45 : decode cX7_farthest 45 = .ok (.ireturn, 1) := by decide +kernel
set_option maxRecDepth 20000 in
theorem ggX7_wholeOf_X7_of : GoodIn wsX7_wholeOf wsX7_of := goodIn_r _ [6, 7, 51, 52, 53, 54, 55, 56, 57, 58, 59, 60, 61, 62, 63, 64, 65] (by decide +kernel) (by decide +kernel)
set_option maxRecDepth 20000 in
theorem gX7_wholeOf_X7_of : GoodIn wsX7_wholeOf (wsV RX7 36 RX7 yX7_of wsX7_of) := goodIn_app (goodIn_of _ (by decide +kernel)) ggX7_wholeOf_X7_of
set_option maxRecDepth 20000 in
theorem ggX7_wholeOf_X7_brokenOnes : GoodIn wsX7_wholeOf wsX7_brokenOnes := goodIn_r _ [11, 2, 3, 4, 5, 6, 7, 12, 13, 14, 15, 16, 17, 18, 19, 20, 21, 22, 23, 24, 25, 26, 27, 28, 29, 30, 51, 52, 53, 54, 55, 56, 57, 58, 59, 60, 61, 62, 63, 64, 65] (by decide +kernel) (by decide +kernel)
set_option maxRecDepth 20000 in
theorem gX7_wholeOf_X7_brokenOnes : GoodIn wsX7_wholeOf (wsV RX7 101 RX7 yX7_brokenOnes wsX7_brokenOnes) := goodIn_app (goodIn_of _ (by decide +kernel)) ggX7_wholeOf_X7_brokenOnes
set_option maxRecDepth 20000 in
theorem ggX7_wholeOf_X7_inversions : GoodIn wsX7_wholeOf wsX7_inversions := goodIn_r _ [34, 2, 3, 4, 5, 6, 7, 35, 36, 37, 38, 24, 25, 26, 27, 51, 52, 53, 54, 55, 56, 57, 58, 59, 60, 61, 62, 63, 64, 65] (by decide +kernel) (by decide +kernel)
set_option maxRecDepth 20000 in
theorem gX7_wholeOf_X7_inversions : GoodIn wsX7_wholeOf (wsV RX7 104 RX7 yX7_inversions wsX7_inversions) := goodIn_app (goodIn_of _ (by decide +kernel)) ggX7_wholeOf_X7_inversions
set_option maxRecDepth 20000 in
theorem ggX7_wholeOf_X7_falls : GoodIn wsX7_wholeOf wsX7_falls := goodIn_r _ [42, 2, 3, 4, 5, 6, 7, 43, 44, 45, 46, 24, 25, 26, 27, 51, 52, 53, 54, 55, 56, 57, 58, 59, 60, 61, 62, 63, 64, 65] (by decide +kernel) (by decide +kernel)
set_option maxRecDepth 20000 in
theorem gX7_wholeOf_X7_falls : GoodIn wsX7_wholeOf (wsV RX7 130 RX7 yX7_falls wsX7_falls) := goodIn_app (goodIn_of _ (by decide +kernel)) ggX7_wholeOf_X7_falls
set_option maxRecDepth 20000 in
theorem ggX7_wholeOf_X7_farthest : GoodIn wsX7_wholeOf wsX7_farthest := goodIn_r _ [50, 2, 3, 4, 5, 6, 7, 16, 17, 18, 19, 20, 21, 22, 23, 24, 25, 26, 27, 28, 29, 30, 51, 52, 53, 54, 55, 56, 57, 58, 59, 60, 61, 62, 63, 64, 65] (by decide +kernel) (by decide +kernel)
set_option maxRecDepth 20000 in
theorem gX7_wholeOf_X7_farthest : GoodIn wsX7_wholeOf (wsV RX7 133 RX7 yX7_farthest wsX7_farthest) := goodIn_app (goodIn_of _ (by decide +kernel)) ggX7_wholeOf_X7_farthest
theorem dX7_wholeOf_0 : decode cX7_wholeOf 0 = .ok (.iload_n 1, 1) := by decide +kernel
theorem dX7_wholeOf_1 : decode cX7_wholeOf 1 = .ok (.tableswitch 104 0 10 #[59, 59, 59, 59, 65, 70, 75, 80, 86, 92, 99], 59) := by decide +kernel
theorem dX7_wholeOf_60 : decode cX7_wholeOf 60 = .ok (.aload_n 0, 1) := by decide +kernel
theorem dX7_wholeOf_61 : decode cX7_wholeOf 61 = .ok (.iload_n 1, 1) := by decide +kernel
theorem dX7_wholeOf_62 : decode cX7_wholeOf 62 = .ok (.invokevirtual 36, 3) := by decide +kernel
theorem dX7_wholeOf_65 : decode cX7_wholeOf 65 = .ok (.ireturn, 1) := by decide +kernel
theorem dX7_wholeOf_66 : decode cX7_wholeOf 66 = .ok (.aload_n 0, 1) := by decide +kernel
theorem dX7_wholeOf_67 : decode cX7_wholeOf 67 = .ok (.invokevirtual 101, 3) := by decide +kernel
theorem dX7_wholeOf_70 : decode cX7_wholeOf 70 = .ok (.ireturn, 1) := by decide +kernel
theorem dX7_wholeOf_71 : decode cX7_wholeOf 71 = .ok (.aload_n 0, 1) := by decide +kernel
theorem dX7_wholeOf_72 : decode cX7_wholeOf 72 = .ok (.invokevirtual 104, 3) := by decide +kernel
theorem dX7_wholeOf_75 : decode cX7_wholeOf 75 = .ok (.ireturn, 1) := by decide +kernel
theorem dX7_wholeOf_76 : decode cX7_wholeOf 76 = .ok (.aload_n 0, 1) := by decide +kernel
theorem dX7_wholeOf_77 : decode cX7_wholeOf 77 = .ok (.invokevirtual 130, 3) := by decide +kernel
theorem dX7_wholeOf_80 : decode cX7_wholeOf 80 = .ok (.ireturn, 1) := by decide +kernel
theorem dX7_wholeOf_81 : decode cX7_wholeOf 81 = .ok (.aload_n 0, 1) := by decide +kernel
theorem dX7_wholeOf_82 : decode cX7_wholeOf 82 = .ok (.iconst 4, 1) := by decide +kernel
theorem dX7_wholeOf_83 : decode cX7_wholeOf 83 = .ok (.invokevirtual 36, 3) := by decide +kernel
theorem dX7_wholeOf_86 : decode cX7_wholeOf 86 = .ok (.ireturn, 1) := by decide +kernel
theorem dX7_wholeOf_87 : decode cX7_wholeOf 87 = .ok (.aload_n 0, 1) := by decide +kernel
theorem dX7_wholeOf_88 : decode cX7_wholeOf 88 = .ok (.iconst 5, 1) := by decide +kernel
theorem dX7_wholeOf_89 : decode cX7_wholeOf 89 = .ok (.invokevirtual 36, 3) := by decide +kernel
theorem dX7_wholeOf_92 : decode cX7_wholeOf 92 = .ok (.ireturn, 1) := by decide +kernel
theorem dX7_wholeOf_93 : decode cX7_wholeOf 93 = .ok (.aload_n 0, 1) := by decide +kernel
theorem dX7_wholeOf_94 : decode cX7_wholeOf 94 = .ok (.bipush 6, 2) := by decide +kernel
theorem dX7_wholeOf_96 : decode cX7_wholeOf 96 = .ok (.invokevirtual 36, 3) := by decide +kernel
theorem dX7_wholeOf_99 : decode cX7_wholeOf 99 = .ok (.ireturn, 1) := by decide +kernel
theorem dX7_wholeOf_100 : decode cX7_wholeOf 100 = .ok (.aload_n 0, 1) := by decide +kernel
theorem dX7_wholeOf_101 : decode cX7_wholeOf 101 = .ok (.invokevirtual 133, 3) := by decide +kernel
theorem dX7_wholeOf_104 : decode cX7_wholeOf 104 = .ok (.ireturn, 1) := by decide +kernel
theorem dX7_wholeOf_105 : decode cX7_wholeOf 105 = .ok (.aload_n 0, 1) := by decide +kernel
theorem dX7_wholeOf_106 : decode cX7_wholeOf 106 = .ok (.getfield 136, 3) := by decide +kernel
theorem dX7_wholeOf_109 : decode cX7_wholeOf 109 = .ok (.ireturn, 1) := by decide +kernel
set_option maxRecDepth 20000 in
theorem ggX7_whole_X7_in : GoodIn wsX7_whole wsX7_in := goodIn_r _ [5] (by decide +kernel) (by decide +kernel)
set_option maxRecDepth 20000 in
theorem gX7_whole_X7_in : GoodIn wsX7_whole (va_wsS RX7 89 yX7_in wsX7_in) := goodIn_app (goodIn_of _ (by decide +kernel)) ggX7_whole_X7_in
set_option maxRecDepth 20000 in
theorem ggX7_whole_X7_throwsAt : GoodIn wsX7_whole wsX7_throwsAt := goodIn_r _ [9, 10, 64, 65, 66, 67, 68, 69, 70, 71, 72, 73, 74, 75, 76, 77, 78] (by decide +kernel) (by decide +kernel)
set_option maxRecDepth 20000 in
theorem gX7_whole_X7_throwsAt : GoodIn wsX7_whole (wsV RX7 76 RX7 yX7_throwsAt wsX7_throwsAt) := goodIn_app (goodIn_of _ (by decide +kernel)) ggX7_whole_X7_throwsAt
set_option maxRecDepth 20000 in
theorem ggX7_whole_X7_wholeOf : GoodIn wsX7_whole wsX7_wholeOf := goodIn_r _ [14, 15, 16, 17, 18, 4, 19, 20, 21, 22, 23, 24, 25, 26, 27, 28, 29, 30, 31, 32, 33, 34, 35, 36, 37, 38, 39, 40, 41, 42, 43, 44, 45, 46, 47, 48, 49, 50, 51, 52, 53, 54, 55, 56, 57, 58, 59, 60, 61, 62, 63, 64, 65, 66, 67, 68, 69, 70, 71, 72, 73, 74, 75, 76, 77, 78] (by decide +kernel) (by decide +kernel)
set_option maxRecDepth 20000 in
theorem gX7_whole_X7_wholeOf : GoodIn wsX7_whole (wsV RX7 141 RX7 yX7_wholeOf wsX7_wholeOf) := goodIn_app (goodIn_of _ (by decide +kernel)) ggX7_whole_X7_wholeOf
theorem dX7_whole_0 : decode cX7_whole 0 = .ok (.aload_n 0, 1) := by decide +kernel
theorem dX7_whole_1 : decode cX7_whole 1 = .ok (.iload_n 1, 1) := by decide +kernel
theorem dX7_whole_2 : decode cX7_whole 2 = .ok (.i2l, 1) := by decide +kernel
theorem dX7_whole_3 : decode cX7_whole 3 = .ok (.lconst 0, 1) := by decide +kernel
theorem dX7_whole_4 : decode cX7_whole 4 = .ok (.ldc2_w 139, 3) := by decide +kernel
theorem dX7_whole_7 : decode cX7_whole 7 = .ok (.invokestatic 89, 3) := by decide +kernel
theorem dX7_whole_10 : decode cX7_whole 10 = .ok (.ifCond .eq 7, 3) := by decide +kernel
theorem dX7_whole_13 : decode cX7_whole 13 = .ok (.iconst 0, 1) := by decide +kernel
theorem dX7_whole_14 : decode cX7_whole 14 = .ok (.goto 4, 3) := by decide +kernel
theorem dX7_whole_17 : decode cX7_whole 17 = .ok (.iconst 1, 1) := by decide +kernel
theorem dX7_whole_18 : decode cX7_whole 18 = .ok (.invokevirtual 76, 3) := by decide +kernel
theorem dX7_whole_21 : decode cX7_whole 21 = .ok (.ifCond .eq 7, 3) := by decide +kernel
theorem dX7_whole_24 : decode cX7_whole 24 = .ok (.iconst 0, 1) := by decide +kernel
theorem dX7_whole_25 : decode cX7_whole 25 = .ok (.goto 8, 3) := by decide +kernel
theorem dX7_whole_28 : decode cX7_whole 28 = .ok (.aload_n 0, 1) := by decide +kernel
theorem dX7_whole_29 : decode cX7_whole 29 = .ok (.iload_n 1, 1) := by decide +kernel
theorem dX7_whole_30 : decode cX7_whole 30 = .ok (.invokevirtual 141, 3) := by decide +kernel
theorem dX7_whole_33 : decode cX7_whole 33 = .ok (.ireturn, 1) := by decide +kernel
set_option maxRecDepth 20000 in
theorem ggX7_found_X7_in : GoodIn wsX7_found wsX7_in := goodIn_r _ [8] (by decide +kernel) (by decide +kernel)
set_option maxRecDepth 20000 in
theorem gX7_found_X7_in : GoodIn wsX7_found (va_wsS RX7 89 yX7_in wsX7_in) := goodIn_app (goodIn_of _ (by decide +kernel)) ggX7_found_X7_in
set_option maxRecDepth 20000 in
theorem ggX7_found_X7_throwsAt : GoodIn wsX7_found wsX7_throwsAt := goodIn_r _ [12, 13, 27, 28, 29, 30, 31, 32, 33, 34, 35, 36, 37, 38, 39, 40, 41] (by decide +kernel) (by decide +kernel)
set_option maxRecDepth 20000 in
theorem gX7_found_X7_throwsAt : GoodIn wsX7_found (wsV RX7 76 RX7 yX7_throwsAt wsX7_throwsAt) := goodIn_app (goodIn_of _ (by decide +kernel)) ggX7_found_X7_throwsAt
set_option maxRecDepth 20000 in
theorem ggX7_found_X7_searches : GoodIn wsX7_found wsX7_searches := goodIn_r _ [17, 2, 3, 4, 18, 19, 20, 21, 7, 22, 23, 24, 25, 26, 27, 28, 29, 30, 31, 32, 33, 34, 35, 36, 37, 38, 39, 40, 41] (by decide +kernel) (by decide +kernel)
set_option maxRecDepth 20000 in
theorem gX7_found_X7_searches : GoodIn wsX7_found (wsV RX7 116 RX7 yX7_searches wsX7_searches) := goodIn_app (goodIn_of _ (by decide +kernel)) ggX7_found_X7_searches
theorem dX7_found_0 : decode cX7_found 0 = .ok (.aload_n 0, 1) := by decide +kernel
theorem dX7_found_1 : decode cX7_found 1 = .ok (.iload_n 3, 1) := by decide +kernel
theorem dX7_found_2 : decode cX7_found 2 = .ok (.i2l, 1) := by decide +kernel
theorem dX7_found_3 : decode cX7_found 3 = .ok (.lconst 0, 1) := by decide +kernel
theorem dX7_found_4 : decode cX7_found 4 = .ok (.ldc2_w 144, 3) := by decide +kernel
theorem dX7_found_7 : decode cX7_found 7 = .ok (.invokestatic 89, 3) := by decide +kernel
theorem dX7_found_10 : decode cX7_found 10 = .ok (.ifCond .eq 7, 3) := by decide +kernel
theorem dX7_found_13 : decode cX7_found 13 = .ok (.iconst 0, 1) := by decide +kernel
theorem dX7_found_14 : decode cX7_found 14 = .ok (.goto 4, 3) := by decide +kernel
theorem dX7_found_17 : decode cX7_found 17 = .ok (.iconst 1, 1) := by decide +kernel
theorem dX7_found_18 : decode cX7_found 18 = .ok (.invokevirtual 76, 3) := by decide +kernel
theorem dX7_found_21 : decode cX7_found 21 = .ok (.ifCond .eq 5, 3) := by decide +kernel
theorem dX7_found_24 : decode cX7_found 24 = .ok (.iconst 0, 1) := by decide +kernel
theorem dX7_found_25 : decode cX7_found 25 = .ok (.ireturn, 1) := by decide +kernel
theorem dX7_found_26 : decode cX7_found 26 = .ok (.aload_n 0, 1) := by decide +kernel
theorem dX7_found_27 : decode cX7_found 27 = .ok (.lload_n 1, 1) := by decide +kernel
theorem dX7_found_28 : decode cX7_found 28 = .ok (.invokevirtual 116, 3) := by decide +kernel
theorem dX7_found_31 : decode cX7_found 31 = .ok (.istore 4, 2) := by decide +kernel
theorem dX7_found_33 : decode cX7_found 33 = .ok (.iload_n 3, 1) := by decide +kernel
theorem dX7_found_34 : decode cX7_found 34 = .ok (.ifCond .ne 8, 3) := by decide +kernel
theorem dX7_found_37 : decode cX7_found 37 = .ok (.iload 4, 2) := by decide +kernel
theorem dX7_found_39 : decode cX7_found 39 = .ok (.goto 31, 3) := by decide +kernel
theorem dX7_found_42 : decode cX7_found 42 = .ok (.iload_n 3, 1) := by decide +kernel
theorem dX7_found_43 : decode cX7_found 43 = .ok (.iconst 1, 1) := by decide +kernel
theorem dX7_found_44 : decode cX7_found 44 = .ok (.if_icmp .ne 10, 3) := by decide +kernel
theorem dX7_found_47 : decode cX7_found 47 = .ok (.aload_n 0, 1) := by decide +kernel
theorem dX7_found_48 : decode cX7_found 48 = .ok (.getfield 107, 3) := by decide +kernel
theorem dX7_found_51 : decode cX7_found 51 = .ok (.goto 19, 3) := by decide +kernel
theorem dX7_found_54 : decode cX7_found 54 = .ok (.iload_n 3, 1) := by decide +kernel
theorem dX7_found_55 : decode cX7_found 55 = .ok (.iconst 2, 1) := by decide +kernel
theorem dX7_found_56 : decode cX7_found 56 = .ok (.if_icmp .ne 10, 3) := by decide +kernel
theorem dX7_found_59 : decode cX7_found 59 = .ok (.aload_n 0, 1) := by decide +kernel
theorem dX7_found_60 : decode cX7_found 60 = .ok (.getfield 110, 3) := by decide +kernel
theorem dX7_found_63 : decode cX7_found 63 = .ok (.goto 7, 3) := by decide +kernel
theorem dX7_found_66 : decode cX7_found 66 = .ok (.aload_n 0, 1) := by decide +kernel
theorem dX7_found_67 : decode cX7_found 67 = .ok (.getfield 113, 3) := by decide +kernel
theorem dX7_found_70 : decode cX7_found 70 = .ok (.ireturn, 1) := by decide +kernel
set_option maxRecDepth 20000 in
theorem ggX7_worst_X7_of : GoodIn wsX7_worst wsX7_of := goodIn_r _ [7, 1, 18, 19, 20, 21, 22, 23, 24, 25, 26, 27, 28, 29, 30, 31, 32] (by decide +kernel) (by decide +kernel)
set_option maxRecDepth 20000 in
theorem gX7_worst_X7_of : GoodIn wsX7_worst (wsV RX7 36 RX7 yX7_of wsX7_of) := goodIn_app (goodIn_of _ (by decide +kernel)) ggX7_worst_X7_of
set_option maxRecDepth 20000 in
theorem ggX7_worst_X7_searches : GoodIn wsX7_worst wsX7_searches := goodIn_r _ [11, 2, 12, 13, 1, 3, 4, 5, 6, 7, 14, 15, 16, 17, 18, 19, 20, 21, 22, 23, 24, 25, 26, 27, 28, 29, 30, 31, 32] (by decide +kernel) (by decide +kernel)
set_option maxRecDepth 20000 in
theorem gX7_worst_X7_searches : GoodIn wsX7_worst (wsV RX7 116 RX7 yX7_searches wsX7_searches) := goodIn_app (goodIn_of _ (by decide +kernel)) ggX7_worst_X7_searches
theorem dX7_worst_0 : decode cX7_worst 0 = .ok (.iconst 0, 1) := by decide +kernel
theorem dX7_worst_1 : decode cX7_worst 1 = .ok (.istore_n 1, 1) := by decide +kernel
theorem dX7_worst_2 : decode cX7_worst 2 = .ok (.iconst 0, 1) := by decide +kernel
theorem dX7_worst_3 : decode cX7_worst 3 = .ok (.istore_n 2, 1) := by decide +kernel
theorem dX7_worst_4 : decode cX7_worst 4 = .ok (.iload_n 2, 1) := by decide +kernel
theorem dX7_worst_5 : decode cX7_worst 5 = .ok (.aload_n 0, 1) := by decide +kernel
theorem dX7_worst_6 : decode cX7_worst 6 = .ok (.iconst 0, 1) := by decide +kernel
theorem dX7_worst_7 : decode cX7_worst 7 = .ok (.invokevirtual 36, 3) := by decide +kernel
theorem dX7_worst_10 : decode cX7_worst 10 = .ok (.if_icmp .ge 47, 3) := by decide +kernel
theorem dX7_worst_13 : decode cX7_worst 13 = .ok (.aload_n 0, 1) := by decide +kernel
theorem dX7_worst_14 : decode cX7_worst 14 = .ok (.aload_n 0, 1) := by decide +kernel
theorem dX7_worst_15 : decode cX7_worst 15 = .ok (.getfield 7, 3) := by decide +kernel
theorem dX7_worst_18 : decode cX7_worst 18 = .ok (.bipush 7, 2) := by decide +kernel
theorem dX7_worst_20 : decode cX7_worst 20 = .ok (.iload_n 2, 1) := by decide +kernel
theorem dX7_worst_21 : decode cX7_worst 21 = .ok (.iadd, 1) := by decide +kernel
theorem dX7_worst_22 : decode cX7_worst 22 = .ok (.laload, 1) := by decide +kernel
theorem dX7_worst_23 : decode cX7_worst 23 = .ok (.invokevirtual 116, 3) := by decide +kernel
theorem dX7_worst_26 : decode cX7_worst 26 = .ok (.istore_n 3, 1) := by decide +kernel
theorem dX7_worst_27 : decode cX7_worst 27 = .ok (.iload_n 3, 1) := by decide +kernel
theorem dX7_worst_28 : decode cX7_worst 28 = .ok (.sipush (-1001), 3) := by decide +kernel
theorem dX7_worst_31 : decode cX7_worst 31 = .ok (.if_icmp .eq 18, 3) := by decide +kernel
theorem dX7_worst_34 : decode cX7_worst 34 = .ok (.aload_n 0, 1) := by decide +kernel
theorem dX7_worst_35 : decode cX7_worst 35 = .ok (.getfield 107, 3) := by decide +kernel
theorem dX7_worst_38 : decode cX7_worst 38 = .ok (.iload_n 1, 1) := by decide +kernel
theorem dX7_worst_39 : decode cX7_worst 39 = .ok (.if_icmp .le 10, 3) := by decide +kernel
theorem dX7_worst_42 : decode cX7_worst 42 = .ok (.aload_n 0, 1) := by decide +kernel
theorem dX7_worst_43 : decode cX7_worst 43 = .ok (.getfield 107, 3) := by decide +kernel
theorem dX7_worst_46 : decode cX7_worst 46 = .ok (.goto 4, 3) := by decide +kernel
theorem dX7_worst_49 : decode cX7_worst 49 = .ok (.iload_n 1, 1) := by decide +kernel
theorem dX7_worst_50 : decode cX7_worst 50 = .ok (.istore_n 1, 1) := by decide +kernel
theorem dX7_worst_51 : decode cX7_worst 51 = .ok (.iinc 2 1, 3) := by decide +kernel
theorem dX7_worst_54 : decode cX7_worst 54 = .ok (.goto (-50), 3) := by decide +kernel
theorem dX7_worst_57 : decode cX7_worst 57 = .ok (.iload_n 1, 1) := by decide +kernel
theorem dX7_worst_58 : decode cX7_worst 58 = .ok (.ireturn, 1) := by decide +kernel
set_option maxRecDepth 20000 in
theorem ggX7_worstSearch_X7_worst : GoodIn wsX7_worstSearch wsX7_worst := goodIn_r _ [6, 7, 8, 9, 10, 11, 5, 12, 13, 14, 15, 16, 17, 18, 19, 20, 21, 22, 23, 24, 25, 26, 27, 28, 29, 30, 31, 32, 33, 34, 35, 36, 37] (by decide +kernel) (by decide +kernel)
set_option maxRecDepth 20000 in
theorem gX7_worstSearch_X7_worst : GoodIn wsX7_worstSearch (wsV RX7 146 RX7 yX7_worst wsX7_worst) := goodIn_app (goodIn_of _ (by decide +kernel)) ggX7_worstSearch_X7_worst
theorem dX7_worstSearch_0 : decode cX7_worstSearch 0 = .ok (.aload_n 0, 1) := by decide +kernel
theorem dX7_worstSearch_1 : decode cX7_worstSearch 1 = .ok (.iconst 0, 1) := by decide +kernel
theorem dX7_worstSearch_2 : decode cX7_worstSearch 2 = .ok (.putfield 25, 3) := by decide +kernel
theorem dX7_worstSearch_5 : decode cX7_worstSearch 5 = .ok (.aload_n 0, 1) := by decide +kernel
theorem dX7_worstSearch_6 : decode cX7_worstSearch 6 = .ok (.invokevirtual 146, 3) := by decide +kernel
theorem dX7_worstSearch_9 : decode cX7_worstSearch 9 = .ok (.ireturn, 1) := by decide +kernel
set_option maxRecDepth 20000 in
theorem ggX7_stepsFor_X7_in : GoodIn wsX7_stepsFor wsX7_in := goodIn_r _ [6] (by decide +kernel) (by decide +kernel)
set_option maxRecDepth 20000 in
theorem gX7_stepsFor_X7_in : GoodIn wsX7_stepsFor (va_wsS RX7 89 yX7_in wsX7_in) := goodIn_app (goodIn_of _ (by decide +kernel)) ggX7_stepsFor_X7_in
set_option maxRecDepth 20000 in
theorem ggX7_stepsFor_X7_throwsAt : GoodIn wsX7_stepsFor wsX7_throwsAt := goodIn_r _ [10, 11, 60, 61, 62, 63, 64, 65, 66, 67, 68, 69, 70, 71, 72, 73, 74] (by decide +kernel) (by decide +kernel)
set_option maxRecDepth 20000 in
theorem gX7_stepsFor_X7_throwsAt : GoodIn wsX7_stepsFor (wsV RX7 76 RX7 yX7_throwsAt wsX7_throwsAt) := goodIn_app (goodIn_of _ (by decide +kernel)) ggX7_stepsFor_X7_throwsAt
set_option maxRecDepth 20000 in
theorem ggX7_stepsFor_X7_holds : GoodIn wsX7_stepsFor wsX7_holds := goodIn_r _ [15, 16, 2, 60, 61, 62, 63, 64, 65, 66, 67, 68, 69, 70, 71, 72, 73, 74] (by decide +kernel) (by decide +kernel)
set_option maxRecDepth 20000 in
theorem gX7_stepsFor_X7_holds : GoodIn wsX7_stepsFor (wsV RX7 149 RX7 yX7_holds wsX7_holds) := goodIn_app (goodIn_of _ (by decide +kernel)) ggX7_stepsFor_X7_holds
set_option maxRecDepth 20000 in
theorem ggX7_stepsFor_X7_mends : GoodIn wsX7_stepsFor wsX7_mends := goodIn_r _ [20, 21, 22, 23, 5, 24, 2, 25, 26, 27, 28, 29, 30, 31, 32, 33, 34, 35, 36, 37, 38, 39, 40, 41, 42, 43, 44, 45, 46, 47, 48, 49, 50, 51, 52, 53, 54, 55, 60, 61, 62, 63, 64, 65, 66, 67, 68, 69, 70, 71, 72, 73, 74] (by decide +kernel) (by decide +kernel)
set_option maxRecDepth 20000 in
theorem gX7_stepsFor_X7_mends : GoodIn wsX7_stepsFor (wsV RX7 71 RX7 yX7_mends wsX7_mends) := goodIn_app (goodIn_of _ (by decide +kernel)) ggX7_stepsFor_X7_mends
set_option maxRecDepth 20000 in
theorem ggX7_stepsFor_X7_lets : GoodIn wsX7_stepsFor wsX7_lets := goodIn_r _ [59, 2, 16, 60, 61, 62, 63, 64, 65, 66, 67, 68, 69, 70, 71, 72, 73, 74] (by decide +kernel) (by decide +kernel)
set_option maxRecDepth 20000 in
theorem gX7_stepsFor_X7_lets : GoodIn wsX7_stepsFor (wsV RX7 152 RX7 yX7_lets wsX7_lets) := goodIn_app (goodIn_of _ (by decide +kernel)) ggX7_stepsFor_X7_lets
theorem dX7_stepsFor_0 : decode cX7_stepsFor 0 = .ok (.aload_n 0, 1) := by decide +kernel
theorem dX7_stepsFor_1 : decode cX7_stepsFor 1 = .ok (.iload_n 1, 1) := by decide +kernel
theorem dX7_stepsFor_2 : decode cX7_stepsFor 2 = .ok (.i2l, 1) := by decide +kernel
theorem dX7_stepsFor_3 : decode cX7_stepsFor 3 = .ok (.lconst 0, 1) := by decide +kernel
theorem dX7_stepsFor_4 : decode cX7_stepsFor 4 = .ok (.ldc2_w 99, 3) := by decide +kernel
theorem dX7_stepsFor_7 : decode cX7_stepsFor 7 = .ok (.invokestatic 89, 3) := by decide +kernel
theorem dX7_stepsFor_10 : decode cX7_stepsFor 10 = .ok (.ifCond .eq 7, 3) := by decide +kernel
theorem dX7_stepsFor_13 : decode cX7_stepsFor 13 = .ok (.iconst 0, 1) := by decide +kernel
theorem dX7_stepsFor_14 : decode cX7_stepsFor 14 = .ok (.goto 4, 3) := by decide +kernel
theorem dX7_stepsFor_17 : decode cX7_stepsFor 17 = .ok (.iconst 1, 1) := by decide +kernel
theorem dX7_stepsFor_18 : decode cX7_stepsFor 18 = .ok (.invokevirtual 76, 3) := by decide +kernel
theorem dX7_stepsFor_21 : decode cX7_stepsFor 21 = .ok (.ifCond .eq 5, 3) := by decide +kernel
theorem dX7_stepsFor_24 : decode cX7_stepsFor 24 = .ok (.iconst 0, 1) := by decide +kernel
theorem dX7_stepsFor_25 : decode cX7_stepsFor 25 = .ok (.ireturn, 1) := by decide +kernel
theorem dX7_stepsFor_26 : decode cX7_stepsFor 26 = .ok (.aload_n 0, 1) := by decide +kernel
theorem dX7_stepsFor_27 : decode cX7_stepsFor 27 = .ok (.invokevirtual 149, 3) := by decide +kernel
theorem dX7_stepsFor_30 : decode cX7_stepsFor 30 = .ok (.aload_n 0, 1) := by decide +kernel
theorem dX7_stepsFor_31 : decode cX7_stepsFor 31 = .ok (.getfield 7, 3) := by decide +kernel
theorem dX7_stepsFor_34 : decode cX7_stepsFor 34 = .ok (.iconst 1, 1) := by decide +kernel
theorem dX7_stepsFor_35 : decode cX7_stepsFor 35 = .ok (.iload_n 1, 1) := by decide +kernel
theorem dX7_stepsFor_36 : decode cX7_stepsFor 36 = .ok (.i2l, 1) := by decide +kernel
theorem dX7_stepsFor_37 : decode cX7_stepsFor 37 = .ok (.lastore, 1) := by decide +kernel
theorem dX7_stepsFor_38 : decode cX7_stepsFor 38 = .ok (.aload_n 0, 1) := by decide +kernel
theorem dX7_stepsFor_39 : decode cX7_stepsFor 39 = .ok (.invokevirtual 71, 3) := by decide +kernel
theorem dX7_stepsFor_42 : decode cX7_stepsFor 42 = .ok (.istore_n 2, 1) := by decide +kernel
theorem dX7_stepsFor_43 : decode cX7_stepsFor 43 = .ok (.aload_n 0, 1) := by decide +kernel
theorem dX7_stepsFor_44 : decode cX7_stepsFor 44 = .ok (.invokevirtual 152, 3) := by decide +kernel
theorem dX7_stepsFor_47 : decode cX7_stepsFor 47 = .ok (.iload_n 2, 1) := by decide +kernel
theorem dX7_stepsFor_48 : decode cX7_stepsFor 48 = .ok (.ireturn, 1) := by decide +kernel
set_option maxRecDepth 20000 in
theorem ggX7_bestPlace_X7_holds : GoodIn wsX7_bestPlace wsX7_holds := goodIn_r _ [8, 2, 9, 45, 46, 47, 48, 49, 50, 51, 52, 53, 54, 55, 56, 57, 58, 59] (by decide +kernel) (by decide +kernel)
set_option maxRecDepth 20000 in
theorem gX7_bestPlace_X7_holds : GoodIn wsX7_bestPlace (wsV RX7 149 RX7 yX7_holds wsX7_holds) := goodIn_app (goodIn_of _ (by decide +kernel)) ggX7_bestPlace_X7_holds
set_option maxRecDepth 20000 in
theorem ggX7_bestPlace_X7_puts : GoodIn wsX7_bestPlace wsX7_puts := goodIn_r _ [13, 9, 14, 15, 16, 7, 17, 45, 46, 47, 48, 49, 50, 51, 52, 53, 54, 55, 56, 57, 58, 59] (by decide +kernel) (by decide +kernel)
set_option maxRecDepth 20000 in
theorem gX7_bestPlace_X7_puts : GoodIn wsX7_bestPlace (wsV RX7 82 RX7 yX7_puts wsX7_puts) := goodIn_app (goodIn_of _ (by decide +kernel)) ggX7_bestPlace_X7_puts
set_option maxRecDepth 20000 in
theorem ggX7_bestPlace_X7_brokenOnes : GoodIn wsX7_bestPlace wsX7_brokenOnes := goodIn_r _ [21, 14, 15, 16, 7, 17, 9, 22, 23, 24, 25, 26, 27, 28, 29, 30, 31, 32, 33, 34, 35, 36, 37, 38, 39, 40, 45, 46, 47, 48, 49, 50, 51, 52, 53, 54, 55, 56, 57, 58, 59] (by decide +kernel) (by decide +kernel)
set_option maxRecDepth 20000 in
theorem gX7_bestPlace_X7_brokenOnes : GoodIn wsX7_bestPlace (wsV RX7 101 RX7 yX7_brokenOnes wsX7_brokenOnes) := goodIn_app (goodIn_of _ (by decide +kernel)) ggX7_bestPlace_X7_brokenOnes
set_option maxRecDepth 20000 in
theorem ggX7_bestPlace_X7_lets : GoodIn wsX7_bestPlace wsX7_lets := goodIn_r _ [44, 9, 2, 45, 46, 47, 48, 49, 50, 51, 52, 53, 54, 55, 56, 57, 58, 59] (by decide +kernel) (by decide +kernel)
set_option maxRecDepth 20000 in
theorem gX7_bestPlace_X7_lets : GoodIn wsX7_bestPlace (wsV RX7 152 RX7 yX7_lets wsX7_lets) := goodIn_app (goodIn_of _ (by decide +kernel)) ggX7_bestPlace_X7_lets
theorem dX7_bestPlace_0 : decode cX7_bestPlace 0 = .ok (.aload_n 0, 1) := by decide +kernel
theorem dX7_bestPlace_1 : decode cX7_bestPlace 1 = .ok (.iconst 0, 1) := by decide +kernel
theorem dX7_bestPlace_2 : decode cX7_bestPlace 2 = .ok (.putfield 25, 3) := by decide +kernel
theorem dX7_bestPlace_5 : decode cX7_bestPlace 5 = .ok (.sipush (-1000), 3) := by decide +kernel
theorem dX7_bestPlace_8 : decode cX7_bestPlace 8 = .ok (.istore_n 3, 1) := by decide +kernel
theorem dX7_bestPlace_9 : decode cX7_bestPlace 9 = .ok (.bipush 99, 2) := by decide +kernel
theorem dX7_bestPlace_11 : decode cX7_bestPlace 11 = .ok (.istore 4, 2) := by decide +kernel
theorem dX7_bestPlace_13 : decode cX7_bestPlace 13 = .ok (.aload_n 0, 1) := by decide +kernel
theorem dX7_bestPlace_14 : decode cX7_bestPlace 14 = .ok (.invokevirtual 149, 3) := by decide +kernel
theorem dX7_bestPlace_17 : decode cX7_bestPlace 17 = .ok (.iconst 0, 1) := by decide +kernel
theorem dX7_bestPlace_18 : decode cX7_bestPlace 18 = .ok (.istore 5, 2) := by decide +kernel
theorem dX7_bestPlace_20 : decode cX7_bestPlace 20 = .ok (.iload 5, 2) := by decide +kernel
theorem dX7_bestPlace_22 : decode cX7_bestPlace 22 = .ok (.i2l, 1) := by decide +kernel
theorem dX7_bestPlace_23 : decode cX7_bestPlace 23 = .ok (.aload_n 0, 1) := by decide +kernel
theorem dX7_bestPlace_24 : decode cX7_bestPlace 24 = .ok (.getfield 16, 3) := by decide +kernel
theorem dX7_bestPlace_27 : decode cX7_bestPlace 27 = .ok (.iconst 0, 1) := by decide +kernel
theorem dX7_bestPlace_28 : decode cX7_bestPlace 28 = .ok (.laload, 1) := by decide +kernel
theorem dX7_bestPlace_29 : decode cX7_bestPlace 29 = .ok (.lcmp, 1) := by decide +kernel
theorem dX7_bestPlace_30 : decode cX7_bestPlace 30 = .ok (.ifCond .gt 69, 3) := by decide +kernel
theorem dX7_bestPlace_33 : decode cX7_bestPlace 33 = .ok (.aload_n 0, 1) := by decide +kernel
theorem dX7_bestPlace_34 : decode cX7_bestPlace 34 = .ok (.getfield 16, 3) := by decide +kernel
theorem dX7_bestPlace_37 : decode cX7_bestPlace 37 = .ok (.iconst 0, 1) := by decide +kernel
theorem dX7_bestPlace_38 : decode cX7_bestPlace 38 = .ok (.laload, 1) := by decide +kernel
theorem dX7_bestPlace_39 : decode cX7_bestPlace 39 = .ok (.ldc2_w 74, 3) := by decide +kernel
theorem dX7_bestPlace_42 : decode cX7_bestPlace 42 = .ok (.lcmp, 1) := by decide +kernel
theorem dX7_bestPlace_43 : decode cX7_bestPlace 43 = .ok (.ifCond .ge 56, 3) := by decide +kernel
theorem dX7_bestPlace_46 : decode cX7_bestPlace 46 = .ok (.aload_n 0, 1) := by decide +kernel
theorem dX7_bestPlace_47 : decode cX7_bestPlace 47 = .ok (.iload 5, 2) := by decide +kernel
theorem dX7_bestPlace_49 : decode cX7_bestPlace 49 = .ok (.lload_n 1, 1) := by decide +kernel
theorem dX7_bestPlace_50 : decode cX7_bestPlace 50 = .ok (.invokevirtual 82, 3) := by decide +kernel
theorem dX7_bestPlace_53 : decode cX7_bestPlace 53 = .ok (.aload_n 0, 1) := by decide +kernel
theorem dX7_bestPlace_54 : decode cX7_bestPlace 54 = .ok (.invokevirtual 101, 3) := by decide +kernel
theorem dX7_bestPlace_57 : decode cX7_bestPlace 57 = .ok (.istore 6, 2) := by decide +kernel
theorem dX7_bestPlace_59 : decode cX7_bestPlace 59 = .ok (.iload 6, 2) := by decide +kernel
theorem dX7_bestPlace_61 : decode cX7_bestPlace 61 = .ok (.iload 4, 2) := by decide +kernel
theorem dX7_bestPlace_63 : decode cX7_bestPlace 63 = .ok (.if_icmp .ge 8, 3) := by decide +kernel
theorem dX7_bestPlace_66 : decode cX7_bestPlace 66 = .ok (.iload 5, 2) := by decide +kernel
theorem dX7_bestPlace_68 : decode cX7_bestPlace 68 = .ok (.goto 4, 3) := by decide +kernel
theorem dX7_bestPlace_71 : decode cX7_bestPlace 71 = .ok (.iload_n 3, 1) := by decide +kernel
theorem dX7_bestPlace_72 : decode cX7_bestPlace 72 = .ok (.istore_n 3, 1) := by decide +kernel
theorem dX7_bestPlace_73 : decode cX7_bestPlace 73 = .ok (.iload 6, 2) := by decide +kernel
theorem dX7_bestPlace_75 : decode cX7_bestPlace 75 = .ok (.iload 4, 2) := by decide +kernel
theorem dX7_bestPlace_77 : decode cX7_bestPlace 77 = .ok (.if_icmp .ge 8, 3) := by decide +kernel
theorem dX7_bestPlace_80 : decode cX7_bestPlace 80 = .ok (.iload 6, 2) := by decide +kernel
theorem dX7_bestPlace_82 : decode cX7_bestPlace 82 = .ok (.goto 5, 3) := by decide +kernel
theorem dX7_bestPlace_85 : decode cX7_bestPlace 85 = .ok (.iload 4, 2) := by decide +kernel
theorem dX7_bestPlace_87 : decode cX7_bestPlace 87 = .ok (.istore 4, 2) := by decide +kernel
theorem dX7_bestPlace_89 : decode cX7_bestPlace 89 = .ok (.aload_n 0, 1) := by decide +kernel
theorem dX7_bestPlace_90 : decode cX7_bestPlace 90 = .ok (.invokevirtual 152, 3) := by decide +kernel
theorem dX7_bestPlace_93 : decode cX7_bestPlace 93 = .ok (.iinc 5 1, 3) := by decide +kernel
theorem dX7_bestPlace_96 : decode cX7_bestPlace 96 = .ok (.goto (-76), 3) := by decide +kernel
theorem dX7_bestPlace_99 : decode cX7_bestPlace 99 = .ok (.iload_n 3, 1) := by decide +kernel
theorem dX7_bestPlace_100 : decode cX7_bestPlace 100 = .ok (.ireturn, 1) := by decide +kernel
set_option maxRecDepth 20000 in
theorem ggX7_rankOf_X7_of : GoodIn wsX7_rankOf wsX7_of := goodIn_r _ [7, 2, 12, 13, 14, 15, 16, 17, 18, 19, 20, 21, 22, 23, 24, 25, 26] (by decide +kernel) (by decide +kernel)
set_option maxRecDepth 20000 in
theorem gX7_rankOf_X7_of : GoodIn wsX7_rankOf (wsV RX7 36 RX7 yX7_of wsX7_of) := goodIn_app (goodIn_of _ (by decide +kernel)) ggX7_rankOf_X7_of
set_option maxRecDepth 20000 in
theorem ggX7_rankOf_X7_isAhead : GoodIn wsX7_rankOf wsX7_isAhead := goodIn_r _ [11, 2, 12, 13, 14, 15, 16, 17, 18, 19, 20, 21, 22, 23, 24, 25, 26] (by decide +kernel) (by decide +kernel)
set_option maxRecDepth 20000 in
theorem gX7_rankOf_X7_isAhead : GoodIn wsX7_rankOf (wsV RX7 40 RX7 yX7_isAhead wsX7_isAhead) := goodIn_app (goodIn_of _ (by decide +kernel)) ggX7_rankOf_X7_isAhead
theorem dX7_rankOf_0 : decode cX7_rankOf 0 = .ok (.aload_n 0, 1) := by decide +kernel
theorem dX7_rankOf_1 : decode cX7_rankOf 1 = .ok (.iconst 0, 1) := by decide +kernel
theorem dX7_rankOf_2 : decode cX7_rankOf 2 = .ok (.putfield 25, 3) := by decide +kernel
theorem dX7_rankOf_5 : decode cX7_rankOf 5 = .ok (.iconst 0, 1) := by decide +kernel
theorem dX7_rankOf_6 : decode cX7_rankOf 6 = .ok (.istore_n 3, 1) := by decide +kernel
theorem dX7_rankOf_7 : decode cX7_rankOf 7 = .ok (.iconst 0, 1) := by decide +kernel
theorem dX7_rankOf_8 : decode cX7_rankOf 8 = .ok (.istore 4, 2) := by decide +kernel
theorem dX7_rankOf_10 : decode cX7_rankOf 10 = .ok (.iload 4, 2) := by decide +kernel
theorem dX7_rankOf_12 : decode cX7_rankOf 12 = .ok (.aload_n 0, 1) := by decide +kernel
theorem dX7_rankOf_13 : decode cX7_rankOf 13 = .ok (.iconst 0, 1) := by decide +kernel
theorem dX7_rankOf_14 : decode cX7_rankOf 14 = .ok (.invokevirtual 36, 3) := by decide +kernel
theorem dX7_rankOf_17 : decode cX7_rankOf 17 = .ok (.if_icmp .ge 50, 3) := by decide +kernel
theorem dX7_rankOf_20 : decode cX7_rankOf 20 = .ok (.iload_n 3, 1) := by decide +kernel
theorem dX7_rankOf_21 : decode cX7_rankOf 21 = .ok (.aload_n 0, 1) := by decide +kernel
theorem dX7_rankOf_22 : decode cX7_rankOf 22 = .ok (.aload_n 0, 1) := by decide +kernel
theorem dX7_rankOf_23 : decode cX7_rankOf 23 = .ok (.getfield 7, 3) := by decide +kernel
theorem dX7_rankOf_26 : decode cX7_rankOf 26 = .ok (.bipush 7, 2) := by decide +kernel
theorem dX7_rankOf_28 : decode cX7_rankOf 28 = .ok (.iload 4, 2) := by decide +kernel
theorem dX7_rankOf_30 : decode cX7_rankOf 30 = .ok (.iadd, 1) := by decide +kernel
theorem dX7_rankOf_31 : decode cX7_rankOf 31 = .ok (.laload, 1) := by decide +kernel
theorem dX7_rankOf_32 : decode cX7_rankOf 32 = .ok (.lload_n 1, 1) := by decide +kernel
theorem dX7_rankOf_33 : decode cX7_rankOf 33 = .ok (.invokevirtual 40, 3) := by decide +kernel
theorem dX7_rankOf_36 : decode cX7_rankOf 36 = .ok (.ifCond .ne 18, 3) := by decide +kernel
theorem dX7_rankOf_39 : decode cX7_rankOf 39 = .ok (.aload_n 0, 1) := by decide +kernel
theorem dX7_rankOf_40 : decode cX7_rankOf 40 = .ok (.getfield 7, 3) := by decide +kernel
theorem dX7_rankOf_43 : decode cX7_rankOf 43 = .ok (.bipush 7, 2) := by decide +kernel
theorem dX7_rankOf_45 : decode cX7_rankOf 45 = .ok (.iload 4, 2) := by decide +kernel
theorem dX7_rankOf_47 : decode cX7_rankOf 47 = .ok (.iadd, 1) := by decide +kernel
theorem dX7_rankOf_48 : decode cX7_rankOf 48 = .ok (.laload, 1) := by decide +kernel
theorem dX7_rankOf_49 : decode cX7_rankOf 49 = .ok (.lload_n 1, 1) := by decide +kernel
theorem dX7_rankOf_50 : decode cX7_rankOf 50 = .ok (.lcmp, 1) := by decide +kernel
theorem dX7_rankOf_51 : decode cX7_rankOf 51 = .ok (.ifCond .ne 7, 3) := by decide +kernel
theorem dX7_rankOf_54 : decode cX7_rankOf 54 = .ok (.iconst 1, 1) := by decide +kernel
theorem dX7_rankOf_55 : decode cX7_rankOf 55 = .ok (.goto 4, 3) := by decide +kernel
theorem dX7_rankOf_58 : decode cX7_rankOf 58 = .ok (.iconst 0, 1) := by decide +kernel
theorem dX7_rankOf_59 : decode cX7_rankOf 59 = .ok (.iadd, 1) := by decide +kernel
theorem dX7_rankOf_60 : decode cX7_rankOf 60 = .ok (.istore_n 3, 1) := by decide +kernel
theorem dX7_rankOf_61 : decode cX7_rankOf 61 = .ok (.iinc 4 1, 3) := by decide +kernel
theorem dX7_rankOf_64 : decode cX7_rankOf 64 = .ok (.goto (-54), 3) := by decide +kernel
theorem dX7_rankOf_67 : decode cX7_rankOf 67 = .ok (.iload_n 3, 1) := by decide +kernel
theorem dX7_rankOf_68 : decode cX7_rankOf 68 = .ok (.ireturn, 1) := by decide +kernel
set_option maxRecDepth 20000 in
theorem ggX7_lost_X7_of : GoodIn wsX7_lost wsX7_of := goodIn_r _ [6, 1, 18, 19, 20, 21, 22, 23, 24, 25, 26, 27, 28, 29, 30, 31, 32] (by decide +kernel) (by decide +kernel)
set_option maxRecDepth 20000 in
theorem gX7_lost_X7_of : GoodIn wsX7_lost (wsV RX7 36 RX7 yX7_of wsX7_of) := goodIn_app (goodIn_of _ (by decide +kernel)) ggX7_lost_X7_of
set_option maxRecDepth 20000 in
theorem ggX7_lost_X7_searches : GoodIn wsX7_lost wsX7_searches := goodIn_r _ [10, 11, 12, 13, 1, 2, 3, 4, 5, 6, 14, 15, 16, 17, 18, 19, 20, 21, 22, 23, 24, 25, 26, 27, 28, 29, 30, 31, 32] (by decide +kernel) (by decide +kernel)
set_option maxRecDepth 20000 in
theorem gX7_lost_X7_searches : GoodIn wsX7_lost (wsV RX7 116 RX7 yX7_searches wsX7_searches) := goodIn_app (goodIn_of _ (by decide +kernel)) ggX7_lost_X7_searches
theorem dX7_lost_0 : decode cX7_lost 0 = .ok (.iconst 0, 1) := by decide +kernel
theorem dX7_lost_1 : decode cX7_lost 1 = .ok (.istore_n 1, 1) := by decide +kernel
theorem dX7_lost_2 : decode cX7_lost 2 = .ok (.iconst 0, 1) := by decide +kernel
theorem dX7_lost_3 : decode cX7_lost 3 = .ok (.istore_n 2, 1) := by decide +kernel
theorem dX7_lost_4 : decode cX7_lost 4 = .ok (.iload_n 2, 1) := by decide +kernel
theorem dX7_lost_5 : decode cX7_lost 5 = .ok (.aload_n 0, 1) := by decide +kernel
theorem dX7_lost_6 : decode cX7_lost 6 = .ok (.iconst 0, 1) := by decide +kernel
theorem dX7_lost_7 : decode cX7_lost 7 = .ok (.invokevirtual 36, 3) := by decide +kernel
theorem dX7_lost_10 : decode cX7_lost 10 = .ok (.if_icmp .ge 36, 3) := by decide +kernel
theorem dX7_lost_13 : decode cX7_lost 13 = .ok (.iload_n 1, 1) := by decide +kernel
theorem dX7_lost_14 : decode cX7_lost 14 = .ok (.aload_n 0, 1) := by decide +kernel
theorem dX7_lost_15 : decode cX7_lost 15 = .ok (.aload_n 0, 1) := by decide +kernel
theorem dX7_lost_16 : decode cX7_lost 16 = .ok (.getfield 7, 3) := by decide +kernel
theorem dX7_lost_19 : decode cX7_lost 19 = .ok (.bipush 7, 2) := by decide +kernel
theorem dX7_lost_21 : decode cX7_lost 21 = .ok (.iload_n 2, 1) := by decide +kernel
theorem dX7_lost_22 : decode cX7_lost 22 = .ok (.iadd, 1) := by decide +kernel
theorem dX7_lost_23 : decode cX7_lost 23 = .ok (.laload, 1) := by decide +kernel
theorem dX7_lost_24 : decode cX7_lost 24 = .ok (.invokevirtual 116, 3) := by decide +kernel
theorem dX7_lost_27 : decode cX7_lost 27 = .ok (.sipush (-1000), 3) := by decide +kernel
theorem dX7_lost_30 : decode cX7_lost 30 = .ok (.if_icmp .ne 7, 3) := by decide +kernel
theorem dX7_lost_33 : decode cX7_lost 33 = .ok (.iconst 1, 1) := by decide +kernel
theorem dX7_lost_34 : decode cX7_lost 34 = .ok (.goto 4, 3) := by decide +kernel
theorem dX7_lost_37 : decode cX7_lost 37 = .ok (.iconst 0, 1) := by decide +kernel
theorem dX7_lost_38 : decode cX7_lost 38 = .ok (.iadd, 1) := by decide +kernel
theorem dX7_lost_39 : decode cX7_lost 39 = .ok (.istore_n 1, 1) := by decide +kernel
theorem dX7_lost_40 : decode cX7_lost 40 = .ok (.iinc 2 1, 3) := by decide +kernel
theorem dX7_lost_43 : decode cX7_lost 43 = .ok (.goto (-39), 3) := by decide +kernel
theorem dX7_lost_46 : decode cX7_lost 46 = .ok (.iload_n 1, 1) := by decide +kernel
theorem dX7_lost_47 : decode cX7_lost 47 = .ok (.ireturn, 1) := by decide +kernel
set_option maxRecDepth 20000 in
theorem ggX7_lostValues_X7_lost : GoodIn wsX7_lostValues wsX7_lost := goodIn_r _ [6, 7, 8, 9, 10, 5, 11, 12, 13, 14, 15, 16, 17, 18, 19, 20, 21, 22, 23, 24, 25, 26, 27, 28, 29, 30, 31, 32, 33, 34, 35, 36, 37] (by decide +kernel) (by decide +kernel)
set_option maxRecDepth 20000 in
theorem gX7_lostValues_X7_lost : GoodIn wsX7_lostValues (wsV RX7 155 RX7 yX7_lost wsX7_lost) := goodIn_app (goodIn_of _ (by decide +kernel)) ggX7_lostValues_X7_lost
theorem dX7_lostValues_0 : decode cX7_lostValues 0 = .ok (.aload_n 0, 1) := by decide +kernel
theorem dX7_lostValues_1 : decode cX7_lostValues 1 = .ok (.iconst 0, 1) := by decide +kernel
theorem dX7_lostValues_2 : decode cX7_lostValues 2 = .ok (.putfield 25, 3) := by decide +kernel
theorem dX7_lostValues_5 : decode cX7_lostValues 5 = .ok (.aload_n 0, 1) := by decide +kernel
theorem dX7_lostValues_6 : decode cX7_lostValues 6 = .ok (.invokevirtual 155, 3) := by decide +kernel
theorem dX7_lostValues_9 : decode cX7_lostValues 9 = .ok (.ireturn, 1) := by decide +kernel
set_option maxRecDepth 20000 in
theorem ggX7_type_X7_in : GoodIn wsX7_type wsX7_in := goodIn_r _ [7] (by decide +kernel) (by decide +kernel)
set_option maxRecDepth 20000 in
theorem gX7_type_X7_in : GoodIn wsX7_type (va_wsS RX7 89 yX7_in wsX7_in) := goodIn_app (goodIn_of _ (by decide +kernel)) ggX7_type_X7_in
set_option maxRecDepth 20000 in
theorem ggX7_type_X7_throwsAt : GoodIn wsX7_type wsX7_throwsAt := goodIn_r _ [11, 12, 13, 14, 15, 16, 17, 18, 19, 20, 21, 22, 23, 24, 25, 26, 27] (by decide +kernel) (by decide +kernel)
set_option maxRecDepth 20000 in
theorem gX7_type_X7_throwsAt : GoodIn wsX7_type (wsV RX7 76 RX7 yX7_throwsAt wsX7_throwsAt) := goodIn_app (goodIn_of _ (by decide +kernel)) ggX7_type_X7_throwsAt
theorem dX7_type_0 : decode cX7_type 0 = .ok (.aload_n 0, 1) := by decide +kernel
theorem dX7_type_1 : decode cX7_type 1 = .ok (.iload_n 1, 1) := by decide +kernel
theorem dX7_type_2 : decode cX7_type 2 = .ok (.i2l, 1) := by decide +kernel
theorem dX7_type_3 : decode cX7_type 3 = .ok (.lconst 0, 1) := by decide +kernel
theorem dX7_type_4 : decode cX7_type 4 = .ok (.ldc2_w 158, 3) := by decide +kernel
theorem dX7_type_7 : decode cX7_type 7 = .ok (.invokestatic 89, 3) := by decide +kernel
theorem dX7_type_10 : decode cX7_type 10 = .ok (.ifCond .ne 7, 3) := by decide +kernel
theorem dX7_type_13 : decode cX7_type 13 = .ok (.iconst 1, 1) := by decide +kernel
theorem dX7_type_14 : decode cX7_type 14 = .ok (.goto 18, 3) := by decide +kernel
theorem dX7_type_17 : decode cX7_type 17 = .ok (.aload_n 0, 1) := by decide +kernel
theorem dX7_type_18 : decode cX7_type 18 = .ok (.getfield 136, 3) := by decide +kernel
theorem dX7_type_21 : decode cX7_type 21 = .ok (.sipush 150, 3) := by decide +kernel
theorem dX7_type_24 : decode cX7_type 24 = .ok (.if_icmp .ne 7, 3) := by decide +kernel
theorem dX7_type_27 : decode cX7_type 27 = .ok (.iconst 2, 1) := by decide +kernel
theorem dX7_type_28 : decode cX7_type 28 = .ok (.goto 4, 3) := by decide +kernel
theorem dX7_type_31 : decode cX7_type 31 = .ok (.iconst 0, 1) := by decide +kernel
theorem dX7_type_32 : decode cX7_type 32 = .ok (.invokevirtual 76, 3) := by decide +kernel
theorem dX7_type_35 : decode cX7_type 35 = .ok (.ifCond .eq 5, 3) := by decide +kernel
theorem dX7_type_38 : decode cX7_type 38 = .ok (.iconst 0, 1) := by decide +kernel
theorem dX7_type_39 : decode cX7_type 39 = .ok (.ireturn, 1) := by decide +kernel
theorem dX7_type_40 : decode cX7_type 40 = .ok (.aload_n 0, 1) := by decide +kernel
theorem dX7_type_41 : decode cX7_type 41 = .ok (.getfield 19, 3) := by decide +kernel
theorem dX7_type_44 : decode cX7_type 44 = .ok (.aload_n 0, 1) := by decide +kernel
theorem dX7_type_45 : decode cX7_type 45 = .ok (.getfield 136, 3) := by decide +kernel
theorem dX7_type_48 : decode cX7_type 48 = .ok (.iload_n 1, 1) := by decide +kernel
theorem dX7_type_49 : decode cX7_type 49 = .ok (.iastore, 1) := by decide +kernel
theorem dX7_type_50 : decode cX7_type 50 = .ok (.aload_n 0, 1) := by decide +kernel
theorem dX7_type_51 : decode cX7_type 51 = .ok (.dup, 1) := by decide +kernel
theorem dX7_type_52 : decode cX7_type 52 = .ok (.getfield 136, 3) := by decide +kernel
theorem dX7_type_55 : decode cX7_type 55 = .ok (.iconst 1, 1) := by decide +kernel
theorem dX7_type_56 : decode cX7_type 56 = .ok (.iadd, 1) := by decide +kernel
theorem dX7_type_57 : decode cX7_type 57 = .ok (.putfield 136, 3) := by decide +kernel
theorem dX7_type_60 : decode cX7_type 60 = .ok (.aload_n 0, 1) := by decide +kernel
theorem dX7_type_61 : decode cX7_type 61 = .ok (.getfield 136, 3) := by decide +kernel
theorem dX7_type_64 : decode cX7_type 64 = .ok (.ireturn, 1) := by decide +kernel
theorem dX7_clearCommands_0 : decode cX7_clearCommands 0 = .ok (.aload_n 0, 1) := by decide +kernel
theorem dX7_clearCommands_1 : decode cX7_clearCommands 1 = .ok (.iconst 0, 1) := by decide +kernel
theorem dX7_clearCommands_2 : decode cX7_clearCommands 2 = .ok (.putfield 25, 3) := by decide +kernel
theorem dX7_clearCommands_5 : decode cX7_clearCommands 5 = .ok (.aload_n 0, 1) := by decide +kernel
theorem dX7_clearCommands_6 : decode cX7_clearCommands 6 = .ok (.getfield 136, 3) := by decide +kernel
theorem dX7_clearCommands_9 : decode cX7_clearCommands 9 = .ok (.istore_n 1, 1) := by decide +kernel
theorem dX7_clearCommands_10 : decode cX7_clearCommands 10 = .ok (.aload_n 0, 1) := by decide +kernel
theorem dX7_clearCommands_11 : decode cX7_clearCommands 11 = .ok (.iconst 0, 1) := by decide +kernel
theorem dX7_clearCommands_12 : decode cX7_clearCommands 12 = .ok (.putfield 136, 3) := by decide +kernel
theorem dX7_clearCommands_15 : decode cX7_clearCommands 15 = .ok (.iload_n 1, 1) := by decide +kernel
theorem dX7_clearCommands_16 : decode cX7_clearCommands 16 = .ok (.ireturn, 1) := by decide +kernel
set_option maxRecDepth 20000 in
theorem ggX7_isAt_X7_in : GoodIn wsX7_isAt wsX7_in := goodIn_r _ [7] (by decide +kernel) (by decide +kernel)
set_option maxRecDepth 20000 in
theorem gX7_isAt_X7_in : GoodIn wsX7_isAt (va_wsS RX7 89 yX7_in wsX7_in) := goodIn_app (goodIn_of _ (by decide +kernel)) ggX7_isAt_X7_in
theorem dX7_isAt_0 : decode cX7_isAt 0 = .ok (.aload_n 0, 1) := by decide +kernel
theorem dX7_isAt_1 : decode cX7_isAt 1 = .ok (.getfield 160, 3) := by decide +kernel
theorem dX7_isAt_4 : decode cX7_isAt 4 = .ok (.aload_n 0, 1) := by decide +kernel
theorem dX7_isAt_5 : decode cX7_isAt 5 = .ok (.getfield 136, 3) := by decide +kernel
theorem dX7_isAt_8 : decode cX7_isAt 8 = .ok (.if_icmp .ge 27, 3) := by decide +kernel
theorem dX7_isAt_11 : decode cX7_isAt 11 = .ok (.aload_n 0, 1) := by decide +kernel
theorem dX7_isAt_12 : decode cX7_isAt 12 = .ok (.getfield 19, 3) := by decide +kernel
theorem dX7_isAt_15 : decode cX7_isAt 15 = .ok (.aload_n 0, 1) := by decide +kernel
theorem dX7_isAt_16 : decode cX7_isAt 16 = .ok (.getfield 160, 3) := by decide +kernel
theorem dX7_isAt_19 : decode cX7_isAt 19 = .ok (.iaload, 1) := by decide +kernel
theorem dX7_isAt_20 : decode cX7_isAt 20 = .ok (.i2l, 1) := by decide +kernel
theorem dX7_isAt_21 : decode cX7_isAt 21 = .ok (.iload_n 1, 1) := by decide +kernel
theorem dX7_isAt_22 : decode cX7_isAt 22 = .ok (.i2l, 1) := by decide +kernel
theorem dX7_isAt_23 : decode cX7_isAt 23 = .ok (.iload_n 2, 1) := by decide +kernel
theorem dX7_isAt_24 : decode cX7_isAt 24 = .ok (.i2l, 1) := by decide +kernel
theorem dX7_isAt_25 : decode cX7_isAt 25 = .ok (.invokestatic 89, 3) := by decide +kernel
theorem dX7_isAt_28 : decode cX7_isAt 28 = .ok (.ifCond .eq 7, 3) := by decide +kernel
theorem dX7_isAt_31 : decode cX7_isAt 31 = .ok (.iconst 1, 1) := by decide +kernel
theorem dX7_isAt_32 : decode cX7_isAt 32 = .ok (.goto 4, 3) := by decide +kernel
theorem dX7_isAt_35 : decode cX7_isAt 35 = .ok (.iconst 0, 1) := by decide +kernel
theorem dX7_isAt_36 : decode cX7_isAt 36 = .ok (.ireturn, 1) := by decide +kernel
set_option maxRecDepth 20000 in
theorem ggX7_skips_X7_isAt : GoodIn wsX7_skips wsX7_isAt := goodIn_r _ [6, 1, 7, 8, 9, 10, 5, 11, 12, 13, 14, 15, 16, 17, 18, 19, 20, 21, 22, 23, 24, 25, 26] (by decide +kernel) (by decide +kernel)
set_option maxRecDepth 20000 in
theorem gX7_skips_X7_isAt : GoodIn wsX7_skips (wsV RX7 163 RX7 yX7_isAt wsX7_isAt) := goodIn_app (goodIn_of _ (by decide +kernel)) ggX7_skips_X7_isAt
theorem dX7_skips_0 : decode cX7_skips 0 = .ok (.aload_n 0, 1) := by decide +kernel
theorem dX7_skips_1 : decode cX7_skips 1 = .ok (.bipush 32, 2) := by decide +kernel
theorem dX7_skips_3 : decode cX7_skips 3 = .ok (.bipush 32, 2) := by decide +kernel
theorem dX7_skips_5 : decode cX7_skips 5 = .ok (.invokevirtual 163, 3) := by decide +kernel
theorem dX7_skips_8 : decode cX7_skips 8 = .ok (.ifCond .eq 16, 3) := by decide +kernel
theorem dX7_skips_11 : decode cX7_skips 11 = .ok (.aload_n 0, 1) := by decide +kernel
theorem dX7_skips_12 : decode cX7_skips 12 = .ok (.dup, 1) := by decide +kernel
theorem dX7_skips_13 : decode cX7_skips 13 = .ok (.getfield 160, 3) := by decide +kernel
theorem dX7_skips_16 : decode cX7_skips 16 = .ok (.iconst 1, 1) := by decide +kernel
theorem dX7_skips_17 : decode cX7_skips 17 = .ok (.iadd, 1) := by decide +kernel
theorem dX7_skips_18 : decode cX7_skips 18 = .ok (.putfield 160, 3) := by decide +kernel
theorem dX7_skips_21 : decode cX7_skips 21 = .ok (.goto (-21), 3) := by decide +kernel
theorem dX7_skips_24 : decode cX7_skips 24 = .ok (.return_, 1) := by decide +kernel
theorem dX7_wordOf_0 : decode cX7_wordOf 0 = .ok (.lconst 0, 1) := by decide +kernel
theorem dX7_wordOf_1 : decode cX7_wordOf 1 = .ok (.lstore_n 3, 1) := by decide +kernel
theorem dX7_wordOf_2 : decode cX7_wordOf 2 = .ok (.iload_n 1, 1) := by decide +kernel
theorem dX7_wordOf_3 : decode cX7_wordOf 3 = .ok (.istore 5, 2) := by decide +kernel
theorem dX7_wordOf_5 : decode cX7_wordOf 5 = .ok (.iload 5, 2) := by decide +kernel
theorem dX7_wordOf_7 : decode cX7_wordOf 7 = .ok (.iload_n 2, 1) := by decide +kernel
theorem dX7_wordOf_8 : decode cX7_wordOf 8 = .ok (.if_icmp .ge 30, 3) := by decide +kernel
theorem dX7_wordOf_11 : decode cX7_wordOf 11 = .ok (.ldc2_w 167, 3) := by decide +kernel
theorem dX7_wordOf_14 : decode cX7_wordOf 14 = .ok (.lload_n 3, 1) := by decide +kernel
theorem dX7_wordOf_15 : decode cX7_wordOf 15 = .ok (.lmul, 1) := by decide +kernel
theorem dX7_wordOf_16 : decode cX7_wordOf 16 = .ok (.aload_n 0, 1) := by decide +kernel
theorem dX7_wordOf_17 : decode cX7_wordOf 17 = .ok (.getfield 19, 3) := by decide +kernel
theorem dX7_wordOf_20 : decode cX7_wordOf 20 = .ok (.iload 5, 2) := by decide +kernel
theorem dX7_wordOf_22 : decode cX7_wordOf 22 = .ok (.iaload, 1) := by decide +kernel
theorem dX7_wordOf_23 : decode cX7_wordOf 23 = .ok (.i2l, 1) := by decide +kernel
theorem dX7_wordOf_24 : decode cX7_wordOf 24 = .ok (.ladd, 1) := by decide +kernel
theorem dX7_wordOf_25 : decode cX7_wordOf 25 = .ok (.ldc2_w 169, 3) := by decide +kernel
theorem dX7_wordOf_28 : decode cX7_wordOf 28 = .ok (.lsub, 1) := by decide +kernel
theorem dX7_wordOf_29 : decode cX7_wordOf 29 = .ok (.lconst 1, 1) := by decide +kernel
theorem dX7_wordOf_30 : decode cX7_wordOf 30 = .ok (.ladd, 1) := by decide +kernel
theorem dX7_wordOf_31 : decode cX7_wordOf 31 = .ok (.lstore_n 3, 1) := by decide +kernel
theorem dX7_wordOf_32 : decode cX7_wordOf 32 = .ok (.iinc 5 1, 3) := by decide +kernel
theorem dX7_wordOf_35 : decode cX7_wordOf 35 = .ok (.goto (-30), 3) := by decide +kernel
theorem dX7_wordOf_38 : decode cX7_wordOf 38 = .ok (.iload_n 2, 1) := by decide +kernel
theorem dX7_wordOf_39 : decode cX7_wordOf 39 = .ok (.iload_n 1, 1) := by decide +kernel
theorem dX7_wordOf_40 : decode cX7_wordOf 40 = .ok (.isub, 1) := by decide +kernel
theorem dX7_wordOf_41 : decode cX7_wordOf 41 = .ok (.iconst 5, 1) := by decide +kernel
theorem dX7_wordOf_42 : decode cX7_wordOf 42 = .ok (.if_icmp .le 7, 3) := by decide +kernel
theorem dX7_wordOf_45 : decode cX7_wordOf 45 = .ok (.lconst 0, 1) := by decide +kernel
theorem dX7_wordOf_46 : decode cX7_wordOf 46 = .ok (.goto 4, 3) := by decide +kernel
theorem dX7_wordOf_49 : decode cX7_wordOf 49 = .ok (.lload_n 3, 1) := by decide +kernel
theorem dX7_wordOf_50 : decode cX7_wordOf 50 = .ok (.lreturn, 1) := by decide +kernel
theorem dX7_code_0 : decode cX7_code 0 = .ok (.ldc2_w 167, 3) := by decide +kernel
theorem dX7_code_3 : decode cX7_code 3 = .ok (.ldc2_w 167, 3) := by decide +kernel
theorem dX7_code_6 : decode cX7_code 6 = .ok (.iload_n 0, 1) := by decide +kernel
theorem dX7_code_7 : decode cX7_code 7 = .ok (.bipush 97, 2) := by decide +kernel
theorem dX7_code_9 : decode cX7_code 9 = .ok (.isub, 1) := by decide +kernel
theorem dX7_code_10 : decode cX7_code 10 = .ok (.iconst 1, 1) := by decide +kernel
theorem dX7_code_11 : decode cX7_code 11 = .ok (.iadd, 1) := by decide +kernel
theorem dX7_code_12 : decode cX7_code 12 = .ok (.i2l, 1) := by decide +kernel
theorem dX7_code_13 : decode cX7_code 13 = .ok (.lmul, 1) := by decide +kernel
theorem dX7_code_14 : decode cX7_code 14 = .ok (.iload_n 1, 1) := by decide +kernel
theorem dX7_code_15 : decode cX7_code 15 = .ok (.i2l, 1) := by decide +kernel
theorem dX7_code_16 : decode cX7_code 16 = .ok (.ladd, 1) := by decide +kernel
theorem dX7_code_17 : decode cX7_code 17 = .ok (.ldc2_w 169, 3) := by decide +kernel
theorem dX7_code_20 : decode cX7_code 20 = .ok (.lsub, 1) := by decide +kernel
theorem dX7_code_21 : decode cX7_code 21 = .ok (.lconst 1, 1) := by decide +kernel
theorem dX7_code_22 : decode cX7_code 22 = .ok (.ladd, 1) := by decide +kernel
theorem dX7_code_23 : decode cX7_code 23 = .ok (.lmul, 1) := by decide +kernel
theorem dX7_code_24 : decode cX7_code 24 = .ok (.iload_n 2, 1) := by decide +kernel
theorem dX7_code_25 : decode cX7_code 25 = .ok (.i2l, 1) := by decide +kernel
theorem dX7_code_26 : decode cX7_code 26 = .ok (.ladd, 1) := by decide +kernel
theorem dX7_code_27 : decode cX7_code 27 = .ok (.ldc2_w 169, 3) := by decide +kernel
theorem dX7_code_30 : decode cX7_code 30 = .ok (.lsub, 1) := by decide +kernel
theorem dX7_code_31 : decode cX7_code 31 = .ok (.lconst 1, 1) := by decide +kernel
theorem dX7_code_32 : decode cX7_code 32 = .ok (.ladd, 1) := by decide +kernel
theorem dX7_code_33 : decode cX7_code 33 = .ok (.lstore 5, 2) := by decide +kernel
theorem dX7_code_35 : decode cX7_code 35 = .ok (.iload_n 3, 1) := by decide +kernel
theorem dX7_code_36 : decode cX7_code 36 = .ok (.ifCond .le 21, 3) := by decide +kernel
theorem dX7_code_39 : decode cX7_code 39 = .ok (.ldc2_w 167, 3) := by decide +kernel
theorem dX7_code_42 : decode cX7_code 42 = .ok (.lload 5, 2) := by decide +kernel
theorem dX7_code_44 : decode cX7_code 44 = .ok (.lmul, 1) := by decide +kernel
theorem dX7_code_45 : decode cX7_code 45 = .ok (.iload_n 3, 1) := by decide +kernel
theorem dX7_code_46 : decode cX7_code 46 = .ok (.i2l, 1) := by decide +kernel
theorem dX7_code_47 : decode cX7_code 47 = .ok (.ladd, 1) := by decide +kernel
theorem dX7_code_48 : decode cX7_code 48 = .ok (.ldc2_w 169, 3) := by decide +kernel
theorem dX7_code_51 : decode cX7_code 51 = .ok (.lsub, 1) := by decide +kernel
theorem dX7_code_52 : decode cX7_code 52 = .ok (.lconst 1, 1) := by decide +kernel
theorem dX7_code_53 : decode cX7_code 53 = .ok (.ladd, 1) := by decide +kernel
theorem dX7_code_54 : decode cX7_code 54 = .ok (.goto 5, 3) := by decide +kernel
theorem dX7_code_57 : decode cX7_code 57 = .ok (.lload 5, 2) := by decide +kernel
theorem dX7_code_59 : decode cX7_code 59 = .ok (.lstore 5, 2) := by decide +kernel
theorem dX7_code_61 : decode cX7_code 61 = .ok (.iload 4, 2) := by decide +kernel
theorem dX7_code_63 : decode cX7_code 63 = .ok (.ifCond .le 22, 3) := by decide +kernel
theorem dX7_code_66 : decode cX7_code 66 = .ok (.ldc2_w 167, 3) := by decide +kernel
theorem dX7_code_69 : decode cX7_code 69 = .ok (.lload 5, 2) := by decide +kernel
theorem dX7_code_71 : decode cX7_code 71 = .ok (.lmul, 1) := by decide +kernel
theorem dX7_code_72 : decode cX7_code 72 = .ok (.iload 4, 2) := by decide +kernel
theorem dX7_code_74 : decode cX7_code 74 = .ok (.i2l, 1) := by decide +kernel
theorem dX7_code_75 : decode cX7_code 75 = .ok (.ladd, 1) := by decide +kernel
theorem dX7_code_76 : decode cX7_code 76 = .ok (.ldc2_w 169, 3) := by decide +kernel
theorem dX7_code_79 : decode cX7_code 79 = .ok (.lsub, 1) := by decide +kernel
theorem dX7_code_80 : decode cX7_code 80 = .ok (.lconst 1, 1) := by decide +kernel
theorem dX7_code_81 : decode cX7_code 81 = .ok (.ladd, 1) := by decide +kernel
theorem dX7_code_82 : decode cX7_code 82 = .ok (.goto 5, 3) := by decide +kernel
theorem dX7_code_85 : decode cX7_code 85 = .ok (.lload 5, 2) := by decide +kernel
theorem dX7_code_87 : decode cX7_code 87 = .ok (.lreturn, 1) := by decide +kernel
set_option maxRecDepth 20000 in
theorem ggX7_commandOf_X7_code : GoodIn wsX7_commandOf wsX7_code := goodIn_r _ [4, 5, 6] (by decide +kernel) (by decide +kernel)
set_option maxRecDepth 20000 in
theorem gX7_commandOf_X7_code : GoodIn wsX7_commandOf (va_wsS RX7 171 yX7_code wsX7_code) := goodIn_app (goodIn_of _ (by decide +kernel)) ggX7_commandOf_X7_code
theorem dX7_commandOf_0 : decode cX7_commandOf 0 = .ok (.lload_n 0, 1) := by decide +kernel
theorem dX7_commandOf_1 : decode cX7_commandOf 1 = .ok (.bipush 97, 2) := by decide +kernel
theorem dX7_commandOf_3 : decode cX7_commandOf 3 = .ok (.bipush 100, 2) := by decide +kernel
theorem dX7_commandOf_5 : decode cX7_commandOf 5 = .ok (.bipush 100, 2) := by decide +kernel
theorem dX7_commandOf_7 : decode cX7_commandOf 7 = .ok (.iconst 0, 1) := by decide +kernel
theorem dX7_commandOf_8 : decode cX7_commandOf 8 = .ok (.iconst 0, 1) := by decide +kernel
theorem dX7_commandOf_9 : decode cX7_commandOf 9 = .ok (.invokestatic 171, 3) := by decide +kernel
theorem dX7_commandOf_12 : decode cX7_commandOf 12 = .ok (.lcmp, 1) := by decide +kernel
theorem dX7_commandOf_13 : decode cX7_commandOf 13 = .ok (.ifCond .ne 5, 3) := by decide +kernel
theorem dX7_commandOf_16 : decode cX7_commandOf 16 = .ok (.iconst 0, 1) := by decide +kernel
theorem dX7_commandOf_17 : decode cX7_commandOf 17 = .ok (.ireturn, 1) := by decide +kernel
theorem dX7_commandOf_18 : decode cX7_commandOf 18 = .ok (.lload_n 0, 1) := by decide +kernel
theorem dX7_commandOf_19 : decode cX7_commandOf 19 = .ok (.bipush 112, 2) := by decide +kernel
theorem dX7_commandOf_21 : decode cX7_commandOf 21 = .ok (.bipush 117, 2) := by decide +kernel
theorem dX7_commandOf_23 : decode cX7_commandOf 23 = .ok (.bipush 116, 2) := by decide +kernel
theorem dX7_commandOf_25 : decode cX7_commandOf 25 = .ok (.iconst 0, 1) := by decide +kernel
theorem dX7_commandOf_26 : decode cX7_commandOf 26 = .ok (.iconst 0, 1) := by decide +kernel
theorem dX7_commandOf_27 : decode cX7_commandOf 27 = .ok (.invokestatic 171, 3) := by decide +kernel
theorem dX7_commandOf_30 : decode cX7_commandOf 30 = .ok (.lcmp, 1) := by decide +kernel
theorem dX7_commandOf_31 : decode cX7_commandOf 31 = .ok (.ifCond .ne 5, 3) := by decide +kernel
theorem dX7_commandOf_34 : decode cX7_commandOf 34 = .ok (.iconst 1, 1) := by decide +kernel
theorem dX7_commandOf_35 : decode cX7_commandOf 35 = .ok (.ireturn, 1) := by decide +kernel
theorem dX7_commandOf_36 : decode cX7_commandOf 36 = .ok (.lload_n 0, 1) := by decide +kernel
theorem dX7_commandOf_37 : decode cX7_commandOf 37 = .ok (.bipush 100, 2) := by decide +kernel
theorem dX7_commandOf_39 : decode cX7_commandOf 39 = .ok (.bipush 101, 2) := by decide +kernel
theorem dX7_commandOf_41 : decode cX7_commandOf 41 = .ok (.bipush 108, 2) := by decide +kernel
theorem dX7_commandOf_43 : decode cX7_commandOf 43 = .ok (.iconst 0, 1) := by decide +kernel
theorem dX7_commandOf_44 : decode cX7_commandOf 44 = .ok (.iconst 0, 1) := by decide +kernel
theorem dX7_commandOf_45 : decode cX7_commandOf 45 = .ok (.invokestatic 171, 3) := by decide +kernel
theorem dX7_commandOf_48 : decode cX7_commandOf 48 = .ok (.lcmp, 1) := by decide +kernel
theorem dX7_commandOf_49 : decode cX7_commandOf 49 = .ok (.ifCond .ne 5, 3) := by decide +kernel
theorem dX7_commandOf_52 : decode cX7_commandOf 52 = .ok (.iconst 2, 1) := by decide +kernel
theorem dX7_commandOf_53 : decode cX7_commandOf 53 = .ok (.ireturn, 1) := by decide +kernel
theorem dX7_commandOf_54 : decode cX7_commandOf 54 = .ok (.lload_n 0, 1) := by decide +kernel
theorem dX7_commandOf_55 : decode cX7_commandOf 55 = .ok (.bipush 115, 2) := by decide +kernel
theorem dX7_commandOf_57 : decode cX7_commandOf 57 = .ok (.bipush 101, 2) := by decide +kernel
theorem dX7_commandOf_59 : decode cX7_commandOf 59 = .ok (.bipush 116, 2) := by decide +kernel
theorem dX7_commandOf_61 : decode cX7_commandOf 61 = .ok (.iconst 0, 1) := by decide +kernel
theorem dX7_commandOf_62 : decode cX7_commandOf 62 = .ok (.iconst 0, 1) := by decide +kernel
theorem dX7_commandOf_63 : decode cX7_commandOf 63 = .ok (.invokestatic 171, 3) := by decide +kernel
theorem dX7_commandOf_66 : decode cX7_commandOf 66 = .ok (.lcmp, 1) := by decide +kernel
theorem dX7_commandOf_67 : decode cX7_commandOf 67 = .ok (.ifCond .ne 5, 3) := by decide +kernel
theorem dX7_commandOf_70 : decode cX7_commandOf 70 = .ok (.iconst 3, 1) := by decide +kernel
theorem dX7_commandOf_71 : decode cX7_commandOf 71 = .ok (.ireturn, 1) := by decide +kernel
theorem dX7_commandOf_72 : decode cX7_commandOf 72 = .ok (.lload_n 0, 1) := by decide +kernel
theorem dX7_commandOf_73 : decode cX7_commandOf 73 = .ok (.bipush 115, 2) := by decide +kernel
theorem dX7_commandOf_75 : decode cX7_commandOf 75 = .ok (.bipush 119, 2) := by decide +kernel
theorem dX7_commandOf_77 : decode cX7_commandOf 77 = .ok (.bipush 97, 2) := by decide +kernel
theorem dX7_commandOf_79 : decode cX7_commandOf 79 = .ok (.bipush 112, 2) := by decide +kernel
theorem dX7_commandOf_81 : decode cX7_commandOf 81 = .ok (.iconst 0, 1) := by decide +kernel
theorem dX7_commandOf_82 : decode cX7_commandOf 82 = .ok (.invokestatic 171, 3) := by decide +kernel
theorem dX7_commandOf_85 : decode cX7_commandOf 85 = .ok (.lcmp, 1) := by decide +kernel
theorem dX7_commandOf_86 : decode cX7_commandOf 86 = .ok (.ifCond .ne 5, 3) := by decide +kernel
theorem dX7_commandOf_89 : decode cX7_commandOf 89 = .ok (.iconst 4, 1) := by decide +kernel
theorem dX7_commandOf_90 : decode cX7_commandOf 90 = .ok (.ireturn, 1) := by decide +kernel
theorem dX7_commandOf_91 : decode cX7_commandOf 91 = .ok (.lload_n 0, 1) := by decide +kernel
theorem dX7_commandOf_92 : decode cX7_commandOf 92 = .ok (.bipush 98, 2) := by decide +kernel
theorem dX7_commandOf_94 : decode cX7_commandOf 94 = .ok (.bipush 111, 2) := by decide +kernel
theorem dX7_commandOf_96 : decode cX7_commandOf 96 = .ok (.bipush 117, 2) := by decide +kernel
theorem dX7_commandOf_98 : decode cX7_commandOf 98 = .ok (.bipush 110, 2) := by decide +kernel
theorem dX7_commandOf_100 : decode cX7_commandOf 100 = .ok (.bipush 100, 2) := by decide +kernel
theorem dX7_commandOf_102 : decode cX7_commandOf 102 = .ok (.invokestatic 171, 3) := by decide +kernel
theorem dX7_commandOf_105 : decode cX7_commandOf 105 = .ok (.lcmp, 1) := by decide +kernel
theorem dX7_commandOf_106 : decode cX7_commandOf 106 = .ok (.ifCond .ne 7, 3) := by decide +kernel
theorem dX7_commandOf_109 : decode cX7_commandOf 109 = .ok (.iconst 5, 1) := by decide +kernel
theorem dX7_commandOf_110 : decode cX7_commandOf 110 = .ok (.goto 28, 3) := by decide +kernel
theorem dX7_commandOf_113 : decode cX7_commandOf 113 = .ok (.lload_n 0, 1) := by decide +kernel
theorem dX7_commandOf_114 : decode cX7_commandOf 114 = .ok (.bipush 109, 2) := by decide +kernel
theorem dX7_commandOf_116 : decode cX7_commandOf 116 = .ok (.bipush 101, 2) := by decide +kernel
theorem dX7_commandOf_118 : decode cX7_commandOf 118 = .ok (.bipush 110, 2) := by decide +kernel
theorem dX7_commandOf_120 : decode cX7_commandOf 120 = .ok (.bipush 100, 2) := by decide +kernel
theorem dX7_commandOf_122 : decode cX7_commandOf 122 = .ok (.iconst 0, 1) := by decide +kernel
theorem dX7_commandOf_123 : decode cX7_commandOf 123 = .ok (.invokestatic 171, 3) := by decide +kernel
theorem dX7_commandOf_126 : decode cX7_commandOf 126 = .ok (.lcmp, 1) := by decide +kernel
theorem dX7_commandOf_127 : decode cX7_commandOf 127 = .ok (.ifCond .ne 8, 3) := by decide +kernel
theorem dX7_commandOf_130 : decode cX7_commandOf 130 = .ok (.bipush 6, 2) := by decide +kernel
theorem dX7_commandOf_132 : decode cX7_commandOf 132 = .ok (.goto 6, 3) := by decide +kernel
theorem dX7_commandOf_135 : decode cX7_commandOf 135 = .ok (.sipush (-1000), 3) := by decide +kernel
theorem dX7_commandOf_138 : decode cX7_commandOf 138 = .ok (.ireturn, 1) := by decide +kernel
set_option maxRecDepth 20000 in
theorem ggX7_number_X7_isAt : GoodIn wsX7_number wsX7_isAt := goodIn_r _ [11, 1, 12, 3, 13, 14, 10, 15, 20, 21, 22, 23, 24, 25, 26, 27, 28, 29, 30, 31, 32, 33, 34] (by decide +kernel) (by decide +kernel)
set_option maxRecDepth 20000 in
theorem gX7_number_X7_isAt : GoodIn wsX7_number (wsV RX7 163 RX7 yX7_isAt wsX7_isAt) := goodIn_app (goodIn_of _ (by decide +kernel)) ggX7_number_X7_isAt
set_option maxRecDepth 20000 in
theorem ggX7_number_X7_skips : GoodIn wsX7_number wsX7_skips := goodIn_r _ [19, 1, 7, 8, 9, 10, 11, 12, 3, 13, 14, 15, 20, 21, 22, 23, 24, 25, 26, 27, 28, 29, 30, 31, 32, 33, 34] (by decide +kernel) (by decide +kernel)
set_option maxRecDepth 20000 in
theorem gX7_number_X7_skips : GoodIn wsX7_number (wsV RX7 175 RX7 yX7_skips wsX7_skips) := goodIn_app (goodIn_of _ (by decide +kernel)) ggX7_number_X7_skips
theorem dX7_number_0 : decode cX7_number 0 = .ok (.aload_n 0, 1) := by decide +kernel
theorem dX7_number_1 : decode cX7_number 1 = .ok (.bipush 32, 2) := by decide +kernel
theorem dX7_number_3 : decode cX7_number 3 = .ok (.bipush 32, 2) := by decide +kernel
theorem dX7_number_5 : decode cX7_number 5 = .ok (.invokevirtual 163, 3) := by decide +kernel
theorem dX7_number_8 : decode cX7_number 8 = .ok (.ifCond .ne 5, 3) := by decide +kernel
theorem dX7_number_11 : decode cX7_number 11 = .ok (.iconst 0, 1) := by decide +kernel
theorem dX7_number_12 : decode cX7_number 12 = .ok (.ireturn, 1) := by decide +kernel
theorem dX7_number_13 : decode cX7_number 13 = .ok (.aload_n 0, 1) := by decide +kernel
theorem dX7_number_14 : decode cX7_number 14 = .ok (.invokevirtual 175, 3) := by decide +kernel
theorem dX7_number_17 : decode cX7_number 17 = .ok (.iload_n 1, 1) := by decide +kernel
theorem dX7_number_18 : decode cX7_number 18 = .ok (.ifCond .eq 18, 3) := by decide +kernel
theorem dX7_number_21 : decode cX7_number 21 = .ok (.aload_n 0, 1) := by decide +kernel
theorem dX7_number_22 : decode cX7_number 22 = .ok (.bipush 45, 2) := by decide +kernel
theorem dX7_number_24 : decode cX7_number 24 = .ok (.bipush 45, 2) := by decide +kernel
theorem dX7_number_26 : decode cX7_number 26 = .ok (.invokevirtual 163, 3) := by decide +kernel
theorem dX7_number_29 : decode cX7_number 29 = .ok (.ifCond .eq 7, 3) := by decide +kernel
theorem dX7_number_32 : decode cX7_number 32 = .ok (.iconst 1, 1) := by decide +kernel
theorem dX7_number_33 : decode cX7_number 33 = .ok (.goto 4, 3) := by decide +kernel
theorem dX7_number_36 : decode cX7_number 36 = .ok (.iconst 0, 1) := by decide +kernel
theorem dX7_number_37 : decode cX7_number 37 = .ok (.istore_n 2, 1) := by decide +kernel
theorem dX7_number_38 : decode cX7_number 38 = .ok (.aload_n 0, 1) := by decide +kernel
theorem dX7_number_39 : decode cX7_number 39 = .ok (.dup, 1) := by decide +kernel
theorem dX7_number_40 : decode cX7_number 40 = .ok (.getfield 160, 3) := by decide +kernel
theorem dX7_number_43 : decode cX7_number 43 = .ok (.iload_n 2, 1) := by decide +kernel
theorem dX7_number_44 : decode cX7_number 44 = .ok (.ifCond .eq 7, 3) := by decide +kernel
theorem dX7_number_47 : decode cX7_number 47 = .ok (.iconst 1, 1) := by decide +kernel
theorem dX7_number_48 : decode cX7_number 48 = .ok (.goto 4, 3) := by decide +kernel
theorem dX7_number_51 : decode cX7_number 51 = .ok (.iconst 0, 1) := by decide +kernel
theorem dX7_number_52 : decode cX7_number 52 = .ok (.iadd, 1) := by decide +kernel
theorem dX7_number_53 : decode cX7_number 53 = .ok (.putfield 160, 3) := by decide +kernel
theorem dX7_number_56 : decode cX7_number 56 = .ok (.aload_n 0, 1) := by decide +kernel
theorem dX7_number_57 : decode cX7_number 57 = .ok (.getfield 160, 3) := by decide +kernel
theorem dX7_number_60 : decode cX7_number 60 = .ok (.istore_n 3, 1) := by decide +kernel
theorem dX7_number_61 : decode cX7_number 61 = .ok (.lconst 0, 1) := by decide +kernel
theorem dX7_number_62 : decode cX7_number 62 = .ok (.lstore 4, 2) := by decide +kernel
theorem dX7_number_64 : decode cX7_number 64 = .ok (.aload_n 0, 1) := by decide +kernel
theorem dX7_number_65 : decode cX7_number 65 = .ok (.bipush 48, 2) := by decide +kernel
theorem dX7_number_67 : decode cX7_number 67 = .ok (.bipush 57, 2) := by decide +kernel
theorem dX7_number_69 : decode cX7_number 69 = .ok (.invokevirtual 163, 3) := by decide +kernel
theorem dX7_number_72 : decode cX7_number 72 = .ok (.ifCond .eq 50, 3) := by decide +kernel
theorem dX7_number_75 : decode cX7_number 75 = .ok (.aload_n 0, 1) := by decide +kernel
theorem dX7_number_76 : decode cX7_number 76 = .ok (.getfield 160, 3) := by decide +kernel
theorem dX7_number_79 : decode cX7_number 79 = .ok (.iload_n 3, 1) := by decide +kernel
theorem dX7_number_80 : decode cX7_number 80 = .ok (.isub, 1) := by decide +kernel
theorem dX7_number_81 : decode cX7_number 81 = .ok (.bipush 9, 2) := by decide +kernel
theorem dX7_number_83 : decode cX7_number 83 = .ok (.if_icmp .ge 39, 3) := by decide +kernel
theorem dX7_number_86 : decode cX7_number 86 = .ok (.ldc2_w 178, 3) := by decide +kernel
theorem dX7_number_89 : decode cX7_number 89 = .ok (.lload 4, 2) := by decide +kernel
theorem dX7_number_91 : decode cX7_number 91 = .ok (.lmul, 1) := by decide +kernel
theorem dX7_number_92 : decode cX7_number 92 = .ok (.aload_n 0, 1) := by decide +kernel
theorem dX7_number_93 : decode cX7_number 93 = .ok (.getfield 19, 3) := by decide +kernel
theorem dX7_number_96 : decode cX7_number 96 = .ok (.aload_n 0, 1) := by decide +kernel
theorem dX7_number_97 : decode cX7_number 97 = .ok (.getfield 160, 3) := by decide +kernel
theorem dX7_number_100 : decode cX7_number 100 = .ok (.iaload, 1) := by decide +kernel
theorem dX7_number_101 : decode cX7_number 101 = .ok (.i2l, 1) := by decide +kernel
theorem dX7_number_102 : decode cX7_number 102 = .ok (.ladd, 1) := by decide +kernel
theorem dX7_number_103 : decode cX7_number 103 = .ok (.ldc2_w 180, 3) := by decide +kernel
theorem dX7_number_106 : decode cX7_number 106 = .ok (.lsub, 1) := by decide +kernel
theorem dX7_number_107 : decode cX7_number 107 = .ok (.lstore 4, 2) := by decide +kernel
theorem dX7_number_109 : decode cX7_number 109 = .ok (.aload_n 0, 1) := by decide +kernel
theorem dX7_number_110 : decode cX7_number 110 = .ok (.dup, 1) := by decide +kernel
theorem dX7_number_111 : decode cX7_number 111 = .ok (.getfield 160, 3) := by decide +kernel
theorem dX7_number_114 : decode cX7_number 114 = .ok (.iconst 1, 1) := by decide +kernel
theorem dX7_number_115 : decode cX7_number 115 = .ok (.iadd, 1) := by decide +kernel
theorem dX7_number_116 : decode cX7_number 116 = .ok (.putfield 160, 3) := by decide +kernel
theorem dX7_number_119 : decode cX7_number 119 = .ok (.goto (-55), 3) := by decide +kernel
theorem dX7_number_122 : decode cX7_number 122 = .ok (.aload_n 0, 1) := by decide +kernel
theorem dX7_number_123 : decode cX7_number 123 = .ok (.iload_n 1, 1) := by decide +kernel
theorem dX7_number_124 : decode cX7_number 124 = .ok (.ifCond .eq 18, 3) := by decide +kernel
theorem dX7_number_127 : decode cX7_number 127 = .ok (.iload_n 2, 1) := by decide +kernel
theorem dX7_number_128 : decode cX7_number 128 = .ok (.ifCond .eq 9, 3) := by decide +kernel
theorem dX7_number_131 : decode cX7_number 131 = .ok (.lload 4, 2) := by decide +kernel
theorem dX7_number_133 : decode cX7_number 133 = .ok (.lneg, 1) := by decide +kernel
theorem dX7_number_134 : decode cX7_number 134 = .ok (.goto 12, 3) := by decide +kernel
theorem dX7_number_137 : decode cX7_number 137 = .ok (.lload 4, 2) := by decide +kernel
theorem dX7_number_139 : decode cX7_number 139 = .ok (.goto 7, 3) := by decide +kernel
theorem dX7_number_142 : decode cX7_number 142 = .ok (.aload_n 0, 1) := by decide +kernel
theorem dX7_number_143 : decode cX7_number 143 = .ok (.getfield 182, 3) := by decide +kernel
theorem dX7_number_146 : decode cX7_number 146 = .ok (.putfield 182, 3) := by decide +kernel
theorem dX7_number_149 : decode cX7_number 149 = .ok (.aload_n 0, 1) := by decide +kernel
theorem dX7_number_150 : decode cX7_number 150 = .ok (.iload_n 1, 1) := by decide +kernel
theorem dX7_number_151 : decode cX7_number 151 = .ok (.ifCond .eq 10, 3) := by decide +kernel
theorem dX7_number_154 : decode cX7_number 154 = .ok (.aload_n 0, 1) := by decide +kernel
theorem dX7_number_155 : decode cX7_number 155 = .ok (.getfield 186, 3) := by decide +kernel
theorem dX7_number_158 : decode cX7_number 158 = .ok (.goto 6, 3) := by decide +kernel
theorem dX7_number_161 : decode cX7_number 161 = .ok (.lload 4, 2) := by decide +kernel
theorem dX7_number_163 : decode cX7_number 163 = .ok (.l2i, 1) := by decide +kernel
theorem dX7_number_164 : decode cX7_number 164 = .ok (.putfield 186, 3) := by decide +kernel
theorem dX7_number_167 : decode cX7_number 167 = .ok (.aload_n 0, 1) := by decide +kernel
theorem dX7_number_168 : decode cX7_number 168 = .ok (.getfield 160, 3) := by decide +kernel
theorem dX7_number_171 : decode cX7_number 171 = .ok (.iload_n 3, 1) := by decide +kernel
theorem dX7_number_172 : decode cX7_number 172 = .ok (.if_icmp .le 18, 3) := by decide +kernel
theorem dX7_number_175 : decode cX7_number 175 = .ok (.aload_n 0, 1) := by decide +kernel
theorem dX7_number_176 : decode cX7_number 176 = .ok (.bipush 48, 2) := by decide +kernel
theorem dX7_number_178 : decode cX7_number 178 = .ok (.bipush 57, 2) := by decide +kernel
theorem dX7_number_180 : decode cX7_number 180 = .ok (.invokevirtual 163, 3) := by decide +kernel
theorem dX7_number_183 : decode cX7_number 183 = .ok (.ifCond .ne 7, 3) := by decide +kernel
theorem dX7_number_186 : decode cX7_number 186 = .ok (.iconst 1, 1) := by decide +kernel
theorem dX7_number_187 : decode cX7_number 187 = .ok (.goto 4, 3) := by decide +kernel
theorem dX7_number_190 : decode cX7_number 190 = .ok (.iconst 0, 1) := by decide +kernel
theorem dX7_number_191 : decode cX7_number 191 = .ok (.ireturn, 1) := by decide +kernel
set_option maxRecDepth 20000 in
theorem ggX7_reads_X7_isAt : GoodIn wsX7_reads wsX7_isAt := goodIn_r _ [8, 1, 9, 10, 11, 12, 7, 13, 38, 39, 40, 41, 42, 43, 44, 45, 46, 47, 48, 49, 50, 51, 52] (by decide +kernel) (by decide +kernel)
set_option maxRecDepth 20000 in
theorem gX7_reads_X7_isAt : GoodIn wsX7_reads (wsV RX7 163 RX7 yX7_isAt wsX7_isAt) := goodIn_app (goodIn_of _ (by decide +kernel)) ggX7_reads_X7_isAt
set_option maxRecDepth 20000 in
theorem ggX7_reads_X7_wordOf : GoodIn wsX7_reads wsX7_wordOf := goodIn_r _ [17, 18, 10, 19, 38, 39, 40, 41, 42, 43, 44, 45, 46, 47, 48, 49, 50, 51, 52] (by decide +kernel) (by decide +kernel)
set_option maxRecDepth 20000 in
theorem gX7_reads_X7_wordOf : GoodIn wsX7_reads (wsV RX7 189 RX7 yX7_wordOf wsX7_wordOf) := goodIn_app (goodIn_of _ (by decide +kernel)) ggX7_reads_X7_wordOf
set_option maxRecDepth 20000 in
theorem ggX7_reads_X7_commandOf : GoodIn wsX7_reads wsX7_commandOf := goodIn_r _ [22, 23, 24, 7, 25, 18, 19] (by decide +kernel) (by decide +kernel)
set_option maxRecDepth 20000 in
theorem gX7_reads_X7_commandOf : GoodIn wsX7_reads (va_wsS RX7 193 yX7_commandOf wsX7_commandOf) := goodIn_app (goodIn_of _ (by decide +kernel)) ggX7_reads_X7_commandOf
set_option maxRecDepth 20000 in
theorem ggX7_reads_X7_in : GoodIn wsX7_reads wsX7_in := goodIn_r _ [13] (by decide +kernel) (by decide +kernel)
set_option maxRecDepth 20000 in
theorem gX7_reads_X7_in : GoodIn wsX7_reads (va_wsS RX7 89 yX7_in wsX7_in) := goodIn_app (goodIn_of _ (by decide +kernel)) ggX7_reads_X7_in
set_option maxRecDepth 20000 in
theorem ggX7_reads_X7_number : GoodIn wsX7_reads wsX7_number := goodIn_r _ [29, 1, 30, 10, 31, 32, 33, 4, 5, 6, 7, 8, 9, 11, 12, 13, 34, 35, 36, 37, 38, 39, 40, 41, 42, 43, 44, 45, 46, 47, 48, 49, 50, 51, 52] (by decide +kernel) (by decide +kernel)
set_option maxRecDepth 20000 in
theorem gX7_reads_X7_number : GoodIn wsX7_reads (wsV RX7 199 RX7 yX7_number wsX7_number) := goodIn_app (goodIn_of _ (by decide +kernel)) ggX7_reads_X7_number
set_option maxRecDepth 20000 in
theorem ggX7_reads_X7_skips : GoodIn wsX7_reads wsX7_skips := goodIn_r _ [37, 1, 4, 5, 6, 7, 8, 9, 10, 11, 12, 13, 38, 39, 40, 41, 42, 43, 44, 45, 46, 47, 48, 49, 50, 51, 52] (by decide +kernel) (by decide +kernel)
set_option maxRecDepth 20000 in
theorem gX7_reads_X7_skips : GoodIn wsX7_reads (wsV RX7 175 RX7 yX7_skips wsX7_skips) := goodIn_app (goodIn_of _ (by decide +kernel)) ggX7_reads_X7_skips
theorem dX7_reads_0 : decode cX7_reads 0 = .ok (.aload_n 0, 1) := by decide +kernel
theorem dX7_reads_1 : decode cX7_reads 1 = .ok (.getfield 160, 3) := by decide +kernel
theorem dX7_reads_4 : decode cX7_reads 4 = .ok (.istore_n 1, 1) := by decide +kernel
theorem dX7_reads_5 : decode cX7_reads 5 = .ok (.aload_n 0, 1) := by decide +kernel
theorem dX7_reads_6 : decode cX7_reads 6 = .ok (.bipush 97, 2) := by decide +kernel
theorem dX7_reads_8 : decode cX7_reads 8 = .ok (.bipush 122, 2) := by decide +kernel
theorem dX7_reads_10 : decode cX7_reads 10 = .ok (.invokevirtual 163, 3) := by decide +kernel
theorem dX7_reads_13 : decode cX7_reads 13 = .ok (.ifCond .eq 16, 3) := by decide +kernel
theorem dX7_reads_16 : decode cX7_reads 16 = .ok (.aload_n 0, 1) := by decide +kernel
theorem dX7_reads_17 : decode cX7_reads 17 = .ok (.dup, 1) := by decide +kernel
theorem dX7_reads_18 : decode cX7_reads 18 = .ok (.getfield 160, 3) := by decide +kernel
theorem dX7_reads_21 : decode cX7_reads 21 = .ok (.iconst 1, 1) := by decide +kernel
theorem dX7_reads_22 : decode cX7_reads 22 = .ok (.iadd, 1) := by decide +kernel
theorem dX7_reads_23 : decode cX7_reads 23 = .ok (.putfield 160, 3) := by decide +kernel
theorem dX7_reads_26 : decode cX7_reads 26 = .ok (.goto (-21), 3) := by decide +kernel
theorem dX7_reads_29 : decode cX7_reads 29 = .ok (.aload_n 0, 1) := by decide +kernel
theorem dX7_reads_30 : decode cX7_reads 30 = .ok (.aload_n 0, 1) := by decide +kernel
theorem dX7_reads_31 : decode cX7_reads 31 = .ok (.iload_n 1, 1) := by decide +kernel
theorem dX7_reads_32 : decode cX7_reads 32 = .ok (.aload_n 0, 1) := by decide +kernel
theorem dX7_reads_33 : decode cX7_reads 33 = .ok (.getfield 160, 3) := by decide +kernel
theorem dX7_reads_36 : decode cX7_reads 36 = .ok (.invokevirtual 189, 3) := by decide +kernel
theorem dX7_reads_39 : decode cX7_reads 39 = .ok (.invokestatic 193, 3) := by decide +kernel
theorem dX7_reads_42 : decode cX7_reads 42 = .ok (.putfield 196, 3) := by decide +kernel
theorem dX7_reads_45 : decode cX7_reads 45 = .ok (.aload_n 0, 1) := by decide +kernel
theorem dX7_reads_46 : decode cX7_reads 46 = .ok (.getfield 196, 3) := by decide +kernel
theorem dX7_reads_49 : decode cX7_reads 49 = .ok (.sipush (-1000), 3) := by decide +kernel
theorem dX7_reads_52 : decode cX7_reads 52 = .ok (.if_icmp .ne 10, 3) := by decide +kernel
theorem dX7_reads_55 : decode cX7_reads 55 = .ok (.aload_n 0, 1) := by decide +kernel
theorem dX7_reads_56 : decode cX7_reads 56 = .ok (.iload_n 1, 1) := by decide +kernel
theorem dX7_reads_57 : decode cX7_reads 57 = .ok (.putfield 160, 3) := by decide +kernel
theorem dX7_reads_60 : decode cX7_reads 60 = .ok (.iconst 0, 1) := by decide +kernel
theorem dX7_reads_61 : decode cX7_reads 61 = .ok (.ireturn, 1) := by decide +kernel
theorem dX7_reads_62 : decode cX7_reads 62 = .ok (.aload_n 0, 1) := by decide +kernel
theorem dX7_reads_63 : decode cX7_reads 63 = .ok (.getfield 196, 3) := by decide +kernel
theorem dX7_reads_66 : decode cX7_reads 66 = .ok (.i2l, 1) := by decide +kernel
theorem dX7_reads_67 : decode cX7_reads 67 = .ok (.lconst 1, 1) := by decide +kernel
theorem dX7_reads_68 : decode cX7_reads 68 = .ok (.ldc2_w 120, 3) := by decide +kernel
theorem dX7_reads_71 : decode cX7_reads 71 = .ok (.invokestatic 89, 3) := by decide +kernel
theorem dX7_reads_74 : decode cX7_reads 74 = .ok (.istore_n 2, 1) := by decide +kernel
theorem dX7_reads_75 : decode cX7_reads 75 = .ok (.aload_n 0, 1) := by decide +kernel
theorem dX7_reads_76 : decode cX7_reads 76 = .ok (.getfield 196, 3) := by decide +kernel
theorem dX7_reads_79 : decode cX7_reads 79 = .ok (.iconst 2, 1) := by decide +kernel
theorem dX7_reads_80 : decode cX7_reads 80 = .ok (.if_icmp .lt 11, 3) := by decide +kernel
theorem dX7_reads_83 : decode cX7_reads 83 = .ok (.aload_n 0, 1) := by decide +kernel
theorem dX7_reads_84 : decode cX7_reads 84 = .ok (.getfield 196, 3) := by decide +kernel
theorem dX7_reads_87 : decode cX7_reads 87 = .ok (.iconst 3, 1) := by decide +kernel
theorem dX7_reads_88 : decode cX7_reads 88 = .ok (.if_icmp .ne 7, 3) := by decide +kernel
theorem dX7_reads_91 : decode cX7_reads 91 = .ok (.iconst 1, 1) := by decide +kernel
theorem dX7_reads_92 : decode cX7_reads 92 = .ok (.goto 4, 3) := by decide +kernel
theorem dX7_reads_95 : decode cX7_reads 95 = .ok (.iconst 0, 1) := by decide +kernel
theorem dX7_reads_96 : decode cX7_reads 96 = .ok (.istore_n 3, 1) := by decide +kernel
theorem dX7_reads_97 : decode cX7_reads 97 = .ok (.iload_n 2, 1) := by decide +kernel
theorem dX7_reads_98 : decode cX7_reads 98 = .ok (.ifCond .eq 11, 3) := by decide +kernel
theorem dX7_reads_101 : decode cX7_reads 101 = .ok (.aload_n 0, 1) := by decide +kernel
theorem dX7_reads_102 : decode cX7_reads 102 = .ok (.iconst 0, 1) := by decide +kernel
theorem dX7_reads_103 : decode cX7_reads 103 = .ok (.invokevirtual 199, 3) := by decide +kernel
theorem dX7_reads_106 : decode cX7_reads 106 = .ok (.ifCond .eq 15, 3) := by decide +kernel
theorem dX7_reads_109 : decode cX7_reads 109 = .ok (.iload_n 3, 1) := by decide +kernel
theorem dX7_reads_110 : decode cX7_reads 110 = .ok (.ifCond .eq 13, 3) := by decide +kernel
theorem dX7_reads_113 : decode cX7_reads 113 = .ok (.aload_n 0, 1) := by decide +kernel
theorem dX7_reads_114 : decode cX7_reads 114 = .ok (.iconst 1, 1) := by decide +kernel
theorem dX7_reads_115 : decode cX7_reads 115 = .ok (.invokevirtual 199, 3) := by decide +kernel
theorem dX7_reads_118 : decode cX7_reads 118 = .ok (.ifCond .ne 5, 3) := by decide +kernel
theorem dX7_reads_121 : decode cX7_reads 121 = .ok (.iconst 0, 1) := by decide +kernel
theorem dX7_reads_122 : decode cX7_reads 122 = .ok (.ireturn, 1) := by decide +kernel
theorem dX7_reads_123 : decode cX7_reads 123 = .ok (.aload_n 0, 1) := by decide +kernel
theorem dX7_reads_124 : decode cX7_reads 124 = .ok (.invokevirtual 175, 3) := by decide +kernel
theorem dX7_reads_127 : decode cX7_reads 127 = .ok (.aload_n 0, 1) := by decide +kernel
theorem dX7_reads_128 : decode cX7_reads 128 = .ok (.bipush 59, 2) := by decide +kernel
theorem dX7_reads_130 : decode cX7_reads 130 = .ok (.bipush 59, 2) := by decide +kernel
theorem dX7_reads_132 : decode cX7_reads 132 = .ok (.invokevirtual 163, 3) := by decide +kernel
theorem dX7_reads_135 : decode cX7_reads 135 = .ok (.ifCond .ne 5, 3) := by decide +kernel
theorem dX7_reads_138 : decode cX7_reads 138 = .ok (.iconst 0, 1) := by decide +kernel
theorem dX7_reads_139 : decode cX7_reads 139 = .ok (.ireturn, 1) := by decide +kernel
theorem dX7_reads_140 : decode cX7_reads 140 = .ok (.aload_n 0, 1) := by decide +kernel
theorem dX7_reads_141 : decode cX7_reads 141 = .ok (.dup, 1) := by decide +kernel
theorem dX7_reads_142 : decode cX7_reads 142 = .ok (.getfield 160, 3) := by decide +kernel
theorem dX7_reads_145 : decode cX7_reads 145 = .ok (.iconst 1, 1) := by decide +kernel
theorem dX7_reads_146 : decode cX7_reads 146 = .ok (.iadd, 1) := by decide +kernel
theorem dX7_reads_147 : decode cX7_reads 147 = .ok (.putfield 160, 3) := by decide +kernel
theorem dX7_reads_150 : decode cX7_reads 150 = .ok (.aload_n 0, 1) := by decide +kernel
theorem dX7_reads_151 : decode cX7_reads 151 = .ok (.invokevirtual 175, 3) := by decide +kernel
theorem dX7_reads_154 : decode cX7_reads 154 = .ok (.iconst 1, 1) := by decide +kernel
theorem dX7_reads_155 : decode cX7_reads 155 = .ok (.ireturn, 1) := by decide +kernel
set_option maxRecDepth 20000 in
theorem ggX7_fault_X7_skips : GoodIn wsX7_fault wsX7_skips := goodIn_r _ [7, 1, 8, 9, 10, 6, 11, 2, 12, 13, 14, 15, 42, 43, 44, 45, 46, 47, 48, 49, 50, 51, 52, 53, 54, 55, 56] (by decide +kernel) (by decide +kernel)
set_option maxRecDepth 20000 in
theorem gX7_fault_X7_skips : GoodIn wsX7_fault (wsV RX7 175 RX7 yX7_skips wsX7_skips) := goodIn_app (goodIn_of _ (by decide +kernel)) ggX7_fault_X7_skips
set_option maxRecDepth 20000 in
theorem ggX7_fault_X7_reads : GoodIn wsX7_fault wsX7_reads := goodIn_r _ [19, 1, 20, 21, 8, 9, 10, 6, 11, 2, 12, 13, 14, 15, 22, 23, 24, 25, 26, 27, 28, 29, 30, 31, 32, 33, 34, 35, 36, 37, 38, 39, 40, 41, 3, 4, 5, 7, 42, 43, 44, 45, 46, 47, 48, 49, 50, 51, 52, 53, 54, 55, 56] (by decide +kernel) (by decide +kernel)
set_option maxRecDepth 20000 in
theorem gX7_fault_X7_reads : GoodIn wsX7_fault (wsV RX7 203 RX7 yX7_reads wsX7_reads) := goodIn_app (goodIn_of _ (by decide +kernel)) ggX7_fault_X7_reads
theorem dX7_fault_0 : decode cX7_fault 0 = .ok (.aload_n 0, 1) := by decide +kernel
theorem dX7_fault_1 : decode cX7_fault 1 = .ok (.iconst 0, 1) := by decide +kernel
theorem dX7_fault_2 : decode cX7_fault 2 = .ok (.putfield 160, 3) := by decide +kernel
theorem dX7_fault_5 : decode cX7_fault 5 = .ok (.aload_n 0, 1) := by decide +kernel
theorem dX7_fault_6 : decode cX7_fault 6 = .ok (.invokevirtual 175, 3) := by decide +kernel
theorem dX7_fault_9 : decode cX7_fault 9 = .ok (.iconst 1, 1) := by decide +kernel
theorem dX7_fault_10 : decode cX7_fault 10 = .ok (.istore_n 1, 1) := by decide +kernel
theorem dX7_fault_11 : decode cX7_fault 11 = .ok (.iload_n 1, 1) := by decide +kernel
theorem dX7_fault_12 : decode cX7_fault 12 = .ok (.ifCond .eq 22, 3) := by decide +kernel
theorem dX7_fault_15 : decode cX7_fault 15 = .ok (.aload_n 0, 1) := by decide +kernel
theorem dX7_fault_16 : decode cX7_fault 16 = .ok (.getfield 160, 3) := by decide +kernel
theorem dX7_fault_19 : decode cX7_fault 19 = .ok (.aload_n 0, 1) := by decide +kernel
theorem dX7_fault_20 : decode cX7_fault 20 = .ok (.getfield 136, 3) := by decide +kernel
theorem dX7_fault_23 : decode cX7_fault 23 = .ok (.if_icmp .ge 11, 3) := by decide +kernel
theorem dX7_fault_26 : decode cX7_fault 26 = .ok (.aload_n 0, 1) := by decide +kernel
theorem dX7_fault_27 : decode cX7_fault 27 = .ok (.invokevirtual 203, 3) := by decide +kernel
theorem dX7_fault_30 : decode cX7_fault 30 = .ok (.istore_n 1, 1) := by decide +kernel
theorem dX7_fault_31 : decode cX7_fault 31 = .ok (.goto (-20), 3) := by decide +kernel
theorem dX7_fault_34 : decode cX7_fault 34 = .ok (.iload_n 1, 1) := by decide +kernel
theorem dX7_fault_35 : decode cX7_fault 35 = .ok (.ifCond .eq 9, 3) := by decide +kernel
theorem dX7_fault_38 : decode cX7_fault 38 = .ok (.sipush (-1000), 3) := by decide +kernel
theorem dX7_fault_41 : decode cX7_fault 41 = .ok (.goto 7, 3) := by decide +kernel
theorem dX7_fault_44 : decode cX7_fault 44 = .ok (.aload_n 0, 1) := by decide +kernel
theorem dX7_fault_45 : decode cX7_fault 45 = .ok (.getfield 160, 3) := by decide +kernel
theorem dX7_fault_48 : decode cX7_fault 48 = .ok (.ireturn, 1) := by decide +kernel
set_option maxRecDepth 20000 in
theorem ggX7_does_X7_append : GoodIn wsX7_does wsX7_append := goodIn_r _ [8, 9, 10, 11, 12, 13, 7, 14, 15, 16, 17, 18, 19, 20, 21, 22, 23, 24, 25, 26, 27, 28, 29, 30, 31, 32, 33, 34, 35, 36, 37, 38, 39, 40, 41, 42, 43, 44, 45, 46, 47, 48, 49, 50, 51, 52, 53, 54, 55, 56, 57, 58, 59, 60, 61, 62, 63, 64, 65, 66, 67, 68, 69, 110, 111, 112, 113, 114, 115, 116, 117, 118, 119, 120, 121, 122, 123, 124] (by decide +kernel) (by decide +kernel)
set_option maxRecDepth 20000 in
theorem gX7_does_X7_append : GoodIn wsX7_does (wsV RX7 207 RX7 yX7_append wsX7_append) := goodIn_app (goodIn_of _ (by decide +kernel)) ggX7_does_X7_append
set_option maxRecDepth 20000 in
theorem ggX7_does_X7_insert : GoodIn wsX7_does wsX7_insert := goodIn_r _ [73, 9, 10, 74, 75, 7, 76, 11, 12, 13, 14, 15, 16, 17, 18, 19, 20, 21, 22, 27, 28, 29, 30, 23, 24, 25, 26, 43, 44, 45, 46, 47, 48, 49, 50, 51, 52, 53, 54, 55, 56, 57, 58, 31, 32, 33, 34, 35, 36, 37, 38, 39, 40, 41, 42, 59, 60, 61, 62, 63, 64, 65, 66, 67, 68, 69, 110, 111, 112, 113, 114, 115, 116, 117, 118, 119, 120, 121, 122, 123, 124] (by decide +kernel) (by decide +kernel)
set_option maxRecDepth 20000 in
theorem gX7_does_X7_insert : GoodIn wsX7_does (wsV RX7 210 RX7 yX7_insert wsX7_insert) := goodIn_app (goodIn_of _ (by decide +kernel)) ggX7_does_X7_insert
set_option maxRecDepth 20000 in
theorem ggX7_does_X7_removeAt : GoodIn wsX7_does wsX7_removeAt := goodIn_r _ [80, 81, 82, 83, 7, 84, 9, 11, 12, 13, 14, 15, 16, 17, 18, 19, 20, 21, 22, 23, 24, 25, 26, 85, 86, 87, 88, 43, 44, 45, 46, 47, 48, 49, 50, 51, 52, 53, 54, 55, 56, 57, 58, 31, 32, 33, 34, 35, 36, 37, 38, 39, 40, 41, 42, 59, 60, 61, 62, 63, 64, 65, 66, 67, 68, 69, 110, 111, 112, 113, 114, 115, 116, 117, 118, 119, 120, 121, 122, 123, 124] (by decide +kernel) (by decide +kernel)
set_option maxRecDepth 20000 in
theorem gX7_does_X7_removeAt : GoodIn wsX7_does (wsV RX7 214 RX7 yX7_removeAt wsX7_removeAt) := goodIn_app (goodIn_of _ (by decide +kernel)) ggX7_does_X7_removeAt
set_option maxRecDepth 20000 in
theorem ggX7_does_X7_setValue : GoodIn wsX7_does wsX7_setValue := goodIn_r _ [92, 9, 81, 82, 83, 7, 84, 11, 12, 13, 14, 15, 16, 17, 18, 19, 20, 21, 22, 43, 44, 45, 46, 47, 48, 49, 50, 51, 52, 53, 54, 23, 24, 25, 26, 55, 56, 57, 58, 31, 32, 33, 34, 35, 36, 37, 38, 39, 40, 41, 42, 59, 60, 61, 62, 63, 64, 65, 66, 67, 68, 69, 110, 111, 112, 113, 114, 115, 116, 117, 118, 119, 120, 121, 122, 123, 124] (by decide +kernel) (by decide +kernel)
set_option maxRecDepth 20000 in
theorem gX7_does_X7_setValue : GoodIn wsX7_does (wsV RX7 217 RX7 yX7_setValue wsX7_setValue) := goodIn_app (goodIn_of _ (by decide +kernel)) ggX7_does_X7_setValue
set_option maxRecDepth 20000 in
theorem ggX7_does_X7_swap : GoodIn wsX7_does wsX7_swap := goodIn_r _ [96, 9, 81, 82, 83, 7, 84, 11, 12, 13, 14, 15, 16, 17, 18, 19, 20, 21, 22, 62, 63, 64, 65, 39, 40, 41, 42, 66, 67, 68, 69, 43, 44, 45, 46, 47, 48, 49, 50, 51, 52, 53, 54, 23, 24, 25, 26, 55, 56, 57, 58, 31, 32, 33, 34, 35, 36, 37, 38, 59, 60, 61, 110, 111, 112, 113, 114, 115, 116, 117, 118, 119, 120, 121, 122, 123, 124] (by decide +kernel) (by decide +kernel)
set_option maxRecDepth 20000 in
theorem gX7_does_X7_swap : GoodIn wsX7_does (wsV RX7 221 RX7 yX7_swap wsX7_swap) := goodIn_app (goodIn_of _ (by decide +kernel)) ggX7_does_X7_swap
set_option maxRecDepth 20000 in
theorem ggX7_does_X7_setBound : GoodIn wsX7_does wsX7_setBound := goodIn_r _ [100, 101, 9, 74, 75, 7, 76, 11, 12, 13, 14, 15, 16, 17, 18, 19, 20, 21, 22, 102, 103, 104, 105, 23, 24, 25, 26, 55, 56, 57, 58, 31, 32, 33, 34, 35, 36, 37, 38, 39, 40, 41, 42, 59, 60, 61, 43, 44, 45, 46, 47, 48, 49, 50, 51, 52, 53, 54, 62, 63, 64, 65, 66, 67, 68, 69, 110, 111, 112, 113, 114, 115, 116, 117, 118, 119, 120, 121, 122, 123, 124] (by decide +kernel) (by decide +kernel)
set_option maxRecDepth 20000 in
theorem gX7_does_X7_setBound : GoodIn wsX7_does (wsV RX7 224 RX7 yX7_setBound wsX7_setBound) := goodIn_app (goodIn_of _ (by decide +kernel)) ggX7_does_X7_setBound
set_option maxRecDepth 20000 in
theorem ggX7_does_X7_mend : GoodIn wsX7_does wsX7_mend := goodIn_r _ [109, 15, 16, 17, 18, 7, 19, 20, 21, 22, 9, 47, 48, 49, 50, 51, 52, 53, 54, 23, 24, 25, 26, 55, 56, 57, 58, 31, 32, 33, 34, 35, 36, 37, 38, 39, 40, 41, 42, 59, 60, 61, 62, 63, 64, 65, 66, 67, 68, 69, 110, 111, 112, 113, 114, 115, 116, 117, 118, 119, 120, 121, 122, 123, 124] (by decide +kernel) (by decide +kernel)
set_option maxRecDepth 20000 in
theorem gX7_does_X7_mend : GoodIn wsX7_does (wsV RX7 227 RX7 yX7_mend wsX7_mend) := goodIn_app (goodIn_of _ (by decide +kernel)) ggX7_does_X7_mend
theorem dX7_does_0 : decode cX7_does 0 = .ok (.aload_n 0, 1) := by decide +kernel
theorem dX7_does_1 : decode cX7_does 1 = .ok (.getfield 196, 3) := by decide +kernel
theorem dX7_does_4 : decode cX7_does 4 = .ok (.tableswitch 120 0 5 #[40, 52, 68, 80, 96, 108], 40) := by decide +kernel
theorem dX7_does_44 : decode cX7_does 44 = .ok (.aload_n 0, 1) := by decide +kernel
theorem dX7_does_45 : decode cX7_does 45 = .ok (.aload_n 0, 1) := by decide +kernel
theorem dX7_does_46 : decode cX7_does 46 = .ok (.getfield 182, 3) := by decide +kernel
theorem dX7_does_49 : decode cX7_does 49 = .ok (.invokevirtual 207, 3) := by decide +kernel
theorem dX7_does_52 : decode cX7_does 52 = .ok (.pop, 1) := by decide +kernel
theorem dX7_does_53 : decode cX7_does 53 = .ok (.goto 76, 3) := by decide +kernel
theorem dX7_does_56 : decode cX7_does 56 = .ok (.aload_n 0, 1) := by decide +kernel
theorem dX7_does_57 : decode cX7_does 57 = .ok (.aload_n 0, 1) := by decide +kernel
theorem dX7_does_58 : decode cX7_does 58 = .ok (.getfield 186, 3) := by decide +kernel
theorem dX7_does_61 : decode cX7_does 61 = .ok (.aload_n 0, 1) := by decide +kernel
theorem dX7_does_62 : decode cX7_does 62 = .ok (.getfield 182, 3) := by decide +kernel
theorem dX7_does_65 : decode cX7_does 65 = .ok (.invokevirtual 210, 3) := by decide +kernel
theorem dX7_does_68 : decode cX7_does 68 = .ok (.pop, 1) := by decide +kernel
theorem dX7_does_69 : decode cX7_does 69 = .ok (.goto 60, 3) := by decide +kernel
theorem dX7_does_72 : decode cX7_does 72 = .ok (.aload_n 0, 1) := by decide +kernel
theorem dX7_does_73 : decode cX7_does 73 = .ok (.aload_n 0, 1) := by decide +kernel
theorem dX7_does_74 : decode cX7_does 74 = .ok (.getfield 186, 3) := by decide +kernel
theorem dX7_does_77 : decode cX7_does 77 = .ok (.invokevirtual 214, 3) := by decide +kernel
theorem dX7_does_80 : decode cX7_does 80 = .ok (.pop, 1) := by decide +kernel
theorem dX7_does_81 : decode cX7_does 81 = .ok (.goto 48, 3) := by decide +kernel
theorem dX7_does_84 : decode cX7_does 84 = .ok (.aload_n 0, 1) := by decide +kernel
theorem dX7_does_85 : decode cX7_does 85 = .ok (.aload_n 0, 1) := by decide +kernel
theorem dX7_does_86 : decode cX7_does 86 = .ok (.getfield 186, 3) := by decide +kernel
theorem dX7_does_89 : decode cX7_does 89 = .ok (.aload_n 0, 1) := by decide +kernel
theorem dX7_does_90 : decode cX7_does 90 = .ok (.getfield 182, 3) := by decide +kernel
theorem dX7_does_93 : decode cX7_does 93 = .ok (.invokevirtual 217, 3) := by decide +kernel
theorem dX7_does_96 : decode cX7_does 96 = .ok (.pop2, 1) := by decide +kernel
theorem dX7_does_97 : decode cX7_does 97 = .ok (.goto 32, 3) := by decide +kernel
theorem dX7_does_100 : decode cX7_does 100 = .ok (.aload_n 0, 1) := by decide +kernel
theorem dX7_does_101 : decode cX7_does 101 = .ok (.aload_n 0, 1) := by decide +kernel
theorem dX7_does_102 : decode cX7_does 102 = .ok (.getfield 186, 3) := by decide +kernel
theorem dX7_does_105 : decode cX7_does 105 = .ok (.invokevirtual 221, 3) := by decide +kernel
theorem dX7_does_108 : decode cX7_does 108 = .ok (.pop, 1) := by decide +kernel
theorem dX7_does_109 : decode cX7_does 109 = .ok (.goto 20, 3) := by decide +kernel
theorem dX7_does_112 : decode cX7_does 112 = .ok (.aload_n 0, 1) := by decide +kernel
theorem dX7_does_113 : decode cX7_does 113 = .ok (.aload_n 0, 1) := by decide +kernel
theorem dX7_does_114 : decode cX7_does 114 = .ok (.getfield 186, 3) := by decide +kernel
theorem dX7_does_117 : decode cX7_does 117 = .ok (.invokevirtual 224, 3) := by decide +kernel
theorem dX7_does_120 : decode cX7_does 120 = .ok (.pop, 1) := by decide +kernel
theorem dX7_does_121 : decode cX7_does 121 = .ok (.goto 8, 3) := by decide +kernel
theorem dX7_does_124 : decode cX7_does 124 = .ok (.aload_n 0, 1) := by decide +kernel
theorem dX7_does_125 : decode cX7_does 125 = .ok (.invokevirtual 227, 3) := by decide +kernel
theorem dX7_does_128 : decode cX7_does 128 = .ok (.pop, 1) := by decide +kernel
theorem dX7_does_129 : decode cX7_does 129 = .ok (.return_, 1) := by decide +kernel
set_option maxRecDepth 20000 in
theorem ggX7_runCommands_X7_fault : GoodIn wsX7_runCommands wsX7_fault := goodIn_r _ [9, 3, 4, 10, 11, 12, 8, 13, 14, 15, 16, 17, 18, 19, 20, 21, 22, 23, 24, 25, 26, 27, 28, 29, 30, 31, 32, 33, 34, 35, 36, 37, 38, 39, 40, 41, 42, 43, 44, 45, 46, 47, 152, 153, 154, 155, 156, 157, 158, 159, 160, 161, 162, 163, 164, 165, 166] (by decide +kernel) (by decide +kernel)
set_option maxRecDepth 20000 in
theorem gX7_runCommands_X7_fault : GoodIn wsX7_runCommands (wsV RX7 230 RX7 yX7_fault wsX7_fault) := goodIn_app (goodIn_of _ (by decide +kernel)) ggX7_runCommands_X7_fault
set_option maxRecDepth 20000 in
theorem ggX7_runCommands_X7_saves : GoodIn wsX7_runCommands wsX7_saves := goodIn_r _ [51, 2, 52, 53, 54, 152, 153, 154, 155, 156, 157, 158, 159, 160, 161, 162, 163, 164, 165, 166] (by decide +kernel) (by decide +kernel)
set_option maxRecDepth 20000 in
theorem gX7_runCommands_X7_saves : GoodIn wsX7_runCommands (wsV RX7 79 RX7 yX7_saves wsX7_saves) := goodIn_app (goodIn_of _ (by decide +kernel)) ggX7_runCommands_X7_saves
set_option maxRecDepth 20000 in
theorem ggX7_runCommands_X7_skips : GoodIn wsX7_runCommands wsX7_skips := goodIn_r _ [13, 3, 14, 15, 16, 8, 17, 4, 18, 19, 20, 21, 152, 153, 154, 155, 156, 157, 158, 159, 160, 161, 162, 163, 164, 165, 166] (by decide +kernel) (by decide +kernel)
set_option maxRecDepth 20000 in
theorem gX7_runCommands_X7_skips : GoodIn wsX7_runCommands (wsV RX7 175 RX7 yX7_skips wsX7_skips) := goodIn_app (goodIn_of _ (by decide +kernel)) ggX7_runCommands_X7_skips
set_option maxRecDepth 20000 in
theorem ggX7_runCommands_X7_reads : GoodIn wsX7_runCommands wsX7_reads := goodIn_r _ [25, 3, 26, 27, 14, 15, 16, 8, 17, 4, 18, 19, 20, 21, 28, 29, 30, 31, 32, 33, 34, 35, 36, 37, 38, 39, 40, 41, 42, 43, 44, 45, 46, 47, 10, 11, 12, 13, 152, 153, 154, 155, 156, 157, 158, 159, 160, 161, 162, 163, 164, 165, 166] (by decide +kernel) (by decide +kernel)
set_option maxRecDepth 20000 in
theorem gX7_runCommands_X7_reads : GoodIn wsX7_runCommands (wsV RX7 203 RX7 yX7_reads wsX7_reads) := goodIn_app (goodIn_of _ (by decide +kernel)) ggX7_runCommands_X7_reads
set_option maxRecDepth 20000 in
theorem ggX7_runCommands_X7_does : GoodIn wsX7_runCommands wsX7_does := goodIn_r _ [58, 26, 46, 47, 59, 60, 61, 8, 62, 54, 63, 64, 65, 66, 67, 1, 48, 49, 50, 51, 2, 52, 53, 68, 69, 70, 71, 72, 73, 74, 75, 76, 77, 78, 79, 80, 81, 82, 83, 84, 85, 86, 87, 88, 89, 90, 91, 92, 93, 94, 95, 96, 97, 98, 99, 100, 101, 102, 103, 104, 105, 106, 107, 108, 109, 110, 111, 112, 113, 114, 115, 116, 117, 118, 19, 20, 21, 119, 120, 121, 122, 123, 124, 125, 126, 127, 128, 129, 130, 131, 132, 133, 134, 135, 136, 137, 138, 139, 140, 141, 142, 143, 144, 145, 146, 147, 148, 149, 150, 151, 152, 153, 154, 155, 156, 157, 158, 159, 160, 161, 162, 163, 164, 165, 166] (by decide +kernel) (by decide +kernel)
set_option maxRecDepth 20000 in
theorem gX7_runCommands_X7_does : GoodIn wsX7_runCommands (wsV RX7 233 RX7 yX7_does wsX7_does) := goodIn_app (goodIn_of _ (by decide +kernel)) ggX7_runCommands_X7_does
theorem dX7_runCommands_0 : decode cX7_runCommands 0 = .ok (.aload_n 0, 1) := by decide +kernel
theorem dX7_runCommands_1 : decode cX7_runCommands 1 = .ok (.iconst 0, 1) := by decide +kernel
theorem dX7_runCommands_2 : decode cX7_runCommands 2 = .ok (.putfield 25, 3) := by decide +kernel
theorem dX7_runCommands_5 : decode cX7_runCommands 5 = .ok (.aload_n 0, 1) := by decide +kernel
theorem dX7_runCommands_6 : decode cX7_runCommands 6 = .ok (.invokevirtual 230, 3) := by decide +kernel
theorem dX7_runCommands_9 : decode cX7_runCommands 9 = .ok (.istore_n 1, 1) := by decide +kernel
theorem dX7_runCommands_10 : decode cX7_runCommands 10 = .ok (.iload_n 1, 1) := by decide +kernel
theorem dX7_runCommands_11 : decode cX7_runCommands 11 = .ok (.sipush (-1000), 3) := by decide +kernel
theorem dX7_runCommands_14 : decode cX7_runCommands 14 = .ok (.if_icmp .eq 8, 3) := by decide +kernel
theorem dX7_runCommands_17 : decode cX7_runCommands 17 = .ok (.bipush (-10), 2) := by decide +kernel
theorem dX7_runCommands_19 : decode cX7_runCommands 19 = .ok (.iload_n 1, 1) := by decide +kernel
theorem dX7_runCommands_20 : decode cX7_runCommands 20 = .ok (.isub, 1) := by decide +kernel
theorem dX7_runCommands_21 : decode cX7_runCommands 21 = .ok (.ireturn, 1) := by decide +kernel
theorem dX7_runCommands_22 : decode cX7_runCommands 22 = .ok (.aload_n 0, 1) := by decide +kernel
theorem dX7_runCommands_23 : decode cX7_runCommands 23 = .ok (.invokevirtual 79, 3) := by decide +kernel
theorem dX7_runCommands_26 : decode cX7_runCommands 26 = .ok (.aload_n 0, 1) := by decide +kernel
theorem dX7_runCommands_27 : decode cX7_runCommands 27 = .ok (.iconst 1, 1) := by decide +kernel
theorem dX7_runCommands_28 : decode cX7_runCommands 28 = .ok (.putfield 29, 3) := by decide +kernel
theorem dX7_runCommands_31 : decode cX7_runCommands 31 = .ok (.iconst 0, 1) := by decide +kernel
theorem dX7_runCommands_32 : decode cX7_runCommands 32 = .ok (.istore_n 2, 1) := by decide +kernel
theorem dX7_runCommands_33 : decode cX7_runCommands 33 = .ok (.iconst 1, 1) := by decide +kernel
theorem dX7_runCommands_34 : decode cX7_runCommands 34 = .ok (.istore_n 3, 1) := by decide +kernel
theorem dX7_runCommands_35 : decode cX7_runCommands 35 = .ok (.aload_n 0, 1) := by decide +kernel
