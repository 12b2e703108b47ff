theorem dX3_swapElements_93 : decode cX3_swapElements 93 = .ok (.getfield 19, 3) := by decide +kernel
theorem dX3_swapElements_96 : decode cX3_swapElements 96 = .ok (.iload_n 1, 1) := by decide +kernel
theorem dX3_swapElements_97 : decode cX3_swapElements 97 = .ok (.aload_n 0, 1) := by decide +kernel
theorem dX3_swapElements_98 : decode cX3_swapElements 98 = .ok (.getfield 19, 3) := by decide +kernel
theorem dX3_swapElements_101 : decode cX3_swapElements 101 = .ok (.iload_n 2, 1) := by decide +kernel
theorem dX3_swapElements_102 : decode cX3_swapElements 102 = .ok (.iaload, 1) := by decide +kernel
theorem dX3_swapElements_103 : decode cX3_swapElements 103 = .ok (.iastore, 1) := by decide +kernel
theorem dX3_swapElements_104 : decode cX3_swapElements 104 = .ok (.aload_n 0, 1) := by decide +kernel
theorem dX3_swapElements_105 : decode cX3_swapElements 105 = .ok (.getfield 19, 3) := by decide +kernel
theorem dX3_swapElements_108 : decode cX3_swapElements 108 = .ok (.iload_n 2, 1) := by decide +kernel
theorem dX3_swapElements_109 : decode cX3_swapElements 109 = .ok (.iload 6, 2) := by decide +kernel
theorem dX3_swapElements_111 : decode cX3_swapElements 111 = .ok (.iastore, 1) := by decide +kernel
theorem dX3_swapElements_112 : decode cX3_swapElements 112 = .ok (.iconst 1, 1) := by decide +kernel
theorem dX3_swapElements_113 : decode cX3_swapElements 113 = .ok (.ireturn, 1) := by decide +kernel
set_option maxRecDepth 20000 in
theorem ggX3_inversionsBySwap_X3_hasNext : GoodIn wsX3_inversionsBySwap wsX3_hasNext := goodIn_r _ [6, 7, 17, 18, 19, 20, 21, 22, 23, 24, 25, 26] (by decide +kernel) (by decide +kernel)
set_option maxRecDepth 20000 in
theorem gX3_inversionsBySwap_X3_hasNext : GoodIn wsX3_inversionsBySwap (wsV RX3 64 RX3 yX3_hasNext wsX3_hasNext) := goodIn_app (goodIn_of _ (by decide +kernel)) ggX3_inversionsBySwap_X3_hasNext
set_option maxRecDepth 20000 in
theorem ggX3_inversionsBySwap_X3_isFall : GoodIn wsX3_inversionsBySwap wsX3_isFall := goodIn_r _ [11, 1, 2, 3, 4, 5, 6, 7, 12, 13, 14, 15, 16, 17, 18, 19, 20, 21, 22, 23, 24, 25, 26] (by decide +kernel) (by decide +kernel)
set_option maxRecDepth 20000 in
theorem gX3_inversionsBySwap_X3_isFall : GoodIn wsX3_inversionsBySwap (wsV RX3 84 RX3 yX3_isFall wsX3_isFall) := goodIn_app (goodIn_of _ (by decide +kernel)) ggX3_inversionsBySwap_X3_isFall
theorem dX3_inversionsBySwap_0 : decode cX3_inversionsBySwap 0 = .ok (.aload_n 0, 1) := by decide +kernel
theorem dX3_inversionsBySwap_1 : decode cX3_inversionsBySwap 1 = .ok (.iload_n 1, 1) := by decide +kernel
theorem dX3_inversionsBySwap_2 : decode cX3_inversionsBySwap 2 = .ok (.invokevirtual 64, 3) := by decide +kernel
theorem dX3_inversionsBySwap_5 : decode cX3_inversionsBySwap 5 = .ok (.ifCond .eq 21, 3) := by decide +kernel
theorem dX3_inversionsBySwap_8 : decode cX3_inversionsBySwap 8 = .ok (.aload_n 0, 1) := by decide +kernel
theorem dX3_inversionsBySwap_9 : decode cX3_inversionsBySwap 9 = .ok (.getfield 9, 3) := by decide +kernel
theorem dX3_inversionsBySwap_12 : decode cX3_inversionsBySwap 12 = .ok (.iload_n 1, 1) := by decide +kernel
theorem dX3_inversionsBySwap_13 : decode cX3_inversionsBySwap 13 = .ok (.laload, 1) := by decide +kernel
theorem dX3_inversionsBySwap_14 : decode cX3_inversionsBySwap 14 = .ok (.aload_n 0, 1) := by decide +kernel
theorem dX3_inversionsBySwap_15 : decode cX3_inversionsBySwap 15 = .ok (.getfield 9, 3) := by decide +kernel
theorem dX3_inversionsBySwap_18 : decode cX3_inversionsBySwap 18 = .ok (.iload_n 1, 1) := by decide +kernel
theorem dX3_inversionsBySwap_19 : decode cX3_inversionsBySwap 19 = .ok (.iconst 1, 1) := by decide +kernel
theorem dX3_inversionsBySwap_20 : decode cX3_inversionsBySwap 20 = .ok (.iadd, 1) := by decide +kernel
theorem dX3_inversionsBySwap_21 : decode cX3_inversionsBySwap 21 = .ok (.laload, 1) := by decide +kernel
theorem dX3_inversionsBySwap_22 : decode cX3_inversionsBySwap 22 = .ok (.lcmp, 1) := by decide +kernel
theorem dX3_inversionsBySwap_23 : decode cX3_inversionsBySwap 23 = .ok (.ifCond .ne 5, 3) := by decide +kernel
theorem dX3_inversionsBySwap_26 : decode cX3_inversionsBySwap 26 = .ok (.iconst 0, 1) := by decide +kernel
theorem dX3_inversionsBySwap_27 : decode cX3_inversionsBySwap 27 = .ok (.ireturn, 1) := by decide +kernel
theorem dX3_inversionsBySwap_28 : decode cX3_inversionsBySwap 28 = .ok (.aload_n 0, 1) := by decide +kernel
theorem dX3_inversionsBySwap_29 : decode cX3_inversionsBySwap 29 = .ok (.iload_n 1, 1) := by decide +kernel
theorem dX3_inversionsBySwap_30 : decode cX3_inversionsBySwap 30 = .ok (.invokevirtual 84, 3) := by decide +kernel
theorem dX3_inversionsBySwap_33 : decode cX3_inversionsBySwap 33 = .ok (.ifCond .eq 7, 3) := by decide +kernel
theorem dX3_inversionsBySwap_36 : decode cX3_inversionsBySwap 36 = .ok (.iconst (-1), 1) := by decide +kernel
theorem dX3_inversionsBySwap_37 : decode cX3_inversionsBySwap 37 = .ok (.goto 4, 3) := by decide +kernel
theorem dX3_inversionsBySwap_40 : decode cX3_inversionsBySwap 40 = .ok (.iconst 1, 1) := by decide +kernel
theorem dX3_inversionsBySwap_41 : decode cX3_inversionsBySwap 41 = .ok (.ireturn, 1) := by decide +kernel
set_option maxRecDepth 20000 in
theorem ggX3_refreshRanks_X3_countRank : GoodIn wsX3_refreshRanks wsX3_countRank := goodIn_r _ [7, 1, 8, 9, 10, 11, 6, 12, 13, 14, 15, 16, 17, 18, 19, 20, 21, 22, 23] (by decide +kernel) (by decide +kernel)
set_option maxRecDepth 20000 in
theorem gX3_refreshRanks_X3_countRank : GoodIn wsX3_refreshRanks (wsV RX3 87 RX3 yX3_countRank wsX3_countRank) := goodIn_app (goodIn_of _ (by decide +kernel)) ggX3_refreshRanks_X3_countRank
theorem dX3_refreshRanks_0 : decode cX3_refreshRanks 0 = .ok (.iconst 0, 1) := by decide +kernel
theorem dX3_refreshRanks_1 : decode cX3_refreshRanks 1 = .ok (.istore_n 1, 1) := by decide +kernel
theorem dX3_refreshRanks_2 : decode cX3_refreshRanks 2 = .ok (.iload_n 1, 1) := by decide +kernel
theorem dX3_refreshRanks_3 : decode cX3_refreshRanks 3 = .ok (.aload_n 0, 1) := by decide +kernel
theorem dX3_refreshRanks_4 : decode cX3_refreshRanks 4 = .ok (.getfield 32, 3) := by decide +kernel
theorem dX3_refreshRanks_7 : decode cX3_refreshRanks 7 = .ok (.if_icmp .ge 20, 3) := by decide +kernel
theorem dX3_refreshRanks_10 : decode cX3_refreshRanks 10 = .ok (.aload_n 0, 1) := by decide +kernel
theorem dX3_refreshRanks_11 : decode cX3_refreshRanks 11 = .ok (.getfield 19, 3) := by decide +kernel
theorem dX3_refreshRanks_14 : decode cX3_refreshRanks 14 = .ok (.iload_n 1, 1) := by decide +kernel
theorem dX3_refreshRanks_15 : decode cX3_refreshRanks 15 = .ok (.aload_n 0, 1) := by decide +kernel
theorem dX3_refreshRanks_16 : decode cX3_refreshRanks 16 = .ok (.iload_n 1, 1) := by decide +kernel
theorem dX3_refreshRanks_17 : decode cX3_refreshRanks 17 = .ok (.invokevirtual 87, 3) := by decide +kernel
theorem dX3_refreshRanks_20 : decode cX3_refreshRanks 20 = .ok (.iastore, 1) := by decide +kernel
theorem dX3_refreshRanks_21 : decode cX3_refreshRanks 21 = .ok (.iinc 1 1, 3) := by decide +kernel
theorem dX3_refreshRanks_24 : decode cX3_refreshRanks 24 = .ok (.goto (-22), 3) := by decide +kernel
theorem dX3_refreshRanks_27 : decode cX3_refreshRanks 27 = .ok (.return_, 1) := by decide +kernel
set_option maxRecDepth 20000 in
theorem ggX3_countRank_X3_isAhead : GoodIn wsX3_countRank wsX3_isAhead := goodIn_r _ [7, 8, 9, 10, 11, 12, 13, 14, 15, 16, 17, 18] (by decide +kernel) (by decide +kernel)
set_option maxRecDepth 20000 in
theorem gX3_countRank_X3_isAhead : GoodIn wsX3_countRank (wsV RX3 67 RX3 yX3_isAhead wsX3_isAhead) := goodIn_app (goodIn_of _ (by decide +kernel)) ggX3_countRank_X3_isAhead
theorem dX3_countRank_0 : decode cX3_countRank 0 = .ok (.iconst 0, 1) := by decide +kernel
theorem dX3_countRank_1 : decode cX3_countRank 1 = .ok (.istore_n 2, 1) := by decide +kernel
theorem dX3_countRank_2 : decode cX3_countRank 2 = .ok (.iconst 0, 1) := by decide +kernel
theorem dX3_countRank_3 : decode cX3_countRank 3 = .ok (.istore_n 3, 1) := by decide +kernel
theorem dX3_countRank_4 : decode cX3_countRank 4 = .ok (.iload_n 3, 1) := by decide +kernel
theorem dX3_countRank_5 : decode cX3_countRank 5 = .ok (.aload_n 0, 1) := by decide +kernel
theorem dX3_countRank_6 : decode cX3_countRank 6 = .ok (.getfield 32, 3) := by decide +kernel
theorem dX3_countRank_9 : decode cX3_countRank 9 = .ok (.if_icmp .ge 64, 3) := by decide +kernel
theorem dX3_countRank_12 : decode cX3_countRank 12 = .ok (.iload_n 3, 1) := by decide +kernel
theorem dX3_countRank_13 : decode cX3_countRank 13 = .ok (.iload_n 1, 1) := by decide +kernel
theorem dX3_countRank_14 : decode cX3_countRank 14 = .ok (.if_icmp .ge 23, 3) := by decide +kernel
theorem dX3_countRank_17 : decode cX3_countRank 17 = .ok (.aload_n 0, 1) := by decide +kernel
theorem dX3_countRank_18 : decode cX3_countRank 18 = .ok (.getfield 9, 3) := by decide +kernel
theorem dX3_countRank_21 : decode cX3_countRank 21 = .ok (.iload_n 3, 1) := by decide +kernel
theorem dX3_countRank_22 : decode cX3_countRank 22 = .ok (.laload, 1) := by decide +kernel
theorem dX3_countRank_23 : decode cX3_countRank 23 = .ok (.aload_n 0, 1) := by decide +kernel
theorem dX3_countRank_24 : decode cX3_countRank 24 = .ok (.getfield 9, 3) := by decide +kernel
theorem dX3_countRank_27 : decode cX3_countRank 27 = .ok (.iload_n 1, 1) := by decide +kernel
theorem dX3_countRank_28 : decode cX3_countRank 28 = .ok (.laload, 1) := by decide +kernel
theorem dX3_countRank_29 : decode cX3_countRank 29 = .ok (.lcmp, 1) := by decide +kernel
theorem dX3_countRank_30 : decode cX3_countRank 30 = .ok (.ifCond .ne 7, 3) := by decide +kernel
theorem dX3_countRank_33 : decode cX3_countRank 33 = .ok (.iconst 1, 1) := by decide +kernel
theorem dX3_countRank_34 : decode cX3_countRank 34 = .ok (.goto 4, 3) := by decide +kernel
theorem dX3_countRank_37 : decode cX3_countRank 37 = .ok (.iconst 0, 1) := by decide +kernel
theorem dX3_countRank_38 : decode cX3_countRank 38 = .ok (.istore 4, 2) := by decide +kernel
theorem dX3_countRank_40 : decode cX3_countRank 40 = .ok (.iload 4, 2) := by decide +kernel
theorem dX3_countRank_42 : decode cX3_countRank 42 = .ok (.ifCond .ne 22, 3) := by decide +kernel
theorem dX3_countRank_45 : decode cX3_countRank 45 = .ok (.aload_n 0, 1) := by decide +kernel
theorem dX3_countRank_46 : decode cX3_countRank 46 = .ok (.aload_n 0, 1) := by decide +kernel
theorem dX3_countRank_47 : decode cX3_countRank 47 = .ok (.getfield 9, 3) := by decide +kernel
theorem dX3_countRank_50 : decode cX3_countRank 50 = .ok (.iload_n 3, 1) := by decide +kernel
theorem dX3_countRank_51 : decode cX3_countRank 51 = .ok (.laload, 1) := by decide +kernel
theorem dX3_countRank_52 : decode cX3_countRank 52 = .ok (.aload_n 0, 1) := by decide +kernel
theorem dX3_countRank_53 : decode cX3_countRank 53 = .ok (.getfield 9, 3) := by decide +kernel
theorem dX3_countRank_56 : decode cX3_countRank 56 = .ok (.iload_n 1, 1) := by decide +kernel
theorem dX3_countRank_57 : decode cX3_countRank 57 = .ok (.laload, 1) := by decide +kernel
theorem dX3_countRank_58 : decode cX3_countRank 58 = .ok (.invokevirtual 67, 3) := by decide +kernel
theorem dX3_countRank_61 : decode cX3_countRank 61 = .ok (.ifCond .eq 6, 3) := by decide +kernel
theorem dX3_countRank_64 : decode cX3_countRank 64 = .ok (.iinc 2 1, 3) := by decide +kernel
theorem dX3_countRank_67 : decode cX3_countRank 67 = .ok (.iinc 3 1, 3) := by decide +kernel
theorem dX3_countRank_70 : decode cX3_countRank 70 = .ok (.goto (-66), 3) := by decide +kernel
theorem dX3_countRank_73 : decode cX3_countRank 73 = .ok (.iload_n 2, 1) := by decide +kernel
theorem dX3_countRank_74 : decode cX3_countRank 74 = .ok (.ireturn, 1) := by decide +kernel
theorem dX3_placeOfRank_0 : decode cX3_placeOfRank 0 = .ok (.iconst 0, 1) := by decide +kernel
theorem dX3_placeOfRank_1 : decode cX3_placeOfRank 1 = .ok (.istore_n 2, 1) := by decide +kernel
theorem dX3_placeOfRank_2 : decode cX3_placeOfRank 2 = .ok (.iload_n 2, 1) := by decide +kernel
theorem dX3_placeOfRank_3 : decode cX3_placeOfRank 3 = .ok (.aload_n 0, 1) := by decide +kernel
theorem dX3_placeOfRank_4 : decode cX3_placeOfRank 4 = .ok (.getfield 32, 3) := by decide +kernel
theorem dX3_placeOfRank_7 : decode cX3_placeOfRank 7 = .ok (.if_icmp .ge 21, 3) := by decide +kernel
theorem dX3_placeOfRank_10 : decode cX3_placeOfRank 10 = .ok (.aload_n 0, 1) := by decide +kernel
theorem dX3_placeOfRank_11 : decode cX3_placeOfRank 11 = .ok (.getfield 19, 3) := by decide +kernel
theorem dX3_placeOfRank_14 : decode cX3_placeOfRank 14 = .ok (.iload_n 2, 1) := by decide +kernel
theorem dX3_placeOfRank_15 : decode cX3_placeOfRank 15 = .ok (.iaload, 1) := by decide +kernel
theorem dX3_placeOfRank_16 : decode cX3_placeOfRank 16 = .ok (.iload_n 1, 1) := by decide +kernel
theorem dX3_placeOfRank_17 : decode cX3_placeOfRank 17 = .ok (.if_icmp .ne 5, 3) := by decide +kernel
theorem dX3_placeOfRank_20 : decode cX3_placeOfRank 20 = .ok (.iload_n 2, 1) := by decide +kernel
theorem dX3_placeOfRank_21 : decode cX3_placeOfRank 21 = .ok (.ireturn, 1) := by decide +kernel
theorem dX3_placeOfRank_22 : decode cX3_placeOfRank 22 = .ok (.iinc 2 1, 3) := by decide +kernel
theorem dX3_placeOfRank_25 : decode cX3_placeOfRank 25 = .ok (.goto (-23), 3) := by decide +kernel
theorem dX3_placeOfRank_28 : decode cX3_placeOfRank 28 = .ok (.sipush (-1000), 3) := by decide +kernel
theorem dX3_placeOfRank_31 : decode cX3_placeOfRank 31 = .ok (.ireturn, 1) := by decide +kernel
set_option maxRecDepth 20000 in
theorem ggX3_brokenCount_X3_brokenSet : GoodIn wsX3_brokenCount wsX3_brokenSet := goodIn_r _ [5, 6, 7, 8, 9, 4, 10, 11, 12, 13, 14, 15, 16, 17, 18, 19, 20, 21, 22, 23, 24, 32, 33, 34, 35, 36, 37, 38, 39, 40, 41] (by decide +kernel) (by decide +kernel)
set_option maxRecDepth 20000 in
theorem gX3_brokenCount_X3_brokenSet : GoodIn wsX3_brokenCount (wsV RX3 90 RX3 yX3_brokenSet wsX3_brokenSet) := goodIn_app (goodIn_of _ (by decide +kernel)) ggX3_brokenCount_X3_brokenSet
set_option maxRecDepth 20000 in
theorem ggX3_brokenCount_J13_bitCount_95d88 : GoodIn wsX3_brokenCount wsJ13_bitCount_95d88 := goodIn_r _ [28, 29, 30, 31] (by decide +kernel) (by decide +kernel)
set_option maxRecDepth 20000 in
theorem gX3_brokenCount_J13_bitCount_95d88 : GoodIn wsX3_brokenCount (va_wsS RX3 94 yJ13_bitCount_95d88 wsJ13_bitCount_95d88) := goodIn_app (goodIn_of _ (by decide +kernel)) ggX3_brokenCount_J13_bitCount_95d88
theorem dX3_brokenCount_0 : decode cX3_brokenCount 0 = .ok (.aload_n 0, 1) := by decide +kernel
theorem dX3_brokenCount_1 : decode cX3_brokenCount 1 = .ok (.invokevirtual 90, 3) := by decide +kernel
theorem dX3_brokenCount_4 : decode cX3_brokenCount 4 = .ok (.invokestatic 94, 3) := by decide +kernel
theorem dX3_brokenCount_7 : decode cX3_brokenCount 7 = .ok (.ireturn, 1) := by decide +kernel
set_option maxRecDepth 20000 in
theorem ggX3_brokenSet_X3_isBroken : GoodIn wsX3_brokenSet wsX3_isBroken := goodIn_r _ [6, 7, 8, 9, 10, 11, 12, 13, 14, 5, 15, 16, 17, 18, 19, 20, 1, 21, 22, 23, 24, 25, 26, 27, 28, 29, 30] (by decide +kernel) (by decide +kernel)
set_option maxRecDepth 20000 in
theorem gX3_brokenSet_X3_isBroken : GoodIn wsX3_brokenSet (wsV RX3 100 RX3 yX3_isBroken wsX3_isBroken) := goodIn_app (goodIn_of _ (by decide +kernel)) ggX3_brokenSet_X3_isBroken
theorem dX3_brokenSet_0 : decode cX3_brokenSet 0 = .ok (.lconst 0, 1) := by decide +kernel
theorem dX3_brokenSet_1 : decode cX3_brokenSet 1 = .ok (.lstore_n 1, 1) := by decide +kernel
theorem dX3_brokenSet_2 : decode cX3_brokenSet 2 = .ok (.iconst 0, 1) := by decide +kernel
theorem dX3_brokenSet_3 : decode cX3_brokenSet 3 = .ok (.istore_n 3, 1) := by decide +kernel
theorem dX3_brokenSet_4 : decode cX3_brokenSet 4 = .ok (.iload_n 3, 1) := by decide +kernel
theorem dX3_brokenSet_5 : decode cX3_brokenSet 5 = .ok (.aload_n 0, 1) := by decide +kernel
theorem dX3_brokenSet_6 : decode cX3_brokenSet 6 = .ok (.getfield 32, 3) := by decide +kernel
theorem dX3_brokenSet_9 : decode cX3_brokenSet 9 = .ok (.if_icmp .ge 23, 3) := by decide +kernel
theorem dX3_brokenSet_12 : decode cX3_brokenSet 12 = .ok (.aload_n 0, 1) := by decide +kernel
theorem dX3_brokenSet_13 : decode cX3_brokenSet 13 = .ok (.iload_n 3, 1) := by decide +kernel
theorem dX3_brokenSet_14 : decode cX3_brokenSet 14 = .ok (.invokevirtual 100, 3) := by decide +kernel
theorem dX3_brokenSet_17 : decode cX3_brokenSet 17 = .ok (.ifCond .eq 9, 3) := by decide +kernel
theorem dX3_brokenSet_20 : decode cX3_brokenSet 20 = .ok (.lload_n 1, 1) := by decide +kernel
theorem dX3_brokenSet_21 : decode cX3_brokenSet 21 = .ok (.lconst 1, 1) := by decide +kernel
theorem dX3_brokenSet_22 : decode cX3_brokenSet 22 = .ok (.iload_n 3, 1) := by decide +kernel
theorem dX3_brokenSet_23 : decode cX3_brokenSet 23 = .ok (.lshl, 1) := by decide +kernel
theorem dX3_brokenSet_24 : decode cX3_brokenSet 24 = .ok (.lor, 1) := by decide +kernel
theorem dX3_brokenSet_25 : decode cX3_brokenSet 25 = .ok (.lstore_n 1, 1) := by decide +kernel
theorem dX3_brokenSet_26 : decode cX3_brokenSet 26 = .ok (.iinc 3 1, 3) := by decide +kernel
theorem dX3_brokenSet_29 : decode cX3_brokenSet 29 = .ok (.goto (-25), 3) := by decide +kernel
theorem dX3_brokenSet_32 : decode cX3_brokenSet 32 = .ok (.lload_n 1, 1) := by decide +kernel
theorem dX3_brokenSet_33 : decode cX3_brokenSet 33 = .ok (.lreturn, 1) := by decide +kernel
set_option maxRecDepth 20000 in
theorem ggX3_inversionsOf_X3_isAhead : GoodIn wsX3_inversionsOf wsX3_isAhead := goodIn_r _ [7, 8, 9, 10, 11, 12, 13, 14, 15, 16, 17, 18] (by decide +kernel) (by decide +kernel)
set_option maxRecDepth 20000 in
theorem gX3_inversionsOf_X3_isAhead : GoodIn wsX3_inversionsOf (wsV RX3 67 RX3 yX3_isAhead wsX3_isAhead) := goodIn_app (goodIn_of _ (by decide +kernel)) ggX3_inversionsOf_X3_isAhead
theorem dX3_inversionsOf_0 : decode cX3_inversionsOf 0 = .ok (.iconst 0, 1) := by decide +kernel
theorem dX3_inversionsOf_1 : decode cX3_inversionsOf 1 = .ok (.istore_n 2, 1) := by decide +kernel
theorem dX3_inversionsOf_2 : decode cX3_inversionsOf 2 = .ok (.iconst 0, 1) := by decide +kernel
theorem dX3_inversionsOf_3 : decode cX3_inversionsOf 3 = .ok (.istore_n 3, 1) := by decide +kernel
theorem dX3_inversionsOf_4 : decode cX3_inversionsOf 4 = .ok (.iload_n 3, 1) := by decide +kernel
theorem dX3_inversionsOf_5 : decode cX3_inversionsOf 5 = .ok (.iload_n 1, 1) := by decide +kernel
theorem dX3_inversionsOf_6 : decode cX3_inversionsOf 6 = .ok (.if_icmp .ge 31, 3) := by decide +kernel
theorem dX3_inversionsOf_9 : decode cX3_inversionsOf 9 = .ok (.aload_n 0, 1) := by decide +kernel
theorem dX3_inversionsOf_10 : decode cX3_inversionsOf 10 = .ok (.aload_n 0, 1) := by decide +kernel
theorem dX3_inversionsOf_11 : decode cX3_inversionsOf 11 = .ok (.getfield 9, 3) := by decide +kernel
theorem dX3_inversionsOf_14 : decode cX3_inversionsOf 14 = .ok (.iload_n 1, 1) := by decide +kernel
theorem dX3_inversionsOf_15 : decode cX3_inversionsOf 15 = .ok (.laload, 1) := by decide +kernel
theorem dX3_inversionsOf_16 : decode cX3_inversionsOf 16 = .ok (.aload_n 0, 1) := by decide +kernel
theorem dX3_inversionsOf_17 : decode cX3_inversionsOf 17 = .ok (.getfield 9, 3) := by decide +kernel
theorem dX3_inversionsOf_20 : decode cX3_inversionsOf 20 = .ok (.iload_n 3, 1) := by decide +kernel
theorem dX3_inversionsOf_21 : decode cX3_inversionsOf 21 = .ok (.laload, 1) := by decide +kernel
theorem dX3_inversionsOf_22 : decode cX3_inversionsOf 22 = .ok (.invokevirtual 67, 3) := by decide +kernel
theorem dX3_inversionsOf_25 : decode cX3_inversionsOf 25 = .ok (.ifCond .eq 6, 3) := by decide +kernel
theorem dX3_inversionsOf_28 : decode cX3_inversionsOf 28 = .ok (.iinc 2 1, 3) := by decide +kernel
theorem dX3_inversionsOf_31 : decode cX3_inversionsOf 31 = .ok (.iinc 3 1, 3) := by decide +kernel
theorem dX3_inversionsOf_34 : decode cX3_inversionsOf 34 = .ok (.goto (-30), 3) := by decide +kernel
theorem dX3_inversionsOf_37 : decode cX3_inversionsOf 37 = .ok (.iload_n 1, 1) := by decide +kernel
theorem dX3_inversionsOf_38 : decode cX3_inversionsOf 38 = .ok (.iconst 1, 1) := by decide +kernel
theorem dX3_inversionsOf_39 : decode cX3_inversionsOf 39 = .ok (.iadd, 1) := by decide +kernel
theorem dX3_inversionsOf_40 : decode cX3_inversionsOf 40 = .ok (.istore_n 3, 1) := by decide +kernel
theorem dX3_inversionsOf_41 : decode cX3_inversionsOf 41 = .ok (.iload_n 3, 1) := by decide +kernel
theorem dX3_inversionsOf_42 : decode cX3_inversionsOf 42 = .ok (.aload_n 0, 1) := by decide +kernel
theorem dX3_inversionsOf_43 : decode cX3_inversionsOf 43 = .ok (.getfield 32, 3) := by decide +kernel
theorem dX3_inversionsOf_46 : decode cX3_inversionsOf 46 = .ok (.if_icmp .ge 31, 3) := by decide +kernel
theorem dX3_inversionsOf_49 : decode cX3_inversionsOf 49 = .ok (.aload_n 0, 1) := by decide +kernel
theorem dX3_inversionsOf_50 : decode cX3_inversionsOf 50 = .ok (.aload_n 0, 1) := by decide +kernel
theorem dX3_inversionsOf_51 : decode cX3_inversionsOf 51 = .ok (.getfield 9, 3) := by decide +kernel
theorem dX3_inversionsOf_54 : decode cX3_inversionsOf 54 = .ok (.iload_n 3, 1) := by decide +kernel
theorem dX3_inversionsOf_55 : decode cX3_inversionsOf 55 = .ok (.laload, 1) := by decide +kernel
theorem dX3_inversionsOf_56 : decode cX3_inversionsOf 56 = .ok (.aload_n 0, 1) := by decide +kernel
theorem dX3_inversionsOf_57 : decode cX3_inversionsOf 57 = .ok (.getfield 9, 3) := by decide +kernel
theorem dX3_inversionsOf_60 : decode cX3_inversionsOf 60 = .ok (.iload_n 1, 1) := by decide +kernel
theorem dX3_inversionsOf_61 : decode cX3_inversionsOf 61 = .ok (.laload, 1) := by decide +kernel
theorem dX3_inversionsOf_62 : decode cX3_inversionsOf 62 = .ok (.invokevirtual 67, 3) := by decide +kernel
theorem dX3_inversionsOf_65 : decode cX3_inversionsOf 65 = .ok (.ifCond .eq 6, 3) := by decide +kernel
theorem dX3_inversionsOf_68 : decode cX3_inversionsOf 68 = .ok (.iinc 2 1, 3) := by decide +kernel
theorem dX3_inversionsOf_71 : decode cX3_inversionsOf 71 = .ok (.iinc 3 1, 3) := by decide +kernel
theorem dX3_inversionsOf_74 : decode cX3_inversionsOf 74 = .ok (.goto (-33), 3) := by decide +kernel
theorem dX3_inversionsOf_77 : decode cX3_inversionsOf 77 = .ok (.iload_n 2, 1) := by decide +kernel
theorem dX3_inversionsOf_78 : decode cX3_inversionsOf 78 = .ok (.ireturn, 1) := by decide +kernel
set_option maxRecDepth 20000 in
theorem ggX3_inversions_X3_inversionsOf : GoodIn wsX3_inversions wsX3_inversionsOf := goodIn_r _ [6, 7, 1, 8, 9, 10, 5, 11, 12, 13, 14, 15, 16, 17, 18, 19, 20, 21, 22] (by decide +kernel) (by decide +kernel)
set_option maxRecDepth 20000 in
theorem gX3_inversions_X3_inversionsOf : GoodIn wsX3_inversions (wsV RX3 103 RX3 yX3_inversionsOf wsX3_inversionsOf) := goodIn_app (goodIn_of _ (by decide +kernel)) ggX3_inversions_X3_inversionsOf
theorem dX3_inversions_0 : decode cX3_inversions 0 = .ok (.iconst 0, 1) := by decide +kernel
theorem dX3_inversions_1 : decode cX3_inversions 1 = .ok (.istore_n 1, 1) := by decide +kernel
theorem dX3_inversions_2 : decode cX3_inversions 2 = .ok (.iconst 0, 1) := by decide +kernel
theorem dX3_inversions_3 : decode cX3_inversions 3 = .ok (.istore_n 2, 1) := by decide +kernel
theorem dX3_inversions_4 : decode cX3_inversions 4 = .ok (.iload_n 2, 1) := by decide +kernel
theorem dX3_inversions_5 : decode cX3_inversions 5 = .ok (.aload_n 0, 1) := by decide +kernel
theorem dX3_inversions_6 : decode cX3_inversions 6 = .ok (.getfield 32, 3) := by decide +kernel
theorem dX3_inversions_9 : decode cX3_inversions 9 = .ok (.if_icmp .ge 17, 3) := by decide +kernel
theorem dX3_inversions_12 : decode cX3_inversions 12 = .ok (.iload_n 1, 1) := by decide +kernel
theorem dX3_inversions_13 : decode cX3_inversions 13 = .ok (.aload_n 0, 1) := by decide +kernel
theorem dX3_inversions_14 : decode cX3_inversions 14 = .ok (.iload_n 2, 1) := by decide +kernel
theorem dX3_inversions_15 : decode cX3_inversions 15 = .ok (.invokevirtual 103, 3) := by decide +kernel
theorem dX3_inversions_18 : decode cX3_inversions 18 = .ok (.iadd, 1) := by decide +kernel
theorem dX3_inversions_19 : decode cX3_inversions 19 = .ok (.istore_n 1, 1) := by decide +kernel
theorem dX3_inversions_20 : decode cX3_inversions 20 = .ok (.iinc 2 1, 3) := by decide +kernel
theorem dX3_inversions_23 : decode cX3_inversions 23 = .ok (.goto (-19), 3) := by decide +kernel
theorem dX3_inversions_26 : decode cX3_inversions 26 = .ok (.iload_n 1, 1) := by decide +kernel
theorem dX3_inversions_27 : decode cX3_inversions 27 = .ok (.iconst 2, 1) := by decide +kernel
theorem dX3_inversions_28 : decode cX3_inversions 28 = .ok (.idiv, 1) := by decide +kernel
theorem dX3_inversions_29 : decode cX3_inversions 29 = .ok (.ireturn, 1) := by decide +kernel
set_option maxRecDepth 20000 in
theorem ggX3_falls_X3_isFall : GoodIn wsX3_falls wsX3_isFall := goodIn_r _ [6, 7, 8, 9, 10, 5, 11, 1, 12, 13, 14, 15, 16, 17, 18, 19, 20, 21, 22, 23, 24, 25, 26] (by decide +kernel) (by decide +kernel)
set_option maxRecDepth 20000 in
theorem gX3_falls_X3_isFall : GoodIn wsX3_falls (wsV RX3 84 RX3 yX3_isFall wsX3_isFall) := goodIn_app (goodIn_of _ (by decide +kernel)) ggX3_falls_X3_isFall
theorem dX3_falls_0 : decode cX3_falls 0 = .ok (.iconst 0, 1) := by decide +kernel
theorem dX3_falls_1 : decode cX3_falls 1 = .ok (.istore_n 1, 1) := by decide +kernel
theorem dX3_falls_2 : decode cX3_falls 2 = .ok (.iconst 0, 1) := by decide +kernel
theorem dX3_falls_3 : decode cX3_falls 3 = .ok (.istore_n 2, 1) := by decide +kernel
theorem dX3_falls_4 : decode cX3_falls 4 = .ok (.iload_n 2, 1) := by decide +kernel
theorem dX3_falls_5 : decode cX3_falls 5 = .ok (.aload_n 0, 1) := by decide +kernel
theorem dX3_falls_6 : decode cX3_falls 6 = .ok (.getfield 32, 3) := by decide +kernel
theorem dX3_falls_9 : decode cX3_falls 9 = .ok (.if_icmp .ge 20, 3) := by decide +kernel
theorem dX3_falls_12 : decode cX3_falls 12 = .ok (.aload_n 0, 1) := by decide +kernel
theorem dX3_falls_13 : decode cX3_falls 13 = .ok (.iload_n 2, 1) := by decide +kernel
theorem dX3_falls_14 : decode cX3_falls 14 = .ok (.invokevirtual 84, 3) := by decide +kernel
theorem dX3_falls_17 : decode cX3_falls 17 = .ok (.ifCond .eq 6, 3) := by decide +kernel
theorem dX3_falls_20 : decode cX3_falls 20 = .ok (.iinc 1 1, 3) := by decide +kernel
theorem dX3_falls_23 : decode cX3_falls 23 = .ok (.iinc 2 1, 3) := by decide +kernel
theorem dX3_falls_26 : decode cX3_falls 26 = .ok (.goto (-22), 3) := by decide +kernel
theorem dX3_falls_29 : decode cX3_falls 29 = .ok (.iload_n 1, 1) := by decide +kernel
theorem dX3_falls_30 : decode cX3_falls 30 = .ok (.ireturn, 1) := by decide +kernel
set_option maxRecDepth 20000 in
theorem ggX3_greatestDistance_X3_distance : GoodIn wsX3_greatestDistance wsX3_distance := goodIn_r _ [13, 14, 15, 16, 17, 12, 18, 1, 19, 20, 21, 22, 23, 24, 25, 26, 27, 28] (by decide +kernel) (by decide +kernel)
set_option maxRecDepth 20000 in
theorem gX3_greatestDistance_X3_distance : GoodIn wsX3_greatestDistance (wsV RX3 55 RX3 yX3_distance wsX3_distance) := goodIn_app (goodIn_of _ (by decide +kernel)) ggX3_greatestDistance_X3_distance
theorem dX3_greatestDistance_0 : decode cX3_greatestDistance 0 = .ok (.iconst 0, 1) := by decide +kernel
theorem dX3_greatestDistance_1 : decode cX3_greatestDistance 1 = .ok (.istore_n 1, 1) := by decide +kernel
theorem dX3_greatestDistance_2 : decode cX3_greatestDistance 2 = .ok (.iconst 0, 1) := by decide +kernel
theorem dX3_greatestDistance_3 : decode cX3_greatestDistance 3 = .ok (.istore_n 2, 1) := by decide +kernel
theorem dX3_greatestDistance_4 : decode cX3_greatestDistance 4 = .ok (.iload_n 2, 1) := by decide +kernel
theorem dX3_greatestDistance_5 : decode cX3_greatestDistance 5 = .ok (.aload_n 0, 1) := by decide +kernel
theorem dX3_greatestDistance_6 : decode cX3_greatestDistance 6 = .ok (.getfield 32, 3) := by decide +kernel
theorem dX3_greatestDistance_9 : decode cX3_greatestDistance 9 = .ok (.if_icmp .ge 22, 3) := by decide +kernel
theorem dX3_greatestDistance_12 : decode cX3_greatestDistance 12 = .ok (.iload_n 1, 1) := by decide +kernel
theorem dX3_greatestDistance_13 : decode cX3_greatestDistance 13 = .ok (.aload_n 0, 1) := by decide +kernel
theorem dX3_greatestDistance_14 : decode cX3_greatestDistance 14 = .ok (.iload_n 2, 1) := by decide +kernel
theorem dX3_greatestDistance_15 : decode cX3_greatestDistance 15 = .ok (.invokevirtual 55, 3) := by decide +kernel
theorem dX3_greatestDistance_18 : decode cX3_greatestDistance 18 = .ok (.invokestatic 59, 3) := by decide +kernel
theorem dX3_greatestDistance_21 : decode cX3_greatestDistance 21 = .ok (.invokestatic 106, 3) := by decide +kernel
theorem dX3_greatestDistance_24 : decode cX3_greatestDistance 24 = .ok (.istore_n 1, 1) := by decide +kernel
theorem dX3_greatestDistance_25 : decode cX3_greatestDistance 25 = .ok (.iinc 2 1, 3) := by decide +kernel
theorem dX3_greatestDistance_28 : decode cX3_greatestDistance 28 = .ok (.goto (-24), 3) := by decide +kernel
theorem dX3_greatestDistance_31 : decode cX3_greatestDistance 31 = .ok (.iload_n 1, 1) := by decide +kernel
theorem dX3_greatestDistance_32 : decode cX3_greatestDistance 32 = .ok (.ireturn, 1) := by decide +kernel
set_option maxRecDepth 20000 in
theorem ggX3_mendFully_X3_mendOnce : GoodIn wsX3_mendFully wsX3_mendOnce := goodIn_r _ [5, 6, 7, 8, 9, 4, 10, 11, 12, 13, 14, 15, 16, 17, 18, 19, 20, 21, 22, 23, 24, 25, 26, 27, 28, 29, 30, 31, 32, 33, 34, 35, 36, 37, 38, 39, 40, 41, 42, 43, 44, 45, 46, 47, 48, 49, 50, 51, 52, 53, 54, 55, 56, 57, 58] (by decide +kernel) (by decide +kernel)
set_option maxRecDepth 20000 in
theorem gX3_mendFully_X3_mendOnce : GoodIn wsX3_mendFully (wsV RX3 110 RX3 yX3_mendOnce wsX3_mendOnce) := goodIn_app (goodIn_of _ (by decide +kernel)) ggX3_mendFully_X3_mendOnce
theorem dX3_mendFully_0 : decode cX3_mendFully 0 = .ok (.iconst 0, 1) := by decide +kernel
theorem dX3_mendFully_1 : decode cX3_mendFully 1 = .ok (.istore_n 1, 1) := by decide +kernel
theorem dX3_mendFully_2 : decode cX3_mendFully 2 = .ok (.iload_n 1, 1) := by decide +kernel
theorem dX3_mendFully_3 : decode cX3_mendFully 3 = .ok (.sipush 1000, 3) := by decide +kernel
theorem dX3_mendFully_6 : decode cX3_mendFully 6 = .ok (.if_icmp .ge 19, 3) := by decide +kernel
theorem dX3_mendFully_9 : decode cX3_mendFully 9 = .ok (.aload_n 0, 1) := by decide +kernel
theorem dX3_mendFully_10 : decode cX3_mendFully 10 = .ok (.invokevirtual 110, 3) := by decide +kernel
theorem dX3_mendFully_13 : decode cX3_mendFully 13 = .ok (.sipush (-1000), 3) := by decide +kernel
theorem dX3_mendFully_16 : decode cX3_mendFully 16 = .ok (.if_icmp .eq 9, 3) := by decide +kernel
theorem dX3_mendFully_19 : decode cX3_mendFully 19 = .ok (.iinc 1 1, 3) := by decide +kernel
theorem dX3_mendFully_22 : decode cX3_mendFully 22 = .ok (.goto (-20), 3) := by decide +kernel
theorem dX3_mendFully_25 : decode cX3_mendFully 25 = .ok (.iload_n 1, 1) := by decide +kernel
theorem dX3_mendFully_26 : decode cX3_mendFully 26 = .ok (.ireturn, 1) := by decide +kernel
set_option maxRecDepth 20000 in
theorem ggX3_mendOnce_X3_worstPlace : GoodIn wsX3_mendOnce wsX3_worstPlace := goodIn_r _ [6, 7, 8, 9, 10, 11, 12, 13, 14, 15, 5, 16, 17, 18, 19, 20, 21, 45, 46, 47, 48, 49, 50, 51, 52, 53, 54] (by decide +kernel) (by decide +kernel)
set_option maxRecDepth 20000 in
theorem gX3_mendOnce_X3_worstPlace : GoodIn wsX3_mendOnce (wsV RX3 114 RX3 yX3_worstPlace wsX3_worstPlace) := goodIn_app (goodIn_of _ (by decide +kernel)) ggX3_mendOnce_X3_worstPlace
set_option maxRecDepth 20000 in
theorem ggX3_mendOnce_X3_fallNearest : GoodIn wsX3_mendOnce wsX3_fallNearest := goodIn_r _ [25, 8, 13, 14, 15, 5, 16, 17, 18, 19, 20, 21, 26, 27, 28, 29, 30, 31, 32, 33, 34, 35, 36, 37, 38, 39, 45, 46, 47, 48, 49, 50, 51, 52, 53, 54] (by decide +kernel) (by decide +kernel)
set_option maxRecDepth 20000 in
theorem gX3_mendOnce_X3_fallNearest : GoodIn wsX3_mendOnce (wsV RX3 117 RX3 yX3_fallNearest wsX3_fallNearest) := goodIn_app (goodIn_of _ (by decide +kernel)) ggX3_mendOnce_X3_fallNearest
set_option maxRecDepth 20000 in
theorem ggX3_mendOnce_X3_swapElements : GoodIn wsX3_mendOnce wsX3_swapElements := goodIn_r _ [43, 44, 30, 17, 31, 32, 33, 5, 34, 8, 45, 46, 47, 48, 49, 50, 51, 52, 53, 54] (by decide +kernel) (by decide +kernel)
set_option maxRecDepth 20000 in
theorem gX3_mendOnce_X3_swapElements : GoodIn wsX3_mendOnce (wsV RX3 120 RX3 yX3_swapElements wsX3_swapElements) := goodIn_app (goodIn_of _ (by decide +kernel)) ggX3_mendOnce_X3_swapElements
theorem dX3_mendOnce_0 : decode cX3_mendOnce 0 = .ok (.aload_n 0, 1) := by decide +kernel
theorem dX3_mendOnce_1 : decode cX3_mendOnce 1 = .ok (.invokevirtual 114, 3) := by decide +kernel
theorem dX3_mendOnce_4 : decode cX3_mendOnce 4 = .ok (.istore_n 1, 1) := by decide +kernel
theorem dX3_mendOnce_5 : decode cX3_mendOnce 5 = .ok (.iload_n 1, 1) := by decide +kernel
theorem dX3_mendOnce_6 : decode cX3_mendOnce 6 = .ok (.sipush (-1000), 3) := by decide +kernel
theorem dX3_mendOnce_9 : decode cX3_mendOnce 9 = .ok (.if_icmp .ne 9, 3) := by decide +kernel
theorem dX3_mendOnce_12 : decode cX3_mendOnce 12 = .ok (.sipush (-1000), 3) := by decide +kernel
theorem dX3_mendOnce_15 : decode cX3_mendOnce 15 = .ok (.goto 8, 3) := by decide +kernel
theorem dX3_mendOnce_18 : decode cX3_mendOnce 18 = .ok (.aload_n 0, 1) := by decide +kernel
theorem dX3_mendOnce_19 : decode cX3_mendOnce 19 = .ok (.iload_n 1, 1) := by decide +kernel
theorem dX3_mendOnce_20 : decode cX3_mendOnce 20 = .ok (.invokevirtual 117, 3) := by decide +kernel
theorem dX3_mendOnce_23 : decode cX3_mendOnce 23 = .ok (.istore_n 2, 1) := by decide +kernel
theorem dX3_mendOnce_24 : decode cX3_mendOnce 24 = .ok (.iload_n 2, 1) := by decide +kernel
theorem dX3_mendOnce_25 : decode cX3_mendOnce 25 = .ok (.sipush (-1000), 3) := by decide +kernel
theorem dX3_mendOnce_28 : decode cX3_mendOnce 28 = .ok (.if_icmp .eq 19, 3) := by decide +kernel
theorem dX3_mendOnce_31 : decode cX3_mendOnce 31 = .ok (.aload_n 0, 1) := by decide +kernel
theorem dX3_mendOnce_32 : decode cX3_mendOnce 32 = .ok (.iload_n 2, 1) := by decide +kernel
theorem dX3_mendOnce_33 : decode cX3_mendOnce 33 = .ok (.invokevirtual 120, 3) := by decide +kernel
theorem dX3_mendOnce_36 : decode cX3_mendOnce 36 = .ok (.pop, 1) := by decide +kernel
theorem dX3_mendOnce_37 : decode cX3_mendOnce 37 = .ok (.aload_n 0, 1) := by decide +kernel
theorem dX3_mendOnce_38 : decode cX3_mendOnce 38 = .ok (.dup, 1) := by decide +kernel
theorem dX3_mendOnce_39 : decode cX3_mendOnce 39 = .ok (.getfield 42, 3) := by decide +kernel
theorem dX3_mendOnce_42 : decode cX3_mendOnce 42 = .ok (.iconst 1, 1) := by decide +kernel
theorem dX3_mendOnce_43 : decode cX3_mendOnce 43 = .ok (.iadd, 1) := by decide +kernel
theorem dX3_mendOnce_44 : decode cX3_mendOnce 44 = .ok (.putfield 42, 3) := by decide +kernel
theorem dX3_mendOnce_47 : decode cX3_mendOnce 47 = .ok (.iload_n 2, 1) := by decide +kernel
theorem dX3_mendOnce_48 : decode cX3_mendOnce 48 = .ok (.ireturn, 1) := by decide +kernel
set_option maxRecDepth 20000 in
theorem ggX3_worstPlace_X3_distance : GoodIn wsX3_worstPlace wsX3_distance := goodIn_r _ [11, 12, 13, 14, 15, 10, 16, 2, 17, 18, 19, 20, 21, 22, 23, 24, 25, 26] (by decide +kernel) (by decide +kernel)
set_option maxRecDepth 20000 in
theorem gX3_worstPlace_X3_distance : GoodIn wsX3_worstPlace (wsV RX3 55 RX3 yX3_distance wsX3_distance) := goodIn_app (goodIn_of _ (by decide +kernel)) ggX3_worstPlace_X3_distance
theorem dX3_worstPlace_0 : decode cX3_worstPlace 0 = .ok (.sipush (-1000), 3) := by decide +kernel
theorem dX3_worstPlace_3 : decode cX3_worstPlace 3 = .ok (.istore_n 1, 1) := by decide +kernel
theorem dX3_worstPlace_4 : decode cX3_worstPlace 4 = .ok (.aload_n 0, 1) := by decide +kernel
theorem dX3_worstPlace_5 : decode cX3_worstPlace 5 = .ok (.getfield 22, 3) := by decide +kernel
theorem dX3_worstPlace_8 : decode cX3_worstPlace 8 = .ok (.istore_n 2, 1) := by decide +kernel
theorem dX3_worstPlace_9 : decode cX3_worstPlace 9 = .ok (.iconst 0, 1) := by decide +kernel
theorem dX3_worstPlace_10 : decode cX3_worstPlace 10 = .ok (.istore_n 3, 1) := by decide +kernel
theorem dX3_worstPlace_11 : decode cX3_worstPlace 11 = .ok (.iload_n 3, 1) := by decide +kernel
theorem dX3_worstPlace_12 : decode cX3_worstPlace 12 = .ok (.aload_n 0, 1) := by decide +kernel
theorem dX3_worstPlace_13 : decode cX3_worstPlace 13 = .ok (.getfield 32, 3) := by decide +kernel
theorem dX3_worstPlace_16 : decode cX3_worstPlace 16 = .ok (.if_icmp .ge 30, 3) := by decide +kernel
theorem dX3_worstPlace_19 : decode cX3_worstPlace 19 = .ok (.aload_n 0, 1) := by decide +kernel
theorem dX3_worstPlace_20 : decode cX3_worstPlace 20 = .ok (.iload_n 3, 1) := by decide +kernel
theorem dX3_worstPlace_21 : decode cX3_worstPlace 21 = .ok (.invokevirtual 55, 3) := by decide +kernel
theorem dX3_worstPlace_24 : decode cX3_worstPlace 24 = .ok (.invokestatic 59, 3) := by decide +kernel
theorem dX3_worstPlace_27 : decode cX3_worstPlace 27 = .ok (.istore 4, 2) := by decide +kernel
theorem dX3_worstPlace_29 : decode cX3_worstPlace 29 = .ok (.iload 4, 2) := by decide +kernel
theorem dX3_worstPlace_31 : decode cX3_worstPlace 31 = .ok (.iload_n 2, 1) := by decide +kernel
theorem dX3_worstPlace_32 : decode cX3_worstPlace 32 = .ok (.if_icmp .le 8, 3) := by decide +kernel
theorem dX3_worstPlace_35 : decode cX3_worstPlace 35 = .ok (.iload 4, 2) := by decide +kernel
theorem dX3_worstPlace_37 : decode cX3_worstPlace 37 = .ok (.istore_n 2, 1) := by decide +kernel
theorem dX3_worstPlace_38 : decode cX3_worstPlace 38 = .ok (.iload_n 3, 1) := by decide +kernel
theorem dX3_worstPlace_39 : decode cX3_worstPlace 39 = .ok (.istore_n 1, 1) := by decide +kernel
theorem dX3_worstPlace_40 : decode cX3_worstPlace 40 = .ok (.iinc 3 1, 3) := by decide +kernel
theorem dX3_worstPlace_43 : decode cX3_worstPlace 43 = .ok (.goto (-32), 3) := by decide +kernel
theorem dX3_worstPlace_46 : decode cX3_worstPlace 46 = .ok (.iload_n 1, 1) := by decide +kernel
theorem dX3_worstPlace_47 : decode cX3_worstPlace 47 = .ok (.ireturn, 1) := by decide +kernel
set_option maxRecDepth 20000 in
theorem ggX3_fallNearest_X3_distance : GoodIn wsX3_fallNearest wsX3_distance := goodIn_r _ [6, 7, 8, 9, 10, 5, 11, 1, 26, 27, 28, 29, 30, 31, 32, 33, 34, 35] (by decide +kernel) (by decide +kernel)
set_option maxRecDepth 20000 in
theorem gX3_fallNearest_X3_distance : GoodIn wsX3_fallNearest (wsV RX3 55 RX3 yX3_distance wsX3_distance) := goodIn_app (goodIn_of _ (by decide +kernel)) ggX3_fallNearest_X3_distance
set_option maxRecDepth 20000 in
theorem ggX3_fallNearest_X3_isFall : GoodIn wsX3_fallNearest wsX3_isFall := goodIn_r _ [15, 16, 17, 18, 19, 5, 20, 1, 21, 22, 23, 24, 25, 26, 27, 28, 29, 30, 31, 32, 33, 34, 35] (by decide +kernel) (by decide +kernel)
set_option maxRecDepth 20000 in
theorem gX3_fallNearest_X3_isFall : GoodIn wsX3_fallNearest (wsV RX3 84 RX3 yX3_isFall wsX3_isFall) := goodIn_app (goodIn_of _ (by decide +kernel)) ggX3_fallNearest_X3_isFall
theorem dX3_fallNearest_0 : decode cX3_fallNearest 0 = .ok (.aload_n 0, 1) := by decide +kernel
theorem dX3_fallNearest_1 : decode cX3_fallNearest 1 = .ok (.iload_n 1, 1) := by decide +kernel
theorem dX3_fallNearest_2 : decode cX3_fallNearest 2 = .ok (.invokevirtual 55, 3) := by decide +kernel
theorem dX3_fallNearest_5 : decode cX3_fallNearest 5 = .ok (.ifCond .le 30, 3) := by decide +kernel
theorem dX3_fallNearest_8 : decode cX3_fallNearest 8 = .ok (.iload_n 1, 1) := by decide +kernel
theorem dX3_fallNearest_9 : decode cX3_fallNearest 9 = .ok (.iconst 1, 1) := by decide +kernel
theorem dX3_fallNearest_10 : decode cX3_fallNearest 10 = .ok (.isub, 1) := by decide +kernel
theorem dX3_fallNearest_11 : decode cX3_fallNearest 11 = .ok (.istore_n 2, 1) := by decide +kernel
theorem dX3_fallNearest_12 : decode cX3_fallNearest 12 = .ok (.iload_n 2, 1) := by decide +kernel
theorem dX3_fallNearest_13 : decode cX3_fallNearest 13 = .ok (.ifCond .lt 19, 3) := by decide +kernel
theorem dX3_fallNearest_16 : decode cX3_fallNearest 16 = .ok (.aload_n 0, 1) := by decide +kernel
theorem dX3_fallNearest_17 : decode cX3_fallNearest 17 = .ok (.iload_n 2, 1) := by decide +kernel
theorem dX3_fallNearest_18 : decode cX3_fallNearest 18 = .ok (.invokevirtual 84, 3) := by decide +kernel
theorem dX3_fallNearest_21 : decode cX3_fallNearest 21 = .ok (.ifCond .eq 5, 3) := by decide +kernel
theorem dX3_fallNearest_24 : decode cX3_fallNearest 24 = .ok (.iload_n 2, 1) := by decide +kernel
theorem dX3_fallNearest_25 : decode cX3_fallNearest 25 = .ok (.ireturn, 1) := by decide +kernel
theorem dX3_fallNearest_26 : decode cX3_fallNearest 26 = .ok (.iinc 2 (-1), 3) := by decide +kernel
theorem dX3_fallNearest_29 : decode cX3_fallNearest 29 = .ok (.goto (-17), 3) := by decide +kernel
theorem dX3_fallNearest_32 : decode cX3_fallNearest 32 = .ok (.goto 29, 3) := by decide +kernel
theorem dX3_fallNearest_35 : decode cX3_fallNearest 35 = .ok (.iload_n 1, 1) := by decide +kernel
theorem dX3_fallNearest_36 : decode cX3_fallNearest 36 = .ok (.istore_n 2, 1) := by decide +kernel
theorem dX3_fallNearest_37 : decode cX3_fallNearest 37 = .ok (.iload_n 2, 1) := by decide +kernel
theorem dX3_fallNearest_38 : decode cX3_fallNearest 38 = .ok (.aload_n 0, 1) := by decide +kernel
theorem dX3_fallNearest_39 : decode cX3_fallNearest 39 = .ok (.getfield 32, 3) := by decide +kernel
theorem dX3_fallNearest_42 : decode cX3_fallNearest 42 = .ok (.if_icmp .ge 19, 3) := by decide +kernel
theorem dX3_fallNearest_45 : decode cX3_fallNearest 45 = .ok (.aload_n 0, 1) := by decide +kernel
theorem dX3_fallNearest_46 : decode cX3_fallNearest 46 = .ok (.iload_n 2, 1) := by decide +kernel
theorem dX3_fallNearest_47 : decode cX3_fallNearest 47 = .ok (.invokevirtual 84, 3) := by decide +kernel
theorem dX3_fallNearest_50 : decode cX3_fallNearest 50 = .ok (.ifCond .eq 5, 3) := by decide +kernel
theorem dX3_fallNearest_53 : decode cX3_fallNearest 53 = .ok (.iload_n 2, 1) := by decide +kernel
theorem dX3_fallNearest_54 : decode cX3_fallNearest 54 = .ok (.ireturn, 1) := by decide +kernel
theorem dX3_fallNearest_55 : decode cX3_fallNearest 55 = .ok (.iinc 2 1, 3) := by decide +kernel
theorem dX3_fallNearest_58 : decode cX3_fallNearest 58 = .ok (.goto (-21), 3) := by decide +kernel
theorem dX3_fallNearest_61 : decode cX3_fallNearest 61 = .ok (.sipush (-1000), 3) := by decide +kernel
theorem dX3_fallNearest_64 : decode cX3_fallNearest 64 = .ok (.ireturn, 1) := by decide +kernel
theorem dX4_init_0 : decode cX4_init 0 = .ok (.aload_n 0, 1) := by decide +kernel
theorem dX4_init_1 : decode cX4_init 1 = .ok (.invokespecial 3, 3) := by decide +kernel
theorem dX4_init_4 : decode cX4_init 4 = .ok (.return_, 1) := by decide +kernel
set_option maxRecDepth 20000 in
theorem ggX4_lookFor_X4_narrow : GoodIn wsX4_lookFor wsX4_narrow := goodIn_r _ [9, 2, 1, 4, 3, 10, 11, 12, 13, 14, 15, 16, 17, 18, 19, 20, 21, 22, 23, 24, 25, 26, 27, 36, 37, 38, 39, 40, 41, 42, 43, 44, 45, 32, 33, 34, 35] (by decide +kernel) (by decide +kernel)
set_option maxRecDepth 20000 in
theorem gX4_lookFor_X4_narrow : GoodIn wsX4_lookFor (wsV RX4 29 RX4 yX4_narrow wsX4_narrow) := goodIn_app (goodIn_of _ (by decide +kernel)) ggX4_lookFor_X4_narrow
set_option maxRecDepth 20000 in
theorem ggX4_lookFor_X4_lookOneByOne : GoodIn wsX4_lookFor wsX4_lookOneByOne := goodIn_r _ [31, 3, 4, 2, 1, 17, 18, 19, 20, 21, 22, 32, 33, 34, 35, 36, 37, 38, 39, 40, 41, 42, 43, 44, 45] (by decide +kernel) (by decide +kernel)
set_option maxRecDepth 20000 in
theorem gX4_lookFor_X4_lookOneByOne : GoodIn wsX4_lookFor (wsV RX4 33 RX4 yX4_lookOneByOne wsX4_lookOneByOne) := goodIn_app (goodIn_of _ (by decide +kernel)) ggX4_lookFor_X4_lookOneByOne
theorem dX4_lookFor_0 : decode cX4_lookFor 0 = .ok (.aload_n 0, 1) := by decide +kernel
theorem dX4_lookFor_1 : decode cX4_lookFor 1 = .ok (.sipush (-1000), 3) := by decide +kernel
theorem dX4_lookFor_4 : decode cX4_lookFor 4 = .ok (.putfield 9, 3) := by decide +kernel
theorem dX4_lookFor_7 : decode cX4_lookFor 7 = .ok (.aload_n 0, 1) := by decide +kernel
theorem dX4_lookFor_8 : decode cX4_lookFor 8 = .ok (.iconst 0, 1) := by decide +kernel
theorem dX4_lookFor_9 : decode cX4_lookFor 9 = .ok (.putfield 15, 3) := by decide +kernel
theorem dX4_lookFor_12 : decode cX4_lookFor 12 = .ok (.aload_n 0, 1) := by decide +kernel
theorem dX4_lookFor_13 : decode cX4_lookFor 13 = .ok (.iconst 0, 1) := by decide +kernel
theorem dX4_lookFor_14 : decode cX4_lookFor 14 = .ok (.putfield 18, 3) := by decide +kernel
theorem dX4_lookFor_17 : decode cX4_lookFor 17 = .ok (.aload_n 0, 1) := by decide +kernel
theorem dX4_lookFor_18 : decode cX4_lookFor 18 = .ok (.aload_n 1, 1) := by decide +kernel
theorem dX4_lookFor_19 : decode cX4_lookFor 19 = .ok (.getfield 21, 3) := by decide +kernel
theorem dX4_lookFor_22 : decode cX4_lookFor 22 = .ok (.putfield 26, 3) := by decide +kernel
theorem dX4_lookFor_25 : decode cX4_lookFor 25 = .ok (.aload_n 0, 1) := by decide +kernel
theorem dX4_lookFor_26 : decode cX4_lookFor 26 = .ok (.aload_n 1, 1) := by decide +kernel
theorem dX4_lookFor_27 : decode cX4_lookFor 27 = .ok (.lload_n 2, 1) := by decide +kernel
theorem dX4_lookFor_28 : decode cX4_lookFor 28 = .ok (.invokevirtual 29, 3) := by decide +kernel
theorem dX4_lookFor_31 : decode cX4_lookFor 31 = .ok (.aload_n 0, 1) := by decide +kernel
theorem dX4_lookFor_32 : decode cX4_lookFor 32 = .ok (.getfield 9, 3) := by decide +kernel
theorem dX4_lookFor_35 : decode cX4_lookFor 35 = .ok (.sipush (-1000), 3) := by decide +kernel
theorem dX4_lookFor_38 : decode cX4_lookFor 38 = .ok (.if_icmp .ne 12, 3) := by decide +kernel
theorem dX4_lookFor_41 : decode cX4_lookFor 41 = .ok (.aload_n 0, 1) := by decide +kernel
theorem dX4_lookFor_42 : decode cX4_lookFor 42 = .ok (.aload_n 1, 1) := by decide +kernel
theorem dX4_lookFor_43 : decode cX4_lookFor 43 = .ok (.lload_n 2, 1) := by decide +kernel
theorem dX4_lookFor_44 : decode cX4_lookFor 44 = .ok (.invokevirtual 33, 3) := by decide +kernel
theorem dX4_lookFor_47 : decode cX4_lookFor 47 = .ok (.goto 17, 3) := by decide +kernel
theorem dX4_lookFor_50 : decode cX4_lookFor 50 = .ok (.aload_n 0, 1) := by decide +kernel
theorem dX4_lookFor_51 : decode cX4_lookFor 51 = .ok (.sipush (-1000), 3) := by decide +kernel
theorem dX4_lookFor_54 : decode cX4_lookFor 54 = .ok (.putfield 18, 3) := by decide +kernel
theorem dX4_lookFor_57 : decode cX4_lookFor 57 = .ok (.aload_n 0, 1) := by decide +kernel
theorem dX4_lookFor_58 : decode cX4_lookFor 58 = .ok (.sipush (-1000), 3) := by decide +kernel
theorem dX4_lookFor_61 : decode cX4_lookFor 61 = .ok (.putfield 26, 3) := by decide +kernel
theorem dX4_lookFor_64 : decode cX4_lookFor 64 = .ok (.return_, 1) := by decide +kernel
set_option maxRecDepth 20000 in
theorem ggX4_narrow_X3_isPlace : GoodIn wsX4_narrow wsX3_isPlace := goodIn_r _ [16, 17, 23, 24, 25, 26, 27, 28, 29, 30, 31, 32] (by decide +kernel) (by decide +kernel)
set_option maxRecDepth 20000 in
theorem gX4_narrow_X3_isPlace : GoodIn wsX4_narrow (wsV RX4 39 RX3 yX3_isPlace wsX3_isPlace) := goodIn_app (goodIn_of _ (by decide +kernel)) ggX4_narrow_X3_isPlace
set_option maxRecDepth 20000 in
theorem ggX4_narrow_X3_isAhead : GoodIn wsX4_narrow wsX3_isAhead := goodIn_r _ [21, 22, 23, 24, 25, 26, 27, 28, 29, 30, 31, 32] (by decide +kernel) (by decide +kernel)
set_option maxRecDepth 20000 in
theorem gX4_narrow_X3_isAhead : GoodIn wsX4_narrow (wsV RX4 47 RX3 yX3_isAhead wsX3_isAhead) := goodIn_app (goodIn_of _ (by decide +kernel)) ggX4_narrow_X3_isAhead
theorem dX4_narrow_0 : decode cX4_narrow 0 = .ok (.iconst 2, 1) := by decide +kernel
theorem dX4_narrow_1 : decode cX4_narrow 1 = .ok (.aload_n 1, 1) := by decide +kernel
theorem dX4_narrow_2 : decode cX4_narrow 2 = .ok (.getfield 36, 3) := by decide +kernel
theorem dX4_narrow_5 : decode cX4_narrow 5 = .ok (.imul, 1) := by decide +kernel
theorem dX4_narrow_6 : decode cX4_narrow 6 = .ok (.istore 4, 2) := by decide +kernel
theorem dX4_narrow_8 : decode cX4_narrow 8 = .ok (.aload_n 0, 1) := by decide +kernel
theorem dX4_narrow_9 : decode cX4_narrow 9 = .ok (.getfield 15, 3) := by decide +kernel
theorem dX4_narrow_12 : decode cX4_narrow 12 = .ok (.bipush 32, 2) := by decide +kernel
theorem dX4_narrow_14 : decode cX4_narrow 14 = .ok (.if_icmp .ge 140, 3) := by decide +kernel
theorem dX4_narrow_17 : decode cX4_narrow 17 = .ok (.aload_n 0, 1) := by decide +kernel
theorem dX4_narrow_18 : decode cX4_narrow 18 = .ok (.getfield 9, 3) := by decide +kernel
theorem dX4_narrow_21 : decode cX4_narrow 21 = .ok (.sipush (-1000), 3) := by decide +kernel
theorem dX4_narrow_24 : decode cX4_narrow 24 = .ok (.if_icmp .ne 130, 3) := by decide +kernel
theorem dX4_narrow_27 : decode cX4_narrow 27 = .ok (.aload_n 0, 1) := by decide +kernel
theorem dX4_narrow_28 : decode cX4_narrow 28 = .ok (.getfield 26, 3) := by decide +kernel
theorem dX4_narrow_31 : decode cX4_narrow 31 = .ok (.aload_n 0, 1) := by decide +kernel
theorem dX4_narrow_32 : decode cX4_narrow 32 = .ok (.getfield 18, 3) := by decide +kernel
theorem dX4_narrow_35 : decode cX4_narrow 35 = .ok (.isub, 1) := by decide +kernel
theorem dX4_narrow_36 : decode cX4_narrow 36 = .ok (.iconst 2, 1) := by decide +kernel
theorem dX4_narrow_37 : decode cX4_narrow 37 = .ok (.iload 4, 2) := by decide +kernel
theorem dX4_narrow_39 : decode cX4_narrow 39 = .ok (.imul, 1) := by decide +kernel
theorem dX4_narrow_40 : decode cX4_narrow 40 = .ok (.iconst 2, 1) := by decide +kernel
theorem dX4_narrow_41 : decode cX4_narrow 41 = .ok (.iadd, 1) := by decide +kernel
theorem dX4_narrow_42 : decode cX4_narrow 42 = .ok (.if_icmp .le 112, 3) := by decide +kernel
theorem dX4_narrow_45 : decode cX4_narrow 45 = .ok (.aload_n 0, 1) := by decide +kernel
theorem dX4_narrow_46 : decode cX4_narrow 46 = .ok (.getfield 18, 3) := by decide +kernel
theorem dX4_narrow_49 : decode cX4_narrow 49 = .ok (.aload_n 0, 1) := by decide +kernel
theorem dX4_narrow_50 : decode cX4_narrow 50 = .ok (.getfield 26, 3) := by decide +kernel
theorem dX4_narrow_53 : decode cX4_narrow 53 = .ok (.iadd, 1) := by decide +kernel
theorem dX4_narrow_54 : decode cX4_narrow 54 = .ok (.iconst 2, 1) := by decide +kernel
theorem dX4_narrow_55 : decode cX4_narrow 55 = .ok (.idiv, 1) := by decide +kernel
theorem dX4_narrow_56 : decode cX4_narrow 56 = .ok (.istore 5, 2) := by decide +kernel
theorem dX4_narrow_58 : decode cX4_narrow 58 = .ok (.aload_n 1, 1) := by decide +kernel
theorem dX4_narrow_59 : decode cX4_narrow 59 = .ok (.iload 5, 2) := by decide +kernel
theorem dX4_narrow_61 : decode cX4_narrow 61 = .ok (.invokevirtual 39, 3) := by decide +kernel
theorem dX4_narrow_64 : decode cX4_narrow 64 = .ok (.ifCond .ne 4, 3) := by decide +kernel
theorem dX4_narrow_67 : decode cX4_narrow 67 = .ok (.return_, 1) := by decide +kernel
theorem dX4_narrow_68 : decode cX4_narrow 68 = .ok (.aload_n 0, 1) := by decide +kernel
theorem dX4_narrow_69 : decode cX4_narrow 69 = .ok (.dup, 1) := by decide +kernel
theorem dX4_narrow_70 : decode cX4_narrow 70 = .ok (.getfield 15, 3) := by decide +kernel
theorem dX4_narrow_73 : decode cX4_narrow 73 = .ok (.iconst 1, 1) := by decide +kernel
theorem dX4_narrow_74 : decode cX4_narrow 74 = .ok (.iadd, 1) := by decide +kernel
theorem dX4_narrow_75 : decode cX4_narrow 75 = .ok (.putfield 15, 3) := by decide +kernel
theorem dX4_narrow_78 : decode cX4_narrow 78 = .ok (.aload_n 1, 1) := by decide +kernel
theorem dX4_narrow_79 : decode cX4_narrow 79 = .ok (.getfield 43, 3) := by decide +kernel
theorem dX4_narrow_82 : decode cX4_narrow 82 = .ok (.iload 5, 2) := by decide +kernel
theorem dX4_narrow_84 : decode cX4_narrow 84 = .ok (.laload, 1) := by decide +kernel
theorem dX4_narrow_85 : decode cX4_narrow 85 = .ok (.lload_n 2, 1) := by decide +kernel
theorem dX4_narrow_86 : decode cX4_narrow 86 = .ok (.lcmp, 1) := by decide +kernel
theorem dX4_narrow_87 : decode cX4_narrow 87 = .ok (.ifCond .ne 12, 3) := by decide +kernel
theorem dX4_narrow_90 : decode cX4_narrow 90 = .ok (.aload_n 0, 1) := by decide +kernel
theorem dX4_narrow_91 : decode cX4_narrow 91 = .ok (.iload 5, 2) := by decide +kernel
theorem dX4_narrow_93 : decode cX4_narrow 93 = .ok (.putfield 9, 3) := by decide +kernel
theorem dX4_narrow_96 : decode cX4_narrow 96 = .ok (.goto 55, 3) := by decide +kernel
theorem dX4_narrow_99 : decode cX4_narrow 99 = .ok (.aload_n 1, 1) := by decide +kernel
theorem dX4_narrow_100 : decode cX4_narrow 100 = .ok (.aload_n 1, 1) := by decide +kernel
theorem dX4_narrow_101 : decode cX4_narrow 101 = .ok (.getfield 43, 3) := by decide +kernel
theorem dX4_narrow_104 : decode cX4_narrow 104 = .ok (.iload 5, 2) := by decide +kernel
theorem dX4_narrow_106 : decode cX4_narrow 106 = .ok (.laload, 1) := by decide +kernel
theorem dX4_narrow_107 : decode cX4_narrow 107 = .ok (.lload_n 2, 1) := by decide +kernel
theorem dX4_narrow_108 : decode cX4_narrow 108 = .ok (.invokevirtual 47, 3) := by decide +kernel
theorem dX4_narrow_111 : decode cX4_narrow 111 = .ok (.ifCond .eq 22, 3) := by decide +kernel
theorem dX4_narrow_114 : decode cX4_narrow 114 = .ok (.aload_n 0, 1) := by decide +kernel
theorem dX4_narrow_115 : decode cX4_narrow 115 = .ok (.aload_n 0, 1) := by decide +kernel
theorem dX4_narrow_116 : decode cX4_narrow 116 = .ok (.getfield 18, 3) := by decide +kernel
theorem dX4_narrow_119 : decode cX4_narrow 119 = .ok (.iload 5, 2) := by decide +kernel
theorem dX4_narrow_121 : decode cX4_narrow 121 = .ok (.iload 4, 2) := by decide +kernel
theorem dX4_narrow_123 : decode cX4_narrow 123 = .ok (.isub, 1) := by decide +kernel
theorem dX4_narrow_124 : decode cX4_narrow 124 = .ok (.invokestatic 51, 3) := by decide +kernel
theorem dX4_narrow_127 : decode cX4_narrow 127 = .ok (.putfield 18, 3) := by decide +kernel
theorem dX4_narrow_130 : decode cX4_narrow 130 = .ok (.goto 21, 3) := by decide +kernel
theorem dX4_narrow_133 : decode cX4_narrow 133 = .ok (.aload_n 0, 1) := by decide +kernel
theorem dX4_narrow_134 : decode cX4_narrow 134 = .ok (.aload_n 0, 1) := by decide +kernel
theorem dX4_narrow_135 : decode cX4_narrow 135 = .ok (.getfield 26, 3) := by decide +kernel
theorem dX4_narrow_138 : decode cX4_narrow 138 = .ok (.iload 5, 2) := by decide +kernel
theorem dX4_narrow_140 : decode cX4_narrow 140 = .ok (.iload 4, 2) := by decide +kernel
theorem dX4_narrow_142 : decode cX4_narrow 142 = .ok (.iadd, 1) := by decide +kernel
theorem dX4_narrow_143 : decode cX4_narrow 143 = .ok (.iconst 1, 1) := by decide +kernel
theorem dX4_narrow_144 : decode cX4_narrow 144 = .ok (.iadd, 1) := by decide +kernel
theorem dX4_narrow_145 : decode cX4_narrow 145 = .ok (.invokestatic 57, 3) := by decide +kernel
theorem dX4_narrow_148 : decode cX4_narrow 148 = .ok (.putfield 26, 3) := by decide +kernel
theorem dX4_narrow_151 : decode cX4_narrow 151 = .ok (.goto (-143), 3) := by decide +kernel
theorem dX4_narrow_154 : decode cX4_narrow 154 = .ok (.return_, 1) := by decide +kernel
set_option maxRecDepth 20000 in
theorem ggX4_lookOneByOne_X3_isPlace : GoodIn wsX4_lookOneByOne wsX3_isPlace := goodIn_r _ [9, 10, 15, 16, 17, 18, 19, 20, 21, 22, 23, 24] (by decide +kernel) (by decide +kernel)
set_option maxRecDepth 20000 in
theorem gX4_lookOneByOne_X3_isPlace : GoodIn wsX4_lookOneByOne (wsV RX4 39 RX3 yX3_isPlace wsX3_isPlace) := goodIn_app (goodIn_of _ (by decide +kernel)) ggX4_lookOneByOne_X3_isPlace
theorem dX4_lookOneByOne_0 : decode cX4_lookOneByOne 0 = .ok (.aload_n 0, 1) := by decide +kernel
theorem dX4_lookOneByOne_1 : decode cX4_lookOneByOne 1 = .ok (.getfield 18, 3) := by decide +kernel
theorem dX4_lookOneByOne_4 : decode cX4_lookOneByOne 4 = .ok (.istore 4, 2) := by decide +kernel
theorem dX4_lookOneByOne_6 : decode cX4_lookOneByOne 6 = .ok (.iload 4, 2) := by decide +kernel
theorem dX4_lookOneByOne_8 : decode cX4_lookOneByOne 8 = .ok (.aload_n 0, 1) := by decide +kernel
theorem dX4_lookOneByOne_9 : decode cX4_lookOneByOne 9 = .ok (.getfield 26, 3) := by decide +kernel
theorem dX4_lookOneByOne_12 : decode cX4_lookOneByOne 12 = .ok (.if_icmp .ge 47, 3) := by decide +kernel
theorem dX4_lookOneByOne_15 : decode cX4_lookOneByOne 15 = .ok (.aload_n 1, 1) := by decide +kernel
theorem dX4_lookOneByOne_16 : decode cX4_lookOneByOne 16 = .ok (.iload 4, 2) := by decide +kernel
theorem dX4_lookOneByOne_18 : decode cX4_lookOneByOne 18 = .ok (.invokevirtual 39, 3) := by decide +kernel
theorem dX4_lookOneByOne_21 : decode cX4_lookOneByOne 21 = .ok (.ifCond .eq 38, 3) := by decide +kernel
theorem dX4_lookOneByOne_24 : decode cX4_lookOneByOne 24 = .ok (.aload_n 0, 1) := by decide +kernel
theorem dX4_lookOneByOne_25 : decode cX4_lookOneByOne 25 = .ok (.dup, 1) := by decide +kernel
theorem dX4_lookOneByOne_26 : decode cX4_lookOneByOne 26 = .ok (.getfield 15, 3) := by decide +kernel
theorem dX4_lookOneByOne_29 : decode cX4_lookOneByOne 29 = .ok (.iconst 1, 1) := by decide +kernel
theorem dX4_lookOneByOne_30 : decode cX4_lookOneByOne 30 = .ok (.iadd, 1) := by decide +kernel
theorem dX4_lookOneByOne_31 : decode cX4_lookOneByOne 31 = .ok (.putfield 15, 3) := by decide +kernel
theorem dX4_lookOneByOne_34 : decode cX4_lookOneByOne 34 = .ok (.aload_n 1, 1) := by decide +kernel
theorem dX4_lookOneByOne_35 : decode cX4_lookOneByOne 35 = .ok (.getfield 43, 3) := by decide +kernel
theorem dX4_lookOneByOne_38 : decode cX4_lookOneByOne 38 = .ok (.iload 4, 2) := by decide +kernel
theorem dX4_lookOneByOne_40 : decode cX4_lookOneByOne 40 = .ok (.laload, 1) := by decide +kernel
theorem dX4_lookOneByOne_41 : decode cX4_lookOneByOne 41 = .ok (.lload_n 2, 1) := by decide +kernel
theorem dX4_lookOneByOne_42 : decode cX4_lookOneByOne 42 = .ok (.lcmp, 1) := by decide +kernel
theorem dX4_lookOneByOne_43 : decode cX4_lookOneByOne 43 = .ok (.ifCond .ne 10, 3) := by decide +kernel
theorem dX4_lookOneByOne_46 : decode cX4_lookOneByOne 46 = .ok (.aload_n 0, 1) := by decide +kernel
theorem dX4_lookOneByOne_47 : decode cX4_lookOneByOne 47 = .ok (.iload 4, 2) := by decide +kernel
theorem dX4_lookOneByOne_49 : decode cX4_lookOneByOne 49 = .ok (.putfield 9, 3) := by decide +kernel
theorem dX4_lookOneByOne_52 : decode cX4_lookOneByOne 52 = .ok (.return_, 1) := by decide +kernel
theorem dX4_lookOneByOne_53 : decode cX4_lookOneByOne 53 = .ok (.iinc 4 1, 3) := by decide +kernel
theorem dX4_lookOneByOne_56 : decode cX4_lookOneByOne 56 = .ok (.goto (-50), 3) := by decide +kernel
theorem dX4_lookOneByOne_59 : decode cX4_lookOneByOne 59 = .ok (.return_, 1) := by decide +kernel
set_option maxRecDepth 20000 in
theorem ggX6_init_X3_init : GoodIn wsX6_init wsX3_init := goodIn_r _ [22, 23, 2, 3, 24, 25, 26, 27, 28, 29, 44, 45, 46, 47, 48, 49, 50, 51, 52, 53] (by decide +kernel) (by decide +kernel)
set_option maxRecDepth 20000 in
theorem gX6_init_X3_init_n9 : GoodIn wsX6_init (wsX3_init) := ggX6_init_X3_init
set_option maxRecDepth 20000 in
theorem ggX6_init_X4_init : GoodIn wsX6_init wsX4_init := goodIn_r _ [31, 32, 2, 3] (by decide +kernel) (by decide +kernel)
set_option maxRecDepth 20000 in
theorem gX6_init_X4_init_n21 : GoodIn wsX6_init (wsX4_init) := ggX6_init_X4_init
set_option maxRecDepth 20000 in
theorem ggX6_init_X1_init : GoodIn wsX6_init wsX1_init := goodIn_r _ [34, 35, 2, 3, 36, 37, 63, 64, 65, 66, 67, 68, 69] (by decide +kernel) (by decide +kernel)
set_option maxRecDepth 20000 in
theorem gX6_init_X1_init_n28 : GoodIn wsX6_init (wsX1_init) := ggX6_init_X1_init
set_option maxRecDepth 20000 in
theorem ggX6_init_X2_init : GoodIn wsX6_init wsX2_init := goodIn_r _ [40, 41, 2, 3, 42, 43, 5, 6, 21, 22, 23, 24, 25, 26, 27, 28, 29, 70, 71, 72, 44, 45, 46, 47, 48, 49, 50, 51, 52, 53] (by decide +kernel) (by decide +kernel)
set_option maxRecDepth 20000 in
theorem gX6_init_X2_init : GoodIn wsX6_init (wsX2_init) := ggX6_init_X2_init
theorem dX6_init_0 : decode cX6_init 0 = .ok (.aload_n 0, 1) := by decide +kernel
theorem dX6_init_1 : decode cX6_init 1 = .ok (.invokespecial 1, 3) := by decide +kernel
theorem dX6_init_4 : decode cX6_init 4 = .ok (.aload_n 0, 1) := by decide +kernel
theorem dX6_init_5 : decode cX6_init 5 = .ok (.new 7, 3) := by decide +kernel
theorem dX6_init_8 : decode cX6_init 8 = .ok (.dup, 1) := by decide +kernel
theorem dX6_init_9 : decode cX6_init 9 = .ok (.invokespecial 9, 3) := by decide +kernel
theorem dX6_init_12 : decode cX6_init 12 = .ok (.putfield 10, 3) := by decide +kernel
theorem dX6_init_15 : decode cX6_init 15 = .ok (.aload_n 0, 1) := by decide +kernel
theorem dX6_init_16 : decode cX6_init 16 = .ok (.new 7, 3) := by decide +kernel
theorem dX6_init_19 : decode cX6_init 19 = .ok (.dup, 1) := by decide +kernel
theorem dX6_init_20 : decode cX6_init 20 = .ok (.invokespecial 9, 3) := by decide +kernel
theorem dX6_init_23 : decode cX6_init 23 = .ok (.putfield 16, 3) := by decide +kernel
theorem dX6_init_26 : decode cX6_init 26 = .ok (.aload_n 0, 1) := by decide +kernel
theorem dX6_init_27 : decode cX6_init 27 = .ok (.new 19, 3) := by decide +kernel
theorem dX6_init_30 : decode cX6_init 30 = .ok (.dup, 1) := by decide +kernel
theorem dX6_init_31 : decode cX6_init 31 = .ok (.invokespecial 21, 3) := by decide +kernel
theorem dX6_init_34 : decode cX6_init 34 = .ok (.putfield 22, 3) := by decide +kernel
theorem dX6_init_37 : decode cX6_init 37 = .ok (.aload_n 0, 1) := by decide +kernel
theorem dX6_init_38 : decode cX6_init 38 = .ok (.new 26, 3) := by decide +kernel
theorem dX6_init_41 : decode cX6_init 41 = .ok (.dup, 1) := by decide +kernel
theorem dX6_init_42 : decode cX6_init 42 = .ok (.invokespecial 28, 3) := by decide +kernel
theorem dX6_init_45 : decode cX6_init 45 = .ok (.putfield 29, 3) := by decide +kernel
theorem dX6_init_48 : decode cX6_init 48 = .ok (.aload_n 0, 1) := by decide +kernel
theorem dX6_init_49 : decode cX6_init 49 = .ok (.new 33, 3) := by decide +kernel
theorem dX6_init_52 : decode cX6_init 52 = .ok (.dup, 1) := by decide +kernel
theorem dX6_init_53 : decode cX6_init 53 = .ok (.invokespecial 35, 3) := by decide +kernel
theorem dX6_init_56 : decode cX6_init 56 = .ok (.putfield 36, 3) := by decide +kernel
theorem dX6_init_59 : decode cX6_init 59 = .ok (.return_, 1) := by decide +kernel
set_option maxRecDepth 20000 in
theorem ggX6_append_X6_requireRoom : GoodIn wsX6_append wsX6_requireRoom := goodIn_ca (goodIn_r _ [7, 8, 9, 2, 10, 11, 12, 13, 14, 15, 107, 108, 109, 110, 111, 112, 113, 114, 115, 116, 117, 118, 119, 120, 121] (by decide +kernel) (by decide +kernel)) (goodIn_sub (fun _ h => List.mem_cons_of_mem _ (List.mem_append_right _ h)) (by decide +kernel))
set_option maxRecDepth 20000 in
theorem gX6_append_X6_requireRoom : GoodIn wsX6_append (wsV RX6 40 RX6 yX6_requireRoom wsX6_requireRoom) := goodIn_app (goodIn_of _ (by decide +kernel)) ggX6_append_X6_requireRoom
set_option maxRecDepth 20000 in
theorem ggX6_append_X2_save : GoodIn wsX6_append wsX2_save := goodIn_r _ [20, 21, 22, 23, 24, 25, 26, 13, 27, 28, 29, 30, 31, 32, 33, 34, 15, 35, 36, 37, 38, 39, 40, 122, 123, 124, 112, 113, 114, 115, 116, 117, 118, 119, 120, 121] (by decide +kernel) (by decide +kernel)
set_option maxRecDepth 20000 in
theorem gX6_append_X2_save : GoodIn wsX6_append (wsV RX6 43 RX2 yX2_save wsX2_save) := goodIn_app (goodIn_of _ (by decide +kernel)) ggX6_append_X2_save
set_option maxRecDepth 20000 in
theorem ggX6_append_X3_insertElement : GoodIn wsX6_append wsX3_insertElement := goodIn_r _ [44, 15, 28, 33, 40, 45, 11, 12, 13, 14, 46, 47, 48, 49, 50, 51, 52, 53, 34, 54, 55, 56, 57, 58, 59, 60, 61, 36, 112, 113, 114, 115, 116, 117, 118, 119, 120, 121] (by decide +kernel) (by decide +kernel)
set_option maxRecDepth 20000 in
theorem gX6_append_X3_insertElement : GoodIn wsX6_append (wsV RX6 51 RX3 yX3_insertElement wsX3_insertElement) := goodIn_app (goodIn_of _ (by decide +kernel)) ggX6_append_X3_insertElement
set_option maxRecDepth 20000 in
theorem ggX6_append_X3_distance : GoodIn wsX6_append wsX3_distance := goodIn_r _ [65, 34, 66, 67, 68, 13, 69, 15, 112, 113, 114, 115, 116, 117, 118, 119, 120, 121] (by decide +kernel) (by decide +kernel)
set_option maxRecDepth 20000 in
theorem gX6_append_X3_distance : GoodIn wsX6_append (wsV RX6 55 RX3 yX3_distance wsX3_distance) := goodIn_app (goodIn_of _ (by decide +kernel)) ggX6_append_X3_distance
set_option maxRecDepth 20000 in
theorem ggX6_append_X6_endChange : GoodIn wsX6_append wsX6_endChange := goodIn_r _ [73, 2, 74, 75, 76, 13, 77, 78, 79, 80, 81, 38, 82, 83, 84, 85, 35, 15, 86, 87, 88, 89, 90, 63, 64, 65, 34, 66, 67, 68, 69, 91, 92, 93, 94, 95, 96, 97, 98, 28, 99, 100, 101, 102, 58, 59, 60, 61, 36, 103, 104, 105, 106, 33, 107, 108, 109, 110, 111, 112, 113, 114, 115, 116, 117, 118, 119, 120, 121] (by decide +kernel) (by decide +kernel)
set_option maxRecDepth 20000 in
theorem gX6_append_X6_endChange : GoodIn wsX6_append (wsV RX6 59 RX6 yX6_endChange wsX6_endChange) := goodIn_app (goodIn_of _ (by decide +kernel)) ggX6_append_X6_endChange
theorem dX6_append_0 : decode cX6_append 0 = .ok (.aload_n 0, 1) := by decide +kernel
theorem dX6_append_1 : decode cX6_append 1 = .ok (.invokevirtual 40, 3) := by decide +kernel
theorem dX6_append_4 : decode cX6_append 4 = .ok (.aload_n 0, 1) := by decide +kernel
theorem dX6_append_5 : decode cX6_append 5 = .ok (.getfield 36, 3) := by decide +kernel
theorem dX6_append_8 : decode cX6_append 8 = .ok (.aload_n 0, 1) := by decide +kernel
theorem dX6_append_9 : decode cX6_append 9 = .ok (.getfield 10, 3) := by decide +kernel
theorem dX6_append_12 : decode cX6_append 12 = .ok (.invokevirtual 43, 3) := by decide +kernel
theorem dX6_append_15 : decode cX6_append 15 = .ok (.aload_n 0, 1) := by decide +kernel
theorem dX6_append_16 : decode cX6_append 16 = .ok (.getfield 10, 3) := by decide +kernel
theorem dX6_append_19 : decode cX6_append 19 = .ok (.aload_n 0, 1) := by decide +kernel
theorem dX6_append_20 : decode cX6_append 20 = .ok (.getfield 10, 3) := by decide +kernel
theorem dX6_append_23 : decode cX6_append 23 = .ok (.getfield 47, 3) := by decide +kernel
theorem dX6_append_26 : decode cX6_append 26 = .ok (.lload_n 1, 1) := by decide +kernel
theorem dX6_append_27 : decode cX6_append 27 = .ok (.invokevirtual 51, 3) := by decide +kernel
theorem dX6_append_30 : decode cX6_append 30 = .ok (.pop, 1) := by decide +kernel
theorem dX6_append_31 : decode cX6_append 31 = .ok (.aload_n 0, 1) := by decide +kernel
theorem dX6_append_32 : decode cX6_append 32 = .ok (.getfield 10, 3) := by decide +kernel
theorem dX6_append_35 : decode cX6_append 35 = .ok (.aload_n 0, 1) := by decide +kernel
theorem dX6_append_36 : decode cX6_append 36 = .ok (.getfield 10, 3) := by decide +kernel
theorem dX6_append_39 : decode cX6_append 39 = .ok (.getfield 47, 3) := by decide +kernel
theorem dX6_append_42 : decode cX6_append 42 = .ok (.iconst 1, 1) := by decide +kernel
theorem dX6_append_43 : decode cX6_append 43 = .ok (.isub, 1) := by decide +kernel
theorem dX6_append_44 : decode cX6_append 44 = .ok (.invokevirtual 55, 3) := by decide +kernel
theorem dX6_append_47 : decode cX6_append 47 = .ok (.istore_n 3, 1) := by decide +kernel
theorem dX6_append_48 : decode cX6_append 48 = .ok (.aload_n 0, 1) := by decide +kernel
theorem dX6_append_49 : decode cX6_append 49 = .ok (.invokevirtual 59, 3) := by decide +kernel
theorem dX6_append_52 : decode cX6_append 52 = .ok (.pop, 1) := by decide +kernel
theorem dX6_append_53 : decode cX6_append 53 = .ok (.iload_n 3, 1) := by decide +kernel
theorem dX6_append_54 : decode cX6_append 54 = .ok (.ireturn, 1) := by decide +kernel
set_option maxRecDepth 20000 in
theorem ggX6_insert_X3_canOpen : GoodIn wsX6_insert wsX3_canOpen := goodIn_r _ [9, 10, 114, 115, 116, 117, 118, 119, 120, 121, 122, 123] (by decide +kernel) (by decide +kernel)
set_option maxRecDepth 20000 in
theorem gX6_insert_X3_canOpen : GoodIn wsX6_insert (wsV RX6 63 RX3 yX3_canOpen wsX3_canOpen) := goodIn_app (goodIn_of _ (by decide +kernel)) ggX6_insert_X3_canOpen
set_option maxRecDepth 20000 in
theorem ggX6_insert_X6_requireRoom : GoodIn wsX6_insert wsX6_requireRoom := goodIn_ca (goodIn_r _ [15, 16, 17, 3, 18, 19, 20, 8, 21, 10, 109, 110, 111, 112, 113, 114, 115, 116, 117, 118, 119, 120, 121, 122, 123] (by decide +kernel) (by decide +kernel)) (goodIn_sub (fun _ h => List.mem_cons_of_mem _ (List.mem_append_right _ h)) (by decide +kernel))
set_option maxRecDepth 20000 in
theorem gX6_insert_X6_requireRoom : GoodIn wsX6_insert (wsV RX6 40 RX6 yX6_requireRoom wsX6_requireRoom) := goodIn_app (goodIn_of _ (by decide +kernel)) ggX6_insert_X6_requireRoom
set_option maxRecDepth 20000 in
theorem ggX6_insert_X2_save : GoodIn wsX6_insert wsX2_save := goodIn_r _ [26, 27, 28, 29, 30, 31, 32, 8, 33, 34, 35, 36, 37, 38, 39, 40, 10, 41, 42, 43, 44, 45, 46, 124, 125, 126, 114, 115, 116, 117, 118, 119, 120, 121, 122, 123] (by decide +kernel) (by decide +kernel)
set_option maxRecDepth 20000 in
theorem gX6_insert_X2_save : GoodIn wsX6_insert (wsV RX6 43 RX2 yX2_save wsX2_save) := goodIn_app (goodIn_of _ (by decide +kernel)) ggX6_insert_X2_save
set_option maxRecDepth 20000 in
theorem ggX6_insert_X3_insertElement : GoodIn wsX6_insert wsX3_insertElement := goodIn_r _ [50, 10, 34, 39, 46, 51, 19, 20, 8, 21, 52, 6, 7, 9, 53, 54, 55, 56, 40, 57, 58, 59, 60, 61, 62, 63, 64, 42, 114, 115, 116, 117, 118, 119, 120, 121, 122, 123] (by decide +kernel) (by decide +kernel)
set_option maxRecDepth 20000 in
theorem gX6_insert_X3_insertElement : GoodIn wsX6_insert (wsV RX6 51 RX3 yX3_insertElement wsX3_insertElement) := goodIn_app (goodIn_of _ (by decide +kernel)) ggX6_insert_X3_insertElement
set_option maxRecDepth 20000 in
theorem ggX6_insert_X6_endChange : GoodIn wsX6_insert wsX6_endChange := goodIn_r _ [68, 3, 69, 70, 71, 8, 72, 73, 74, 75, 76, 44, 77, 78, 79, 80, 41, 10, 81, 82, 83, 84, 85, 86, 87, 88, 40, 89, 90, 91, 92, 93, 94, 95, 96, 97, 98, 99, 100, 34, 101, 102, 103, 104, 61, 62, 63, 64, 42, 105, 106, 107, 108, 39, 109, 110, 111, 112, 113, 114, 115, 116, 117, 118, 119, 120, 121, 122, 123] (by decide +kernel) (by decide +kernel)
set_option maxRecDepth 20000 in
theorem gX6_insert_X6_endChange : GoodIn wsX6_insert (wsV RX6 59 RX6 yX6_endChange wsX6_endChange) := goodIn_app (goodIn_of _ (by decide +kernel)) ggX6_insert_X6_endChange
theorem dX6_insert_0 : decode cX6_insert 0 = .ok (.aload_n 0, 1) := by decide +kernel
theorem dX6_insert_1 : decode cX6_insert 1 = .ok (.getfield 10, 3) := by decide +kernel
theorem dX6_insert_4 : decode cX6_insert 4 = .ok (.iload_n 1, 1) := by decide +kernel
theorem dX6_insert_5 : decode cX6_insert 5 = .ok (.invokevirtual 63, 3) := by decide +kernel
theorem dX6_insert_8 : decode cX6_insert 8 = .ok (.ifCond .ne 13, 3) := by decide +kernel
theorem dX6_insert_11 : decode cX6_insert 11 = .ok (.new 67, 3) := by decide +kernel
theorem dX6_insert_14 : decode cX6_insert 14 = .ok (.dup, 1) := by decide +kernel
theorem dX6_insert_15 : decode cX6_insert 15 = .ok (.ldc 69, 2) := by decide +kernel
theorem dX6_insert_17 : decode cX6_insert 17 = .ok (.invokespecial 71, 3) := by decide +kernel
theorem dX6_insert_20 : decode cX6_insert 20 = .ok (.athrow, 1) := by decide +kernel
theorem dX6_insert_21 : decode cX6_insert 21 = .ok (.aload_n 0, 1) := by decide +kernel
theorem dX6_insert_22 : decode cX6_insert 22 = .ok (.invokevirtual 40, 3) := by decide +kernel
theorem dX6_insert_25 : decode cX6_insert 25 = .ok (.aload_n 0, 1) := by decide +kernel
theorem dX6_insert_26 : decode cX6_insert 26 = .ok (.getfield 36, 3) := by decide +kernel
theorem dX6_insert_29 : decode cX6_insert 29 = .ok (.aload_n 0, 1) := by decide +kernel
theorem dX6_insert_30 : decode cX6_insert 30 = .ok (.getfield 10, 3) := by decide +kernel
theorem dX6_insert_33 : decode cX6_insert 33 = .ok (.invokevirtual 43, 3) := by decide +kernel
theorem dX6_insert_36 : decode cX6_insert 36 = .ok (.aload_n 0, 1) := by decide +kernel
theorem dX6_insert_37 : decode cX6_insert 37 = .ok (.getfield 10, 3) := by decide +kernel
theorem dX6_insert_40 : decode cX6_insert 40 = .ok (.getfield 74, 3) := by decide +kernel
theorem dX6_insert_43 : decode cX6_insert 43 = .ok (.istore 4, 2) := by decide +kernel
theorem dX6_insert_45 : decode cX6_insert 45 = .ok (.aload_n 0, 1) := by decide +kernel
theorem dX6_insert_46 : decode cX6_insert 46 = .ok (.getfield 10, 3) := by decide +kernel
theorem dX6_insert_49 : decode cX6_insert 49 = .ok (.iload_n 1, 1) := by decide +kernel
theorem dX6_insert_50 : decode cX6_insert 50 = .ok (.lload_n 2, 1) := by decide +kernel
theorem dX6_insert_51 : decode cX6_insert 51 = .ok (.invokevirtual 51, 3) := by decide +kernel
theorem dX6_insert_54 : decode cX6_insert 54 = .ok (.pop, 1) := by decide +kernel
theorem dX6_insert_55 : decode cX6_insert 55 = .ok (.aload_n 0, 1) := by decide +kernel
theorem dX6_insert_56 : decode cX6_insert 56 = .ok (.invokevirtual 59, 3) := by decide +kernel
theorem dX6_insert_59 : decode cX6_insert 59 = .ok (.pop, 1) := by decide +kernel
theorem dX6_insert_60 : decode cX6_insert 60 = .ok (.iload 4, 2) := by decide +kernel
theorem dX6_insert_62 : decode cX6_insert 62 = .ok (.ireturn, 1) := by decide +kernel
set_option maxRecDepth 20000 in
theorem ggX6_removeAt_X6_requirePlace : GoodIn wsX6_removeAt wsX6_requirePlace := goodIn_ca (goodIn_r _ [7, 8, 9, 2, 10, 11, 12, 13, 14, 15, 98, 99, 100, 101, 102, 103, 104, 105, 106, 107, 108, 109, 110, 111, 112] (by decide +kernel) (by decide +kernel)) (goodIn_sub (fun _ h => List.mem_cons_of_mem _ (List.mem_append_right _ h)) (by decide +kernel))
set_option maxRecDepth 20000 in
theorem gX6_removeAt_X6_requirePlace : GoodIn wsX6_removeAt (wsV RX6 77 RX6 yX6_requirePlace wsX6_requirePlace) := goodIn_app (goodIn_of _ (by decide +kernel)) ggX6_removeAt_X6_requirePlace
set_option maxRecDepth 20000 in
theorem ggX6_removeAt_X2_save : GoodIn wsX6_removeAt wsX2_save := goodIn_r _ [20, 21, 22, 23, 24, 25, 26, 13, 27, 28, 29, 30, 31, 32, 33, 34, 15, 35, 36, 37, 38, 39, 40, 113, 114, 115, 103, 104, 105, 106, 107, 108, 109, 110, 111, 112] (by decide +kernel) (by decide +kernel)
set_option maxRecDepth 20000 in
theorem gX6_removeAt_X2_save : GoodIn wsX6_removeAt (wsV RX6 43 RX2 yX2_save wsX2_save) := goodIn_app (goodIn_of _ (by decide +kernel)) ggX6_removeAt_X2_save
set_option maxRecDepth 20000 in
theorem ggX6_removeAt_X3_takeOut : GoodIn wsX6_removeAt wsX3_takeOut := goodIn_r _ [44, 15, 28, 33, 45, 11, 12, 13, 14, 46, 47, 48, 49, 34, 50, 51, 52, 53, 54, 55, 56, 57, 36, 103, 104, 105, 106, 107, 108, 109, 110, 111, 112] (by decide +kernel) (by decide +kernel)
set_option maxRecDepth 20000 in
theorem gX6_removeAt_X3_takeOut : GoodIn wsX6_removeAt (wsV RX6 85 RX3 yX3_takeOut wsX3_takeOut) := goodIn_app (goodIn_of _ (by decide +kernel)) ggX6_removeAt_X3_takeOut
set_option maxRecDepth 20000 in
theorem ggX6_removeAt_X6_endChange : GoodIn wsX6_removeAt wsX6_endChange := goodIn_r _ [61, 2, 62, 63, 64, 13, 65, 66, 67, 68, 69, 38, 70, 71, 72, 73, 35, 15, 74, 75, 76, 77, 78, 79, 80, 81, 34, 45, 11, 12, 14, 82, 83, 84, 85, 86, 87, 88, 89, 28, 90, 91, 92, 93, 54, 55, 56, 57, 36, 94, 95, 96, 97, 33, 98, 99, 100, 101, 102, 103, 104, 105, 106, 107, 108, 109, 110, 111, 112] (by decide +kernel) (by decide +kernel)
set_option maxRecDepth 20000 in
theorem gX6_removeAt_X6_endChange : GoodIn wsX6_removeAt (wsV RX6 59 RX6 yX6_endChange wsX6_endChange) := goodIn_app (goodIn_of _ (by decide +kernel)) ggX6_removeAt_X6_endChange
theorem dX6_removeAt_0 : decode cX6_removeAt 0 = .ok (.aload_n 0, 1) := by decide +kernel
theorem dX6_removeAt_1 : decode cX6_removeAt 1 = .ok (.iload_n 1, 1) := by decide +kernel
theorem dX6_removeAt_2 : decode cX6_removeAt 2 = .ok (.invokevirtual 77, 3) := by decide +kernel
theorem dX6_removeAt_5 : decode cX6_removeAt 5 = .ok (.aload_n 0, 1) := by decide +kernel
theorem dX6_removeAt_6 : decode cX6_removeAt 6 = .ok (.getfield 36, 3) := by decide +kernel
theorem dX6_removeAt_9 : decode cX6_removeAt 9 = .ok (.aload_n 0, 1) := by decide +kernel
theorem dX6_removeAt_10 : decode cX6_removeAt 10 = .ok (.getfield 10, 3) := by decide +kernel
theorem dX6_removeAt_13 : decode cX6_removeAt 13 = .ok (.invokevirtual 43, 3) := by decide +kernel
theorem dX6_removeAt_16 : decode cX6_removeAt 16 = .ok (.aload_n 0, 1) := by decide +kernel
theorem dX6_removeAt_17 : decode cX6_removeAt 17 = .ok (.getfield 10, 3) := by decide +kernel
theorem dX6_removeAt_20 : decode cX6_removeAt 20 = .ok (.getfield 81, 3) := by decide +kernel
theorem dX6_removeAt_23 : decode cX6_removeAt 23 = .ok (.iload_n 1, 1) := by decide +kernel
theorem dX6_removeAt_24 : decode cX6_removeAt 24 = .ok (.iaload, 1) := by decide +kernel
theorem dX6_removeAt_25 : decode cX6_removeAt 25 = .ok (.istore_n 2, 1) := by decide +kernel
theorem dX6_removeAt_26 : decode cX6_removeAt 26 = .ok (.aload_n 0, 1) := by decide +kernel
theorem dX6_removeAt_27 : decode cX6_removeAt 27 = .ok (.getfield 10, 3) := by decide +kernel
theorem dX6_removeAt_30 : decode cX6_removeAt 30 = .ok (.iload_n 1, 1) := by decide +kernel
theorem dX6_removeAt_31 : decode cX6_removeAt 31 = .ok (.invokevirtual 85, 3) := by decide +kernel
theorem dX6_removeAt_34 : decode cX6_removeAt 34 = .ok (.pop, 1) := by decide +kernel
theorem dX6_removeAt_35 : decode cX6_removeAt 35 = .ok (.aload_n 0, 1) := by decide +kernel
theorem dX6_removeAt_36 : decode cX6_removeAt 36 = .ok (.invokevirtual 59, 3) := by decide +kernel
theorem dX6_removeAt_39 : decode cX6_removeAt 39 = .ok (.pop, 1) := by decide +kernel
theorem dX6_removeAt_40 : decode cX6_removeAt 40 = .ok (.iload_n 2, 1) := by decide +kernel
theorem dX6_removeAt_41 : decode cX6_removeAt 41 = .ok (.ireturn, 1) := by decide +kernel
set_option maxRecDepth 20000 in
theorem ggX6_setValue_X6_requirePlace : GoodIn wsX6_setValue wsX6_requirePlace := goodIn_ca (goodIn_r _ [7, 8, 9, 2, 10, 11, 12, 13, 14, 15, 98, 99, 100, 101, 102, 103, 104, 105, 106, 107, 108, 109, 110, 111, 112] (by decide +kernel) (by decide +kernel)) (goodIn_sub (fun _ h => List.mem_cons_of_mem _ (List.mem_append_right _ h)) (by decide +kernel))
set_option maxRecDepth 20000 in
theorem gX6_setValue_X6_requirePlace : GoodIn wsX6_setValue (wsV RX6 77 RX6 yX6_requirePlace wsX6_requirePlace) := goodIn_app (goodIn_of _ (by decide +kernel)) ggX6_setValue_X6_requirePlace
set_option maxRecDepth 20000 in
theorem ggX6_setValue_X2_save : GoodIn wsX6_setValue wsX2_save := goodIn_r _ [20, 21, 22, 23, 24, 25, 26, 13, 27, 28, 29, 30, 31, 32, 33, 34, 15, 35, 36, 37, 38, 39, 40, 113, 114, 115, 103, 104, 105, 106, 107, 108, 109, 110, 111, 112] (by decide +kernel) (by decide +kernel)
set_option maxRecDepth 20000 in
theorem gX6_setValue_X2_save : GoodIn wsX6_setValue (wsV RX6 43 RX2 yX2_save wsX2_save) := goodIn_app (goodIn_of _ (by decide +kernel)) ggX6_setValue_X2_save
set_option maxRecDepth 20000 in
theorem ggX6_setValue_X3_changeValue : GoodIn wsX6_setValue wsX3_changeValue := goodIn_r _ [44, 28, 45, 11, 12, 13, 14, 15, 46, 47, 48, 49, 34, 50, 51, 52, 53, 54, 55, 56, 57, 36, 103, 104, 105, 106, 107, 108, 109, 110, 111, 112] (by decide +kernel) (by decide +kernel)
set_option maxRecDepth 20000 in
theorem gX6_setValue_X3_changeValue : GoodIn wsX6_setValue (wsV RX6 92 RX3 yX3_changeValue wsX3_changeValue) := goodIn_app (goodIn_of _ (by decide +kernel)) ggX6_setValue_X3_changeValue
set_option maxRecDepth 20000 in
theorem ggX6_setValue_X6_endChange : GoodIn wsX6_setValue wsX6_endChange := goodIn_r _ [61, 2, 62, 63, 64, 13, 65, 66, 67, 68, 69, 38, 70, 71, 72, 73, 35, 15, 74, 75, 76, 77, 78, 79, 80, 81, 34, 45, 11, 12, 14, 82, 83, 84, 85, 86, 87, 88, 89, 28, 90, 91, 92, 93, 54, 55, 56, 57, 36, 94, 95, 96, 97, 33, 98, 99, 100, 101, 102, 103, 104, 105, 106, 107, 108, 109, 110, 111, 112] (by decide +kernel) (by decide +kernel)
set_option maxRecDepth 20000 in
theorem gX6_setValue_X6_endChange : GoodIn wsX6_setValue (wsV RX6 59 RX6 yX6_endChange wsX6_endChange) := goodIn_app (goodIn_of _ (by decide +kernel)) ggX6_setValue_X6_endChange
theorem dX6_setValue_0 : decode cX6_setValue 0 = .ok (.aload_n 0, 1) := by decide +kernel
theorem dX6_setValue_1 : decode cX6_setValue 1 = .ok (.iload_n 1, 1) := by decide +kernel
theorem dX6_setValue_2 : decode cX6_setValue 2 = .ok (.invokevirtual 77, 3) := by decide +kernel
theorem dX6_setValue_5 : decode cX6_setValue 5 = .ok (.aload_n 0, 1) := by decide +kernel
theorem dX6_setValue_6 : decode cX6_setValue 6 = .ok (.getfield 36, 3) := by decide +kernel
theorem dX6_setValue_9 : decode cX6_setValue 9 = .ok (.aload_n 0, 1) := by decide +kernel
theorem dX6_setValue_10 : decode cX6_setValue 10 = .ok (.getfield 10, 3) := by decide +kernel
theorem dX6_setValue_13 : decode cX6_setValue 13 = .ok (.invokevirtual 43, 3) := by decide +kernel
theorem dX6_setValue_16 : decode cX6_setValue 16 = .ok (.aload_n 0, 1) := by decide +kernel
theorem dX6_setValue_17 : decode cX6_setValue 17 = .ok (.getfield 10, 3) := by decide +kernel
theorem dX6_setValue_20 : decode cX6_setValue 20 = .ok (.getfield 88, 3) := by decide +kernel
theorem dX6_setValue_23 : decode cX6_setValue 23 = .ok (.iload_n 1, 1) := by decide +kernel
theorem dX6_setValue_24 : decode cX6_setValue 24 = .ok (.laload, 1) := by decide +kernel
theorem dX6_setValue_25 : decode cX6_setValue 25 = .ok (.lstore 4, 2) := by decide +kernel
theorem dX6_setValue_27 : decode cX6_setValue 27 = .ok (.aload_n 0, 1) := by decide +kernel
theorem dX6_setValue_28 : decode cX6_setValue 28 = .ok (.getfield 10, 3) := by decide +kernel
theorem dX6_setValue_31 : decode cX6_setValue 31 = .ok (.iload_n 1, 1) := by decide +kernel
theorem dX6_setValue_32 : decode cX6_setValue 32 = .ok (.lload_n 2, 1) := by decide +kernel
theorem dX6_setValue_33 : decode cX6_setValue 33 = .ok (.invokevirtual 92, 3) := by decide +kernel
theorem dX6_setValue_36 : decode cX6_setValue 36 = .ok (.pop, 1) := by decide +kernel
theorem dX6_setValue_37 : decode cX6_setValue 37 = .ok (.aload_n 0, 1) := by decide +kernel
theorem dX6_setValue_38 : decode cX6_setValue 38 = .ok (.invokevirtual 59, 3) := by decide +kernel
theorem dX6_setValue_41 : decode cX6_setValue 41 = .ok (.pop, 1) := by decide +kernel
theorem dX6_setValue_42 : decode cX6_setValue 42 = .ok (.lload 4, 2) := by decide +kernel
theorem dX6_setValue_44 : decode cX6_setValue 44 = .ok (.lreturn, 1) := by decide +kernel
set_option maxRecDepth 20000 in
theorem ggX6_swap_X3_hasNext : GoodIn wsX6_swap wsX3_hasNext := goodIn_r _ [9, 10, 92, 93, 94, 95, 96, 97, 98, 99, 100, 101] (by decide +kernel) (by decide +kernel)
set_option maxRecDepth 20000 in
theorem gX6_swap_X3_hasNext : GoodIn wsX6_swap (wsV RX6 95 RX3 yX3_hasNext wsX3_hasNext) := goodIn_app (goodIn_of _ (by decide +kernel)) ggX6_swap_X3_hasNext
set_option maxRecDepth 20000 in
theorem ggX6_swap_X2_save : GoodIn wsX6_swap wsX2_save := goodIn_r _ [15, 16, 17, 18, 19, 20, 21, 8, 22, 23, 24, 25, 26, 27, 28, 29, 10, 30, 31, 32, 33, 34, 35, 102, 103, 104, 92, 93, 94, 95, 96, 97, 98, 99, 100, 101] (by decide +kernel) (by decide +kernel)
set_option maxRecDepth 20000 in
theorem gX6_swap_X2_save : GoodIn wsX6_swap (wsV RX6 43 RX2 yX2_save wsX2_save) := goodIn_app (goodIn_of _ (by decide +kernel)) ggX6_swap_X2_save
set_option maxRecDepth 20000 in
theorem ggX6_swap_X3_inversionsBySwap : GoodIn wsX6_swap wsX3_inversionsBySwap := goodIn_r _ [39, 23, 40, 6, 7, 8, 9, 10, 41, 42, 43, 44, 45, 46, 47, 48, 31, 92, 93, 94, 95, 96, 97, 98, 99, 100, 101] (by decide +kernel) (by decide +kernel)
set_option maxRecDepth 20000 in
theorem gX6_swap_X3_inversionsBySwap : GoodIn wsX6_swap (wsV RX6 103 RX3 yX3_inversionsBySwap wsX3_inversionsBySwap) := goodIn_app (goodIn_of _ (by decide +kernel)) ggX6_swap_X3_inversionsBySwap
set_option maxRecDepth 20000 in
theorem ggX6_swap_X3_swapElements : GoodIn wsX6_swap wsX3_swapElements := goodIn_r _ [52, 28, 23, 29, 40, 6, 7, 8, 9, 10, 92, 93, 94, 95, 96, 97, 98, 99, 100, 101] (by decide +kernel) (by decide +kernel)
set_option maxRecDepth 20000 in
theorem gX6_swap_X3_swapElements : GoodIn wsX6_swap (wsV RX6 106 RX3 yX3_swapElements wsX3_swapElements) := goodIn_app (goodIn_of _ (by decide +kernel)) ggX6_swap_X3_swapElements
set_option maxRecDepth 20000 in
theorem ggX6_swap_X6_endChange : GoodIn wsX6_swap wsX6_endChange := goodIn_r _ [57, 3, 58, 59, 60, 8, 61, 62, 63, 64, 65, 33, 66, 67, 68, 69, 30, 10, 70, 71, 72, 73, 74, 75, 76, 77, 29, 78, 79, 80, 81, 82, 83, 84, 85, 41, 42, 43, 44, 23, 40, 6, 7, 9, 45, 46, 47, 48, 31, 86, 50, 51, 52, 28, 87, 88, 89, 90, 91, 92, 93, 94, 95, 96, 97, 98, 99, 100, 101] (by decide +kernel) (by decide +kernel)
set_option maxRecDepth 20000 in
theorem gX6_swap_X6_endChange : GoodIn wsX6_swap (wsV RX6 59 RX6 yX6_endChange wsX6_endChange) := goodIn_app (goodIn_of _ (by decide +kernel)) ggX6_swap_X6_endChange
theorem dX6_swap_0 : decode cX6_swap 0 = .ok (.aload_n 0, 1) := by decide +kernel
theorem dX6_swap_1 : decode cX6_swap 1 = .ok (.getfield 10, 3) := by decide +kernel
theorem dX6_swap_4 : decode cX6_swap 4 = .ok (.iload_n 1, 1) := by decide +kernel
theorem dX6_swap_5 : decode cX6_swap 5 = .ok (.invokevirtual 95, 3) := by decide +kernel
theorem dX6_swap_8 : decode cX6_swap 8 = .ok (.ifCond .ne 13, 3) := by decide +kernel
theorem dX6_swap_11 : decode cX6_swap 11 = .ok (.new 98, 3) := by decide +kernel
theorem dX6_swap_14 : decode cX6_swap 14 = .ok (.dup, 1) := by decide +kernel
theorem dX6_swap_15 : decode cX6_swap 15 = .ok (.ldc 100, 2) := by decide +kernel
theorem dX6_swap_17 : decode cX6_swap 17 = .ok (.invokespecial 102, 3) := by decide +kernel
theorem dX6_swap_20 : decode cX6_swap 20 = .ok (.athrow, 1) := by decide +kernel
theorem dX6_swap_21 : decode cX6_swap 21 = .ok (.aload_n 0, 1) := by decide +kernel
theorem dX6_swap_22 : decode cX6_swap 22 = .ok (.getfield 36, 3) := by decide +kernel
theorem dX6_swap_25 : decode cX6_swap 25 = .ok (.aload_n 0, 1) := by decide +kernel
theorem dX6_swap_26 : decode cX6_swap 26 = .ok (.getfield 10, 3) := by decide +kernel
theorem dX6_swap_29 : decode cX6_swap 29 = .ok (.invokevirtual 43, 3) := by decide +kernel
theorem dX6_swap_32 : decode cX6_swap 32 = .ok (.aload_n 0, 1) := by decide +kernel
theorem dX6_swap_33 : decode cX6_swap 33 = .ok (.getfield 10, 3) := by decide +kernel
theorem dX6_swap_36 : decode cX6_swap 36 = .ok (.iload_n 1, 1) := by decide +kernel
theorem dX6_swap_37 : decode cX6_swap 37 = .ok (.invokevirtual 103, 3) := by decide +kernel
theorem dX6_swap_40 : decode cX6_swap 40 = .ok (.istore_n 2, 1) := by decide +kernel
theorem dX6_swap_41 : decode cX6_swap 41 = .ok (.aload_n 0, 1) := by decide +kernel
theorem dX6_swap_42 : decode cX6_swap 42 = .ok (.getfield 10, 3) := by decide +kernel
theorem dX6_swap_45 : decode cX6_swap 45 = .ok (.iload_n 1, 1) := by decide +kernel
theorem dX6_swap_46 : decode cX6_swap 46 = .ok (.invokevirtual 106, 3) := by decide +kernel
theorem dX6_swap_49 : decode cX6_swap 49 = .ok (.pop, 1) := by decide +kernel
theorem dX6_swap_50 : decode cX6_swap 50 = .ok (.aload_n 0, 1) := by decide +kernel
theorem dX6_swap_51 : decode cX6_swap 51 = .ok (.invokevirtual 59, 3) := by decide +kernel
theorem dX6_swap_54 : decode cX6_swap 54 = .ok (.pop, 1) := by decide +kernel
theorem dX6_swap_55 : decode cX6_swap 55 = .ok (.iload_n 2, 1) := by decide +kernel
theorem dX6_swap_56 : decode cX6_swap 56 = .ok (.ireturn, 1) := by decide +kernel
set_option maxRecDepth 20000 in
theorem ggX6_setBound_X6_requireBound : GoodIn wsX6_setBound wsX6_requireBound := goodIn_ca (goodIn_r _ [7, 8, 9, 2, 10, 11, 12, 13, 14, 113, 114, 115, 116, 117] (by decide +kernel) (by decide +kernel)) (goodIn_sub (fun _ h => List.mem_cons_of_mem _ (List.mem_append_right _ h)) (by decide +kernel))
set_option maxRecDepth 20000 in
theorem gX6_setBound_X6_requireBound : GoodIn wsX6_setBound (wsV RX6 109 RX6 yX6_requireBound wsX6_requireBound) := goodIn_app (goodIn_of _ (by decide +kernel)) ggX6_setBound_X6_requireBound
set_option maxRecDepth 20000 in
theorem ggX6_setBound_X2_save : GoodIn wsX6_setBound wsX2_save := goodIn_r _ [19, 20, 21, 22, 23, 24, 25, 13, 26, 27, 28, 29, 30, 31, 32, 33, 34, 35, 36, 37, 38, 39, 40, 118, 119, 120, 121, 122, 123, 124, 125, 126, 127, 128, 129, 130] (by decide +kernel) (by decide +kernel)
set_option maxRecDepth 20000 in
theorem gX6_setBound_X2_save : GoodIn wsX6_setBound (wsV RX6 43 RX2 yX2_save wsX2_save) := goodIn_app (goodIn_of _ (by decide +kernel)) ggX6_setBound_X2_save
set_option maxRecDepth 20000 in
theorem ggX6_setBound_X3_changeBound : GoodIn wsX6_setBound wsX3_changeBound := goodIn_r _ [44, 35, 45, 11, 12, 13, 14, 121, 122, 123, 124, 125, 126, 127, 128, 129, 130] (by decide +kernel) (by decide +kernel)
set_option maxRecDepth 20000 in
theorem gX6_setBound_X3_changeBound : GoodIn wsX6_setBound (wsV RX6 112 RX3 yX3_changeBound wsX3_changeBound) := goodIn_app (goodIn_of _ (by decide +kernel)) ggX6_setBound_X3_changeBound
set_option maxRecDepth 20000 in
theorem ggX6_setBound_X3_brokenCount : GoodIn wsX6_setBound wsX3_brokenCount := goodIn_r _ [49, 50, 51, 52, 13, 53, 34, 54, 55, 56, 57, 58, 59, 60, 61, 35, 62, 63, 64, 65, 33, 66, 67, 68, 69, 70, 71, 72, 73, 74, 75, 76, 121, 122, 123, 124, 125, 126, 127, 128, 129, 130] (by decide +kernel) (by decide +kernel)
set_option maxRecDepth 20000 in
theorem gX6_setBound_X3_brokenCount : GoodIn wsX6_setBound (wsV RX6 115 RX3 yX3_brokenCount wsX3_brokenCount) := goodIn_app (goodIn_of _ (by decide +kernel)) ggX6_setBound_X3_brokenCount
set_option maxRecDepth 20000 in
theorem ggX6_setBound_X6_endChange : GoodIn wsX6_setBound wsX6_endChange := goodIn_r _ [80, 2, 81, 82, 83, 13, 84, 85, 86, 87, 88, 38, 89, 90, 91, 92, 35, 34, 58, 59, 60, 61, 62, 63, 64, 65, 33, 66, 67, 68, 69, 93, 94, 95, 96, 97, 98, 99, 100, 27, 101, 102, 103, 104, 105, 106, 107, 108, 36, 109, 110, 111, 112, 32, 113, 114, 115, 116, 117, 121, 122, 123, 124, 125, 126, 127, 128, 129, 130] (by decide +kernel) (by decide +kernel)
set_option maxRecDepth 20000 in
theorem gX6_setBound_X6_endChange : GoodIn wsX6_setBound (wsV RX6 59 RX6 yX6_endChange wsX6_endChange) := goodIn_app (goodIn_of _ (by decide +kernel)) ggX6_setBound_X6_endChange
theorem dX6_setBound_0 : decode cX6_setBound 0 = .ok (.aload_n 0, 1) := by decide +kernel
theorem dX6_setBound_1 : decode cX6_setBound 1 = .ok (.iload_n 1, 1) := by decide +kernel
theorem dX6_setBound_2 : decode cX6_setBound 2 = .ok (.invokevirtual 109, 3) := by decide +kernel
theorem dX6_setBound_5 : decode cX6_setBound 5 = .ok (.aload_n 0, 1) := by decide +kernel
theorem dX6_setBound_6 : decode cX6_setBound 6 = .ok (.getfield 36, 3) := by decide +kernel
theorem dX6_setBound_9 : decode cX6_setBound 9 = .ok (.aload_n 0, 1) := by decide +kernel
theorem dX6_setBound_10 : decode cX6_setBound 10 = .ok (.getfield 10, 3) := by decide +kernel
theorem dX6_setBound_13 : decode cX6_setBound 13 = .ok (.invokevirtual 43, 3) := by decide +kernel
theorem dX6_setBound_16 : decode cX6_setBound 16 = .ok (.aload_n 0, 1) := by decide +kernel
theorem dX6_setBound_17 : decode cX6_setBound 17 = .ok (.getfield 10, 3) := by decide +kernel
theorem dX6_setBound_20 : decode cX6_setBound 20 = .ok (.iload_n 1, 1) := by decide +kernel
theorem dX6_setBound_21 : decode cX6_setBound 21 = .ok (.invokevirtual 112, 3) := by decide +kernel
theorem dX6_setBound_24 : decode cX6_setBound 24 = .ok (.pop, 1) := by decide +kernel
theorem dX6_setBound_25 : decode cX6_setBound 25 = .ok (.aload_n 0, 1) := by decide +kernel
theorem dX6_setBound_26 : decode cX6_setBound 26 = .ok (.getfield 10, 3) := by decide +kernel
theorem dX6_setBound_29 : decode cX6_setBound 29 = .ok (.invokevirtual 115, 3) := by decide +kernel
theorem dX6_setBound_32 : decode cX6_setBound 32 = .ok (.istore_n 2, 1) := by decide +kernel
theorem dX6_setBound_33 : decode cX6_setBound 33 = .ok (.aload_n 0, 1) := by decide +kernel
theorem dX6_setBound_34 : decode cX6_setBound 34 = .ok (.invokevirtual 59, 3) := by decide +kernel
theorem dX6_setBound_37 : decode cX6_setBound 37 = .ok (.pop, 1) := by decide +kernel
theorem dX6_setBound_38 : decode cX6_setBound 38 = .ok (.iload_n 2, 1) := by decide +kernel
theorem dX6_setBound_39 : decode cX6_setBound 39 = .ok (.ireturn, 1) := by decide +kernel
set_option maxRecDepth 20000 in
theorem ggX6_setOrder_X2_save : GoodIn wsX6_setOrder wsX2_save := goodIn_r _ [7, 8, 9, 10, 11, 12, 13, 14, 15, 16, 17, 18, 19, 20, 21, 22, 23, 24, 25, 26, 27, 28, 29, 104, 105, 106, 107, 108, 109, 110, 111, 112, 113, 114, 115, 116] (by decide +kernel) (by decide +kernel)
set_option maxRecDepth 20000 in
theorem gX6_setOrder_X2_save : GoodIn wsX6_setOrder (wsV RX6 43 RX2 yX2_save wsX2_save) := goodIn_app (goodIn_of _ (by decide +kernel)) ggX6_setOrder_X2_save
set_option maxRecDepth 20000 in
theorem ggX6_setOrder_X3_changeOrder : GoodIn wsX6_setOrder wsX3_changeOrder := goodIn_r _ [33, 25, 34, 35, 36, 14, 37, 23, 22, 38, 39, 40, 41, 16, 42, 43, 44, 45, 107, 108, 109, 110, 111, 112, 113, 114, 115, 116] (by decide +kernel) (by decide +kernel)
set_option maxRecDepth 20000 in
theorem gX6_setOrder_X3_changeOrder : GoodIn wsX6_setOrder (wsV RX6 118 RX3 yX3_changeOrder wsX3_changeOrder) := goodIn_app (goodIn_of _ (by decide +kernel)) ggX6_setOrder_X3_changeOrder
set_option maxRecDepth 20000 in
theorem ggX6_setOrder_X3_inversions : GoodIn wsX6_setOrder wsX3_inversions := goodIn_r _ [49, 23, 50, 51, 52, 14, 53, 16, 42, 43, 44, 45, 25, 107, 108, 109, 110, 111, 112, 113, 114, 115, 116] (by decide +kernel) (by decide +kernel)
set_option maxRecDepth 20000 in
theorem gX6_setOrder_X3_inversions : GoodIn wsX6_setOrder (wsV RX6 122 RX3 yX3_inversions wsX3_inversions) := goodIn_app (goodIn_of _ (by decide +kernel)) ggX6_setOrder_X3_inversions
set_option maxRecDepth 20000 in
theorem ggX6_setOrder_X6_endChange : GoodIn wsX6_setOrder wsX6_endChange := goodIn_r _ [58, 2, 59, 60, 61, 14, 62, 63, 64, 65, 66, 27, 67, 68, 69, 70, 24, 23, 71, 72, 73, 74, 75, 76, 77, 78, 22, 79, 80, 81, 82, 83, 84, 85, 86, 87, 88, 89, 90, 16, 91, 92, 93, 94, 42, 43, 44, 45, 25, 95, 96, 97, 98, 21, 99, 100, 101, 102, 103, 107, 108, 109, 110, 111, 112, 113, 114, 115, 116] (by decide +kernel) (by decide +kernel)
set_option maxRecDepth 20000 in
theorem gX6_setOrder_X6_endChange : GoodIn wsX6_setOrder (wsV RX6 59 RX6 yX6_endChange wsX6_endChange) := goodIn_app (goodIn_of _ (by decide +kernel)) ggX6_setOrder_X6_endChange
theorem dX6_setOrder_0 : decode cX6_setOrder 0 = .ok (.aload_n 0, 1) := by decide +kernel
theorem dX6_setOrder_1 : decode cX6_setOrder 1 = .ok (.getfield 36, 3) := by decide +kernel
theorem dX6_setOrder_4 : decode cX6_setOrder 4 = .ok (.aload_n 0, 1) := by decide +kernel
theorem dX6_setOrder_5 : decode cX6_setOrder 5 = .ok (.getfield 10, 3) := by decide +kernel
theorem dX6_setOrder_8 : decode cX6_setOrder 8 = .ok (.invokevirtual 43, 3) := by decide +kernel
theorem dX6_setOrder_11 : decode cX6_setOrder 11 = .ok (.aload_n 0, 1) := by decide +kernel
theorem dX6_setOrder_12 : decode cX6_setOrder 12 = .ok (.getfield 10, 3) := by decide +kernel
theorem dX6_setOrder_15 : decode cX6_setOrder 15 = .ok (.iload_n 1, 1) := by decide +kernel
theorem dX6_setOrder_16 : decode cX6_setOrder 16 = .ok (.invokevirtual 118, 3) := by decide +kernel
theorem dX6_setOrder_19 : decode cX6_setOrder 19 = .ok (.aload_n 0, 1) := by decide +kernel
theorem dX6_setOrder_20 : decode cX6_setOrder 20 = .ok (.getfield 10, 3) := by decide +kernel
theorem dX6_setOrder_23 : decode cX6_setOrder 23 = .ok (.invokevirtual 122, 3) := by decide +kernel
theorem dX6_setOrder_26 : decode cX6_setOrder 26 = .ok (.istore_n 2, 1) := by decide +kernel
theorem dX6_setOrder_27 : decode cX6_setOrder 27 = .ok (.aload_n 0, 1) := by decide +kernel
theorem dX6_setOrder_28 : decode cX6_setOrder 28 = .ok (.invokevirtual 59, 3) := by decide +kernel
theorem dX6_setOrder_31 : decode cX6_setOrder 31 = .ok (.pop, 1) := by decide +kernel
theorem dX6_setOrder_32 : decode cX6_setOrder 32 = .ok (.iload_n 2, 1) := by decide +kernel
theorem dX6_setOrder_33 : decode cX6_setOrder 33 = .ok (.ireturn, 1) := by decide +kernel
set_option maxRecDepth 20000 in
theorem ggX6_setSelf_X2_save : GoodIn wsX6_setSelf wsX2_save := goodIn_r _ [7, 8, 9, 10, 11, 12, 13, 14, 15, 16, 17, 18, 19, 20, 21, 22, 23, 24, 25, 26, 27, 28, 29, 94, 95, 96, 84, 85, 86, 87, 88, 89, 90, 91, 92, 93] (by decide +kernel) (by decide +kernel)
set_option maxRecDepth 20000 in
theorem gX6_setSelf_X2_save : GoodIn wsX6_setSelf (wsV RX6 43 RX2 yX2_save wsX2_save) := goodIn_app (goodIn_of _ (by decide +kernel)) ggX6_setSelf_X2_save
set_option maxRecDepth 20000 in
theorem ggX6_setSelf_X6_endChange : GoodIn wsX6_setSelf wsX6_endChange := goodIn_r _ [34, 2, 35, 36, 37, 14, 38, 39, 40, 41, 42, 27, 43, 44, 45, 46, 24, 23, 47, 48, 49, 50, 51, 52, 53, 54, 22, 55, 56, 57, 58, 59, 60, 61, 62, 63, 64, 65, 66, 16, 67, 68, 69, 70, 71, 72, 73, 74, 25, 75, 76, 77, 78, 21, 79, 80, 81, 82, 83, 84, 85, 86, 87, 88, 89, 90, 91, 92, 93] (by decide +kernel) (by decide +kernel)
set_option maxRecDepth 20000 in
theorem gX6_setSelf_X6_endChange : GoodIn wsX6_setSelf (wsV RX6 59 RX6 yX6_endChange wsX6_endChange) := goodIn_app (goodIn_of _ (by decide +kernel)) ggX6_setSelf_X6_endChange
theorem dX6_setSelf_0 : decode cX6_setSelf 0 = .ok (.aload_n 0, 1) := by decide +kernel
theorem dX6_setSelf_1 : decode cX6_setSelf 1 = .ok (.getfield 36, 3) := by decide +kernel
theorem dX6_setSelf_4 : decode cX6_setSelf 4 = .ok (.aload_n 0, 1) := by decide +kernel
theorem dX6_setSelf_5 : decode cX6_setSelf 5 = .ok (.getfield 10, 3) := by decide +kernel
theorem dX6_setSelf_8 : decode cX6_setSelf 8 = .ok (.invokevirtual 43, 3) := by decide +kernel
theorem dX6_setSelf_11 : decode cX6_setSelf 11 = .ok (.aload_n 0, 1) := by decide +kernel
theorem dX6_setSelf_12 : decode cX6_setSelf 12 = .ok (.getfield 10, 3) := by decide +kernel
theorem dX6_setSelf_15 : decode cX6_setSelf 15 = .ok (.iload_n 1, 1) := by decide +kernel
theorem dX6_setSelf_16 : decode cX6_setSelf 16 = .ok (.putfield 125, 3) := by decide +kernel
theorem dX6_setSelf_19 : decode cX6_setSelf 19 = .ok (.aload_n 0, 1) := by decide +kernel
theorem dX6_setSelf_20 : decode cX6_setSelf 20 = .ok (.invokevirtual 59, 3) := by decide +kernel
theorem dX6_setSelf_23 : decode cX6_setSelf 23 = .ok (.ireturn, 1) := by decide +kernel
set_option maxRecDepth 20000 in
theorem ggX6_step_X2_save : GoodIn wsX6_step wsX2_save := goodIn_r _ [7, 8, 9, 10, 11, 12, 13, 14, 15, 16, 17, 18, 19, 20, 21, 22, 23, 24, 25, 26, 27, 28, 29, 75, 76, 77, 78, 79, 80, 81, 82, 83, 84, 85, 86, 87] (by decide +kernel) (by decide +kernel)
set_option maxRecDepth 20000 in
theorem gX6_step_X2_save : GoodIn wsX6_step (wsV RX6 43 RX2 yX2_save wsX2_save) := goodIn_app (goodIn_of _ (by decide +kernel)) ggX6_step_X2_save
set_option maxRecDepth 20000 in
theorem ggX6_step_X3_mendOnce : GoodIn wsX6_step wsX3_mendOnce := goodIn_r _ [33, 27, 34, 35, 36, 14, 37, 24, 23, 38, 39, 40, 41, 42, 43, 44, 45, 22, 46, 47, 48, 49, 50, 51, 52, 53, 54, 55, 56, 57, 16, 58, 59, 60, 61, 62, 63, 64, 65, 25, 66, 67, 68, 69, 21, 78, 79, 80, 81, 82, 83, 84, 85, 86, 87] (by decide +kernel) (by decide +kernel)
set_option maxRecDepth 20000 in
theorem gX6_step_X3_mendOnce : GoodIn wsX6_step (wsV RX6 129 RX3 yX3_mendOnce wsX3_mendOnce) := goodIn_app (goodIn_of _ (by decide +kernel)) ggX6_step_X3_mendOnce
theorem dX6_step_0 : decode cX6_step 0 = .ok (.aload_n 0, 1) := by decide +kernel
theorem dX6_step_1 : decode cX6_step 1 = .ok (.getfield 36, 3) := by decide +kernel
theorem dX6_step_4 : decode cX6_step 4 = .ok (.aload_n 0, 1) := by decide +kernel
theorem dX6_step_5 : decode cX6_step 5 = .ok (.getfield 10, 3) := by decide +kernel
theorem dX6_step_8 : decode cX6_step 8 = .ok (.invokevirtual 43, 3) := by decide +kernel
theorem dX6_step_11 : decode cX6_step 11 = .ok (.aload_n 0, 1) := by decide +kernel
theorem dX6_step_12 : decode cX6_step 12 = .ok (.getfield 10, 3) := by decide +kernel
theorem dX6_step_15 : decode cX6_step 15 = .ok (.invokevirtual 129, 3) := by decide +kernel
theorem dX6_step_18 : decode cX6_step 18 = .ok (.ireturn, 1) := by decide +kernel
set_option maxRecDepth 20000 in
theorem ggX6_mend_X2_save : GoodIn wsX6_mend wsX2_save := goodIn_r _ [7, 8, 9, 10, 11, 12, 13, 14, 15, 16, 17, 18, 19, 20, 21, 22, 23, 24, 25, 26, 27, 28, 29, 79, 80, 81, 82, 83, 84, 85, 86, 87, 88, 89, 90, 91] (by decide +kernel) (by decide +kernel)
set_option maxRecDepth 20000 in
theorem gX6_mend_X2_save : GoodIn wsX6_mend (wsV RX6 43 RX2 yX2_save wsX2_save) := goodIn_app (goodIn_of _ (by decide +kernel)) ggX6_mend_X2_save
set_option maxRecDepth 20000 in
theorem ggX6_mend_X3_mendFully : GoodIn wsX6_mend wsX3_mendFully := goodIn_r _ [33, 34, 35, 36, 14, 37, 27, 38, 39, 40, 41, 24, 23, 42, 43, 44, 45, 46, 47, 48, 49, 22, 50, 51, 52, 53, 54, 55, 56, 57, 58, 59, 60, 61, 16, 62, 63, 64, 65, 66, 67, 68, 69, 25, 70, 71, 72, 73, 21, 82, 83, 84, 85, 86, 87, 88, 89, 90, 91] (by decide +kernel) (by decide +kernel)
set_option maxRecDepth 20000 in
theorem gX6_mend_X3_mendFully : GoodIn wsX6_mend (wsV RX6 132 RX3 yX3_mendFully wsX3_mendFully) := goodIn_app (goodIn_of _ (by decide +kernel)) ggX6_mend_X3_mendFully
theorem dX6_mend_0 : decode cX6_mend 0 = .ok (.aload_n 0, 1) := by decide +kernel
theorem dX6_mend_1 : decode cX6_mend 1 = .ok (.getfield 36, 3) := by decide +kernel
theorem dX6_mend_4 : decode cX6_mend 4 = .ok (.aload_n 0, 1) := by decide +kernel
theorem dX6_mend_5 : decode cX6_mend 5 = .ok (.getfield 10, 3) := by decide +kernel
theorem dX6_mend_8 : decode cX6_mend 8 = .ok (.invokevirtual 43, 3) := by decide +kernel
theorem dX6_mend_11 : decode cX6_mend 11 = .ok (.aload_n 0, 1) := by decide +kernel
theorem dX6_mend_12 : decode cX6_mend 12 = .ok (.getfield 10, 3) := by decide +kernel
theorem dX6_mend_15 : decode cX6_mend 15 = .ok (.invokevirtual 132, 3) := by decide +kernel
theorem dX6_mend_18 : decode cX6_mend 18 = .ok (.ireturn, 1) := by decide +kernel
set_option maxRecDepth 20000 in
theorem ggX6_search_X2_save : GoodIn wsX6_search wsX2_save := goodIn_r _ [8, 9, 10, 11, 12, 13, 14, 15, 16, 17, 18, 19, 20, 21, 22, 23, 24, 25, 26, 27, 28, 29, 30, 82, 83, 84, 68, 69, 70, 71, 72, 73, 74, 75, 76, 77] (by decide +kernel) (by decide +kernel)
set_option maxRecDepth 20000 in
theorem gX6_search_X2_save : GoodIn wsX6_search (wsV RX6 43 RX2 yX2_save wsX2_save) := goodIn_app (goodIn_of _ (by decide +kernel)) ggX6_search_X2_save
set_option maxRecDepth 20000 in
theorem ggX6_search_X4_lookFor : GoodIn wsX6_search wsX4_lookFor := goodIn_r _ [35, 36, 37, 38, 39, 40, 41, 42, 34, 43, 44, 45, 46, 47, 48, 49, 50, 51, 52, 53, 15, 54, 24, 55, 56, 57, 58, 26, 59, 60, 61, 62, 78, 79, 80, 81, 68, 69, 70, 71, 72, 73, 74, 75, 76, 77] (by decide +kernel) (by decide +kernel)
set_option maxRecDepth 20000 in
theorem gX6_search_X4_lookFor : GoodIn wsX6_search (wsV RX6 135 RX4 yX4_lookFor wsX4_lookFor) := goodIn_app (goodIn_of _ (by decide +kernel)) ggX6_search_X4_lookFor
theorem dX6_search_0 : decode cX6_search 0 = .ok (.aload_n 0, 1) := by decide +kernel
theorem dX6_search_1 : decode cX6_search 1 = .ok (.getfield 36, 3) := by decide +kernel
theorem dX6_search_4 : decode cX6_search 4 = .ok (.aload_n 0, 1) := by decide +kernel
theorem dX6_search_5 : decode cX6_search 5 = .ok (.getfield 10, 3) := by decide +kernel
theorem dX6_search_8 : decode cX6_search 8 = .ok (.invokevirtual 43, 3) := by decide +kernel
theorem dX6_search_11 : decode cX6_search 11 = .ok (.aload_n 0, 1) := by decide +kernel
theorem dX6_search_12 : decode cX6_search 12 = .ok (.getfield 22, 3) := by decide +kernel
theorem dX6_search_15 : decode cX6_search 15 = .ok (.aload_n 0, 1) := by decide +kernel
theorem dX6_search_16 : decode cX6_search 16 = .ok (.getfield 10, 3) := by decide +kernel
theorem dX6_search_19 : decode cX6_search 19 = .ok (.lload_n 1, 1) := by decide +kernel
theorem dX6_search_20 : decode cX6_search 20 = .ok (.invokevirtual 135, 3) := by decide +kernel
theorem dX6_search_23 : decode cX6_search 23 = .ok (.aload_n 0, 1) := by decide +kernel
theorem dX6_search_24 : decode cX6_search 24 = .ok (.getfield 10, 3) := by decide +kernel
theorem dX6_search_27 : decode cX6_search 27 = .ok (.dup, 1) := by decide +kernel
theorem dX6_search_28 : decode cX6_search 28 = .ok (.getfield 139, 3) := by decide +kernel
theorem dX6_search_31 : decode cX6_search 31 = .ok (.aload_n 0, 1) := by decide +kernel
theorem dX6_search_32 : decode cX6_search 32 = .ok (.getfield 22, 3) := by decide +kernel
theorem dX6_search_35 : decode cX6_search 35 = .ok (.getfield 142, 3) := by decide +kernel
theorem dX6_search_38 : decode cX6_search 38 = .ok (.iadd, 1) := by decide +kernel
theorem dX6_search_39 : decode cX6_search 39 = .ok (.putfield 139, 3) := by decide +kernel
theorem dX6_search_42 : decode cX6_search 42 = .ok (.aload_n 0, 1) := by decide +kernel
theorem dX6_search_43 : decode cX6_search 43 = .ok (.getfield 22, 3) := by decide +kernel
theorem dX6_search_46 : decode cX6_search 46 = .ok (.getfield 143, 3) := by decide +kernel
theorem dX6_search_49 : decode cX6_search 49 = .ok (.ireturn, 1) := by decide +kernel
set_option maxRecDepth 20000 in
theorem ggX6_at_X6_requirePlace : GoodIn wsX6_at wsX6_requirePlace := goodIn_ca (goodIn_r _ [6, 7, 8, 1, 9, 10, 11, 12, 13, 14, 15, 16, 17, 18, 19, 20, 21, 22, 23, 24, 25, 26, 27, 28, 29] (by decide +kernel) (by decide +kernel)) (goodIn_sub (fun _ h => List.mem_cons_of_mem _ (List.mem_append_right _ h)) (by decide +kernel))
set_option maxRecDepth 20000 in
theorem gX6_at_X6_requirePlace : GoodIn wsX6_at (wsV RX6 77 RX6 yX6_requirePlace wsX6_requirePlace) := goodIn_app (goodIn_of _ (by decide +kernel)) ggX6_at_X6_requirePlace
theorem dX6_at_0 : decode cX6_at 0 = .ok (.aload_n 0, 1) := by decide +kernel
theorem dX6_at_1 : decode cX6_at 1 = .ok (.iload_n 1, 1) := by decide +kernel
theorem dX6_at_2 : decode cX6_at 2 = .ok (.invokevirtual 77, 3) := by decide +kernel
theorem dX6_at_5 : decode cX6_at 5 = .ok (.aload_n 0, 1) := by decide +kernel
theorem dX6_at_6 : decode cX6_at 6 = .ok (.getfield 10, 3) := by decide +kernel
theorem dX6_at_9 : decode cX6_at 9 = .ok (.getfield 88, 3) := by decide +kernel
theorem dX6_at_12 : decode cX6_at 12 = .ok (.iload_n 1, 1) := by decide +kernel
theorem dX6_at_13 : decode cX6_at 13 = .ok (.laload, 1) := by decide +kernel
theorem dX6_at_14 : decode cX6_at 14 = .ok (.lreturn, 1) := by decide +kernel
set_option maxRecDepth 20000 in
theorem ggX6_element_X6_requirePlace : GoodIn wsX6_element wsX6_requirePlace := goodIn_ca (goodIn_r _ [7, 8, 9, 10, 11, 12, 13, 14, 15, 16, 55, 56, 57, 58, 59, 60, 61, 62, 63, 64, 65, 66, 67, 68, 69] (by decide +kernel) (by decide +kernel)) (goodIn_sub (fun _ h => List.mem_cons_of_mem _ (List.mem_append_right _ h)) (by decide +kernel))
set_option maxRecDepth 20000 in
theorem gX6_element_X6_requirePlace : GoodIn wsX6_element (wsV RX6 77 RX6 yX6_requirePlace wsX6_requirePlace) := goodIn_app (goodIn_of _ (by decide +kernel)) ggX6_element_X6_requirePlace
set_option maxRecDepth 20000 in
theorem ggX6_element_X6_elementValue : GoodIn wsX6_element wsX6_elementValue := goodIn_r _ [20, 10, 21, 22, 23, 14, 24, 25, 26, 12, 13, 15, 16, 27, 28, 29, 30, 31, 32, 33, 34, 35, 36, 37, 38, 39, 40, 41, 42, 43, 44, 45, 46, 47, 48, 49, 50, 51, 52, 53, 54, 55, 56, 57, 58, 59, 60, 61, 62, 63, 64, 65, 66, 67, 68, 69] (by decide +kernel) (by decide +kernel)
set_option maxRecDepth 20000 in
theorem gX6_element_X6_elementValue : GoodIn wsX6_element (wsV RX6 148 RX6 yX6_elementValue wsX6_elementValue) := goodIn_app (goodIn_of _ (by decide +kernel)) ggX6_element_X6_elementValue
theorem dX6_element_0 : decode cX6_element 0 = .ok (.aload_n 0, 1) := by decide +kernel
theorem dX6_element_1 : decode cX6_element 1 = .ok (.iload_n 1, 1) := by decide +kernel
theorem dX6_element_2 : decode cX6_element 2 = .ok (.invokevirtual 77, 3) := by decide +kernel
theorem dX6_element_5 : decode cX6_element 5 = .ok (.iload_n 2, 1) := by decide +kernel
theorem dX6_element_6 : decode cX6_element 6 = .ok (.ifCond .lt 8, 3) := by decide +kernel
theorem dX6_element_9 : decode cX6_element 9 = .ok (.iload_n 2, 1) := by decide +kernel
theorem dX6_element_10 : decode cX6_element 10 = .ok (.iconst 5, 1) := by decide +kernel
theorem dX6_element_11 : decode cX6_element 11 = .ok (.if_icmp .le 13, 3) := by decide +kernel
theorem dX6_element_14 : decode cX6_element 14 = .ok (.new 67, 3) := by decide +kernel
theorem dX6_element_17 : decode cX6_element 17 = .ok (.dup, 1) := by decide +kernel
theorem dX6_element_18 : decode cX6_element 18 = .ok (.ldc 146, 2) := by decide +kernel
theorem dX6_element_20 : decode cX6_element 20 = .ok (.invokespecial 71, 3) := by decide +kernel
theorem dX6_element_23 : decode cX6_element 23 = .ok (.athrow, 1) := by decide +kernel
theorem dX6_element_24 : decode cX6_element 24 = .ok (.aload_n 0, 1) := by decide +kernel
theorem dX6_element_25 : decode cX6_element 25 = .ok (.iload_n 1, 1) := by decide +kernel
theorem dX6_element_26 : decode cX6_element 26 = .ok (.iload_n 2, 1) := by decide +kernel
theorem dX6_element_27 : decode cX6_element 27 = .ok (.invokevirtual 148, 3) := by decide +kernel
theorem dX6_element_30 : decode cX6_element 30 = .ok (.ireturn, 1) := by decide +kernel
set_option maxRecDepth 20000 in
theorem ggX6_ranked_X3_placeOfRank : GoodIn wsX6_ranked wsX3_placeOfRank := goodIn_r _ [8, 9, 10, 20, 21, 22, 23, 24, 25, 26, 27, 28, 29] (by decide +kernel) (by decide +kernel)
set_option maxRecDepth 20000 in
theorem gX6_ranked_X3_placeOfRank : GoodIn wsX6_ranked (wsV RX6 152 RX3 yX3_placeOfRank wsX3_placeOfRank) := goodIn_app (goodIn_of _ (by decide +kernel)) ggX6_ranked_X3_placeOfRank
set_option maxRecDepth 20000 in
theorem ggX6_ranked_X3_isPlace : GoodIn wsX6_ranked wsX3_isPlace := goodIn_r _ [14, 9, 20, 21, 22, 23, 24, 25, 26, 27, 28, 29] (by decide +kernel) (by decide +kernel)
set_option maxRecDepth 20000 in
theorem gX6_ranked_X3_isPlace : GoodIn wsX6_ranked (wsV RX6 155 RX3 yX3_isPlace wsX3_isPlace) := goodIn_app (goodIn_of _ (by decide +kernel)) ggX6_ranked_X3_isPlace
theorem dX6_ranked_0 : decode cX6_ranked 0 = .ok (.aload_n 0, 1) := by decide +kernel
theorem dX6_ranked_1 : decode cX6_ranked 1 = .ok (.getfield 10, 3) := by decide +kernel
theorem dX6_ranked_4 : decode cX6_ranked 4 = .ok (.iload_n 1, 1) := by decide +kernel
theorem dX6_ranked_5 : decode cX6_ranked 5 = .ok (.invokevirtual 152, 3) := by decide +kernel
theorem dX6_ranked_8 : decode cX6_ranked 8 = .ok (.istore_n 2, 1) := by decide +kernel
theorem dX6_ranked_9 : decode cX6_ranked 9 = .ok (.aload_n 0, 1) := by decide +kernel
theorem dX6_ranked_10 : decode cX6_ranked 10 = .ok (.getfield 10, 3) := by decide +kernel
theorem dX6_ranked_13 : decode cX6_ranked 13 = .ok (.iload_n 2, 1) := by decide +kernel
theorem dX6_ranked_14 : decode cX6_ranked 14 = .ok (.invokevirtual 155, 3) := by decide +kernel
theorem dX6_ranked_17 : decode cX6_ranked 17 = .ok (.ifCond .ne 13, 3) := by decide +kernel
theorem dX6_ranked_20 : decode cX6_ranked 20 = .ok (.new 98, 3) := by decide +kernel
theorem dX6_ranked_23 : decode cX6_ranked 23 = .ok (.dup, 1) := by decide +kernel
theorem dX6_ranked_24 : decode cX6_ranked 24 = .ok (.ldc 158, 2) := by decide +kernel
theorem dX6_ranked_26 : decode cX6_ranked 26 = .ok (.invokespecial 102, 3) := by decide +kernel
theorem dX6_ranked_29 : decode cX6_ranked 29 = .ok (.athrow, 1) := by decide +kernel
theorem dX6_ranked_30 : decode cX6_ranked 30 = .ok (.aload_n 0, 1) := by decide +kernel
theorem dX6_ranked_31 : decode cX6_ranked 31 = .ok (.getfield 10, 3) := by decide +kernel
theorem dX6_ranked_34 : decode cX6_ranked 34 = .ok (.getfield 88, 3) := by decide +kernel
theorem dX6_ranked_37 : decode cX6_ranked 37 = .ok (.iload_n 2, 1) := by decide +kernel
theorem dX6_ranked_38 : decode cX6_ranked 38 = .ok (.laload, 1) := by decide +kernel
theorem dX6_ranked_39 : decode cX6_ranked 39 = .ok (.lreturn, 1) := by decide +kernel
set_option maxRecDepth 20000 in
theorem ggX6_broken_X3_brokenSet : GoodIn wsX6_broken wsX3_brokenSet := goodIn_r _ [6, 7, 8, 9, 10, 5, 11, 12, 13, 14, 15, 16, 17, 18, 19, 20, 21, 22, 23, 24, 25, 31, 32, 33, 34, 35, 36, 37, 38, 39, 40] (by decide +kernel) (by decide +kernel)
set_option maxRecDepth 20000 in
theorem gX6_broken_X3_brokenSet : GoodIn wsX6_broken (wsV RX6 160 RX3 yX3_brokenSet wsX3_brokenSet) := goodIn_app (goodIn_of _ (by decide +kernel)) ggX6_broken_X3_brokenSet
theorem dX6_broken_0 : decode cX6_broken 0 = .ok (.aload_n 0, 1) := by decide +kernel
theorem dX6_broken_1 : decode cX6_broken 1 = .ok (.getfield 10, 3) := by decide +kernel
