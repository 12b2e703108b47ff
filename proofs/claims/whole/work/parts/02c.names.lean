theorem dX1_addByte_17 : decode cX1_addByte 17 = .ok (.bastore, 1) := by decide +kernel
theorem dX1_addByte_18 : decode cX1_addByte 18 = .ok (.aload_n 0, 1) := by decide +kernel
theorem dX1_addByte_19 : decode cX1_addByte 19 = .ok (.dup, 1) := by decide +kernel
theorem dX1_addByte_20 : decode cX1_addByte 20 = .ok (.getfield 15, 3) := by decide +kernel
theorem dX1_addByte_23 : decode cX1_addByte 23 = .ok (.iconst 1, 1) := by decide +kernel
theorem dX1_addByte_24 : decode cX1_addByte 24 = .ok (.iadd, 1) := by decide +kernel
theorem dX1_addByte_25 : decode cX1_addByte 25 = .ok (.putfield 15, 3) := by decide +kernel
theorem dX1_addByte_28 : decode cX1_addByte 28 = .ok (.return_, 1) := by decide +kernel
set_option maxRecDepth 20000 in
theorem ggX1_findFault_X1_rewind : GoodIn wsX1_findFault wsX1_rewind := goodIn_r _ [6, 1, 104, 105, 106, 107, 108, 109, 110] (by decide +kernel) (by decide +kernel)
set_option maxRecDepth 20000 in
theorem gX1_findFault_X1_rewind : GoodIn wsX1_findFault (wsV RX1 23 RX1 yX1_rewind wsX1_rewind) := goodIn_app (goodIn_of _ (by decide +kernel)) ggX1_findFault_X1_rewind
set_option maxRecDepth 20000 in
theorem ggX1_findFault_X1_hasMore : GoodIn wsX1_findFault wsX1_hasMore := goodIn_r _ [10, 1, 11, 12, 13, 14, 5, 15, 16, 17, 18, 19, 20, 104, 105, 106, 107, 108, 109, 110] (by decide +kernel) (by decide +kernel)
set_option maxRecDepth 20000 in
theorem gX1_findFault_X1_hasMore : GoodIn wsX1_findFault (wsV RX1 26 RX1 yX1_hasMore wsX1_hasMore) := goodIn_app (goodIn_of _ (by decide +kernel)) ggX1_findFault_X1_hasMore
set_option maxRecDepth 20000 in
theorem ggX1_findFault_X1_readCommand : GoodIn wsX1_findFault wsX1_readCommand := goodIn_r _ [24, 1, 25, 26, 27, 28, 29, 30, 31, 5, 32, 11, 16, 17, 18, 19, 20, 33, 34, 35, 36, 37, 38, 39, 40, 41, 42, 43, 44, 45, 46, 47, 48, 49, 50, 51, 52, 53, 54, 55, 56, 57, 58, 59, 60, 61, 62, 63, 64, 65, 66, 67, 68, 69, 70, 71, 72, 73, 74, 75, 76, 77, 78, 79, 80, 81, 82, 83, 84, 85, 86, 87, 88, 89, 90, 91, 92, 93, 94, 95, 96, 12, 13, 14, 15, 97, 98, 99, 100, 101, 102, 103, 104, 105, 106, 107, 108, 109, 110] (by decide +kernel) (by decide +kernel)
set_option maxRecDepth 20000 in
theorem gX1_findFault_X1_readCommand : GoodIn wsX1_findFault (wsV RX1 29 RX1 yX1_readCommand wsX1_readCommand) := goodIn_app (goodIn_of _ (by decide +kernel)) ggX1_findFault_X1_readCommand
theorem dX1_findFault_0 : decode cX1_findFault 0 = .ok (.aload_n 0, 1) := by decide +kernel
theorem dX1_findFault_1 : decode cX1_findFault 1 = .ok (.invokevirtual 23, 3) := by decide +kernel
theorem dX1_findFault_4 : decode cX1_findFault 4 = .ok (.iconst 0, 1) := by decide +kernel
theorem dX1_findFault_5 : decode cX1_findFault 5 = .ok (.istore_n 1, 1) := by decide +kernel
theorem dX1_findFault_6 : decode cX1_findFault 6 = .ok (.iload_n 1, 1) := by decide +kernel
theorem dX1_findFault_7 : decode cX1_findFault 7 = .ok (.sipush 150, 3) := by decide +kernel
theorem dX1_findFault_10 : decode cX1_findFault 10 = .ok (.if_icmp .ge 28, 3) := by decide +kernel
theorem dX1_findFault_13 : decode cX1_findFault 13 = .ok (.aload_n 0, 1) := by decide +kernel
theorem dX1_findFault_14 : decode cX1_findFault 14 = .ok (.invokevirtual 26, 3) := by decide +kernel
theorem dX1_findFault_17 : decode cX1_findFault 17 = .ok (.ifCond .eq 21, 3) := by decide +kernel
theorem dX1_findFault_20 : decode cX1_findFault 20 = .ok (.aload_n 0, 1) := by decide +kernel
theorem dX1_findFault_21 : decode cX1_findFault 21 = .ok (.invokevirtual 29, 3) := by decide +kernel
theorem dX1_findFault_24 : decode cX1_findFault 24 = .ok (.ifCond .ne 8, 3) := by decide +kernel
theorem dX1_findFault_27 : decode cX1_findFault 27 = .ok (.aload_n 0, 1) := by decide +kernel
theorem dX1_findFault_28 : decode cX1_findFault 28 = .ok (.getfield 32, 3) := by decide +kernel
theorem dX1_findFault_31 : decode cX1_findFault 31 = .ok (.ireturn, 1) := by decide +kernel
theorem dX1_findFault_32 : decode cX1_findFault 32 = .ok (.iinc 1 1, 3) := by decide +kernel
theorem dX1_findFault_35 : decode cX1_findFault 35 = .ok (.goto (-29), 3) := by decide +kernel
theorem dX1_findFault_38 : decode cX1_findFault 38 = .ok (.sipush (-1000), 3) := by decide +kernel
theorem dX1_findFault_41 : decode cX1_findFault 41 = .ok (.ireturn, 1) := by decide +kernel
theorem dX1_rewind_0 : decode cX1_rewind 0 = .ok (.aload_n 0, 1) := by decide +kernel
theorem dX1_rewind_1 : decode cX1_rewind 1 = .ok (.iconst 0, 1) := by decide +kernel
theorem dX1_rewind_2 : decode cX1_rewind 2 = .ok (.putfield 32, 3) := by decide +kernel
theorem dX1_rewind_5 : decode cX1_rewind 5 = .ok (.return_, 1) := by decide +kernel
set_option maxRecDepth 20000 in
theorem ggX1_hasMore_X1_skipSpaces : GoodIn wsX1_hasMore wsX1_skipSpaces := goodIn_r _ [7, 1, 2, 8, 9, 10, 6, 11, 12, 13, 14, 15, 16, 17, 18, 19] (by decide +kernel) (by decide +kernel)
set_option maxRecDepth 20000 in
theorem gX1_hasMore_X1_skipSpaces : GoodIn wsX1_hasMore (wsV RX1 35 RX1 yX1_skipSpaces wsX1_skipSpaces) := goodIn_app (goodIn_of _ (by decide +kernel)) ggX1_hasMore_X1_skipSpaces
theorem dX1_hasMore_0 : decode cX1_hasMore 0 = .ok (.aload_n 0, 1) := by decide +kernel
theorem dX1_hasMore_1 : decode cX1_hasMore 1 = .ok (.invokevirtual 35, 3) := by decide +kernel
theorem dX1_hasMore_4 : decode cX1_hasMore 4 = .ok (.aload_n 0, 1) := by decide +kernel
theorem dX1_hasMore_5 : decode cX1_hasMore 5 = .ok (.getfield 32, 3) := by decide +kernel
theorem dX1_hasMore_8 : decode cX1_hasMore 8 = .ok (.aload_n 0, 1) := by decide +kernel
theorem dX1_hasMore_9 : decode cX1_hasMore 9 = .ok (.getfield 15, 3) := by decide +kernel
theorem dX1_hasMore_12 : decode cX1_hasMore 12 = .ok (.if_icmp .ge 7, 3) := by decide +kernel
theorem dX1_hasMore_15 : decode cX1_hasMore 15 = .ok (.iconst 1, 1) := by decide +kernel
theorem dX1_hasMore_16 : decode cX1_hasMore 16 = .ok (.goto 4, 3) := by decide +kernel
theorem dX1_hasMore_19 : decode cX1_hasMore 19 = .ok (.iconst 0, 1) := by decide +kernel
theorem dX1_hasMore_20 : decode cX1_hasMore 20 = .ok (.ireturn, 1) := by decide +kernel
set_option maxRecDepth 20000 in
theorem ggX1_readCommand_X1_skipLetters : GoodIn wsX1_readCommand wsX1_skipLetters := goodIn_r _ [10, 1, 11, 12, 13, 14, 9, 15, 16, 17, 18, 19, 92, 93, 94, 95, 96, 97, 98] (by decide +kernel) (by decide +kernel)
set_option maxRecDepth 20000 in
theorem gX1_readCommand_X1_skipLetters : GoodIn wsX1_readCommand (wsV RX1 38 RX1 yX1_skipLetters wsX1_skipLetters) := goodIn_app (goodIn_of _ (by decide +kernel)) ggX1_readCommand_X1_skipLetters
set_option maxRecDepth 20000 in
theorem ggX1_readCommand_X1_wordBetween : GoodIn wsX1_readCommand wsX1_wordBetween := goodIn_r _ [23, 24, 25, 26, 9, 27, 28, 29, 30, 31, 32, 33, 34, 35, 36, 37, 38, 39, 12, 13, 14, 15, 11, 16, 40, 41, 42, 43, 44, 45, 46, 47, 48, 49, 50, 51, 52, 53, 54, 55, 56, 57, 58, 59, 60, 61, 62, 63, 64, 65, 66, 67, 68, 69, 70, 71, 72, 73, 74, 75, 76, 92, 93, 94, 95, 96, 97, 98] (by decide +kernel) (by decide +kernel)
set_option maxRecDepth 20000 in
theorem gX1_readCommand_X1_wordBetween : GoodIn wsX1_readCommand (wsV RX1 41 RX1 yX1_wordBetween wsX1_wordBetween) := goodIn_app (goodIn_of _ (by decide +kernel)) ggX1_readCommand_X1_wordBetween
set_option maxRecDepth 20000 in
theorem ggX1_readCommand_X1_readAmount : GoodIn wsX1_readCommand wsX1_readAmount := goodIn_r _ [80, 1, 3, 12, 13, 14, 9, 15, 11, 16, 81, 82, 83, 84, 85, 86, 87, 88, 89, 90, 91, 92, 93, 94, 95, 96, 97, 98] (by decide +kernel) (by decide +kernel)
set_option maxRecDepth 20000 in
theorem gX1_readCommand_X1_readAmount : GoodIn wsX1_readCommand (wsV RX1 55 RX1 yX1_readAmount wsX1_readAmount) := goodIn_app (goodIn_of _ (by decide +kernel)) ggX1_readCommand_X1_readAmount
set_option maxRecDepth 20000 in
theorem ggX1_readCommand_X1_skipSpaces : GoodIn wsX1_readCommand wsX1_skipSpaces := goodIn_r _ [84, 1, 11, 12, 13, 14, 9, 15, 16, 92, 93, 94, 95, 96, 97, 98] (by decide +kernel) (by decide +kernel)
set_option maxRecDepth 20000 in
theorem gX1_readCommand_X1_skipSpaces : GoodIn wsX1_readCommand (wsV RX1 35 RX1 yX1_skipSpaces wsX1_skipSpaces) := goodIn_app (goodIn_of _ (by decide +kernel)) ggX1_readCommand_X1_skipSpaces
set_option maxRecDepth 20000 in
theorem ggX1_readCommand_X1_readByte : GoodIn wsX1_readCommand wsX1_readByte := goodIn_r _ [88, 1, 12, 13, 14, 9, 15, 11, 16, 92, 93, 94, 95, 96, 97, 98] (by decide +kernel) (by decide +kernel)
set_option maxRecDepth 20000 in
theorem gX1_readCommand_X1_readByte : GoodIn wsX1_readCommand (wsV RX1 72 RX1 yX1_readByte wsX1_readByte) := goodIn_app (goodIn_of _ (by decide +kernel)) ggX1_readCommand_X1_readByte
theorem dX1_readCommand_0 : decode cX1_readCommand 0 = .ok (.aload_n 0, 1) := by decide +kernel
theorem dX1_readCommand_1 : decode cX1_readCommand 1 = .ok (.getfield 32, 3) := by decide +kernel
theorem dX1_readCommand_4 : decode cX1_readCommand 4 = .ok (.istore_n 1, 1) := by decide +kernel
theorem dX1_readCommand_5 : decode cX1_readCommand 5 = .ok (.aload_n 0, 1) := by decide +kernel
theorem dX1_readCommand_6 : decode cX1_readCommand 6 = .ok (.invokevirtual 38, 3) := by decide +kernel
theorem dX1_readCommand_9 : decode cX1_readCommand 9 = .ok (.aload_n 0, 1) := by decide +kernel
theorem dX1_readCommand_10 : decode cX1_readCommand 10 = .ok (.aload_n 0, 1) := by decide +kernel
theorem dX1_readCommand_11 : decode cX1_readCommand 11 = .ok (.iload_n 1, 1) := by decide +kernel
theorem dX1_readCommand_12 : decode cX1_readCommand 12 = .ok (.aload_n 0, 1) := by decide +kernel
theorem dX1_readCommand_13 : decode cX1_readCommand 13 = .ok (.getfield 32, 3) := by decide +kernel
theorem dX1_readCommand_16 : decode cX1_readCommand 16 = .ok (.invokevirtual 41, 3) := by decide +kernel
theorem dX1_readCommand_19 : decode cX1_readCommand 19 = .ok (.putfield 45, 3) := by decide +kernel
theorem dX1_readCommand_22 : decode cX1_readCommand 22 = .ok (.aload_n 0, 1) := by decide +kernel
theorem dX1_readCommand_23 : decode cX1_readCommand 23 = .ok (.getfield 45, 3) := by decide +kernel
theorem dX1_readCommand_26 : decode cX1_readCommand 26 = .ok (.ifnonnull 10, 3) := by decide +kernel
theorem dX1_readCommand_29 : decode cX1_readCommand 29 = .ok (.aload_n 0, 1) := by decide +kernel
theorem dX1_readCommand_30 : decode cX1_readCommand 30 = .ok (.iload_n 1, 1) := by decide +kernel
theorem dX1_readCommand_31 : decode cX1_readCommand 31 = .ok (.putfield 32, 3) := by decide +kernel
theorem dX1_readCommand_34 : decode cX1_readCommand 34 = .ok (.iconst 0, 1) := by decide +kernel
theorem dX1_readCommand_35 : decode cX1_readCommand 35 = .ok (.ireturn, 1) := by decide +kernel
theorem dX1_readCommand_36 : decode cX1_readCommand 36 = .ok (.aload_n 0, 1) := by decide +kernel
theorem dX1_readCommand_37 : decode cX1_readCommand 37 = .ok (.getfield 45, 3) := by decide +kernel
theorem dX1_readCommand_40 : decode cX1_readCommand 40 = .ok (.getfield 49, 3) := by decide +kernel
theorem dX1_readCommand_43 : decode cX1_readCommand 43 = .ok (.ifCond .eq 13, 3) := by decide +kernel
theorem dX1_readCommand_46 : decode cX1_readCommand 46 = .ok (.aload_n 0, 1) := by decide +kernel
theorem dX1_readCommand_47 : decode cX1_readCommand 47 = .ok (.iconst 0, 1) := by decide +kernel
theorem dX1_readCommand_48 : decode cX1_readCommand 48 = .ok (.invokevirtual 55, 3) := by decide +kernel
theorem dX1_readCommand_51 : decode cX1_readCommand 51 = .ok (.ifCond .ne 5, 3) := by decide +kernel
theorem dX1_readCommand_54 : decode cX1_readCommand 54 = .ok (.iconst 0, 1) := by decide +kernel
theorem dX1_readCommand_55 : decode cX1_readCommand 55 = .ok (.ireturn, 1) := by decide +kernel
theorem dX1_readCommand_56 : decode cX1_readCommand 56 = .ok (.aload_n 0, 1) := by decide +kernel
theorem dX1_readCommand_57 : decode cX1_readCommand 57 = .ok (.aload_n 0, 1) := by decide +kernel
theorem dX1_readCommand_58 : decode cX1_readCommand 58 = .ok (.getfield 59, 3) := by decide +kernel
theorem dX1_readCommand_61 : decode cX1_readCommand 61 = .ok (.putfield 62, 3) := by decide +kernel
theorem dX1_readCommand_64 : decode cX1_readCommand 64 = .ok (.aload_n 0, 1) := by decide +kernel
theorem dX1_readCommand_65 : decode cX1_readCommand 65 = .ok (.getfield 45, 3) := by decide +kernel
theorem dX1_readCommand_68 : decode cX1_readCommand 68 = .ok (.getfield 65, 3) := by decide +kernel
theorem dX1_readCommand_71 : decode cX1_readCommand 71 = .ok (.ifCond .eq 13, 3) := by decide +kernel
theorem dX1_readCommand_74 : decode cX1_readCommand 74 = .ok (.aload_n 0, 1) := by decide +kernel
theorem dX1_readCommand_75 : decode cX1_readCommand 75 = .ok (.iconst 1, 1) := by decide +kernel
theorem dX1_readCommand_76 : decode cX1_readCommand 76 = .ok (.invokevirtual 55, 3) := by decide +kernel
theorem dX1_readCommand_79 : decode cX1_readCommand 79 = .ok (.ifCond .ne 5, 3) := by decide +kernel
theorem dX1_readCommand_82 : decode cX1_readCommand 82 = .ok (.iconst 0, 1) := by decide +kernel
theorem dX1_readCommand_83 : decode cX1_readCommand 83 = .ok (.ireturn, 1) := by decide +kernel
theorem dX1_readCommand_84 : decode cX1_readCommand 84 = .ok (.aload_n 0, 1) := by decide +kernel
theorem dX1_readCommand_85 : decode cX1_readCommand 85 = .ok (.aload_n 0, 1) := by decide +kernel
theorem dX1_readCommand_86 : decode cX1_readCommand 86 = .ok (.getfield 59, 3) := by decide +kernel
theorem dX1_readCommand_89 : decode cX1_readCommand 89 = .ok (.i2l, 1) := by decide +kernel
theorem dX1_readCommand_90 : decode cX1_readCommand 90 = .ok (.putfield 68, 3) := by decide +kernel
theorem dX1_readCommand_93 : decode cX1_readCommand 93 = .ok (.aload_n 0, 1) := by decide +kernel
theorem dX1_readCommand_94 : decode cX1_readCommand 94 = .ok (.invokevirtual 35, 3) := by decide +kernel
theorem dX1_readCommand_97 : decode cX1_readCommand 97 = .ok (.aload_n 0, 1) := by decide +kernel
theorem dX1_readCommand_98 : decode cX1_readCommand 98 = .ok (.bipush 59, 2) := by decide +kernel
theorem dX1_readCommand_100 : decode cX1_readCommand 100 = .ok (.invokevirtual 72, 3) := by decide +kernel
theorem dX1_readCommand_103 : decode cX1_readCommand 103 = .ok (.ireturn, 1) := by decide +kernel
set_option maxRecDepth 20000 in
theorem ggX1_wordBetween_X1_isBetween : GoodIn wsX1_wordBetween wsX1_isBetween := goodIn_r _ [5, 6, 7, 8, 9, 10, 11, 12, 13, 14, 15, 16, 17, 18, 19, 20, 4, 21, 22, 23, 24, 25, 26, 27, 28, 29, 30, 31, 32, 33, 34, 35, 36, 37, 38, 39, 40, 41, 42, 43, 44, 45, 46, 47, 48, 49, 50, 51, 52, 53, 54, 55, 56, 57, 58, 59, 60, 61, 62, 63, 64, 65, 66, 67] (by decide +kernel) (by decide +kernel)
set_option maxRecDepth 20000 in
theorem gX1_wordBetween_X1_isBetween : GoodIn wsX1_wordBetween (wsV RX1 84 RX1 yX1_isBetween wsX1_isBetween) := goodIn_app (goodIn_of _ (by decide +kernel)) ggX1_wordBetween_X1_isBetween
theorem dX1_wordBetween_0 : decode cX1_wordBetween 0 = .ok (.iconst 0, 1) := by decide +kernel
theorem dX1_wordBetween_1 : decode cX1_wordBetween 1 = .ok (.istore_n 3, 1) := by decide +kernel
theorem dX1_wordBetween_2 : decode cX1_wordBetween 2 = .ok (.iload_n 3, 1) := by decide +kernel
theorem dX1_wordBetween_3 : decode cX1_wordBetween 3 = .ok (.getstatic 76, 3) := by decide +kernel
theorem dX1_wordBetween_6 : decode cX1_wordBetween 6 = .ok (.arraylength, 1) := by decide +kernel
theorem dX1_wordBetween_7 : decode cX1_wordBetween 7 = .ok (.if_icmp .ge 32, 3) := by decide +kernel
theorem dX1_wordBetween_10 : decode cX1_wordBetween 10 = .ok (.aload_n 0, 1) := by decide +kernel
theorem dX1_wordBetween_11 : decode cX1_wordBetween 11 = .ok (.getstatic 76, 3) := by decide +kernel
theorem dX1_wordBetween_14 : decode cX1_wordBetween 14 = .ok (.iload_n 3, 1) := by decide +kernel
theorem dX1_wordBetween_15 : decode cX1_wordBetween 15 = .ok (.aaload, 1) := by decide +kernel
theorem dX1_wordBetween_16 : decode cX1_wordBetween 16 = .ok (.getfield 80, 3) := by decide +kernel
theorem dX1_wordBetween_19 : decode cX1_wordBetween 19 = .ok (.iload_n 1, 1) := by decide +kernel
theorem dX1_wordBetween_20 : decode cX1_wordBetween 20 = .ok (.iload_n 2, 1) := by decide +kernel
theorem dX1_wordBetween_21 : decode cX1_wordBetween 21 = .ok (.invokevirtual 84, 3) := by decide +kernel
theorem dX1_wordBetween_24 : decode cX1_wordBetween 24 = .ok (.ifCond .eq 9, 3) := by decide +kernel
theorem dX1_wordBetween_27 : decode cX1_wordBetween 27 = .ok (.getstatic 76, 3) := by decide +kernel
theorem dX1_wordBetween_30 : decode cX1_wordBetween 30 = .ok (.iload_n 3, 1) := by decide +kernel
theorem dX1_wordBetween_31 : decode cX1_wordBetween 31 = .ok (.aaload, 1) := by decide +kernel
theorem dX1_wordBetween_32 : decode cX1_wordBetween 32 = .ok (.areturn, 1) := by decide +kernel
theorem dX1_wordBetween_33 : decode cX1_wordBetween 33 = .ok (.iinc 3 1, 3) := by decide +kernel
theorem dX1_wordBetween_36 : decode cX1_wordBetween 36 = .ok (.goto (-34), 3) := by decide +kernel
theorem dX1_wordBetween_39 : decode cX1_wordBetween 39 = .ok (.aconst_null, 1) := by decide +kernel
theorem dX1_wordBetween_40 : decode cX1_wordBetween 40 = .ok (.areturn, 1) := by decide +kernel
set_option maxRecDepth 20000 in
theorem ggX1_isBetween_J0_length_8abf5 : GoodIn wsX1_isBetween wsJ0_length_8abf5 := goodIn_r _ [5, 6, 7, 8, 9, 4, 10, 11, 12] (by decide +kernel) (by decide +kernel)
set_option maxRecDepth 20000 in
theorem gX1_isBetween_J0_length_8abf5 : GoodIn wsX1_isBetween (wsV RX1 88 RJ0 yJ0_length_8abf5 wsJ0_length_8abf5) := goodIn_app (goodIn_of _ (by decide +kernel)) ggX1_isBetween_J0_length_8abf5
set_option maxRecDepth 20000 in
theorem ggX1_isBetween_X1_byteAt : GoodIn wsX1_isBetween wsX1_byteAt := goodIn_r _ [17, 18, 19, 57, 58, 59, 60, 61, 62, 63] (by decide +kernel) (by decide +kernel)
set_option maxRecDepth 20000 in
theorem gX1_isBetween_X1_byteAt : GoodIn wsX1_isBetween (wsV RX1 93 RX1 yX1_byteAt wsX1_byteAt) := goodIn_app (goodIn_of _ (by decide +kernel)) ggX1_isBetween_X1_byteAt
set_option maxRecDepth 20000 in
theorem ggX1_isBetween_J0_charAt_5068e : GoodIn wsX1_isBetween wsJ0_charAt_5068e := goodIn_r _ [23, 6, 24, 25, 26, 4, 27, 11, 12, 28, 29, 30, 31, 32, 33, 34, 35, 36, 37, 38, 39, 40, 41, 42, 43, 44, 45, 46, 47, 48, 49, 50, 51, 52, 53, 54, 55, 56] (by decide +kernel) (by decide +kernel)
set_option maxRecDepth 20000 in
theorem gX1_isBetween_J0_charAt_5068e : GoodIn wsX1_isBetween (wsV RX1 97 RJ0 yJ0_charAt_5068e wsJ0_charAt_5068e) := goodIn_app (goodIn_of _ (by decide +kernel)) ggX1_isBetween_J0_charAt_5068e
theorem dX1_isBetween_0 : decode cX1_isBetween 0 = .ok (.aload_n 1, 1) := by decide +kernel
theorem dX1_isBetween_1 : decode cX1_isBetween 1 = .ok (.invokevirtual 88, 3) := by decide +kernel
theorem dX1_isBetween_4 : decode cX1_isBetween 4 = .ok (.iload_n 3, 1) := by decide +kernel
theorem dX1_isBetween_5 : decode cX1_isBetween 5 = .ok (.iload_n 2, 1) := by decide +kernel
theorem dX1_isBetween_6 : decode cX1_isBetween 6 = .ok (.isub, 1) := by decide +kernel
theorem dX1_isBetween_7 : decode cX1_isBetween 7 = .ok (.if_icmp .eq 5, 3) := by decide +kernel
theorem dX1_isBetween_10 : decode cX1_isBetween 10 = .ok (.iconst 0, 1) := by decide +kernel
theorem dX1_isBetween_11 : decode cX1_isBetween 11 = .ok (.ireturn, 1) := by decide +kernel
theorem dX1_isBetween_12 : decode cX1_isBetween 12 = .ok (.iconst 0, 1) := by decide +kernel
theorem dX1_isBetween_13 : decode cX1_isBetween 13 = .ok (.istore 4, 2) := by decide +kernel
theorem dX1_isBetween_15 : decode cX1_isBetween 15 = .ok (.iload 4, 2) := by decide +kernel
theorem dX1_isBetween_17 : decode cX1_isBetween 17 = .ok (.aload_n 1, 1) := by decide +kernel
theorem dX1_isBetween_18 : decode cX1_isBetween 18 = .ok (.invokevirtual 88, 3) := by decide +kernel
theorem dX1_isBetween_21 : decode cX1_isBetween 21 = .ok (.if_icmp .ge 28, 3) := by decide +kernel
theorem dX1_isBetween_24 : decode cX1_isBetween 24 = .ok (.aload_n 0, 1) := by decide +kernel
theorem dX1_isBetween_25 : decode cX1_isBetween 25 = .ok (.iload_n 2, 1) := by decide +kernel
theorem dX1_isBetween_26 : decode cX1_isBetween 26 = .ok (.iload 4, 2) := by decide +kernel
theorem dX1_isBetween_28 : decode cX1_isBetween 28 = .ok (.iadd, 1) := by decide +kernel
theorem dX1_isBetween_29 : decode cX1_isBetween 29 = .ok (.invokevirtual 93, 3) := by decide +kernel
theorem dX1_isBetween_32 : decode cX1_isBetween 32 = .ok (.aload_n 1, 1) := by decide +kernel
theorem dX1_isBetween_33 : decode cX1_isBetween 33 = .ok (.iload 4, 2) := by decide +kernel
theorem dX1_isBetween_35 : decode cX1_isBetween 35 = .ok (.invokevirtual 97, 3) := by decide +kernel
theorem dX1_isBetween_38 : decode cX1_isBetween 38 = .ok (.if_icmp .eq 5, 3) := by decide +kernel
theorem dX1_isBetween_41 : decode cX1_isBetween 41 = .ok (.iconst 0, 1) := by decide +kernel
theorem dX1_isBetween_42 : decode cX1_isBetween 42 = .ok (.ireturn, 1) := by decide +kernel
theorem dX1_isBetween_43 : decode cX1_isBetween 43 = .ok (.iinc 4 1, 3) := by decide +kernel
theorem dX1_isBetween_46 : decode cX1_isBetween 46 = .ok (.goto (-31), 3) := by decide +kernel
theorem dX1_isBetween_49 : decode cX1_isBetween 49 = .ok (.iconst 1, 1) := by decide +kernel
theorem dX1_isBetween_50 : decode cX1_isBetween 50 = .ok (.ireturn, 1) := by decide +kernel
set_option maxRecDepth 20000 in
theorem ggX1_readAmount_X1_byteAt : GoodIn wsX1_readAmount wsX1_byteAt := goodIn_r _ [7, 8, 9, 21, 22, 23, 24, 25, 26, 27] (by decide +kernel) (by decide +kernel)
set_option maxRecDepth 20000 in
theorem gX1_readAmount_X1_byteAt : GoodIn wsX1_readAmount (wsV RX1 93 RX1 yX1_byteAt wsX1_byteAt) := goodIn_app (goodIn_of _ (by decide +kernel)) ggX1_readAmount_X1_byteAt
set_option maxRecDepth 20000 in
theorem ggX1_readAmount_X1_skipSpaces : GoodIn wsX1_readAmount wsX1_skipSpaces := goodIn_r _ [13, 1, 8, 3, 4, 5, 6, 7, 9, 21, 22, 23, 24, 25, 26, 27] (by decide +kernel) (by decide +kernel)
set_option maxRecDepth 20000 in
theorem gX1_readAmount_X1_skipSpaces : GoodIn wsX1_readAmount (wsV RX1 35 RX1 yX1_skipSpaces wsX1_skipSpaces) := goodIn_app (goodIn_of _ (by decide +kernel)) ggX1_readAmount_X1_skipSpaces
set_option maxRecDepth 20000 in
theorem ggX1_readAmount_X1_readByte : GoodIn wsX1_readAmount wsX1_readByte := goodIn_r _ [17, 1, 3, 4, 5, 6, 7, 8, 9, 21, 22, 23, 24, 25, 26, 27] (by decide +kernel) (by decide +kernel)
set_option maxRecDepth 20000 in
theorem gX1_readAmount_X1_readByte : GoodIn wsX1_readAmount (wsV RX1 72 RX1 yX1_readByte wsX1_readByte) := goodIn_app (goodIn_of _ (by decide +kernel)) ggX1_readAmount_X1_readByte
set_option maxRecDepth 20000 in
theorem ggX1_readAmount_X1_isDigit : GoodIn wsX1_readAmount wsX1_isDigit := goodIn_r _ [20] (by decide +kernel) (by decide +kernel)
set_option maxRecDepth 20000 in
theorem gX1_readAmount_X1_isDigit : GoodIn wsX1_readAmount (va_wsS RX1 101 yX1_isDigit wsX1_isDigit) := goodIn_app (goodIn_of _ (by decide +kernel)) ggX1_readAmount_X1_isDigit
theorem dX1_readAmount_0 : decode cX1_readAmount 0 = .ok (.aload_n 0, 1) := by decide +kernel
theorem dX1_readAmount_1 : decode cX1_readAmount 1 = .ok (.aload_n 0, 1) := by decide +kernel
theorem dX1_readAmount_2 : decode cX1_readAmount 2 = .ok (.getfield 32, 3) := by decide +kernel
theorem dX1_readAmount_5 : decode cX1_readAmount 5 = .ok (.invokevirtual 93, 3) := by decide +kernel
theorem dX1_readAmount_8 : decode cX1_readAmount 8 = .ok (.bipush 32, 2) := by decide +kernel
theorem dX1_readAmount_10 : decode cX1_readAmount 10 = .ok (.if_icmp .eq 5, 3) := by decide +kernel
theorem dX1_readAmount_13 : decode cX1_readAmount 13 = .ok (.iconst 0, 1) := by decide +kernel
theorem dX1_readAmount_14 : decode cX1_readAmount 14 = .ok (.ireturn, 1) := by decide +kernel
theorem dX1_readAmount_15 : decode cX1_readAmount 15 = .ok (.aload_n 0, 1) := by decide +kernel
theorem dX1_readAmount_16 : decode cX1_readAmount 16 = .ok (.invokevirtual 35, 3) := by decide +kernel
theorem dX1_readAmount_19 : decode cX1_readAmount 19 = .ok (.iload_n 1, 1) := by decide +kernel
theorem dX1_readAmount_20 : decode cX1_readAmount 20 = .ok (.ifCond .eq 16, 3) := by decide +kernel
theorem dX1_readAmount_23 : decode cX1_readAmount 23 = .ok (.aload_n 0, 1) := by decide +kernel
theorem dX1_readAmount_24 : decode cX1_readAmount 24 = .ok (.bipush 45, 2) := by decide +kernel
theorem dX1_readAmount_26 : decode cX1_readAmount 26 = .ok (.invokevirtual 72, 3) := by decide +kernel
theorem dX1_readAmount_29 : decode cX1_readAmount 29 = .ok (.ifCond .eq 7, 3) := by decide +kernel
theorem dX1_readAmount_32 : decode cX1_readAmount 32 = .ok (.iconst 1, 1) := by decide +kernel
theorem dX1_readAmount_33 : decode cX1_readAmount 33 = .ok (.goto 4, 3) := by decide +kernel
theorem dX1_readAmount_36 : decode cX1_readAmount 36 = .ok (.iconst 0, 1) := by decide +kernel
theorem dX1_readAmount_37 : decode cX1_readAmount 37 = .ok (.istore_n 2, 1) := by decide +kernel
theorem dX1_readAmount_38 : decode cX1_readAmount 38 = .ok (.aload_n 0, 1) := by decide +kernel
theorem dX1_readAmount_39 : decode cX1_readAmount 39 = .ok (.iconst 0, 1) := by decide +kernel
theorem dX1_readAmount_40 : decode cX1_readAmount 40 = .ok (.putfield 59, 3) := by decide +kernel
theorem dX1_readAmount_43 : decode cX1_readAmount 43 = .ok (.iconst 0, 1) := by decide +kernel
theorem dX1_readAmount_44 : decode cX1_readAmount 44 = .ok (.istore_n 3, 1) := by decide +kernel
theorem dX1_readAmount_45 : decode cX1_readAmount 45 = .ok (.iload_n 3, 1) := by decide +kernel
theorem dX1_readAmount_46 : decode cX1_readAmount 46 = .ok (.bipush 9, 2) := by decide +kernel
theorem dX1_readAmount_48 : decode cX1_readAmount 48 = .ok (.if_icmp .ge 56, 3) := by decide +kernel
theorem dX1_readAmount_51 : decode cX1_readAmount 51 = .ok (.aload_n 0, 1) := by decide +kernel
theorem dX1_readAmount_52 : decode cX1_readAmount 52 = .ok (.aload_n 0, 1) := by decide +kernel
theorem dX1_readAmount_53 : decode cX1_readAmount 53 = .ok (.getfield 32, 3) := by decide +kernel
theorem dX1_readAmount_56 : decode cX1_readAmount 56 = .ok (.invokevirtual 93, 3) := by decide +kernel
theorem dX1_readAmount_59 : decode cX1_readAmount 59 = .ok (.invokestatic 101, 3) := by decide +kernel
theorem dX1_readAmount_62 : decode cX1_readAmount 62 = .ok (.ifCond .eq 42, 3) := by decide +kernel
theorem dX1_readAmount_65 : decode cX1_readAmount 65 = .ok (.aload_n 0, 1) := by decide +kernel
theorem dX1_readAmount_66 : decode cX1_readAmount 66 = .ok (.bipush 10, 2) := by decide +kernel
theorem dX1_readAmount_68 : decode cX1_readAmount 68 = .ok (.aload_n 0, 1) := by decide +kernel
theorem dX1_readAmount_69 : decode cX1_readAmount 69 = .ok (.getfield 59, 3) := by decide +kernel
theorem dX1_readAmount_72 : decode cX1_readAmount 72 = .ok (.imul, 1) := by decide +kernel
theorem dX1_readAmount_73 : decode cX1_readAmount 73 = .ok (.aload_n 0, 1) := by decide +kernel
theorem dX1_readAmount_74 : decode cX1_readAmount 74 = .ok (.aload_n 0, 1) := by decide +kernel
theorem dX1_readAmount_75 : decode cX1_readAmount 75 = .ok (.getfield 32, 3) := by decide +kernel
theorem dX1_readAmount_78 : decode cX1_readAmount 78 = .ok (.invokevirtual 93, 3) := by decide +kernel
theorem dX1_readAmount_81 : decode cX1_readAmount 81 = .ok (.iadd, 1) := by decide +kernel
theorem dX1_readAmount_82 : decode cX1_readAmount 82 = .ok (.bipush 48, 2) := by decide +kernel
theorem dX1_readAmount_84 : decode cX1_readAmount 84 = .ok (.isub, 1) := by decide +kernel
theorem dX1_readAmount_85 : decode cX1_readAmount 85 = .ok (.putfield 59, 3) := by decide +kernel
theorem dX1_readAmount_88 : decode cX1_readAmount 88 = .ok (.aload_n 0, 1) := by decide +kernel
theorem dX1_readAmount_89 : decode cX1_readAmount 89 = .ok (.dup, 1) := by decide +kernel
theorem dX1_readAmount_90 : decode cX1_readAmount 90 = .ok (.getfield 32, 3) := by decide +kernel
theorem dX1_readAmount_93 : decode cX1_readAmount 93 = .ok (.iconst 1, 1) := by decide +kernel
theorem dX1_readAmount_94 : decode cX1_readAmount 94 = .ok (.iadd, 1) := by decide +kernel
theorem dX1_readAmount_95 : decode cX1_readAmount 95 = .ok (.putfield 32, 3) := by decide +kernel
theorem dX1_readAmount_98 : decode cX1_readAmount 98 = .ok (.iinc 3 1, 3) := by decide +kernel
theorem dX1_readAmount_101 : decode cX1_readAmount 101 = .ok (.goto (-56), 3) := by decide +kernel
theorem dX1_readAmount_104 : decode cX1_readAmount 104 = .ok (.iload_n 2, 1) := by decide +kernel
theorem dX1_readAmount_105 : decode cX1_readAmount 105 = .ok (.ifCond .eq 12, 3) := by decide +kernel
theorem dX1_readAmount_108 : decode cX1_readAmount 108 = .ok (.aload_n 0, 1) := by decide +kernel
theorem dX1_readAmount_109 : decode cX1_readAmount 109 = .ok (.aload_n 0, 1) := by decide +kernel
theorem dX1_readAmount_110 : decode cX1_readAmount 110 = .ok (.getfield 59, 3) := by decide +kernel
theorem dX1_readAmount_113 : decode cX1_readAmount 113 = .ok (.ineg, 1) := by decide +kernel
theorem dX1_readAmount_114 : decode cX1_readAmount 114 = .ok (.putfield 59, 3) := by decide +kernel
theorem dX1_readAmount_117 : decode cX1_readAmount 117 = .ok (.iload_n 3, 1) := by decide +kernel
theorem dX1_readAmount_118 : decode cX1_readAmount 118 = .ok (.ifCond .le 7, 3) := by decide +kernel
theorem dX1_readAmount_121 : decode cX1_readAmount 121 = .ok (.iconst 1, 1) := by decide +kernel
theorem dX1_readAmount_122 : decode cX1_readAmount 122 = .ok (.goto 4, 3) := by decide +kernel
theorem dX1_readAmount_125 : decode cX1_readAmount 125 = .ok (.iconst 0, 1) := by decide +kernel
theorem dX1_readAmount_126 : decode cX1_readAmount 126 = .ok (.ireturn, 1) := by decide +kernel
set_option maxRecDepth 20000 in
theorem ggX1_readByte_X1_byteAt : GoodIn wsX1_readByte wsX1_byteAt := goodIn_r _ [6, 7, 8, 9, 10, 11, 12, 13, 14, 15] (by decide +kernel) (by decide +kernel)
set_option maxRecDepth 20000 in
theorem gX1_readByte_X1_byteAt : GoodIn wsX1_readByte (wsV RX1 93 RX1 yX1_byteAt wsX1_byteAt) := goodIn_app (goodIn_of _ (by decide +kernel)) ggX1_readByte_X1_byteAt
theorem dX1_readByte_0 : decode cX1_readByte 0 = .ok (.aload_n 0, 1) := by decide +kernel
theorem dX1_readByte_1 : decode cX1_readByte 1 = .ok (.aload_n 0, 1) := by decide +kernel
theorem dX1_readByte_2 : decode cX1_readByte 2 = .ok (.getfield 32, 3) := by decide +kernel
theorem dX1_readByte_5 : decode cX1_readByte 5 = .ok (.invokevirtual 93, 3) := by decide +kernel
theorem dX1_readByte_8 : decode cX1_readByte 8 = .ok (.iload_n 1, 1) := by decide +kernel
theorem dX1_readByte_9 : decode cX1_readByte 9 = .ok (.if_icmp .eq 5, 3) := by decide +kernel
theorem dX1_readByte_12 : decode cX1_readByte 12 = .ok (.iconst 0, 1) := by decide +kernel
theorem dX1_readByte_13 : decode cX1_readByte 13 = .ok (.ireturn, 1) := by decide +kernel
theorem dX1_readByte_14 : decode cX1_readByte 14 = .ok (.aload_n 0, 1) := by decide +kernel
theorem dX1_readByte_15 : decode cX1_readByte 15 = .ok (.dup, 1) := by decide +kernel
theorem dX1_readByte_16 : decode cX1_readByte 16 = .ok (.getfield 32, 3) := by decide +kernel
theorem dX1_readByte_19 : decode cX1_readByte 19 = .ok (.iconst 1, 1) := by decide +kernel
theorem dX1_readByte_20 : decode cX1_readByte 20 = .ok (.iadd, 1) := by decide +kernel
theorem dX1_readByte_21 : decode cX1_readByte 21 = .ok (.putfield 32, 3) := by decide +kernel
theorem dX1_readByte_24 : decode cX1_readByte 24 = .ok (.iconst 1, 1) := by decide +kernel
theorem dX1_readByte_25 : decode cX1_readByte 25 = .ok (.ireturn, 1) := by decide +kernel
set_option maxRecDepth 20000 in
theorem ggX1_skipSpaces_X1_byteAt : GoodIn wsX1_skipSpaces wsX1_byteAt := goodIn_r _ [7, 2, 8, 9, 10, 11, 12, 13, 14, 15] (by decide +kernel) (by decide +kernel)
set_option maxRecDepth 20000 in
theorem gX1_skipSpaces_X1_byteAt : GoodIn wsX1_skipSpaces (wsV RX1 93 RX1 yX1_byteAt wsX1_byteAt) := goodIn_app (goodIn_of _ (by decide +kernel)) ggX1_skipSpaces_X1_byteAt
theorem dX1_skipSpaces_0 : decode cX1_skipSpaces 0 = .ok (.aload_n 0, 1) := by decide +kernel
theorem dX1_skipSpaces_1 : decode cX1_skipSpaces 1 = .ok (.getfield 32, 3) := by decide +kernel
theorem dX1_skipSpaces_4 : decode cX1_skipSpaces 4 = .ok (.aload_n 0, 1) := by decide +kernel
theorem dX1_skipSpaces_5 : decode cX1_skipSpaces 5 = .ok (.getfield 15, 3) := by decide +kernel
theorem dX1_skipSpaces_8 : decode cX1_skipSpaces 8 = .ok (.if_icmp .ge 29, 3) := by decide +kernel
theorem dX1_skipSpaces_11 : decode cX1_skipSpaces 11 = .ok (.aload_n 0, 1) := by decide +kernel
theorem dX1_skipSpaces_12 : decode cX1_skipSpaces 12 = .ok (.aload_n 0, 1) := by decide +kernel
theorem dX1_skipSpaces_13 : decode cX1_skipSpaces 13 = .ok (.getfield 32, 3) := by decide +kernel
theorem dX1_skipSpaces_16 : decode cX1_skipSpaces 16 = .ok (.invokevirtual 93, 3) := by decide +kernel
theorem dX1_skipSpaces_19 : decode cX1_skipSpaces 19 = .ok (.bipush 32, 2) := by decide +kernel
theorem dX1_skipSpaces_21 : decode cX1_skipSpaces 21 = .ok (.if_icmp .ne 16, 3) := by decide +kernel
theorem dX1_skipSpaces_24 : decode cX1_skipSpaces 24 = .ok (.aload_n 0, 1) := by decide +kernel
theorem dX1_skipSpaces_25 : decode cX1_skipSpaces 25 = .ok (.dup, 1) := by decide +kernel
theorem dX1_skipSpaces_26 : decode cX1_skipSpaces 26 = .ok (.getfield 32, 3) := by decide +kernel
theorem dX1_skipSpaces_29 : decode cX1_skipSpaces 29 = .ok (.iconst 1, 1) := by decide +kernel
theorem dX1_skipSpaces_30 : decode cX1_skipSpaces 30 = .ok (.iadd, 1) := by decide +kernel
theorem dX1_skipSpaces_31 : decode cX1_skipSpaces 31 = .ok (.putfield 32, 3) := by decide +kernel
theorem dX1_skipSpaces_34 : decode cX1_skipSpaces 34 = .ok (.goto (-34), 3) := by decide +kernel
theorem dX1_skipSpaces_37 : decode cX1_skipSpaces 37 = .ok (.return_, 1) := by decide +kernel
set_option maxRecDepth 20000 in
theorem ggX1_skipLetters_X1_byteAt : GoodIn wsX1_skipLetters wsX1_byteAt := goodIn_r _ [7, 2, 8, 12, 13, 14, 15, 16, 17, 18] (by decide +kernel) (by decide +kernel)
set_option maxRecDepth 20000 in
theorem gX1_skipLetters_X1_byteAt : GoodIn wsX1_skipLetters (wsV RX1 93 RX1 yX1_byteAt wsX1_byteAt) := goodIn_app (goodIn_of _ (by decide +kernel)) ggX1_skipLetters_X1_byteAt
set_option maxRecDepth 20000 in
theorem ggX1_skipLetters_X1_isLetter : GoodIn wsX1_skipLetters wsX1_isLetter := goodIn_r _ [11] (by decide +kernel) (by decide +kernel)
set_option maxRecDepth 20000 in
theorem gX1_skipLetters_X1_isLetter : GoodIn wsX1_skipLetters (va_wsS RX1 104 yX1_isLetter wsX1_isLetter) := goodIn_app (goodIn_of _ (by decide +kernel)) ggX1_skipLetters_X1_isLetter
theorem dX1_skipLetters_0 : decode cX1_skipLetters 0 = .ok (.aload_n 0, 1) := by decide +kernel
theorem dX1_skipLetters_1 : decode cX1_skipLetters 1 = .ok (.getfield 32, 3) := by decide +kernel
theorem dX1_skipLetters_4 : decode cX1_skipLetters 4 = .ok (.aload_n 0, 1) := by decide +kernel
theorem dX1_skipLetters_5 : decode cX1_skipLetters 5 = .ok (.getfield 15, 3) := by decide +kernel
theorem dX1_skipLetters_8 : decode cX1_skipLetters 8 = .ok (.if_icmp .ge 30, 3) := by decide +kernel
theorem dX1_skipLetters_11 : decode cX1_skipLetters 11 = .ok (.aload_n 0, 1) := by decide +kernel
theorem dX1_skipLetters_12 : decode cX1_skipLetters 12 = .ok (.aload_n 0, 1) := by decide +kernel
theorem dX1_skipLetters_13 : decode cX1_skipLetters 13 = .ok (.getfield 32, 3) := by decide +kernel
theorem dX1_skipLetters_16 : decode cX1_skipLetters 16 = .ok (.invokevirtual 93, 3) := by decide +kernel
theorem dX1_skipLetters_19 : decode cX1_skipLetters 19 = .ok (.invokestatic 104, 3) := by decide +kernel
theorem dX1_skipLetters_22 : decode cX1_skipLetters 22 = .ok (.ifCond .eq 16, 3) := by decide +kernel
theorem dX1_skipLetters_25 : decode cX1_skipLetters 25 = .ok (.aload_n 0, 1) := by decide +kernel
theorem dX1_skipLetters_26 : decode cX1_skipLetters 26 = .ok (.dup, 1) := by decide +kernel
theorem dX1_skipLetters_27 : decode cX1_skipLetters 27 = .ok (.getfield 32, 3) := by decide +kernel
theorem dX1_skipLetters_30 : decode cX1_skipLetters 30 = .ok (.iconst 1, 1) := by decide +kernel
theorem dX1_skipLetters_31 : decode cX1_skipLetters 31 = .ok (.iadd, 1) := by decide +kernel
theorem dX1_skipLetters_32 : decode cX1_skipLetters 32 = .ok (.putfield 32, 3) := by decide +kernel
theorem dX1_skipLetters_35 : decode cX1_skipLetters 35 = .ok (.goto (-35), 3) := by decide +kernel
theorem dX1_skipLetters_38 : decode cX1_skipLetters 38 = .ok (.return_, 1) := by decide +kernel
theorem dX1_byteAt_0 : decode cX1_byteAt 0 = .ok (.iload_n 1, 1) := by decide +kernel
theorem dX1_byteAt_1 : decode cX1_byteAt 1 = .ok (.ifCond .lt 27, 3) := by decide +kernel
theorem dX1_byteAt_4 : decode cX1_byteAt 4 = .ok (.iload_n 1, 1) := by decide +kernel
theorem dX1_byteAt_5 : decode cX1_byteAt 5 = .ok (.aload_n 0, 1) := by decide +kernel
theorem dX1_byteAt_6 : decode cX1_byteAt 6 = .ok (.getfield 15, 3) := by decide +kernel
theorem dX1_byteAt_9 : decode cX1_byteAt 9 = .ok (.if_icmp .ge 19, 3) := by decide +kernel
theorem dX1_byteAt_12 : decode cX1_byteAt 12 = .ok (.iload_n 1, 1) := by decide +kernel
theorem dX1_byteAt_13 : decode cX1_byteAt 13 = .ok (.sipush 150, 3) := by decide +kernel
theorem dX1_byteAt_16 : decode cX1_byteAt 16 = .ok (.if_icmp .ge 12, 3) := by decide +kernel
theorem dX1_byteAt_19 : decode cX1_byteAt 19 = .ok (.aload_n 0, 1) := by decide +kernel
theorem dX1_byteAt_20 : decode cX1_byteAt 20 = .ok (.getfield 9, 3) := by decide +kernel
theorem dX1_byteAt_23 : decode cX1_byteAt 23 = .ok (.iload_n 1, 1) := by decide +kernel
theorem dX1_byteAt_24 : decode cX1_byteAt 24 = .ok (.baload, 1) := by decide +kernel
theorem dX1_byteAt_25 : decode cX1_byteAt 25 = .ok (.goto 4, 3) := by decide +kernel
theorem dX1_byteAt_28 : decode cX1_byteAt 28 = .ok (.iconst (-1), 1) := by decide +kernel
theorem dX1_byteAt_29 : decode cX1_byteAt 29 = .ok (.ireturn, 1) := by decide +kernel
theorem dX1_isLetter_0 : decode cX1_isLetter 0 = .ok (.iload_n 0, 1) := by decide +kernel
theorem dX1_isLetter_1 : decode cX1_isLetter 1 = .ok (.bipush 97, 2) := by decide +kernel
theorem dX1_isLetter_3 : decode cX1_isLetter 3 = .ok (.if_icmp .lt 13, 3) := by decide +kernel
theorem dX1_isLetter_6 : decode cX1_isLetter 6 = .ok (.iload_n 0, 1) := by decide +kernel
theorem dX1_isLetter_7 : decode cX1_isLetter 7 = .ok (.bipush 122, 2) := by decide +kernel
theorem dX1_isLetter_9 : decode cX1_isLetter 9 = .ok (.if_icmp .gt 7, 3) := by decide +kernel
theorem dX1_isLetter_12 : decode cX1_isLetter 12 = .ok (.iconst 1, 1) := by decide +kernel
theorem dX1_isLetter_13 : decode cX1_isLetter 13 = .ok (.goto 4, 3) := by decide +kernel
theorem dX1_isLetter_16 : decode cX1_isLetter 16 = .ok (.iconst 0, 1) := by decide +kernel
theorem dX1_isLetter_17 : decode cX1_isLetter 17 = .ok (.ireturn, 1) := by decide +kernel
theorem dX1_isDigit_0 : decode cX1_isDigit 0 = .ok (.iload_n 0, 1) := by decide +kernel
theorem dX1_isDigit_1 : decode cX1_isDigit 1 = .ok (.bipush 48, 2) := by decide +kernel
theorem dX1_isDigit_3 : decode cX1_isDigit 3 = .ok (.if_icmp .lt 13, 3) := by decide +kernel
theorem dX1_isDigit_6 : decode cX1_isDigit 6 = .ok (.iload_n 0, 1) := by decide +kernel
theorem dX1_isDigit_7 : decode cX1_isDigit 7 = .ok (.bipush 57, 2) := by decide +kernel
theorem dX1_isDigit_9 : decode cX1_isDigit 9 = .ok (.if_icmp .gt 7, 3) := by decide +kernel
theorem dX1_isDigit_12 : decode cX1_isDigit 12 = .ok (.iconst 1, 1) := by decide +kernel
theorem dX1_isDigit_13 : decode cX1_isDigit 13 = .ok (.goto 4, 3) := by decide +kernel
theorem dX1_isDigit_16 : decode cX1_isDigit 16 = .ok (.iconst 0, 1) := by decide +kernel
theorem dX1_isDigit_17 : decode cX1_isDigit 17 = .ok (.ireturn, 1) := by decide +kernel
set_option maxRecDepth 20000 in
theorem ggX2_init_X3_init : GoodIn wsX2_init wsX3_init := goodIn_r _ [9, 10, 2, 3, 11, 12, 13, 14, 15, 16, 20, 21, 22, 23, 24, 25, 26, 27, 28, 29] (by decide +kernel) (by decide +kernel)
set_option maxRecDepth 20000 in
theorem gX2_init_X3_init_n17 : GoodIn wsX2_init (wsX3_init) := ggX2_init_X3_init
theorem dX2_init_0 : decode cX2_init 0 = .ok (.aload_n 0, 1) := by decide +kernel
theorem dX2_init_1 : decode cX2_init 1 = .ok (.invokespecial 3, 3) := by decide +kernel
theorem dX2_init_4 : decode cX2_init 4 = .ok (.aload_n 0, 1) := by decide +kernel
theorem dX2_init_5 : decode cX2_init 5 = .ok (.iconst 4, 1) := by decide +kernel
theorem dX2_init_6 : decode cX2_init 6 = .ok (.anewarray 9, 3) := by decide +kernel
theorem dX2_init_9 : decode cX2_init 9 = .ok (.putfield 11, 3) := by decide +kernel
theorem dX2_init_12 : decode cX2_init 12 = .ok (.iconst 0, 1) := by decide +kernel
theorem dX2_init_13 : decode cX2_init 13 = .ok (.istore_n 1, 1) := by decide +kernel
theorem dX2_init_14 : decode cX2_init 14 = .ok (.iload_n 1, 1) := by decide +kernel
theorem dX2_init_15 : decode cX2_init 15 = .ok (.iconst 4, 1) := by decide +kernel
theorem dX2_init_16 : decode cX2_init 16 = .ok (.if_icmp .ge 22, 3) := by decide +kernel
theorem dX2_init_19 : decode cX2_init 19 = .ok (.aload_n 0, 1) := by decide +kernel
theorem dX2_init_20 : decode cX2_init 20 = .ok (.getfield 11, 3) := by decide +kernel
theorem dX2_init_23 : decode cX2_init 23 = .ok (.iload_n 1, 1) := by decide +kernel
theorem dX2_init_24 : decode cX2_init 24 = .ok (.new 9, 3) := by decide +kernel
theorem dX2_init_27 : decode cX2_init 27 = .ok (.dup, 1) := by decide +kernel
theorem dX2_init_28 : decode cX2_init 28 = .ok (.invokespecial 17, 3) := by decide +kernel
theorem dX2_init_31 : decode cX2_init 31 = .ok (.aastore, 1) := by decide +kernel
theorem dX2_init_32 : decode cX2_init 32 = .ok (.iinc 1 1, 3) := by decide +kernel
theorem dX2_init_35 : decode cX2_init 35 = .ok (.goto (-21), 3) := by decide +kernel
theorem dX2_init_38 : decode cX2_init 38 = .ok (.return_, 1) := by decide +kernel
set_option maxRecDepth 20000 in
theorem ggX2_save_X3_copyFrom : GoodIn wsX2_save wsX3_copyFrom := goodIn_r _ [8, 9, 10, 11, 12, 13, 14, 15, 16, 17, 18, 19, 20, 21, 22, 26, 27, 28, 29, 30, 31, 32, 33, 34, 35] (by decide +kernel) (by decide +kernel)
set_option maxRecDepth 20000 in
theorem gX2_save_X3_copyFrom : GoodIn wsX2_save (wsV RX2 25 RX3 yX3_copyFrom wsX3_copyFrom) := goodIn_app (goodIn_of _ (by decide +kernel)) ggX2_save_X3_copyFrom
theorem dX2_save_0 : decode cX2_save 0 = .ok (.aload_n 0, 1) := by decide +kernel
theorem dX2_save_1 : decode cX2_save 1 = .ok (.getfield 11, 3) := by decide +kernel
theorem dX2_save_4 : decode cX2_save 4 = .ok (.aload_n 0, 1) := by decide +kernel
theorem dX2_save_5 : decode cX2_save 5 = .ok (.getfield 18, 3) := by decide +kernel
theorem dX2_save_8 : decode cX2_save 8 = .ok (.aload_n 0, 1) := by decide +kernel
theorem dX2_save_9 : decode cX2_save 9 = .ok (.getfield 22, 3) := by decide +kernel
theorem dX2_save_12 : decode cX2_save 12 = .ok (.iadd, 1) := by decide +kernel
theorem dX2_save_13 : decode cX2_save 13 = .ok (.iconst 4, 1) := by decide +kernel
theorem dX2_save_14 : decode cX2_save 14 = .ok (.irem, 1) := by decide +kernel
theorem dX2_save_15 : decode cX2_save 15 = .ok (.aaload, 1) := by decide +kernel
theorem dX2_save_16 : decode cX2_save 16 = .ok (.aload_n 1, 1) := by decide +kernel
theorem dX2_save_17 : decode cX2_save 17 = .ok (.invokevirtual 25, 3) := by decide +kernel
theorem dX2_save_20 : decode cX2_save 20 = .ok (.aload_n 0, 1) := by decide +kernel
theorem dX2_save_21 : decode cX2_save 21 = .ok (.getfield 22, 3) := by decide +kernel
theorem dX2_save_24 : decode cX2_save 24 = .ok (.iconst 4, 1) := by decide +kernel
theorem dX2_save_25 : decode cX2_save 25 = .ok (.if_icmp .ge 16, 3) := by decide +kernel
theorem dX2_save_28 : decode cX2_save 28 = .ok (.aload_n 0, 1) := by decide +kernel
theorem dX2_save_29 : decode cX2_save 29 = .ok (.dup, 1) := by decide +kernel
theorem dX2_save_30 : decode cX2_save 30 = .ok (.getfield 22, 3) := by decide +kernel
theorem dX2_save_33 : decode cX2_save 33 = .ok (.iconst 1, 1) := by decide +kernel
theorem dX2_save_34 : decode cX2_save 34 = .ok (.iadd, 1) := by decide +kernel
theorem dX2_save_35 : decode cX2_save 35 = .ok (.putfield 22, 3) := by decide +kernel
theorem dX2_save_38 : decode cX2_save 38 = .ok (.goto 15, 3) := by decide +kernel
theorem dX2_save_41 : decode cX2_save 41 = .ok (.aload_n 0, 1) := by decide +kernel
theorem dX2_save_42 : decode cX2_save 42 = .ok (.aload_n 0, 1) := by decide +kernel
theorem dX2_save_43 : decode cX2_save 43 = .ok (.getfield 18, 3) := by decide +kernel
theorem dX2_save_46 : decode cX2_save 46 = .ok (.iconst 1, 1) := by decide +kernel
theorem dX2_save_47 : decode cX2_save 47 = .ok (.iadd, 1) := by decide +kernel
theorem dX2_save_48 : decode cX2_save 48 = .ok (.iconst 4, 1) := by decide +kernel
theorem dX2_save_49 : decode cX2_save 49 = .ok (.irem, 1) := by decide +kernel
theorem dX2_save_50 : decode cX2_save 50 = .ok (.putfield 18, 3) := by decide +kernel
theorem dX2_save_53 : decode cX2_save 53 = .ok (.return_, 1) := by decide +kernel
set_option maxRecDepth 20000 in
theorem ggX2_restoreLatest_X3_copyFrom : GoodIn wsX2_restoreLatest wsX3_copyFrom := goodIn_r _ [8, 9, 10, 11, 12, 13, 14, 15, 16, 17, 18, 19, 20, 21, 22, 26, 27, 28, 29, 30, 31, 32, 33, 34, 35] (by decide +kernel) (by decide +kernel)
set_option maxRecDepth 20000 in
theorem gX2_restoreLatest_X3_copyFrom : GoodIn wsX2_restoreLatest (wsV RX2 25 RX3 yX3_copyFrom wsX3_copyFrom) := goodIn_app (goodIn_of _ (by decide +kernel)) ggX2_restoreLatest_X3_copyFrom
theorem dX2_restoreLatest_0 : decode cX2_restoreLatest 0 = .ok (.aload_n 0, 1) := by decide +kernel
theorem dX2_restoreLatest_1 : decode cX2_restoreLatest 1 = .ok (.getfield 22, 3) := by decide +kernel
theorem dX2_restoreLatest_4 : decode cX2_restoreLatest 4 = .ok (.ifCond .ne 4, 3) := by decide +kernel
theorem dX2_restoreLatest_7 : decode cX2_restoreLatest 7 = .ok (.return_, 1) := by decide +kernel
theorem dX2_restoreLatest_8 : decode cX2_restoreLatest 8 = .ok (.aload_n 0, 1) := by decide +kernel
theorem dX2_restoreLatest_9 : decode cX2_restoreLatest 9 = .ok (.dup, 1) := by decide +kernel
theorem dX2_restoreLatest_10 : decode cX2_restoreLatest 10 = .ok (.getfield 22, 3) := by decide +kernel
theorem dX2_restoreLatest_13 : decode cX2_restoreLatest 13 = .ok (.iconst 1, 1) := by decide +kernel
theorem dX2_restoreLatest_14 : decode cX2_restoreLatest 14 = .ok (.isub, 1) := by decide +kernel
theorem dX2_restoreLatest_15 : decode cX2_restoreLatest 15 = .ok (.putfield 22, 3) := by decide +kernel
theorem dX2_restoreLatest_18 : decode cX2_restoreLatest 18 = .ok (.aload_n 1, 1) := by decide +kernel
theorem dX2_restoreLatest_19 : decode cX2_restoreLatest 19 = .ok (.aload_n 0, 1) := by decide +kernel
theorem dX2_restoreLatest_20 : decode cX2_restoreLatest 20 = .ok (.getfield 11, 3) := by decide +kernel
theorem dX2_restoreLatest_23 : decode cX2_restoreLatest 23 = .ok (.aload_n 0, 1) := by decide +kernel
theorem dX2_restoreLatest_24 : decode cX2_restoreLatest 24 = .ok (.getfield 18, 3) := by decide +kernel
theorem dX2_restoreLatest_27 : decode cX2_restoreLatest 27 = .ok (.aload_n 0, 1) := by decide +kernel
theorem dX2_restoreLatest_28 : decode cX2_restoreLatest 28 = .ok (.getfield 22, 3) := by decide +kernel
theorem dX2_restoreLatest_31 : decode cX2_restoreLatest 31 = .ok (.iadd, 1) := by decide +kernel
theorem dX2_restoreLatest_32 : decode cX2_restoreLatest 32 = .ok (.iconst 4, 1) := by decide +kernel
theorem dX2_restoreLatest_33 : decode cX2_restoreLatest 33 = .ok (.irem, 1) := by decide +kernel
theorem dX2_restoreLatest_34 : decode cX2_restoreLatest 34 = .ok (.aaload, 1) := by decide +kernel
theorem dX2_restoreLatest_35 : decode cX2_restoreLatest 35 = .ok (.invokevirtual 25, 3) := by decide +kernel
theorem dX2_restoreLatest_38 : decode cX2_restoreLatest 38 = .ok (.return_, 1) := by decide +kernel
theorem dX3_init_0 : decode cX3_init 0 = .ok (.aload_n 0, 1) := by decide +kernel
theorem dX3_init_1 : decode cX3_init 1 = .ok (.invokespecial 3, 3) := by decide +kernel
theorem dX3_init_4 : decode cX3_init 4 = .ok (.aload_n 0, 1) := by decide +kernel
theorem dX3_init_5 : decode cX3_init 5 = .ok (.bipush 32, 2) := by decide +kernel
theorem dX3_init_7 : decode cX3_init 7 = .ok (.newarray .long, 2) := by decide +kernel
theorem dX3_init_9 : decode cX3_init 9 = .ok (.putfield 9, 3) := by decide +kernel
theorem dX3_init_12 : decode cX3_init 12 = .ok (.aload_n 0, 1) := by decide +kernel
theorem dX3_init_13 : decode cX3_init 13 = .ok (.bipush 32, 2) := by decide +kernel
theorem dX3_init_15 : decode cX3_init 15 = .ok (.newarray .int, 2) := by decide +kernel
theorem dX3_init_17 : decode cX3_init 17 = .ok (.putfield 15, 3) := by decide +kernel
theorem dX3_init_20 : decode cX3_init 20 = .ok (.aload_n 0, 1) := by decide +kernel
theorem dX3_init_21 : decode cX3_init 21 = .ok (.bipush 32, 2) := by decide +kernel
theorem dX3_init_23 : decode cX3_init 23 = .ok (.newarray .int, 2) := by decide +kernel
theorem dX3_init_25 : decode cX3_init 25 = .ok (.putfield 19, 3) := by decide +kernel
theorem dX3_init_28 : decode cX3_init 28 = .ok (.aload_n 0, 1) := by decide +kernel
theorem dX3_init_29 : decode cX3_init 29 = .ok (.iconst 2, 1) := by decide +kernel
theorem dX3_init_30 : decode cX3_init 30 = .ok (.putfield 22, 3) := by decide +kernel
theorem dX3_init_33 : decode cX3_init 33 = .ok (.return_, 1) := by decide +kernel
theorem dX3_copyFrom_0 : decode cX3_copyFrom 0 = .ok (.aload_n 1, 1) := by decide +kernel
theorem dX3_copyFrom_1 : decode cX3_copyFrom 1 = .ok (.getfield 9, 3) := by decide +kernel
theorem dX3_copyFrom_4 : decode cX3_copyFrom 4 = .ok (.iconst 0, 1) := by decide +kernel
theorem dX3_copyFrom_5 : decode cX3_copyFrom 5 = .ok (.aload_n 0, 1) := by decide +kernel
theorem dX3_copyFrom_6 : decode cX3_copyFrom 6 = .ok (.getfield 9, 3) := by decide +kernel
theorem dX3_copyFrom_9 : decode cX3_copyFrom 9 = .ok (.iconst 0, 1) := by decide +kernel
theorem dX3_copyFrom_10 : decode cX3_copyFrom 10 = .ok (.bipush 32, 2) := by decide +kernel
theorem dX3_copyFrom_12 : decode cX3_copyFrom 12 = .ok (.invokestatic 26, 3) := by decide +kernel
theorem dX3_copyFrom_15 : decode cX3_copyFrom 15 = .ok (.aload_n 1, 1) := by decide +kernel
theorem dX3_copyFrom_16 : decode cX3_copyFrom 16 = .ok (.getfield 15, 3) := by decide +kernel
theorem dX3_copyFrom_19 : decode cX3_copyFrom 19 = .ok (.iconst 0, 1) := by decide +kernel
theorem dX3_copyFrom_20 : decode cX3_copyFrom 20 = .ok (.aload_n 0, 1) := by decide +kernel
theorem dX3_copyFrom_21 : decode cX3_copyFrom 21 = .ok (.getfield 15, 3) := by decide +kernel
theorem dX3_copyFrom_24 : decode cX3_copyFrom 24 = .ok (.iconst 0, 1) := by decide +kernel
theorem dX3_copyFrom_25 : decode cX3_copyFrom 25 = .ok (.bipush 32, 2) := by decide +kernel
theorem dX3_copyFrom_27 : decode cX3_copyFrom 27 = .ok (.invokestatic 26, 3) := by decide +kernel
theorem dX3_copyFrom_30 : decode cX3_copyFrom 30 = .ok (.aload_n 1, 1) := by decide +kernel
theorem dX3_copyFrom_31 : decode cX3_copyFrom 31 = .ok (.getfield 19, 3) := by decide +kernel
theorem dX3_copyFrom_34 : decode cX3_copyFrom 34 = .ok (.iconst 0, 1) := by decide +kernel
theorem dX3_copyFrom_35 : decode cX3_copyFrom 35 = .ok (.aload_n 0, 1) := by decide +kernel
theorem dX3_copyFrom_36 : decode cX3_copyFrom 36 = .ok (.getfield 19, 3) := by decide +kernel
theorem dX3_copyFrom_39 : decode cX3_copyFrom 39 = .ok (.iconst 0, 1) := by decide +kernel
theorem dX3_copyFrom_40 : decode cX3_copyFrom 40 = .ok (.bipush 32, 2) := by decide +kernel
theorem dX3_copyFrom_42 : decode cX3_copyFrom 42 = .ok (.invokestatic 26, 3) := by decide +kernel
theorem dX3_copyFrom_45 : decode cX3_copyFrom 45 = .ok (.aload_n 0, 1) := by decide +kernel
theorem dX3_copyFrom_46 : decode cX3_copyFrom 46 = .ok (.aload_n 1, 1) := by decide +kernel
theorem dX3_copyFrom_47 : decode cX3_copyFrom 47 = .ok (.getfield 32, 3) := by decide +kernel
theorem dX3_copyFrom_50 : decode cX3_copyFrom 50 = .ok (.putfield 32, 3) := by decide +kernel
theorem dX3_copyFrom_53 : decode cX3_copyFrom 53 = .ok (.aload_n 0, 1) := by decide +kernel
theorem dX3_copyFrom_54 : decode cX3_copyFrom 54 = .ok (.aload_n 1, 1) := by decide +kernel
theorem dX3_copyFrom_55 : decode cX3_copyFrom 55 = .ok (.getfield 22, 3) := by decide +kernel
theorem dX3_copyFrom_58 : decode cX3_copyFrom 58 = .ok (.putfield 22, 3) := by decide +kernel
theorem dX3_copyFrom_61 : decode cX3_copyFrom 61 = .ok (.aload_n 0, 1) := by decide +kernel
theorem dX3_copyFrom_62 : decode cX3_copyFrom 62 = .ok (.aload_n 1, 1) := by decide +kernel
theorem dX3_copyFrom_63 : decode cX3_copyFrom 63 = .ok (.getfield 35, 3) := by decide +kernel
theorem dX3_copyFrom_66 : decode cX3_copyFrom 66 = .ok (.putfield 35, 3) := by decide +kernel
theorem dX3_copyFrom_69 : decode cX3_copyFrom 69 = .ok (.aload_n 0, 1) := by decide +kernel
theorem dX3_copyFrom_70 : decode cX3_copyFrom 70 = .ok (.aload_n 1, 1) := by decide +kernel
theorem dX3_copyFrom_71 : decode cX3_copyFrom 71 = .ok (.getfield 39, 3) := by decide +kernel
theorem dX3_copyFrom_74 : decode cX3_copyFrom 74 = .ok (.putfield 39, 3) := by decide +kernel
theorem dX3_copyFrom_77 : decode cX3_copyFrom 77 = .ok (.aload_n 0, 1) := by decide +kernel
theorem dX3_copyFrom_78 : decode cX3_copyFrom 78 = .ok (.aload_n 1, 1) := by decide +kernel
theorem dX3_copyFrom_79 : decode cX3_copyFrom 79 = .ok (.getfield 42, 3) := by decide +kernel
theorem dX3_copyFrom_82 : decode cX3_copyFrom 82 = .ok (.putfield 42, 3) := by decide +kernel
theorem dX3_copyFrom_85 : decode cX3_copyFrom 85 = .ok (.aload_n 0, 1) := by decide +kernel
theorem dX3_copyFrom_86 : decode cX3_copyFrom 86 = .ok (.aload_n 1, 1) := by decide +kernel
theorem dX3_copyFrom_87 : decode cX3_copyFrom 87 = .ok (.getfield 45, 3) := by decide +kernel
theorem dX3_copyFrom_90 : decode cX3_copyFrom 90 = .ok (.putfield 45, 3) := by decide +kernel
theorem dX3_copyFrom_93 : decode cX3_copyFrom 93 = .ok (.aload_n 0, 1) := by decide +kernel
theorem dX3_copyFrom_94 : decode cX3_copyFrom 94 = .ok (.aload_n 1, 1) := by decide +kernel
theorem dX3_copyFrom_95 : decode cX3_copyFrom 95 = .ok (.getfield 48, 3) := by decide +kernel
theorem dX3_copyFrom_98 : decode cX3_copyFrom 98 = .ok (.putfield 48, 3) := by decide +kernel
theorem dX3_copyFrom_101 : decode cX3_copyFrom 101 = .ok (.return_, 1) := by decide +kernel
theorem dX3_hasRoom_0 : decode cX3_hasRoom 0 = .ok (.aload_n 0, 1) := by decide +kernel
theorem dX3_hasRoom_1 : decode cX3_hasRoom 1 = .ok (.getfield 32, 3) := by decide +kernel
theorem dX3_hasRoom_4 : decode cX3_hasRoom 4 = .ok (.bipush 32, 2) := by decide +kernel
theorem dX3_hasRoom_6 : decode cX3_hasRoom 6 = .ok (.if_icmp .ge 7, 3) := by decide +kernel
theorem dX3_hasRoom_9 : decode cX3_hasRoom 9 = .ok (.iconst 1, 1) := by decide +kernel
theorem dX3_hasRoom_10 : decode cX3_hasRoom 10 = .ok (.goto 4, 3) := by decide +kernel
theorem dX3_hasRoom_13 : decode cX3_hasRoom 13 = .ok (.iconst 0, 1) := by decide +kernel
theorem dX3_hasRoom_14 : decode cX3_hasRoom 14 = .ok (.ireturn, 1) := by decide +kernel
theorem dX3_isPlace_0 : decode cX3_isPlace 0 = .ok (.iload_n 1, 1) := by decide +kernel
theorem dX3_isPlace_1 : decode cX3_isPlace 1 = .ok (.ifCond .lt 15, 3) := by decide +kernel
theorem dX3_isPlace_4 : decode cX3_isPlace 4 = .ok (.iload_n 1, 1) := by decide +kernel
theorem dX3_isPlace_5 : decode cX3_isPlace 5 = .ok (.aload_n 0, 1) := by decide +kernel
theorem dX3_isPlace_6 : decode cX3_isPlace 6 = .ok (.getfield 32, 3) := by decide +kernel
theorem dX3_isPlace_9 : decode cX3_isPlace 9 = .ok (.if_icmp .ge 7, 3) := by decide +kernel
theorem dX3_isPlace_12 : decode cX3_isPlace 12 = .ok (.iconst 1, 1) := by decide +kernel
theorem dX3_isPlace_13 : decode cX3_isPlace 13 = .ok (.goto 4, 3) := by decide +kernel
theorem dX3_isPlace_16 : decode cX3_isPlace 16 = .ok (.iconst 0, 1) := by decide +kernel
theorem dX3_isPlace_17 : decode cX3_isPlace 17 = .ok (.ireturn, 1) := by decide +kernel
theorem dX3_hasNext_0 : decode cX3_hasNext 0 = .ok (.iload_n 1, 1) := by decide +kernel
theorem dX3_hasNext_1 : decode cX3_hasNext 1 = .ok (.ifCond .lt 17, 3) := by decide +kernel
theorem dX3_hasNext_4 : decode cX3_hasNext 4 = .ok (.iload_n 1, 1) := by decide +kernel
theorem dX3_hasNext_5 : decode cX3_hasNext 5 = .ok (.aload_n 0, 1) := by decide +kernel
theorem dX3_hasNext_6 : decode cX3_hasNext 6 = .ok (.getfield 32, 3) := by decide +kernel
theorem dX3_hasNext_9 : decode cX3_hasNext 9 = .ok (.iconst 1, 1) := by decide +kernel
theorem dX3_hasNext_10 : decode cX3_hasNext 10 = .ok (.isub, 1) := by decide +kernel
theorem dX3_hasNext_11 : decode cX3_hasNext 11 = .ok (.if_icmp .ge 7, 3) := by decide +kernel
theorem dX3_hasNext_14 : decode cX3_hasNext 14 = .ok (.iconst 1, 1) := by decide +kernel
theorem dX3_hasNext_15 : decode cX3_hasNext 15 = .ok (.goto 4, 3) := by decide +kernel
theorem dX3_hasNext_18 : decode cX3_hasNext 18 = .ok (.iconst 0, 1) := by decide +kernel
theorem dX3_hasNext_19 : decode cX3_hasNext 19 = .ok (.ireturn, 1) := by decide +kernel
theorem dX3_canOpen_0 : decode cX3_canOpen 0 = .ok (.iload_n 1, 1) := by decide +kernel
theorem dX3_canOpen_1 : decode cX3_canOpen 1 = .ok (.ifCond .lt 15, 3) := by decide +kernel
theorem dX3_canOpen_4 : decode cX3_canOpen 4 = .ok (.iload_n 1, 1) := by decide +kernel
theorem dX3_canOpen_5 : decode cX3_canOpen 5 = .ok (.aload_n 0, 1) := by decide +kernel
theorem dX3_canOpen_6 : decode cX3_canOpen 6 = .ok (.getfield 32, 3) := by decide +kernel
theorem dX3_canOpen_9 : decode cX3_canOpen 9 = .ok (.if_icmp .gt 7, 3) := by decide +kernel
theorem dX3_canOpen_12 : decode cX3_canOpen 12 = .ok (.iconst 1, 1) := by decide +kernel
theorem dX3_canOpen_13 : decode cX3_canOpen 13 = .ok (.goto 4, 3) := by decide +kernel
theorem dX3_canOpen_16 : decode cX3_canOpen 16 = .ok (.iconst 0, 1) := by decide +kernel
theorem dX3_canOpen_17 : decode cX3_canOpen 17 = .ok (.ireturn, 1) := by decide +kernel
theorem dX3_isBound_0 : decode cX3_isBound 0 = .ok (.iload_n 1, 1) := by decide +kernel
theorem dX3_isBound_1 : decode cX3_isBound 1 = .ok (.ifCond .lt 13, 3) := by decide +kernel
theorem dX3_isBound_4 : decode cX3_isBound 4 = .ok (.iload_n 1, 1) := by decide +kernel
theorem dX3_isBound_5 : decode cX3_isBound 5 = .ok (.bipush 31, 2) := by decide +kernel
theorem dX3_isBound_7 : decode cX3_isBound 7 = .ok (.if_icmp .gt 7, 3) := by decide +kernel
theorem dX3_isBound_10 : decode cX3_isBound 10 = .ok (.iconst 1, 1) := by decide +kernel
theorem dX3_isBound_11 : decode cX3_isBound 11 = .ok (.goto 4, 3) := by decide +kernel
theorem dX3_isBound_14 : decode cX3_isBound 14 = .ok (.iconst 0, 1) := by decide +kernel
theorem dX3_isBound_15 : decode cX3_isBound 15 = .ok (.ireturn, 1) := by decide +kernel
theorem dX3_isAhead_0 : decode cX3_isAhead 0 = .ok (.aload_n 0, 1) := by decide +kernel
theorem dX3_isAhead_1 : decode cX3_isAhead 1 = .ok (.getfield 35, 3) := by decide +kernel
theorem dX3_isAhead_4 : decode cX3_isAhead 4 = .ok (.ifCond .eq 17, 3) := by decide +kernel
theorem dX3_isAhead_7 : decode cX3_isAhead 7 = .ok (.lload_n 1, 1) := by decide +kernel
theorem dX3_isAhead_8 : decode cX3_isAhead 8 = .ok (.lload_n 3, 1) := by decide +kernel
theorem dX3_isAhead_9 : decode cX3_isAhead 9 = .ok (.lcmp, 1) := by decide +kernel
theorem dX3_isAhead_10 : decode cX3_isAhead 10 = .ok (.ifCond .le 7, 3) := by decide +kernel
theorem dX3_isAhead_13 : decode cX3_isAhead 13 = .ok (.iconst 1, 1) := by decide +kernel
theorem dX3_isAhead_14 : decode cX3_isAhead 14 = .ok (.goto 18, 3) := by decide +kernel
theorem dX3_isAhead_17 : decode cX3_isAhead 17 = .ok (.iconst 0, 1) := by decide +kernel
theorem dX3_isAhead_18 : decode cX3_isAhead 18 = .ok (.goto 14, 3) := by decide +kernel
theorem dX3_isAhead_21 : decode cX3_isAhead 21 = .ok (.lload_n 1, 1) := by decide +kernel
theorem dX3_isAhead_22 : decode cX3_isAhead 22 = .ok (.lload_n 3, 1) := by decide +kernel
theorem dX3_isAhead_23 : decode cX3_isAhead 23 = .ok (.lcmp, 1) := by decide +kernel
theorem dX3_isAhead_24 : decode cX3_isAhead 24 = .ok (.ifCond .ge 7, 3) := by decide +kernel
theorem dX3_isAhead_27 : decode cX3_isAhead 27 = .ok (.iconst 1, 1) := by decide +kernel
theorem dX3_isAhead_28 : decode cX3_isAhead 28 = .ok (.goto 4, 3) := by decide +kernel
theorem dX3_isAhead_31 : decode cX3_isAhead 31 = .ok (.iconst 0, 1) := by decide +kernel
theorem dX3_isAhead_32 : decode cX3_isAhead 32 = .ok (.ireturn, 1) := by decide +kernel
set_option maxRecDepth 20000 in
theorem ggX3_distance_X3_isPlace : GoodIn wsX3_distance wsX3_isPlace := goodIn_r _ [6, 7, 8, 9, 10, 11, 12, 13, 14, 15, 16, 17] (by decide +kernel) (by decide +kernel)
set_option maxRecDepth 20000 in
theorem gX3_distance_X3_isPlace : GoodIn wsX3_distance (wsV RX3 51 RX3 yX3_isPlace wsX3_isPlace) := goodIn_app (goodIn_of _ (by decide +kernel)) ggX3_distance_X3_isPlace
theorem dX3_distance_0 : decode cX3_distance 0 = .ok (.aload_n 0, 1) := by decide +kernel
theorem dX3_distance_1 : decode cX3_distance 1 = .ok (.iload_n 1, 1) := by decide +kernel
theorem dX3_distance_2 : decode cX3_distance 2 = .ok (.invokevirtual 51, 3) := by decide +kernel
theorem dX3_distance_5 : decode cX3_distance 5 = .ok (.ifCond .eq 14, 3) := by decide +kernel
theorem dX3_distance_8 : decode cX3_distance 8 = .ok (.iload_n 1, 1) := by decide +kernel
theorem dX3_distance_9 : decode cX3_distance 9 = .ok (.aload_n 0, 1) := by decide +kernel
theorem dX3_distance_10 : decode cX3_distance 10 = .ok (.getfield 19, 3) := by decide +kernel
theorem dX3_distance_13 : decode cX3_distance 13 = .ok (.iload_n 1, 1) := by decide +kernel
theorem dX3_distance_14 : decode cX3_distance 14 = .ok (.iaload, 1) := by decide +kernel
theorem dX3_distance_15 : decode cX3_distance 15 = .ok (.isub, 1) := by decide +kernel
theorem dX3_distance_16 : decode cX3_distance 16 = .ok (.goto 4, 3) := by decide +kernel
theorem dX3_distance_19 : decode cX3_distance 19 = .ok (.iconst 0, 1) := by decide +kernel
theorem dX3_distance_20 : decode cX3_distance 20 = .ok (.ireturn, 1) := by decide +kernel
set_option maxRecDepth 20000 in
theorem ggX3_isBroken_X3_distance : GoodIn wsX3_isBroken wsX3_distance := goodIn_r _ [10, 11, 12, 13, 14, 9, 15, 16, 17, 18, 19, 20, 21, 22, 23, 24, 25, 26] (by decide +kernel) (by decide +kernel)
set_option maxRecDepth 20000 in
theorem gX3_isBroken_X3_distance : GoodIn wsX3_isBroken (wsV RX3 55 RX3 yX3_distance wsX3_distance) := goodIn_app (goodIn_of _ (by decide +kernel)) ggX3_isBroken_X3_distance
theorem dX3_isBroken_0 : decode cX3_isBroken 0 = .ok (.aload_n 0, 1) := by decide +kernel
theorem dX3_isBroken_1 : decode cX3_isBroken 1 = .ok (.iload_n 1, 1) := by decide +kernel
theorem dX3_isBroken_2 : decode cX3_isBroken 2 = .ok (.invokevirtual 55, 3) := by decide +kernel
theorem dX3_isBroken_5 : decode cX3_isBroken 5 = .ok (.invokestatic 59, 3) := by decide +kernel
theorem dX3_isBroken_8 : decode cX3_isBroken 8 = .ok (.aload_n 0, 1) := by decide +kernel
theorem dX3_isBroken_9 : decode cX3_isBroken 9 = .ok (.getfield 22, 3) := by decide +kernel
theorem dX3_isBroken_12 : decode cX3_isBroken 12 = .ok (.if_icmp .le 7, 3) := by decide +kernel
theorem dX3_isBroken_15 : decode cX3_isBroken 15 = .ok (.iconst 1, 1) := by decide +kernel
theorem dX3_isBroken_16 : decode cX3_isBroken 16 = .ok (.goto 4, 3) := by decide +kernel
theorem dX3_isBroken_19 : decode cX3_isBroken 19 = .ok (.iconst 0, 1) := by decide +kernel
theorem dX3_isBroken_20 : decode cX3_isBroken 20 = .ok (.ireturn, 1) := by decide +kernel
set_option maxRecDepth 20000 in
theorem ggX3_isFall_X3_hasNext : GoodIn wsX3_isFall wsX3_hasNext := goodIn_r _ [6, 7, 13, 14, 15, 16, 17, 18, 19, 20, 21, 22] (by decide +kernel) (by decide +kernel)
set_option maxRecDepth 20000 in
theorem gX3_isFall_X3_hasNext : GoodIn wsX3_isFall (wsV RX3 64 RX3 yX3_hasNext wsX3_hasNext) := goodIn_app (goodIn_of _ (by decide +kernel)) ggX3_isFall_X3_hasNext
set_option maxRecDepth 20000 in
theorem ggX3_isFall_X3_isAhead : GoodIn wsX3_isFall wsX3_isAhead := goodIn_r _ [11, 12, 13, 14, 15, 16, 17, 18, 19, 20, 21, 22] (by decide +kernel) (by decide +kernel)
set_option maxRecDepth 20000 in
theorem gX3_isFall_X3_isAhead : GoodIn wsX3_isFall (wsV RX3 67 RX3 yX3_isAhead wsX3_isAhead) := goodIn_app (goodIn_of _ (by decide +kernel)) ggX3_isFall_X3_isAhead
theorem dX3_isFall_0 : decode cX3_isFall 0 = .ok (.aload_n 0, 1) := by decide +kernel
theorem dX3_isFall_1 : decode cX3_isFall 1 = .ok (.iload_n 1, 1) := by decide +kernel
theorem dX3_isFall_2 : decode cX3_isFall 2 = .ok (.invokevirtual 64, 3) := by decide +kernel
theorem dX3_isFall_5 : decode cX3_isFall 5 = .ok (.ifCond .eq 28, 3) := by decide +kernel
theorem dX3_isFall_8 : decode cX3_isFall 8 = .ok (.aload_n 0, 1) := by decide +kernel
theorem dX3_isFall_9 : decode cX3_isFall 9 = .ok (.aload_n 0, 1) := by decide +kernel
theorem dX3_isFall_10 : decode cX3_isFall 10 = .ok (.getfield 9, 3) := by decide +kernel
theorem dX3_isFall_13 : decode cX3_isFall 13 = .ok (.iload_n 1, 1) := by decide +kernel
theorem dX3_isFall_14 : decode cX3_isFall 14 = .ok (.iconst 1, 1) := by decide +kernel
theorem dX3_isFall_15 : decode cX3_isFall 15 = .ok (.iadd, 1) := by decide +kernel
theorem dX3_isFall_16 : decode cX3_isFall 16 = .ok (.laload, 1) := by decide +kernel
theorem dX3_isFall_17 : decode cX3_isFall 17 = .ok (.aload_n 0, 1) := by decide +kernel
theorem dX3_isFall_18 : decode cX3_isFall 18 = .ok (.getfield 9, 3) := by decide +kernel
theorem dX3_isFall_21 : decode cX3_isFall 21 = .ok (.iload_n 1, 1) := by decide +kernel
theorem dX3_isFall_22 : decode cX3_isFall 22 = .ok (.laload, 1) := by decide +kernel
theorem dX3_isFall_23 : decode cX3_isFall 23 = .ok (.invokevirtual 67, 3) := by decide +kernel
theorem dX3_isFall_26 : decode cX3_isFall 26 = .ok (.ifCond .eq 7, 3) := by decide +kernel
theorem dX3_isFall_29 : decode cX3_isFall 29 = .ok (.iconst 1, 1) := by decide +kernel
theorem dX3_isFall_30 : decode cX3_isFall 30 = .ok (.goto 4, 3) := by decide +kernel
theorem dX3_isFall_33 : decode cX3_isFall 33 = .ok (.iconst 0, 1) := by decide +kernel
theorem dX3_isFall_34 : decode cX3_isFall 34 = .ok (.ireturn, 1) := by decide +kernel
set_option maxRecDepth 20000 in
theorem ggX3_insertElement_X3_hasRoom : GoodIn wsX3_insertElement wsX3_hasRoom := goodIn_r _ [9, 1, 28, 29, 30, 31, 32, 33, 34, 35, 36, 37] (by decide +kernel) (by decide +kernel)
set_option maxRecDepth 20000 in
theorem gX3_insertElement_X3_hasRoom : GoodIn wsX3_insertElement (wsV RX3 71 RX3 yX3_hasRoom wsX3_hasRoom) := goodIn_app (goodIn_of _ (by decide +kernel)) ggX3_insertElement_X3_hasRoom
set_option maxRecDepth 20000 in
theorem ggX3_insertElement_X3_canOpen : GoodIn wsX3_insertElement wsX3_canOpen := goodIn_r _ [13, 1, 28, 29, 30, 31, 32, 33, 34, 35, 36, 37] (by decide +kernel) (by decide +kernel)
set_option maxRecDepth 20000 in
theorem gX3_insertElement_X3_canOpen : GoodIn wsX3_insertElement (wsV RX3 75 RX3 yX3_canOpen wsX3_canOpen) := goodIn_app (goodIn_of _ (by decide +kernel)) ggX3_insertElement_X3_canOpen
set_option maxRecDepth 20000 in
theorem ggX3_insertElement_X3_refreshRanks : GoodIn wsX3_insertElement wsX3_refreshRanks := goodIn_r _ [17, 1, 18, 19, 20, 21, 8, 22, 2, 23, 24, 25, 26, 27, 28, 29, 30, 31, 32, 33, 34, 35, 36, 37] (by decide +kernel) (by decide +kernel)
set_option maxRecDepth 20000 in
theorem gX3_insertElement_X3_refreshRanks : GoodIn wsX3_insertElement (wsV RX3 78 RX3 yX3_refreshRanks wsX3_refreshRanks) := goodIn_app (goodIn_of _ (by decide +kernel)) ggX3_insertElement_X3_refreshRanks
theorem dX3_insertElement_0 : decode cX3_insertElement 0 = .ok (.aload_n 0, 1) := by decide +kernel
theorem dX3_insertElement_1 : decode cX3_insertElement 1 = .ok (.invokevirtual 71, 3) := by decide +kernel
theorem dX3_insertElement_4 : decode cX3_insertElement 4 = .ok (.ifCond .eq 11, 3) := by decide +kernel
theorem dX3_insertElement_7 : decode cX3_insertElement 7 = .ok (.aload_n 0, 1) := by decide +kernel
theorem dX3_insertElement_8 : decode cX3_insertElement 8 = .ok (.iload_n 1, 1) := by decide +kernel
theorem dX3_insertElement_9 : decode cX3_insertElement 9 = .ok (.invokevirtual 75, 3) := by decide +kernel
theorem dX3_insertElement_12 : decode cX3_insertElement 12 = .ok (.ifCond .ne 5, 3) := by decide +kernel
theorem dX3_insertElement_15 : decode cX3_insertElement 15 = .ok (.iconst 0, 1) := by decide +kernel
theorem dX3_insertElement_16 : decode cX3_insertElement 16 = .ok (.ireturn, 1) := by decide +kernel
theorem dX3_insertElement_17 : decode cX3_insertElement 17 = .ok (.aload_n 0, 1) := by decide +kernel
theorem dX3_insertElement_18 : decode cX3_insertElement 18 = .ok (.getfield 32, 3) := by decide +kernel
theorem dX3_insertElement_21 : decode cX3_insertElement 21 = .ok (.istore 4, 2) := by decide +kernel
theorem dX3_insertElement_23 : decode cX3_insertElement 23 = .ok (.iload 4, 2) := by decide +kernel
theorem dX3_insertElement_25 : decode cX3_insertElement 25 = .ok (.iload_n 1, 1) := by decide +kernel
theorem dX3_insertElement_26 : decode cX3_insertElement 26 = .ok (.if_icmp .le 41, 3) := by decide +kernel
theorem dX3_insertElement_29 : decode cX3_insertElement 29 = .ok (.aload_n 0, 1) := by decide +kernel
theorem dX3_insertElement_30 : decode cX3_insertElement 30 = .ok (.getfield 9, 3) := by decide +kernel
theorem dX3_insertElement_33 : decode cX3_insertElement 33 = .ok (.iload 4, 2) := by decide +kernel
theorem dX3_insertElement_35 : decode cX3_insertElement 35 = .ok (.aload_n 0, 1) := by decide +kernel
theorem dX3_insertElement_36 : decode cX3_insertElement 36 = .ok (.getfield 9, 3) := by decide +kernel
theorem dX3_insertElement_39 : decode cX3_insertElement 39 = .ok (.iload 4, 2) := by decide +kernel
theorem dX3_insertElement_41 : decode cX3_insertElement 41 = .ok (.iconst 1, 1) := by decide +kernel
theorem dX3_insertElement_42 : decode cX3_insertElement 42 = .ok (.isub, 1) := by decide +kernel
theorem dX3_insertElement_43 : decode cX3_insertElement 43 = .ok (.laload, 1) := by decide +kernel
theorem dX3_insertElement_44 : decode cX3_insertElement 44 = .ok (.lastore, 1) := by decide +kernel
theorem dX3_insertElement_45 : decode cX3_insertElement 45 = .ok (.aload_n 0, 1) := by decide +kernel
theorem dX3_insertElement_46 : decode cX3_insertElement 46 = .ok (.getfield 15, 3) := by decide +kernel
theorem dX3_insertElement_49 : decode cX3_insertElement 49 = .ok (.iload 4, 2) := by decide +kernel
theorem dX3_insertElement_51 : decode cX3_insertElement 51 = .ok (.aload_n 0, 1) := by decide +kernel
theorem dX3_insertElement_52 : decode cX3_insertElement 52 = .ok (.getfield 15, 3) := by decide +kernel
theorem dX3_insertElement_55 : decode cX3_insertElement 55 = .ok (.iload 4, 2) := by decide +kernel
theorem dX3_insertElement_57 : decode cX3_insertElement 57 = .ok (.iconst 1, 1) := by decide +kernel
theorem dX3_insertElement_58 : decode cX3_insertElement 58 = .ok (.isub, 1) := by decide +kernel
theorem dX3_insertElement_59 : decode cX3_insertElement 59 = .ok (.iaload, 1) := by decide +kernel
theorem dX3_insertElement_60 : decode cX3_insertElement 60 = .ok (.iastore, 1) := by decide +kernel
theorem dX3_insertElement_61 : decode cX3_insertElement 61 = .ok (.iinc 4 (-1), 3) := by decide +kernel
theorem dX3_insertElement_64 : decode cX3_insertElement 64 = .ok (.goto (-41), 3) := by decide +kernel
theorem dX3_insertElement_67 : decode cX3_insertElement 67 = .ok (.aload_n 0, 1) := by decide +kernel
theorem dX3_insertElement_68 : decode cX3_insertElement 68 = .ok (.getfield 9, 3) := by decide +kernel
theorem dX3_insertElement_71 : decode cX3_insertElement 71 = .ok (.iload_n 1, 1) := by decide +kernel
theorem dX3_insertElement_72 : decode cX3_insertElement 72 = .ok (.lload_n 2, 1) := by decide +kernel
theorem dX3_insertElement_73 : decode cX3_insertElement 73 = .ok (.lastore, 1) := by decide +kernel
theorem dX3_insertElement_74 : decode cX3_insertElement 74 = .ok (.aload_n 0, 1) := by decide +kernel
theorem dX3_insertElement_75 : decode cX3_insertElement 75 = .ok (.getfield 15, 3) := by decide +kernel
theorem dX3_insertElement_78 : decode cX3_insertElement 78 = .ok (.iload_n 1, 1) := by decide +kernel
theorem dX3_insertElement_79 : decode cX3_insertElement 79 = .ok (.aload_n 0, 1) := by decide +kernel
theorem dX3_insertElement_80 : decode cX3_insertElement 80 = .ok (.getfield 48, 3) := by decide +kernel
theorem dX3_insertElement_83 : decode cX3_insertElement 83 = .ok (.iastore, 1) := by decide +kernel
theorem dX3_insertElement_84 : decode cX3_insertElement 84 = .ok (.aload_n 0, 1) := by decide +kernel
theorem dX3_insertElement_85 : decode cX3_insertElement 85 = .ok (.dup, 1) := by decide +kernel
theorem dX3_insertElement_86 : decode cX3_insertElement 86 = .ok (.getfield 48, 3) := by decide +kernel
theorem dX3_insertElement_89 : decode cX3_insertElement 89 = .ok (.iconst 1, 1) := by decide +kernel
theorem dX3_insertElement_90 : decode cX3_insertElement 90 = .ok (.iadd, 1) := by decide +kernel
theorem dX3_insertElement_91 : decode cX3_insertElement 91 = .ok (.putfield 48, 3) := by decide +kernel
theorem dX3_insertElement_94 : decode cX3_insertElement 94 = .ok (.aload_n 0, 1) := by decide +kernel
theorem dX3_insertElement_95 : decode cX3_insertElement 95 = .ok (.dup, 1) := by decide +kernel
theorem dX3_insertElement_96 : decode cX3_insertElement 96 = .ok (.getfield 32, 3) := by decide +kernel
theorem dX3_insertElement_99 : decode cX3_insertElement 99 = .ok (.iconst 1, 1) := by decide +kernel
theorem dX3_insertElement_100 : decode cX3_insertElement 100 = .ok (.iadd, 1) := by decide +kernel
theorem dX3_insertElement_101 : decode cX3_insertElement 101 = .ok (.putfield 32, 3) := by decide +kernel
theorem dX3_insertElement_104 : decode cX3_insertElement 104 = .ok (.aload_n 0, 1) := by decide +kernel
theorem dX3_insertElement_105 : decode cX3_insertElement 105 = .ok (.invokevirtual 78, 3) := by decide +kernel
theorem dX3_insertElement_108 : decode cX3_insertElement 108 = .ok (.iconst 1, 1) := by decide +kernel
theorem dX3_insertElement_109 : decode cX3_insertElement 109 = .ok (.ireturn, 1) := by decide +kernel
set_option maxRecDepth 20000 in
theorem ggX3_takeOut_X3_isPlace : GoodIn wsX3_takeOut wsX3_isPlace := goodIn_r _ [8, 1, 23, 24, 25, 26, 27, 28, 29, 30, 31, 32] (by decide +kernel) (by decide +kernel)
set_option maxRecDepth 20000 in
theorem gX3_takeOut_X3_isPlace : GoodIn wsX3_takeOut (wsV RX3 51 RX3 yX3_isPlace wsX3_isPlace) := goodIn_app (goodIn_of _ (by decide +kernel)) ggX3_takeOut_X3_isPlace
set_option maxRecDepth 20000 in
theorem ggX3_takeOut_X3_refreshRanks : GoodIn wsX3_takeOut wsX3_refreshRanks := goodIn_r _ [12, 1, 13, 14, 15, 16, 7, 17, 2, 18, 19, 20, 21, 22, 23, 24, 25, 26, 27, 28, 29, 30, 31, 32] (by decide +kernel) (by decide +kernel)
set_option maxRecDepth 20000 in
theorem gX3_takeOut_X3_refreshRanks : GoodIn wsX3_takeOut (wsV RX3 78 RX3 yX3_refreshRanks wsX3_refreshRanks) := goodIn_app (goodIn_of _ (by decide +kernel)) ggX3_takeOut_X3_refreshRanks
theorem dX3_takeOut_0 : decode cX3_takeOut 0 = .ok (.aload_n 0, 1) := by decide +kernel
theorem dX3_takeOut_1 : decode cX3_takeOut 1 = .ok (.iload_n 1, 1) := by decide +kernel
theorem dX3_takeOut_2 : decode cX3_takeOut 2 = .ok (.invokevirtual 51, 3) := by decide +kernel
theorem dX3_takeOut_5 : decode cX3_takeOut 5 = .ok (.ifCond .ne 5, 3) := by decide +kernel
theorem dX3_takeOut_8 : decode cX3_takeOut 8 = .ok (.iconst 0, 1) := by decide +kernel
theorem dX3_takeOut_9 : decode cX3_takeOut 9 = .ok (.ireturn, 1) := by decide +kernel
theorem dX3_takeOut_10 : decode cX3_takeOut 10 = .ok (.aload_n 0, 1) := by decide +kernel
theorem dX3_takeOut_11 : decode cX3_takeOut 11 = .ok (.dup, 1) := by decide +kernel
theorem dX3_takeOut_12 : decode cX3_takeOut 12 = .ok (.getfield 32, 3) := by decide +kernel
theorem dX3_takeOut_15 : decode cX3_takeOut 15 = .ok (.iconst 1, 1) := by decide +kernel
theorem dX3_takeOut_16 : decode cX3_takeOut 16 = .ok (.isub, 1) := by decide +kernel
theorem dX3_takeOut_17 : decode cX3_takeOut 17 = .ok (.putfield 32, 3) := by decide +kernel
theorem dX3_takeOut_20 : decode cX3_takeOut 20 = .ok (.iload_n 1, 1) := by decide +kernel
theorem dX3_takeOut_21 : decode cX3_takeOut 21 = .ok (.istore_n 2, 1) := by decide +kernel
theorem dX3_takeOut_22 : decode cX3_takeOut 22 = .ok (.iload_n 2, 1) := by decide +kernel
theorem dX3_takeOut_23 : decode cX3_takeOut 23 = .ok (.aload_n 0, 1) := by decide +kernel
theorem dX3_takeOut_24 : decode cX3_takeOut 24 = .ok (.getfield 32, 3) := by decide +kernel
theorem dX3_takeOut_27 : decode cX3_takeOut 27 = .ok (.if_icmp .ge 37, 3) := by decide +kernel
theorem dX3_takeOut_30 : decode cX3_takeOut 30 = .ok (.aload_n 0, 1) := by decide +kernel
theorem dX3_takeOut_31 : decode cX3_takeOut 31 = .ok (.getfield 9, 3) := by decide +kernel
theorem dX3_takeOut_34 : decode cX3_takeOut 34 = .ok (.iload_n 2, 1) := by decide +kernel
theorem dX3_takeOut_35 : decode cX3_takeOut 35 = .ok (.aload_n 0, 1) := by decide +kernel
theorem dX3_takeOut_36 : decode cX3_takeOut 36 = .ok (.getfield 9, 3) := by decide +kernel
theorem dX3_takeOut_39 : decode cX3_takeOut 39 = .ok (.iload_n 2, 1) := by decide +kernel
theorem dX3_takeOut_40 : decode cX3_takeOut 40 = .ok (.iconst 1, 1) := by decide +kernel
theorem dX3_takeOut_41 : decode cX3_takeOut 41 = .ok (.iadd, 1) := by decide +kernel
theorem dX3_takeOut_42 : decode cX3_takeOut 42 = .ok (.laload, 1) := by decide +kernel
theorem dX3_takeOut_43 : decode cX3_takeOut 43 = .ok (.lastore, 1) := by decide +kernel
theorem dX3_takeOut_44 : decode cX3_takeOut 44 = .ok (.aload_n 0, 1) := by decide +kernel
theorem dX3_takeOut_45 : decode cX3_takeOut 45 = .ok (.getfield 15, 3) := by decide +kernel
theorem dX3_takeOut_48 : decode cX3_takeOut 48 = .ok (.iload_n 2, 1) := by decide +kernel
theorem dX3_takeOut_49 : decode cX3_takeOut 49 = .ok (.aload_n 0, 1) := by decide +kernel
theorem dX3_takeOut_50 : decode cX3_takeOut 50 = .ok (.getfield 15, 3) := by decide +kernel
theorem dX3_takeOut_53 : decode cX3_takeOut 53 = .ok (.iload_n 2, 1) := by decide +kernel
theorem dX3_takeOut_54 : decode cX3_takeOut 54 = .ok (.iconst 1, 1) := by decide +kernel
theorem dX3_takeOut_55 : decode cX3_takeOut 55 = .ok (.iadd, 1) := by decide +kernel
theorem dX3_takeOut_56 : decode cX3_takeOut 56 = .ok (.iaload, 1) := by decide +kernel
theorem dX3_takeOut_57 : decode cX3_takeOut 57 = .ok (.iastore, 1) := by decide +kernel
theorem dX3_takeOut_58 : decode cX3_takeOut 58 = .ok (.iinc 2 1, 3) := by decide +kernel
theorem dX3_takeOut_61 : decode cX3_takeOut 61 = .ok (.goto (-39), 3) := by decide +kernel
theorem dX3_takeOut_64 : decode cX3_takeOut 64 = .ok (.aload_n 0, 1) := by decide +kernel
theorem dX3_takeOut_65 : decode cX3_takeOut 65 = .ok (.invokevirtual 78, 3) := by decide +kernel
theorem dX3_takeOut_68 : decode cX3_takeOut 68 = .ok (.iconst 1, 1) := by decide +kernel
theorem dX3_takeOut_69 : decode cX3_takeOut 69 = .ok (.ireturn, 1) := by decide +kernel
set_option maxRecDepth 20000 in
theorem ggX3_changeValue_X3_isPlace : GoodIn wsX3_changeValue wsX3_isPlace := goodIn_r _ [6, 7, 22, 23, 24, 25, 26, 27, 28, 29, 30, 31] (by decide +kernel) (by decide +kernel)
set_option maxRecDepth 20000 in
theorem gX3_changeValue_X3_isPlace : GoodIn wsX3_changeValue (wsV RX3 51 RX3 yX3_isPlace wsX3_isPlace) := goodIn_app (goodIn_of _ (by decide +kernel)) ggX3_changeValue_X3_isPlace
set_option maxRecDepth 20000 in
theorem ggX3_changeValue_X3_refreshRanks : GoodIn wsX3_changeValue wsX3_refreshRanks := goodIn_r _ [11, 7, 12, 13, 14, 15, 5, 16, 1, 17, 18, 19, 20, 21, 22, 23, 24, 25, 26, 27, 28, 29, 30, 31] (by decide +kernel) (by decide +kernel)
set_option maxRecDepth 20000 in
theorem gX3_changeValue_X3_refreshRanks : GoodIn wsX3_changeValue (wsV RX3 78 RX3 yX3_refreshRanks wsX3_refreshRanks) := goodIn_app (goodIn_of _ (by decide +kernel)) ggX3_changeValue_X3_refreshRanks
theorem dX3_changeValue_0 : decode cX3_changeValue 0 = .ok (.aload_n 0, 1) := by decide +kernel
theorem dX3_changeValue_1 : decode cX3_changeValue 1 = .ok (.iload_n 1, 1) := by decide +kernel
theorem dX3_changeValue_2 : decode cX3_changeValue 2 = .ok (.invokevirtual 51, 3) := by decide +kernel
theorem dX3_changeValue_5 : decode cX3_changeValue 5 = .ok (.ifCond .ne 5, 3) := by decide +kernel
theorem dX3_changeValue_8 : decode cX3_changeValue 8 = .ok (.iconst 0, 1) := by decide +kernel
theorem dX3_changeValue_9 : decode cX3_changeValue 9 = .ok (.ireturn, 1) := by decide +kernel
theorem dX3_changeValue_10 : decode cX3_changeValue 10 = .ok (.aload_n 0, 1) := by decide +kernel
theorem dX3_changeValue_11 : decode cX3_changeValue 11 = .ok (.getfield 9, 3) := by decide +kernel
theorem dX3_changeValue_14 : decode cX3_changeValue 14 = .ok (.iload_n 1, 1) := by decide +kernel
theorem dX3_changeValue_15 : decode cX3_changeValue 15 = .ok (.lload_n 2, 1) := by decide +kernel
theorem dX3_changeValue_16 : decode cX3_changeValue 16 = .ok (.lastore, 1) := by decide +kernel
theorem dX3_changeValue_17 : decode cX3_changeValue 17 = .ok (.aload_n 0, 1) := by decide +kernel
theorem dX3_changeValue_18 : decode cX3_changeValue 18 = .ok (.invokevirtual 78, 3) := by decide +kernel
theorem dX3_changeValue_21 : decode cX3_changeValue 21 = .ok (.iconst 1, 1) := by decide +kernel
theorem dX3_changeValue_22 : decode cX3_changeValue 22 = .ok (.ireturn, 1) := by decide +kernel
set_option maxRecDepth 20000 in
theorem ggX3_changeBound_X3_isBound : GoodIn wsX3_changeBound wsX3_isBound := goodIn_r _ [6] (by decide +kernel) (by decide +kernel)
set_option maxRecDepth 20000 in
theorem gX3_changeBound_X3_isBound : GoodIn wsX3_changeBound (wsV RX3 81 RX3 yX3_isBound wsX3_isBound) := goodIn_app (goodIn_of _ (by decide +kernel)) ggX3_changeBound_X3_isBound
theorem dX3_changeBound_0 : decode cX3_changeBound 0 = .ok (.aload_n 0, 1) := by decide +kernel
theorem dX3_changeBound_1 : decode cX3_changeBound 1 = .ok (.iload_n 1, 1) := by decide +kernel
theorem dX3_changeBound_2 : decode cX3_changeBound 2 = .ok (.invokevirtual 81, 3) := by decide +kernel
theorem dX3_changeBound_5 : decode cX3_changeBound 5 = .ok (.ifCond .ne 5, 3) := by decide +kernel
theorem dX3_changeBound_8 : decode cX3_changeBound 8 = .ok (.iconst 0, 1) := by decide +kernel
theorem dX3_changeBound_9 : decode cX3_changeBound 9 = .ok (.ireturn, 1) := by decide +kernel
theorem dX3_changeBound_10 : decode cX3_changeBound 10 = .ok (.aload_n 0, 1) := by decide +kernel
theorem dX3_changeBound_11 : decode cX3_changeBound 11 = .ok (.iload_n 1, 1) := by decide +kernel
theorem dX3_changeBound_12 : decode cX3_changeBound 12 = .ok (.putfield 22, 3) := by decide +kernel
theorem dX3_changeBound_15 : decode cX3_changeBound 15 = .ok (.iconst 1, 1) := by decide +kernel
theorem dX3_changeBound_16 : decode cX3_changeBound 16 = .ok (.ireturn, 1) := by decide +kernel
set_option maxRecDepth 20000 in
theorem ggX3_changeOrder_X3_refreshRanks : GoodIn wsX3_changeOrder wsX3_refreshRanks := goodIn_r _ [6, 7, 8, 9, 10, 11, 5, 12, 13, 14, 15, 16, 17, 1, 18, 19, 20, 21, 22, 23, 24, 25, 26, 27] (by decide +kernel) (by decide +kernel)
set_option maxRecDepth 20000 in
theorem gX3_changeOrder_X3_refreshRanks : GoodIn wsX3_changeOrder (wsV RX3 78 RX3 yX3_refreshRanks wsX3_refreshRanks) := goodIn_app (goodIn_of _ (by decide +kernel)) ggX3_changeOrder_X3_refreshRanks
theorem dX3_changeOrder_0 : decode cX3_changeOrder 0 = .ok (.aload_n 0, 1) := by decide +kernel
theorem dX3_changeOrder_1 : decode cX3_changeOrder 1 = .ok (.iload_n 1, 1) := by decide +kernel
theorem dX3_changeOrder_2 : decode cX3_changeOrder 2 = .ok (.putfield 35, 3) := by decide +kernel
theorem dX3_changeOrder_5 : decode cX3_changeOrder 5 = .ok (.aload_n 0, 1) := by decide +kernel
theorem dX3_changeOrder_6 : decode cX3_changeOrder 6 = .ok (.invokevirtual 78, 3) := by decide +kernel
theorem dX3_changeOrder_9 : decode cX3_changeOrder 9 = .ok (.return_, 1) := by decide +kernel
set_option maxRecDepth 20000 in
theorem ggX3_swapElements_X3_hasNext : GoodIn wsX3_swapElements wsX3_hasNext := goodIn_r _ [8, 9, 10, 11, 12, 13, 14, 15, 16, 17, 18, 19] (by decide +kernel) (by decide +kernel)
set_option maxRecDepth 20000 in
theorem gX3_swapElements_X3_hasNext : GoodIn wsX3_swapElements (wsV RX3 64 RX3 yX3_hasNext wsX3_hasNext) := goodIn_app (goodIn_of _ (by decide +kernel)) ggX3_swapElements_X3_hasNext
theorem dX3_swapElements_0 : decode cX3_swapElements 0 = .ok (.aload_n 0, 1) := by decide +kernel
theorem dX3_swapElements_1 : decode cX3_swapElements 1 = .ok (.iload_n 1, 1) := by decide +kernel
theorem dX3_swapElements_2 : decode cX3_swapElements 2 = .ok (.invokevirtual 64, 3) := by decide +kernel
theorem dX3_swapElements_5 : decode cX3_swapElements 5 = .ok (.ifCond .ne 5, 3) := by decide +kernel
theorem dX3_swapElements_8 : decode cX3_swapElements 8 = .ok (.iconst 0, 1) := by decide +kernel
theorem dX3_swapElements_9 : decode cX3_swapElements 9 = .ok (.ireturn, 1) := by decide +kernel
theorem dX3_swapElements_10 : decode cX3_swapElements 10 = .ok (.iload_n 1, 1) := by decide +kernel
theorem dX3_swapElements_11 : decode cX3_swapElements 11 = .ok (.iconst 1, 1) := by decide +kernel
theorem dX3_swapElements_12 : decode cX3_swapElements 12 = .ok (.iadd, 1) := by decide +kernel
theorem dX3_swapElements_13 : decode cX3_swapElements 13 = .ok (.istore_n 2, 1) := by decide +kernel
theorem dX3_swapElements_14 : decode cX3_swapElements 14 = .ok (.aload_n 0, 1) := by decide +kernel
theorem dX3_swapElements_15 : decode cX3_swapElements 15 = .ok (.getfield 15, 3) := by decide +kernel
theorem dX3_swapElements_18 : decode cX3_swapElements 18 = .ok (.iload_n 1, 1) := by decide +kernel
theorem dX3_swapElements_19 : decode cX3_swapElements 19 = .ok (.iaload, 1) := by decide +kernel
theorem dX3_swapElements_20 : decode cX3_swapElements 20 = .ok (.istore_n 3, 1) := by decide +kernel
theorem dX3_swapElements_21 : decode cX3_swapElements 21 = .ok (.aload_n 0, 1) := by decide +kernel
theorem dX3_swapElements_22 : decode cX3_swapElements 22 = .ok (.getfield 15, 3) := by decide +kernel
theorem dX3_swapElements_25 : decode cX3_swapElements 25 = .ok (.iload_n 1, 1) := by decide +kernel
theorem dX3_swapElements_26 : decode cX3_swapElements 26 = .ok (.aload_n 0, 1) := by decide +kernel
theorem dX3_swapElements_27 : decode cX3_swapElements 27 = .ok (.getfield 15, 3) := by decide +kernel
theorem dX3_swapElements_30 : decode cX3_swapElements 30 = .ok (.iload_n 2, 1) := by decide +kernel
theorem dX3_swapElements_31 : decode cX3_swapElements 31 = .ok (.iaload, 1) := by decide +kernel
theorem dX3_swapElements_32 : decode cX3_swapElements 32 = .ok (.iastore, 1) := by decide +kernel
theorem dX3_swapElements_33 : decode cX3_swapElements 33 = .ok (.aload_n 0, 1) := by decide +kernel
theorem dX3_swapElements_34 : decode cX3_swapElements 34 = .ok (.getfield 15, 3) := by decide +kernel
theorem dX3_swapElements_37 : decode cX3_swapElements 37 = .ok (.iload_n 2, 1) := by decide +kernel
theorem dX3_swapElements_38 : decode cX3_swapElements 38 = .ok (.iload_n 3, 1) := by decide +kernel
theorem dX3_swapElements_39 : decode cX3_swapElements 39 = .ok (.iastore, 1) := by decide +kernel
theorem dX3_swapElements_40 : decode cX3_swapElements 40 = .ok (.aload_n 0, 1) := by decide +kernel
theorem dX3_swapElements_41 : decode cX3_swapElements 41 = .ok (.getfield 9, 3) := by decide +kernel
theorem dX3_swapElements_44 : decode cX3_swapElements 44 = .ok (.iload_n 1, 1) := by decide +kernel
theorem dX3_swapElements_45 : decode cX3_swapElements 45 = .ok (.laload, 1) := by decide +kernel
theorem dX3_swapElements_46 : decode cX3_swapElements 46 = .ok (.aload_n 0, 1) := by decide +kernel
theorem dX3_swapElements_47 : decode cX3_swapElements 47 = .ok (.getfield 9, 3) := by decide +kernel
theorem dX3_swapElements_50 : decode cX3_swapElements 50 = .ok (.iload_n 2, 1) := by decide +kernel
theorem dX3_swapElements_51 : decode cX3_swapElements 51 = .ok (.laload, 1) := by decide +kernel
theorem dX3_swapElements_52 : decode cX3_swapElements 52 = .ok (.lcmp, 1) := by decide +kernel
theorem dX3_swapElements_53 : decode cX3_swapElements 53 = .ok (.ifCond .eq 59, 3) := by decide +kernel
theorem dX3_swapElements_56 : decode cX3_swapElements 56 = .ok (.aload_n 0, 1) := by decide +kernel
theorem dX3_swapElements_57 : decode cX3_swapElements 57 = .ok (.getfield 9, 3) := by decide +kernel
theorem dX3_swapElements_60 : decode cX3_swapElements 60 = .ok (.iload_n 1, 1) := by decide +kernel
theorem dX3_swapElements_61 : decode cX3_swapElements 61 = .ok (.laload, 1) := by decide +kernel
theorem dX3_swapElements_62 : decode cX3_swapElements 62 = .ok (.lstore 4, 2) := by decide +kernel
theorem dX3_swapElements_64 : decode cX3_swapElements 64 = .ok (.aload_n 0, 1) := by decide +kernel
theorem dX3_swapElements_65 : decode cX3_swapElements 65 = .ok (.getfield 9, 3) := by decide +kernel
theorem dX3_swapElements_68 : decode cX3_swapElements 68 = .ok (.iload_n 1, 1) := by decide +kernel
theorem dX3_swapElements_69 : decode cX3_swapElements 69 = .ok (.aload_n 0, 1) := by decide +kernel
theorem dX3_swapElements_70 : decode cX3_swapElements 70 = .ok (.getfield 9, 3) := by decide +kernel
theorem dX3_swapElements_73 : decode cX3_swapElements 73 = .ok (.iload_n 2, 1) := by decide +kernel
theorem dX3_swapElements_74 : decode cX3_swapElements 74 = .ok (.laload, 1) := by decide +kernel
theorem dX3_swapElements_75 : decode cX3_swapElements 75 = .ok (.lastore, 1) := by decide +kernel
theorem dX3_swapElements_76 : decode cX3_swapElements 76 = .ok (.aload_n 0, 1) := by decide +kernel
theorem dX3_swapElements_77 : decode cX3_swapElements 77 = .ok (.getfield 9, 3) := by decide +kernel
theorem dX3_swapElements_80 : decode cX3_swapElements 80 = .ok (.iload_n 2, 1) := by decide +kernel
theorem dX3_swapElements_81 : decode cX3_swapElements 81 = .ok (.lload 4, 2) := by decide +kernel
theorem dX3_swapElements_83 : decode cX3_swapElements 83 = .ok (.lastore, 1) := by decide +kernel
theorem dX3_swapElements_84 : decode cX3_swapElements 84 = .ok (.aload_n 0, 1) := by decide +kernel
theorem dX3_swapElements_85 : decode cX3_swapElements 85 = .ok (.getfield 19, 3) := by decide +kernel
theorem dX3_swapElements_88 : decode cX3_swapElements 88 = .ok (.iload_n 1, 1) := by decide +kernel
theorem dX3_swapElements_89 : decode cX3_swapElements 89 = .ok (.iaload, 1) := by decide +kernel
theorem dX3_swapElements_90 : decode cX3_swapElements 90 = .ok (.istore 6, 2) := by decide +kernel
theorem dX3_swapElements_92 : decode cX3_swapElements 92 = .ok (.aload_n 0, 1) := by decide +kernel
theorem dX3_swapElements_93 : decode cX3_swapElements 93 = .ok (.getfield 19, 3) := by decide +kernel
theorem dX3_swapElements_96 : decode cX3_swapElements 96 = .ok (.iload_n 1, 1) := by decide +kernel
theorem dX3_swapElements_97 : decode cX3_swapElements 97 = .ok (.aload_n 0, 1) := by decide +kernel
theorem dX3_swapElements_98 : decode cX3_swapElements 98 = .ok (.getfield 19, 3) := by decide +kernel
theorem dX3_swapElements_101 : decode cX3_swapElements 101 = .ok (.iload_n 2, 1) := by decide +kernel
theorem dX3_swapElements_102 : decode cX3_swapElements 102 = .ok (.iaload, 1) := by decide +kernel
theorem dX3_swapElements_103 : decode cX3_swapElements 103 = .ok (.iastore, 1) := by decide +kernel
theorem dX3_swapElements_104 : decode cX3_swapElements 104 = .ok (.aload_n 0, 1) := by decide +kernel
theorem dX3_swapElements_105 : decode cX3_swapElements 105 = .ok (.getfield 19, 3) := by decide +kernel
theorem dX3_swapElements_108 : decode cX3_swapElements 108 = .ok (.iload_n 2, 1) := by decide +kernel
theorem dX3_swapElements_109 : decode cX3_swapElements 109 = .ok (.iload 6, 2) := by decide +kernel
theorem dX3_swapElements_111 : decode cX3_swapElements 111 = .ok (.iastore, 1) := by decide +kernel
theorem dX3_swapElements_112 : decode cX3_swapElements 112 = .ok (.iconst 1, 1) := by decide +kernel
theorem dX3_swapElements_113 : decode cX3_swapElements 113 = .ok (.ireturn, 1) := by decide +kernel
set_option maxRecDepth 20000 in
theorem ggX3_inversionsBySwap_X3_hasNext : GoodIn wsX3_inversionsBySwap wsX3_hasNext := goodIn_r _ [6, 7, 17, 18, 19, 20, 21, 22, 23, 24, 25, 26] (by decide +kernel) (by decide +kernel)
set_option maxRecDepth 20000 in
theorem gX3_inversionsBySwap_X3_hasNext : GoodIn wsX3_inversionsBySwap (wsV RX3 64 RX3 yX3_hasNext wsX3_hasNext) := goodIn_app (goodIn_of _ (by decide +kernel)) ggX3_inversionsBySwap_X3_hasNext
set_option maxRecDepth 20000 in
theorem ggX3_inversionsBySwap_X3_isFall : GoodIn wsX3_inversionsBySwap wsX3_isFall := goodIn_r _ [11, 1, 2, 3, 4, 5, 6, 7, 12, 13, 14, 15, 16, 17, 18, 19, 20, 21, 22, 23, 24, 25, 26] (by decide +kernel) (by decide +kernel)
set_option maxRecDepth 20000 in
theorem gX3_inversionsBySwap_X3_isFall : GoodIn wsX3_inversionsBySwap (wsV RX3 84 RX3 yX3_isFall wsX3_isFall) := goodIn_app (goodIn_of _ (by decide +kernel)) ggX3_inversionsBySwap_X3_isFall
theorem dX3_inversionsBySwap_0 : decode cX3_inversionsBySwap 0 = .ok (.aload_n 0, 1) := by decide +kernel
theorem dX3_inversionsBySwap_1 : decode cX3_inversionsBySwap 1 = .ok (.iload_n 1, 1) := by decide +kernel
theorem dX3_inversionsBySwap_2 : decode cX3_inversionsBySwap 2 = .ok (.invokevirtual 64, 3) := by decide +kernel
theorem dX3_inversionsBySwap_5 : decode cX3_inversionsBySwap 5 = .ok (.ifCond .eq 21, 3) := by decide +kernel
theorem dX3_inversionsBySwap_8 : decode cX3_inversionsBySwap 8 = .ok (.aload_n 0, 1) := by decide +kernel
theorem dX3_inversionsBySwap_9 : decode cX3_inversionsBySwap 9 = .ok (.getfield 9, 3) := by decide +kernel
theorem dX3_inversionsBySwap_12 : decode cX3_inversionsBySwap 12 = .ok (.iload_n 1, 1) := by decide +kernel
theorem dX3_inversionsBySwap_13 : decode cX3_inversionsBySwap 13 = .ok (.laload, 1) := by decide +kernel
theorem dX3_inversionsBySwap_14 : decode cX3_inversionsBySwap 14 = .ok (.aload_n 0, 1) := by decide +kernel
theorem dX3_inversionsBySwap_15 : decode cX3_inversionsBySwap 15 = .ok (.getfield 9, 3) := by decide +kernel
theorem dX3_inversionsBySwap_18 : decode cX3_inversionsBySwap 18 = .ok (.iload_n 1, 1) := by decide +kernel
theorem dX3_inversionsBySwap_19 : decode cX3_inversionsBySwap 19 = .ok (.iconst 1, 1) := by decide +kernel
theorem dX3_inversionsBySwap_20 : decode cX3_inversionsBySwap 20 = .ok (.iadd, 1) := by decide +kernel
theorem dX3_inversionsBySwap_21 : decode cX3_inversionsBySwap 21 = .ok (.laload, 1) := by decide +kernel
theorem dX3_inversionsBySwap_22 : decode cX3_inversionsBySwap 22 = .ok (.lcmp, 1) := by decide +kernel
theorem dX3_inversionsBySwap_23 : decode cX3_inversionsBySwap 23 = .ok (.ifCond .ne 5, 3) := by decide +kernel
theorem dX3_inversionsBySwap_26 : decode cX3_inversionsBySwap 26 = .ok (.iconst 0, 1) := by decide +kernel
theorem dX3_inversionsBySwap_27 : decode cX3_inversionsBySwap 27 = .ok (.ireturn, 1) := by decide +kernel
theorem dX3_inversionsBySwap_28 : decode cX3_inversionsBySwap 28 = .ok (.aload_n 0, 1) := by decide +kernel
theorem dX3_inversionsBySwap_29 : decode cX3_inversionsBySwap 29 = .ok (.iload_n 1, 1) := by decide +kernel
theorem dX3_inversionsBySwap_30 : decode cX3_inversionsBySwap 30 = .ok (.invokevirtual 84, 3) := by decide +kernel
theorem dX3_inversionsBySwap_33 : decode cX3_inversionsBySwap 33 = .ok (.ifCond .eq 7, 3) := by decide +kernel
theorem dX3_inversionsBySwap_36 : decode cX3_inversionsBySwap 36 = .ok (.iconst (-1), 1) := by decide +kernel
theorem dX3_inversionsBySwap_37 : decode cX3_inversionsBySwap 37 = .ok (.goto 4, 3) := by decide +kernel
theorem dX3_inversionsBySwap_40 : decode cX3_inversionsBySwap 40 = .ok (.iconst 1, 1) := by decide +kernel
theorem dX3_inversionsBySwap_41 : decode cX3_inversionsBySwap 41 = .ok (.ireturn, 1) := by decide +kernel
set_option maxRecDepth 20000 in
theorem ggX3_refreshRanks_X3_countRank : GoodIn wsX3_refreshRanks wsX3_countRank := goodIn_r _ [7, 1, 8, 9, 10, 11, 6, 12, 13, 14, 15, 16, 17, 18, 19, 20, 21, 22, 23] (by decide +kernel) (by decide +kernel)
set_option maxRecDepth 20000 in
theorem gX3_refreshRanks_X3_countRank : GoodIn wsX3_refreshRanks (wsV RX3 87 RX3 yX3_countRank wsX3_countRank) := goodIn_app (goodIn_of _ (by decide +kernel)) ggX3_refreshRanks_X3_countRank
theorem dX3_refreshRanks_0 : decode cX3_refreshRanks 0 = .ok (.iconst 0, 1) := by decide +kernel
theorem dX3_refreshRanks_1 : decode cX3_refreshRanks 1 = .ok (.istore_n 1, 1) := by decide +kernel
theorem dX3_refreshRanks_2 : decode cX3_refreshRanks 2 = .ok (.iload_n 1, 1) := by decide +kernel
theorem dX3_refreshRanks_3 : decode cX3_refreshRanks 3 = .ok (.aload_n 0, 1) := by decide +kernel
theorem dX3_refreshRanks_4 : decode cX3_refreshRanks 4 = .ok (.getfield 32, 3) := by decide +kernel
theorem dX3_refreshRanks_7 : decode cX3_refreshRanks 7 = .ok (.if_icmp .ge 20, 3) := by decide +kernel
theorem dX3_refreshRanks_10 : decode cX3_refreshRanks 10 = .ok (.aload_n 0, 1) := by decide +kernel
theorem dX3_refreshRanks_11 : decode cX3_refreshRanks 11 = .ok (.getfield 19, 3) := by decide +kernel
theorem dX3_refreshRanks_14 : decode cX3_refreshRanks 14 = .ok (.iload_n 1, 1) := by decide +kernel
theorem dX3_refreshRanks_15 : decode cX3_refreshRanks 15 = .ok (.aload_n 0, 1) := by decide +kernel
theorem dX3_refreshRanks_16 : decode cX3_refreshRanks 16 = .ok (.iload_n 1, 1) := by decide +kernel
theorem dX3_refreshRanks_17 : decode cX3_refreshRanks 17 = .ok (.invokevirtual 87, 3) := by decide +kernel
theorem dX3_refreshRanks_20 : decode cX3_refreshRanks 20 = .ok (.iastore, 1) := by decide +kernel
theorem dX3_refreshRanks_21 : decode cX3_refreshRanks 21 = .ok (.iinc 1 1, 3) := by decide +kernel
theorem dX3_refreshRanks_24 : decode cX3_refreshRanks 24 = .ok (.goto (-22), 3) := by decide +kernel
theorem dX3_refreshRanks_27 : decode cX3_refreshRanks 27 = .ok (.return_, 1) := by decide +kernel
set_option maxRecDepth 20000 in
theorem ggX3_countRank_X3_isAhead : GoodIn wsX3_countRank wsX3_isAhead := goodIn_r _ [7, 8, 9, 10, 11, 12, 13, 14, 15, 16, 17, 18] (by decide +kernel) (by decide +kernel)
set_option maxRecDepth 20000 in
theorem gX3_countRank_X3_isAhead : GoodIn wsX3_countRank (wsV RX3 67 RX3 yX3_isAhead wsX3_isAhead) := goodIn_app (goodIn_of _ (by decide +kernel)) ggX3_countRank_X3_isAhead
theorem dX3_countRank_0 : decode cX3_countRank 0 = .ok (.iconst 0, 1) := by decide +kernel
theorem dX3_countRank_1 : decode cX3_countRank 1 = .ok (.istore_n 2, 1) := by decide +kernel
theorem dX3_countRank_2 : decode cX3_countRank 2 = .ok (.iconst 0, 1) := by decide +kernel
theorem dX3_countRank_3 : decode cX3_countRank 3 = .ok (.istore_n 3, 1) := by decide +kernel
theorem dX3_countRank_4 : decode cX3_countRank 4 = .ok (.iload_n 3, 1) := by decide +kernel
theorem dX3_countRank_5 : decode cX3_countRank 5 = .ok (.aload_n 0, 1) := by decide +kernel
theorem dX3_countRank_6 : decode cX3_countRank 6 = .ok (.getfield 32, 3) := by decide +kernel
theorem dX3_countRank_9 : decode cX3_countRank 9 = .ok (.if_icmp .ge 64, 3) := by decide +kernel
theorem dX3_countRank_12 : decode cX3_countRank 12 = .ok (.iload_n 3, 1) := by decide +kernel
theorem dX3_countRank_13 : decode cX3_countRank 13 = .ok (.iload_n 1, 1) := by decide +kernel
theorem dX3_countRank_14 : decode cX3_countRank 14 = .ok (.if_icmp .ge 23, 3) := by decide +kernel
theorem dX3_countRank_17 : decode cX3_countRank 17 = .ok (.aload_n 0, 1) := by decide +kernel
theorem dX3_countRank_18 : decode cX3_countRank 18 = .ok (.getfield 9, 3) := by decide +kernel
theorem dX3_countRank_21 : decode cX3_countRank 21 = .ok (.iload_n 3, 1) := by decide +kernel
theorem dX3_countRank_22 : decode cX3_countRank 22 = .ok (.laload, 1) := by decide +kernel
theorem dX3_countRank_23 : decode cX3_countRank 23 = .ok (.aload_n 0, 1) := by decide +kernel
theorem dX3_countRank_24 : decode cX3_countRank 24 = .ok (.getfield 9, 3) := by decide +kernel
theorem dX3_countRank_27 : decode cX3_countRank 27 = .ok (.iload_n 1, 1) := by decide +kernel
theorem dX3_countRank_28 : decode cX3_countRank 28 = .ok (.laload, 1) := by decide +kernel
theorem dX3_countRank_29 : decode cX3_countRank 29 = .ok (.lcmp, 1) := by decide +kernel
theorem dX3_countRank_30 : decode cX3_countRank 30 = .ok (.ifCond .ne 7, 3) := by decide +kernel
theorem dX3_countRank_33 : decode cX3_countRank 33 = .ok (.iconst 1, 1) := by decide +kernel
theorem dX3_countRank_34 : decode cX3_countRank 34 = .ok (.goto 4, 3) := by decide +kernel
theorem dX3_countRank_37 : decode cX3_countRank 37 = .ok (.iconst 0, 1) := by decide +kernel
theorem dX3_countRank_38 : decode cX3_countRank 38 = .ok (.istore 4, 2) := by decide +kernel
theorem dX3_countRank_40 : decode cX3_countRank 40 = .ok (.iload 4, 2) := by decide +kernel
theorem dX3_countRank_42 : decode cX3_countRank 42 = .ok (.ifCond .ne 22, 3) := by decide +kernel
theorem dX3_countRank_45 : decode cX3_countRank 45 = .ok (.aload_n 0, 1) := by decide +kernel
theorem dX3_countRank_46 : decode cX3_countRank 46 = .ok (.aload_n 0, 1) := by decide +kernel
theorem dX3_countRank_47 : decode cX3_countRank 47 = .ok (.getfield 9, 3) := by decide +kernel
theorem dX3_countRank_50 : decode cX3_countRank 50 = .ok (.iload_n 3, 1) := by decide +kernel
theorem dX3_countRank_51 : decode cX3_countRank 51 = .ok (.laload, 1) := by decide +kernel
theorem dX3_countRank_52 : decode cX3_countRank 52 = .ok (.aload_n 0, 1) := by decide +kernel
theorem dX3_countRank_53 : decode cX3_countRank 53 = .ok (.getfield 9, 3) := by decide +kernel
theorem dX3_countRank_56 : decode cX3_countRank 56 = .ok (.iload_n 1, 1) := by decide +kernel
theorem dX3_countRank_57 : decode cX3_countRank 57 = .ok (.laload, 1) := by decide +kernel
theorem dX3_countRank_58 : decode cX3_countRank 58 = .ok (.invokevirtual 67, 3) := by decide +kernel
theorem dX3_countRank_61 : decode cX3_countRank 61 = .ok (.ifCond .eq 6, 3) := by decide +kernel
theorem dX3_countRank_64 : decode cX3_countRank 64 = .ok (.iinc 2 1, 3) := by decide +kernel
theorem dX3_countRank_67 : decode cX3_countRank 67 = .ok (.iinc 3 1, 3) := by decide +kernel
theorem dX3_countRank_70 : decode cX3_countRank 70 = .ok (.goto (-66), 3) := by decide +kernel
theorem dX3_countRank_73 : decode cX3_countRank 73 = .ok (.iload_n 2, 1) := by decide +kernel
theorem dX3_countRank_74 : decode cX3_countRank 74 = .ok (.ireturn, 1) := by decide +kernel
theorem dX3_placeOfRank_0 : decode cX3_placeOfRank 0 = .ok (.iconst 0, 1) := by decide +kernel
theorem dX3_placeOfRank_1 : decode cX3_placeOfRank 1 = .ok (.istore_n 2, 1) := by decide +kernel
theorem dX3_placeOfRank_2 : decode cX3_placeOfRank 2 = .ok (.iload_n 2, 1) := by decide +kernel
theorem dX3_placeOfRank_3 : decode cX3_placeOfRank 3 = .ok (.aload_n 0, 1) := by decide +kernel
theorem dX3_placeOfRank_4 : decode cX3_placeOfRank 4 = .ok (.getfield 32, 3) := by decide +kernel
theorem dX3_placeOfRank_7 : decode cX3_placeOfRank 7 = .ok (.if_icmp .ge 21, 3) := by decide +kernel
theorem dX3_placeOfRank_10 : decode cX3_placeOfRank 10 = .ok (.aload_n 0, 1) := by decide +kernel
theorem dX3_placeOfRank_11 : decode cX3_placeOfRank 11 = .ok (.getfield 19, 3) := by decide +kernel
theorem dX3_placeOfRank_14 : decode cX3_placeOfRank 14 = .ok (.iload_n 2, 1) := by decide +kernel
theorem dX3_placeOfRank_15 : decode cX3_placeOfRank 15 = .ok (.iaload, 1) := by decide +kernel
theorem dX3_placeOfRank_16 : decode cX3_placeOfRank 16 = .ok (.iload_n 1, 1) := by decide +kernel
theorem dX3_placeOfRank_17 : decode cX3_placeOfRank 17 = .ok (.if_icmp .ne 5, 3) := by decide +kernel
theorem dX3_placeOfRank_20 : decode cX3_placeOfRank 20 = .ok (.iload_n 2, 1) := by decide +kernel
theorem dX3_placeOfRank_21 : decode cX3_placeOfRank 21 = .ok (.ireturn, 1) := by decide +kernel
theorem dX3_placeOfRank_22 : decode cX3_placeOfRank 22 = .ok (.iinc 2 1, 3) := by decide +kernel
theorem dX3_placeOfRank_25 : decode cX3_placeOfRank 25 = .ok (.goto (-23), 3) := by decide +kernel
theorem dX3_placeOfRank_28 : decode cX3_placeOfRank 28 = .ok (.sipush (-1000), 3) := by decide +kernel
theorem dX3_placeOfRank_31 : decode cX3_placeOfRank 31 = .ok (.ireturn, 1) := by decide +kernel
set_option maxRecDepth 20000 in
theorem ggX3_brokenCount_X3_brokenSet : GoodIn wsX3_brokenCount wsX3_brokenSet := goodIn_r _ [5, 6, 7, 8, 9, 4, 10, 11, 12, 13, 14, 15, 16, 17, 18, 19, 20, 21, 22, 23, 24, 32, 33, 34, 35, 36, 37, 38, 39, 40, 41] (by decide +kernel) (by decide +kernel)
set_option maxRecDepth 20000 in
theorem gX3_brokenCount_X3_brokenSet : GoodIn wsX3_brokenCount (wsV RX3 90 RX3 yX3_brokenSet wsX3_brokenSet) := goodIn_app (goodIn_of _ (by decide +kernel)) ggX3_brokenCount_X3_brokenSet
set_option maxRecDepth 20000 in
theorem ggX3_brokenCount_J13_bitCount_95d88 : GoodIn wsX3_brokenCount wsJ13_bitCount_95d88 := goodIn_r _ [28, 29, 30, 31] (by decide +kernel) (by decide +kernel)
set_option maxRecDepth 20000 in
theorem gX3_brokenCount_J13_bitCount_95d88 : GoodIn wsX3_brokenCount (va_wsS RX3 94 yJ13_bitCount_95d88 wsJ13_bitCount_95d88) := goodIn_app (goodIn_of _ (by decide +kernel)) ggX3_brokenCount_J13_bitCount_95d88
theorem dX3_brokenCount_0 : decode cX3_brokenCount 0 = .ok (.aload_n 0, 1) := by decide +kernel
theorem dX3_brokenCount_1 : decode cX3_brokenCount 1 = .ok (.invokevirtual 90, 3) := by decide +kernel
theorem dX3_brokenCount_4 : decode cX3_brokenCount 4 = .ok (.invokestatic 94, 3) := by decide +kernel
theorem dX3_brokenCount_7 : decode cX3_brokenCount 7 = .ok (.ireturn, 1) := by decide +kernel
set_option maxRecDepth 20000 in
theorem ggX3_brokenSet_X3_isBroken : GoodIn wsX3_brokenSet wsX3_isBroken := goodIn_r _ [6, 7, 8, 9, 10, 11, 12, 13, 14, 5, 15, 16, 17, 18, 19, 20, 1, 21, 22, 23, 24, 25, 26, 27, 28, 29, 30] (by decide +kernel) (by decide +kernel)
set_option maxRecDepth 20000 in
theorem gX3_brokenSet_X3_isBroken : GoodIn wsX3_brokenSet (wsV RX3 100 RX3 yX3_isBroken wsX3_isBroken) := goodIn_app (goodIn_of _ (by decide +kernel)) ggX3_brokenSet_X3_isBroken
theorem dX3_brokenSet_0 : decode cX3_brokenSet 0 = .ok (.lconst 0, 1) := by decide +kernel
theorem dX3_brokenSet_1 : decode cX3_brokenSet 1 = .ok (.lstore_n 1, 1) := by decide +kernel
theorem dX3_brokenSet_2 : decode cX3_brokenSet 2 = .ok (.iconst 0, 1) := by decide +kernel
theorem dX3_brokenSet_3 : decode cX3_brokenSet 3 = .ok (.istore_n 3, 1) := by decide +kernel
theorem dX3_brokenSet_4 : decode cX3_brokenSet 4 = .ok (.iload_n 3, 1) := by decide +kernel
theorem dX3_brokenSet_5 : decode cX3_brokenSet 5 = .ok (.aload_n 0, 1) := by decide +kernel
theorem dX3_brokenSet_6 : decode cX3_brokenSet 6 = .ok (.getfield 32, 3) := by decide +kernel
theorem dX3_brokenSet_9 : decode cX3_brokenSet 9 = .ok (.if_icmp .ge 23, 3) := by decide +kernel
theorem dX3_brokenSet_12 : decode cX3_brokenSet 12 = .ok (.aload_n 0, 1) := by decide +kernel
theorem dX3_brokenSet_13 : decode cX3_brokenSet 13 = .ok (.iload_n 3, 1) := by decide +kernel
theorem dX3_brokenSet_14 : decode cX3_brokenSet 14 = .ok (.invokevirtual 100, 3) := by decide +kernel
theorem dX3_brokenSet_17 : decode cX3_brokenSet 17 = .ok (.ifCond .eq 9, 3) := by decide +kernel
theorem dX3_brokenSet_20 : decode cX3_brokenSet 20 = .ok (.lload_n 1, 1) := by decide +kernel
theorem dX3_brokenSet_21 : decode cX3_brokenSet 21 = .ok (.lconst 1, 1) := by decide +kernel
theorem dX3_brokenSet_22 : decode cX3_brokenSet 22 = .ok (.iload_n 3, 1) := by decide +kernel
theorem dX3_brokenSet_23 : decode cX3_brokenSet 23 = .ok (.lshl, 1) := by decide +kernel
theorem dX3_brokenSet_24 : decode cX3_brokenSet 24 = .ok (.lor, 1) := by decide +kernel
theorem dX3_brokenSet_25 : decode cX3_brokenSet 25 = .ok (.lstore_n 1, 1) := by decide +kernel
theorem dX3_brokenSet_26 : decode cX3_brokenSet 26 = .ok (.iinc 3 1, 3) := by decide +kernel
theorem dX3_brokenSet_29 : decode cX3_brokenSet 29 = .ok (.goto (-25), 3) := by decide +kernel
theorem dX3_brokenSet_32 : decode cX3_brokenSet 32 = .ok (.lload_n 1, 1) := by decide +kernel
theorem dX3_brokenSet_33 : decode cX3_brokenSet 33 = .ok (.lreturn, 1) := by decide +kernel
set_option maxRecDepth 20000 in
theorem ggX3_inversionsOf_X3_isAhead : GoodIn wsX3_inversionsOf wsX3_isAhead := goodIn_r _ [7, 8, 9, 10, 11, 12, 13, 14, 15, 16, 17, 18] (by decide +kernel) (by decide +kernel)
set_option maxRecDepth 20000 in
theorem gX3_inversionsOf_X3_isAhead : GoodIn wsX3_inversionsOf (wsV RX3 67 RX3 yX3_isAhead wsX3_isAhead) := goodIn_app (goodIn_of _ (by decide +kernel)) ggX3_inversionsOf_X3_isAhead
theorem dX3_inversionsOf_0 : decode cX3_inversionsOf 0 = .ok (.iconst 0, 1) := by decide +kernel
theorem dX3_inversionsOf_1 : decode cX3_inversionsOf 1 = .ok (.istore_n 2, 1) := by decide +kernel
theorem dX3_inversionsOf_2 : decode cX3_inversionsOf 2 = .ok (.iconst 0, 1) := by decide +kernel
