theorem dX6_bestPlace_68 : decode cX6_bestPlace 68 = .ok (.isub, 1) := by decide +kernel
theorem dX6_bestPlace_69 : decode cX6_bestPlace 69 = .ok (.invokevirtual 106, 3) := by decide +kernel
theorem dX6_bestPlace_72 : decode cX6_bestPlace 72 = .ok (.pop, 1) := by decide +kernel
theorem dX6_bestPlace_73 : decode cX6_bestPlace 73 = .ok (.aload_n 0, 1) := by decide +kernel
theorem dX6_bestPlace_74 : decode cX6_bestPlace 74 = .ok (.getfield 16, 3) := by decide +kernel
theorem dX6_bestPlace_77 : decode cX6_bestPlace 77 = .ok (.invokevirtual 115, 3) := by decide +kernel
theorem dX6_bestPlace_80 : decode cX6_bestPlace 80 = .ok (.istore 6, 2) := by decide +kernel
theorem dX6_bestPlace_82 : decode cX6_bestPlace 82 = .ok (.iload 6, 2) := by decide +kernel
theorem dX6_bestPlace_84 : decode cX6_bestPlace 84 = .ok (.iload 4, 2) := by decide +kernel
theorem dX6_bestPlace_86 : decode cX6_bestPlace 86 = .ok (.if_icmp .ge 10, 3) := by decide +kernel
theorem dX6_bestPlace_89 : decode cX6_bestPlace 89 = .ok (.iload 6, 2) := by decide +kernel
theorem dX6_bestPlace_91 : decode cX6_bestPlace 91 = .ok (.istore 4, 2) := by decide +kernel
theorem dX6_bestPlace_93 : decode cX6_bestPlace 93 = .ok (.iload 5, 2) := by decide +kernel
theorem dX6_bestPlace_95 : decode cX6_bestPlace 95 = .ok (.istore_n 3, 1) := by decide +kernel
theorem dX6_bestPlace_96 : decode cX6_bestPlace 96 = .ok (.iinc 5 1, 3) := by decide +kernel
theorem dX6_bestPlace_99 : decode cX6_bestPlace 99 = .ok (.goto (-50), 3) := by decide +kernel
theorem dX6_bestPlace_102 : decode cX6_bestPlace 102 = .ok (.iload_n 3, 1) := by decide +kernel
theorem dX6_bestPlace_103 : decode cX6_bestPlace 103 = .ok (.ireturn, 1) := by decide +kernel
set_option maxRecDepth 20000 in
theorem ggX6_rankOf_X3_isAhead : GoodIn wsX6_rankOf wsX3_isAhead := goodIn_r _ [6, 7, 13, 14, 15, 16, 17, 18, 19, 20, 21, 22] (by decide +kernel) (by decide +kernel)
set_option maxRecDepth 20000 in
theorem gX6_rankOf_X3_isAhead : GoodIn wsX6_rankOf (wsV RX6 189 RX3 yX3_isAhead wsX3_isAhead) := goodIn_app (goodIn_of _ (by decide +kernel)) ggX6_rankOf_X3_isAhead
theorem dX6_rankOf_0 : decode cX6_rankOf 0 = .ok (.iconst 0, 1) := by decide +kernel
theorem dX6_rankOf_1 : decode cX6_rankOf 1 = .ok (.istore_n 3, 1) := by decide +kernel
theorem dX6_rankOf_2 : decode cX6_rankOf 2 = .ok (.iconst 0, 1) := by decide +kernel
theorem dX6_rankOf_3 : decode cX6_rankOf 3 = .ok (.istore 4, 2) := by decide +kernel
theorem dX6_rankOf_5 : decode cX6_rankOf 5 = .ok (.iload 4, 2) := by decide +kernel
theorem dX6_rankOf_7 : decode cX6_rankOf 7 = .ok (.aload_n 0, 1) := by decide +kernel
theorem dX6_rankOf_8 : decode cX6_rankOf 8 = .ok (.getfield 10, 3) := by decide +kernel
theorem dX6_rankOf_11 : decode cX6_rankOf 11 = .ok (.getfield 47, 3) := by decide +kernel
theorem dX6_rankOf_14 : decode cX6_rankOf 14 = .ok (.if_icmp .ge 33, 3) := by decide +kernel
theorem dX6_rankOf_17 : decode cX6_rankOf 17 = .ok (.aload_n 0, 1) := by decide +kernel
theorem dX6_rankOf_18 : decode cX6_rankOf 18 = .ok (.getfield 10, 3) := by decide +kernel
theorem dX6_rankOf_21 : decode cX6_rankOf 21 = .ok (.lload_n 1, 1) := by decide +kernel
theorem dX6_rankOf_22 : decode cX6_rankOf 22 = .ok (.aload_n 0, 1) := by decide +kernel
theorem dX6_rankOf_23 : decode cX6_rankOf 23 = .ok (.getfield 10, 3) := by decide +kernel
theorem dX6_rankOf_26 : decode cX6_rankOf 26 = .ok (.getfield 88, 3) := by decide +kernel
theorem dX6_rankOf_29 : decode cX6_rankOf 29 = .ok (.iload 4, 2) := by decide +kernel
theorem dX6_rankOf_31 : decode cX6_rankOf 31 = .ok (.laload, 1) := by decide +kernel
theorem dX6_rankOf_32 : decode cX6_rankOf 32 = .ok (.invokevirtual 189, 3) := by decide +kernel
theorem dX6_rankOf_35 : decode cX6_rankOf 35 = .ok (.ifCond .ne 6, 3) := by decide +kernel
theorem dX6_rankOf_38 : decode cX6_rankOf 38 = .ok (.iinc 3 1, 3) := by decide +kernel
theorem dX6_rankOf_41 : decode cX6_rankOf 41 = .ok (.iinc 4 1, 3) := by decide +kernel
theorem dX6_rankOf_44 : decode cX6_rankOf 44 = .ok (.goto (-39), 3) := by decide +kernel
theorem dX6_rankOf_47 : decode cX6_rankOf 47 = .ok (.iload_n 3, 1) := by decide +kernel
theorem dX6_rankOf_48 : decode cX6_rankOf 48 = .ok (.ireturn, 1) := by decide +kernel
set_option maxRecDepth 20000 in
theorem ggX6_lostValues_X4_lookFor : GoodIn wsX6_lostValues wsX4_lookFor := goodIn_r _ [7, 8, 9, 10, 11, 12, 13, 14, 6, 15, 16, 17, 18, 19, 20, 21, 22, 23, 24, 25, 26, 27, 28, 29, 30, 31, 32, 33, 34, 35, 36, 37, 53, 54, 55, 56, 43, 44, 45, 46, 47, 48, 49, 50, 51, 52] (by decide +kernel) (by decide +kernel)
set_option maxRecDepth 20000 in
theorem gX6_lostValues_X4_lookFor : GoodIn wsX6_lostValues (wsV RX6 135 RX4 yX4_lookFor wsX4_lookFor) := goodIn_app (goodIn_of _ (by decide +kernel)) ggX6_lostValues_X4_lookFor
theorem dX6_lostValues_0 : decode cX6_lostValues 0 = .ok (.iconst 0, 1) := by decide +kernel
theorem dX6_lostValues_1 : decode cX6_lostValues 1 = .ok (.istore_n 1, 1) := by decide +kernel
theorem dX6_lostValues_2 : decode cX6_lostValues 2 = .ok (.iconst 0, 1) := by decide +kernel
theorem dX6_lostValues_3 : decode cX6_lostValues 3 = .ok (.istore_n 2, 1) := by decide +kernel
theorem dX6_lostValues_4 : decode cX6_lostValues 4 = .ok (.iload_n 2, 1) := by decide +kernel
theorem dX6_lostValues_5 : decode cX6_lostValues 5 = .ok (.aload_n 0, 1) := by decide +kernel
theorem dX6_lostValues_6 : decode cX6_lostValues 6 = .ok (.getfield 10, 3) := by decide +kernel
theorem dX6_lostValues_9 : decode cX6_lostValues 9 = .ok (.getfield 47, 3) := by decide +kernel
theorem dX6_lostValues_12 : decode cX6_lostValues 12 = .ok (.if_icmp .ge 45, 3) := by decide +kernel
theorem dX6_lostValues_15 : decode cX6_lostValues 15 = .ok (.aload_n 0, 1) := by decide +kernel
theorem dX6_lostValues_16 : decode cX6_lostValues 16 = .ok (.getfield 22, 3) := by decide +kernel
theorem dX6_lostValues_19 : decode cX6_lostValues 19 = .ok (.aload_n 0, 1) := by decide +kernel
theorem dX6_lostValues_20 : decode cX6_lostValues 20 = .ok (.getfield 10, 3) := by decide +kernel
theorem dX6_lostValues_23 : decode cX6_lostValues 23 = .ok (.aload_n 0, 1) := by decide +kernel
theorem dX6_lostValues_24 : decode cX6_lostValues 24 = .ok (.getfield 10, 3) := by decide +kernel
theorem dX6_lostValues_27 : decode cX6_lostValues 27 = .ok (.getfield 88, 3) := by decide +kernel
theorem dX6_lostValues_30 : decode cX6_lostValues 30 = .ok (.iload_n 2, 1) := by decide +kernel
theorem dX6_lostValues_31 : decode cX6_lostValues 31 = .ok (.laload, 1) := by decide +kernel
theorem dX6_lostValues_32 : decode cX6_lostValues 32 = .ok (.invokevirtual 135, 3) := by decide +kernel
theorem dX6_lostValues_35 : decode cX6_lostValues 35 = .ok (.aload_n 0, 1) := by decide +kernel
theorem dX6_lostValues_36 : decode cX6_lostValues 36 = .ok (.getfield 22, 3) := by decide +kernel
theorem dX6_lostValues_39 : decode cX6_lostValues 39 = .ok (.getfield 143, 3) := by decide +kernel
theorem dX6_lostValues_42 : decode cX6_lostValues 42 = .ok (.sipush (-1000), 3) := by decide +kernel
theorem dX6_lostValues_45 : decode cX6_lostValues 45 = .ok (.if_icmp .ne 6, 3) := by decide +kernel
theorem dX6_lostValues_48 : decode cX6_lostValues 48 = .ok (.iinc 1 1, 3) := by decide +kernel
theorem dX6_lostValues_51 : decode cX6_lostValues 51 = .ok (.iinc 2 1, 3) := by decide +kernel
theorem dX6_lostValues_54 : decode cX6_lostValues 54 = .ok (.goto (-50), 3) := by decide +kernel
theorem dX6_lostValues_57 : decode cX6_lostValues 57 = .ok (.iload_n 1, 1) := by decide +kernel
theorem dX6_lostValues_58 : decode cX6_lostValues 58 = .ok (.ireturn, 1) := by decide +kernel
set_option maxRecDepth 20000 in
theorem ggX6_type_X1_isFull : GoodIn wsX6_type wsX1_isFull := goodIn_r _ [10, 11, 23, 24, 25, 26, 27, 28, 29] (by decide +kernel) (by decide +kernel)
set_option maxRecDepth 20000 in
theorem gX6_type_X1_isFull : GoodIn wsX6_type (wsV RX6 195 RX1 yX1_isFull wsX1_isFull) := goodIn_app (goodIn_of _ (by decide +kernel)) ggX6_type_X1_isFull
set_option maxRecDepth 20000 in
theorem ggX6_type_X1_addByte : GoodIn wsX6_type wsX1_addByte := goodIn_r _ [15, 16, 11, 17, 7, 8, 9, 10, 23, 24, 25, 26, 27, 28, 29] (by decide +kernel) (by decide +kernel)
set_option maxRecDepth 20000 in
theorem gX6_type_X1_addByte : GoodIn wsX6_type (wsV RX6 203 RX1 yX1_addByte wsX1_addByte) := goodIn_app (goodIn_of _ (by decide +kernel)) ggX6_type_X1_addByte
theorem dX6_type_0 : decode cX6_type 0 = .ok (.iload_n 1, 1) := by decide +kernel
theorem dX6_type_1 : decode cX6_type 1 = .ok (.ifCond .lt 9, 3) := by decide +kernel
theorem dX6_type_4 : decode cX6_type 4 = .ok (.iload_n 1, 1) := by decide +kernel
theorem dX6_type_5 : decode cX6_type 5 = .ok (.bipush 127, 2) := by decide +kernel
theorem dX6_type_7 : decode cX6_type 7 = .ok (.if_icmp .le 13, 3) := by decide +kernel
theorem dX6_type_10 : decode cX6_type 10 = .ok (.new 67, 3) := by decide +kernel
theorem dX6_type_13 : decode cX6_type 13 = .ok (.dup, 1) := by decide +kernel
theorem dX6_type_14 : decode cX6_type 14 = .ok (.ldc 193, 2) := by decide +kernel
theorem dX6_type_16 : decode cX6_type 16 = .ok (.invokespecial 71, 3) := by decide +kernel
theorem dX6_type_19 : decode cX6_type 19 = .ok (.athrow, 1) := by decide +kernel
theorem dX6_type_20 : decode cX6_type 20 = .ok (.aload_n 0, 1) := by decide +kernel
theorem dX6_type_21 : decode cX6_type 21 = .ok (.getfield 29, 3) := by decide +kernel
theorem dX6_type_24 : decode cX6_type 24 = .ok (.invokevirtual 195, 3) := by decide +kernel
theorem dX6_type_27 : decode cX6_type 27 = .ok (.ifCond .eq 13, 3) := by decide +kernel
theorem dX6_type_30 : decode cX6_type 30 = .ok (.new 198, 3) := by decide +kernel
theorem dX6_type_33 : decode cX6_type 33 = .ok (.dup, 1) := by decide +kernel
theorem dX6_type_34 : decode cX6_type 34 = .ok (.ldc 200, 2) := by decide +kernel
theorem dX6_type_36 : decode cX6_type 36 = .ok (.invokespecial 202, 3) := by decide +kernel
theorem dX6_type_39 : decode cX6_type 39 = .ok (.athrow, 1) := by decide +kernel
theorem dX6_type_40 : decode cX6_type 40 = .ok (.aload_n 0, 1) := by decide +kernel
theorem dX6_type_41 : decode cX6_type 41 = .ok (.getfield 29, 3) := by decide +kernel
theorem dX6_type_44 : decode cX6_type 44 = .ok (.iload_n 1, 1) := by decide +kernel
theorem dX6_type_45 : decode cX6_type 45 = .ok (.invokevirtual 203, 3) := by decide +kernel
theorem dX6_type_48 : decode cX6_type 48 = .ok (.aload_n 0, 1) := by decide +kernel
theorem dX6_type_49 : decode cX6_type 49 = .ok (.getfield 29, 3) := by decide +kernel
theorem dX6_type_52 : decode cX6_type 52 = .ok (.getfield 206, 3) := by decide +kernel
theorem dX6_type_55 : decode cX6_type 55 = .ok (.ireturn, 1) := by decide +kernel
theorem dX6_clearCommands_0 : decode cX6_clearCommands 0 = .ok (.aload_n 0, 1) := by decide +kernel
theorem dX6_clearCommands_1 : decode cX6_clearCommands 1 = .ok (.getfield 29, 3) := by decide +kernel
theorem dX6_clearCommands_4 : decode cX6_clearCommands 4 = .ok (.getfield 206, 3) := by decide +kernel
theorem dX6_clearCommands_7 : decode cX6_clearCommands 7 = .ok (.istore_n 1, 1) := by decide +kernel
theorem dX6_clearCommands_8 : decode cX6_clearCommands 8 = .ok (.aload_n 0, 1) := by decide +kernel
theorem dX6_clearCommands_9 : decode cX6_clearCommands 9 = .ok (.getfield 29, 3) := by decide +kernel
theorem dX6_clearCommands_12 : decode cX6_clearCommands 12 = .ok (.iconst 0, 1) := by decide +kernel
theorem dX6_clearCommands_13 : decode cX6_clearCommands 13 = .ok (.putfield 206, 3) := by decide +kernel
theorem dX6_clearCommands_16 : decode cX6_clearCommands 16 = .ok (.iload_n 1, 1) := by decide +kernel
theorem dX6_clearCommands_17 : decode cX6_clearCommands 17 = .ok (.ireturn, 1) := by decide +kernel
set_option maxRecDepth 20000 in
theorem ggX6_runCommands_X1_findFault : GoodIn wsX6_runCommands wsX1_findFault := goodIn_r _ [8, 9, 10, 11, 12, 7, 13, 14, 15, 16, 17, 18, 19, 20, 21, 22, 23, 24, 25, 26, 27, 28, 29, 30, 31, 32, 33, 34, 35, 36, 37, 38, 39, 40, 41, 42, 43, 44, 45, 46, 47, 48, 49, 50, 51, 52, 53, 54, 55, 56, 57, 58, 59, 60, 61, 62, 63, 64, 65, 66, 67, 68, 69, 70, 71, 72, 73, 74, 75, 76, 77, 78, 79, 80, 81, 82, 83, 84, 85, 86, 87, 88, 89, 90, 91, 92, 93, 94, 95, 96, 97, 98, 99, 100, 101, 102, 103, 104, 105, 106, 107, 108, 109, 110, 244, 245, 246, 247, 248, 249, 250] (by decide +kernel) (by decide +kernel)
set_option maxRecDepth 20000 in
theorem gX6_runCommands_X1_findFault : GoodIn wsX6_runCommands (wsV RX6 209 RX1 yX1_findFault wsX1_findFault) := goodIn_app (goodIn_of _ (by decide +kernel)) ggX6_runCommands_X1_findFault
set_option maxRecDepth 20000 in
theorem ggX6_runCommands_X2_save : GoodIn wsX6_runCommands wsX2_save := goodIn_r _ [115, 116, 117, 118, 119, 120, 121, 122, 123, 124, 125, 126, 127, 128, 129, 130, 131, 132, 133, 134, 135, 136, 137, 251, 252, 253, 254, 255, 256, 257, 258, 259, 260, 261, 262, 263] (by decide +kernel) (by decide +kernel)
set_option maxRecDepth 20000 in
theorem gX6_runCommands_X2_save : GoodIn wsX6_runCommands (wsV RX6 43 RX2 yX2_save wsX2_save) := goodIn_app (goodIn_of _ (by decide +kernel)) ggX6_runCommands_X2_save
set_option maxRecDepth 20000 in
theorem ggX6_runCommands_X1_rewind : GoodIn wsX6_runCommands wsX1_rewind := goodIn_r _ [13, 9, 244, 245, 246, 247, 248, 249, 250] (by decide +kernel) (by decide +kernel)
set_option maxRecDepth 20000 in
theorem gX6_runCommands_X1_rewind : GoodIn wsX6_runCommands (wsV RX6 212 RX1 yX1_rewind wsX1_rewind) := goodIn_app (goodIn_of _ (by decide +kernel)) ggX6_runCommands_X1_rewind
set_option maxRecDepth 20000 in
theorem ggX6_runCommands_X1_hasMore : GoodIn wsX6_runCommands wsX1_hasMore := goodIn_r _ [17, 9, 18, 19, 20, 21, 7, 22, 23, 24, 25, 26, 27, 244, 245, 246, 247, 248, 249, 250] (by decide +kernel) (by decide +kernel)
set_option maxRecDepth 20000 in
theorem gX6_runCommands_X1_hasMore : GoodIn wsX6_runCommands (wsV RX6 215 RX1 yX1_hasMore wsX1_hasMore) := goodIn_app (goodIn_of _ (by decide +kernel)) ggX6_runCommands_X1_hasMore
set_option maxRecDepth 20000 in
theorem ggX6_runCommands_X1_readCommand : GoodIn wsX6_runCommands wsX1_readCommand := goodIn_r _ [31, 9, 32, 33, 34, 35, 36, 37, 38, 7, 39, 18, 23, 24, 25, 26, 27, 40, 41, 42, 43, 44, 45, 46, 47, 48, 49, 50, 51, 52, 53, 54, 55, 56, 57, 58, 59, 60, 61, 62, 63, 64, 65, 66, 67, 68, 69, 70, 71, 72, 73, 74, 75, 76, 77, 78, 79, 80, 81, 82, 83, 84, 85, 86, 87, 88, 89, 90, 91, 92, 93, 94, 95, 96, 97, 98, 99, 100, 101, 102, 103, 19, 20, 21, 22, 104, 105, 106, 107, 108, 109, 110, 244, 245, 246, 247, 248, 249, 250] (by decide +kernel) (by decide +kernel)
set_option maxRecDepth 20000 in
theorem gX6_runCommands_X1_readCommand : GoodIn wsX6_runCommands (wsV RX6 218 RX1 yX1_readCommand wsX1_readCommand) := goodIn_app (goodIn_of _ (by decide +kernel)) ggX6_runCommands_X1_readCommand
set_option maxRecDepth 20000 in
theorem ggX6_runCommands_X6_carryOut : GoodIn wsX6_runCommands wsX6_carryOut := goodIn_r _ [145, 1, 146, 3, 147, 148, 149, 150, 151, 152, 153, 154, 155, 156, 122, 157, 131, 124, 129, 137, 158, 159, 160, 161, 162, 163, 164, 165, 166, 167, 168, 169, 130, 170, 171, 172, 173, 174, 175, 176, 177, 133, 178, 179, 180, 181, 182, 183, 184, 185, 186, 187, 188, 189, 190, 191, 192, 193, 194, 195, 196, 197, 198, 199, 200, 201, 132, 202, 203, 204, 205, 206, 207, 208, 209, 210, 211, 212, 213, 135, 214, 215, 216, 217, 218, 219, 220, 221, 222, 223, 224, 225, 226, 227, 228, 229, 230, 231, 232, 233, 234, 239, 240, 241, 242, 243, 244, 245, 246, 247, 248, 249, 250, 254, 255, 256, 257, 258, 259, 260, 261, 262, 263] (by decide +kernel) (by decide +kernel)
set_option maxRecDepth 20000 in
theorem gX6_runCommands_X6_carryOut : GoodIn wsX6_runCommands (wsV RX6 221 RX6 yX6_carryOut wsX6_carryOut) := goodIn_app (goodIn_of _ (by decide +kernel)) ggX6_runCommands_X6_carryOut
set_option maxRecDepth 20000 in
theorem ggX6_runCommands_X6_endChange : GoodIn wsX6_runCommands wsX6_endChange := goodIn_r _ [238, 3, 206, 207, 208, 122, 209, 210, 211, 212, 213, 135, 214, 215, 216, 217, 132, 131, 218, 219, 220, 221, 222, 223, 224, 225, 130, 182, 183, 184, 185, 226, 227, 228, 229, 230, 231, 232, 233, 124, 194, 195, 196, 197, 174, 175, 176, 177, 133, 234, 191, 192, 193, 129, 239, 240, 241, 242, 243, 254, 255, 256, 257, 258, 259, 260, 261, 262, 263] (by decide +kernel) (by decide +kernel)
set_option maxRecDepth 20000 in
theorem gX6_runCommands_X6_endChange : GoodIn wsX6_runCommands (wsV RX6 59 RX6 yX6_endChange wsX6_endChange) := goodIn_app (goodIn_of _ (by decide +kernel)) ggX6_runCommands_X6_endChange
theorem dX6_runCommands_0 : decode cX6_runCommands 0 = .ok (.aload_n 0, 1) := by decide +kernel
theorem dX6_runCommands_1 : decode cX6_runCommands 1 = .ok (.getfield 29, 3) := by decide +kernel
theorem dX6_runCommands_4 : decode cX6_runCommands 4 = .ok (.invokevirtual 209, 3) := by decide +kernel
theorem dX6_runCommands_7 : decode cX6_runCommands 7 = .ok (.istore_n 1, 1) := by decide +kernel
theorem dX6_runCommands_8 : decode cX6_runCommands 8 = .ok (.iload_n 1, 1) := by decide +kernel
theorem dX6_runCommands_9 : decode cX6_runCommands 9 = .ok (.sipush (-1000), 3) := by decide +kernel
theorem dX6_runCommands_12 : decode cX6_runCommands 12 = .ok (.if_icmp .eq 8, 3) := by decide +kernel
theorem dX6_runCommands_15 : decode cX6_runCommands 15 = .ok (.bipush (-10), 2) := by decide +kernel
theorem dX6_runCommands_17 : decode cX6_runCommands 17 = .ok (.iload_n 1, 1) := by decide +kernel
theorem dX6_runCommands_18 : decode cX6_runCommands 18 = .ok (.isub, 1) := by decide +kernel
theorem dX6_runCommands_19 : decode cX6_runCommands 19 = .ok (.ireturn, 1) := by decide +kernel
theorem dX6_runCommands_20 : decode cX6_runCommands 20 = .ok (.aload_n 0, 1) := by decide +kernel
theorem dX6_runCommands_21 : decode cX6_runCommands 21 = .ok (.getfield 36, 3) := by decide +kernel
theorem dX6_runCommands_24 : decode cX6_runCommands 24 = .ok (.aload_n 0, 1) := by decide +kernel
theorem dX6_runCommands_25 : decode cX6_runCommands 25 = .ok (.getfield 10, 3) := by decide +kernel
theorem dX6_runCommands_28 : decode cX6_runCommands 28 = .ok (.invokevirtual 43, 3) := by decide +kernel
theorem dX6_runCommands_31 : decode cX6_runCommands 31 = .ok (.aload_n 0, 1) := by decide +kernel
theorem dX6_runCommands_32 : decode cX6_runCommands 32 = .ok (.getfield 29, 3) := by decide +kernel
theorem dX6_runCommands_35 : decode cX6_runCommands 35 = .ok (.invokevirtual 212, 3) := by decide +kernel
theorem dX6_runCommands_38 : decode cX6_runCommands 38 = .ok (.iconst 0, 1) := by decide +kernel
theorem dX6_runCommands_39 : decode cX6_runCommands 39 = .ok (.istore_n 2, 1) := by decide +kernel
theorem dX6_runCommands_40 : decode cX6_runCommands 40 = .ok (.iload_n 2, 1) := by decide +kernel
theorem dX6_runCommands_41 : decode cX6_runCommands 41 = .ok (.sipush 150, 3) := by decide +kernel
theorem dX6_runCommands_44 : decode cX6_runCommands 44 = .ok (.if_icmp .ge 41, 3) := by decide +kernel
theorem dX6_runCommands_47 : decode cX6_runCommands 47 = .ok (.aload_n 0, 1) := by decide +kernel
theorem dX6_runCommands_48 : decode cX6_runCommands 48 = .ok (.getfield 29, 3) := by decide +kernel
theorem dX6_runCommands_51 : decode cX6_runCommands 51 = .ok (.invokevirtual 215, 3) := by decide +kernel
theorem dX6_runCommands_54 : decode cX6_runCommands 54 = .ok (.ifCond .eq 31, 3) := by decide +kernel
theorem dX6_runCommands_57 : decode cX6_runCommands 57 = .ok (.aload_n 0, 1) := by decide +kernel
theorem dX6_runCommands_58 : decode cX6_runCommands 58 = .ok (.getfield 29, 3) := by decide +kernel
theorem dX6_runCommands_61 : decode cX6_runCommands 61 = .ok (.invokevirtual 218, 3) := by decide +kernel
theorem dX6_runCommands_64 : decode cX6_runCommands 64 = .ok (.ifCond .eq 21, 3) := by decide +kernel
theorem dX6_runCommands_67 : decode cX6_runCommands 67 = .ok (.aload_n 0, 1) := by decide +kernel
theorem dX6_runCommands_68 : decode cX6_runCommands 68 = .ok (.invokevirtual 221, 3) := by decide +kernel
theorem dX6_runCommands_71 : decode cX6_runCommands 71 = .ok (.ifCond .eq 14, 3) := by decide +kernel
theorem dX6_runCommands_74 : decode cX6_runCommands 74 = .ok (.aload_n 0, 1) := by decide +kernel
theorem dX6_runCommands_75 : decode cX6_runCommands 75 = .ok (.invokevirtual 59, 3) := by decide +kernel
theorem dX6_runCommands_78 : decode cX6_runCommands 78 = .ok (.pop, 1) := by decide +kernel
theorem dX6_runCommands_79 : decode cX6_runCommands 79 = .ok (.iinc 2 1, 3) := by decide +kernel
theorem dX6_runCommands_82 : decode cX6_runCommands 82 = .ok (.goto (-42), 3) := by decide +kernel
theorem dX6_runCommands_85 : decode cX6_runCommands 85 = .ok (.iload_n 2, 1) := by decide +kernel
theorem dX6_runCommands_86 : decode cX6_runCommands 86 = .ok (.ireturn, 1) := by decide +kernel
set_option maxRecDepth 20000 in
theorem ggX6_undo_X2_restoreLatest : GoodIn wsX6_undo wsX2_restoreLatest := goodIn_r _ [9, 10, 11, 12, 13, 14, 15, 16, 17, 18, 19, 20, 21, 22, 23, 24, 25, 26, 27, 28, 29, 30, 31, 37, 38, 39, 40, 41, 42, 43, 44, 45, 46, 47, 48, 49] (by decide +kernel) (by decide +kernel)
set_option maxRecDepth 20000 in
theorem gX6_undo_X2_restoreLatest : GoodIn wsX6_undo (wsV RX6 229 RX2 yX2_restoreLatest wsX2_restoreLatest) := goodIn_app (goodIn_of _ (by decide +kernel)) ggX6_undo_X2_restoreLatest
theorem dX6_undo_0 : decode cX6_undo 0 = .ok (.aload_n 0, 1) := by decide +kernel
theorem dX6_undo_1 : decode cX6_undo 1 = .ok (.getfield 36, 3) := by decide +kernel
theorem dX6_undo_4 : decode cX6_undo 4 = .ok (.getfield 224, 3) := by decide +kernel
theorem dX6_undo_7 : decode cX6_undo 7 = .ok (.ifCond .ne 13, 3) := by decide +kernel
theorem dX6_undo_10 : decode cX6_undo 10 = .ok (.new 198, 3) := by decide +kernel
theorem dX6_undo_13 : decode cX6_undo 13 = .ok (.dup, 1) := by decide +kernel
theorem dX6_undo_14 : decode cX6_undo 14 = .ok (.ldc 227, 2) := by decide +kernel
theorem dX6_undo_16 : decode cX6_undo 16 = .ok (.invokespecial 202, 3) := by decide +kernel
theorem dX6_undo_19 : decode cX6_undo 19 = .ok (.athrow, 1) := by decide +kernel
theorem dX6_undo_20 : decode cX6_undo 20 = .ok (.aload_n 0, 1) := by decide +kernel
theorem dX6_undo_21 : decode cX6_undo 21 = .ok (.getfield 36, 3) := by decide +kernel
theorem dX6_undo_24 : decode cX6_undo 24 = .ok (.aload_n 0, 1) := by decide +kernel
theorem dX6_undo_25 : decode cX6_undo 25 = .ok (.getfield 10, 3) := by decide +kernel
theorem dX6_undo_28 : decode cX6_undo 28 = .ok (.invokevirtual 229, 3) := by decide +kernel
theorem dX6_undo_31 : decode cX6_undo 31 = .ok (.aload_n 0, 1) := by decide +kernel
theorem dX6_undo_32 : decode cX6_undo 32 = .ok (.getfield 36, 3) := by decide +kernel
theorem dX6_undo_35 : decode cX6_undo 35 = .ok (.getfield 224, 3) := by decide +kernel
theorem dX6_undo_38 : decode cX6_undo 38 = .ok (.ireturn, 1) := by decide +kernel
set_option maxRecDepth 20000 in
theorem ggX6_digest_X6_wholeValue : GoodIn wsX6_digest wsX6_wholeValue := goodIn_r _ [9, 4, 10, 11, 12, 13, 14, 15, 16, 17, 18, 19, 20, 21, 22, 23, 24, 25, 26, 27, 28, 29, 30, 31, 32, 33, 34, 35, 36, 37, 38, 39, 40, 41, 42, 43, 44, 45, 46, 47, 48, 49, 50, 51, 52, 53, 54, 55, 56, 57, 58, 59, 60, 61, 62, 63, 64, 65, 66, 67, 68, 69, 70, 71, 72, 73, 74, 75, 76, 77, 78, 121, 122, 123, 124, 125, 129, 130, 131, 132, 133, 134, 135, 136, 137, 138, 139, 140, 141, 142, 143, 144, 145] (by decide +kernel) (by decide +kernel)
set_option maxRecDepth 20000 in
theorem gX6_digest_X6_wholeValue : GoodIn wsX6_digest (wsV RX6 166 RX6 yX6_wholeValue wsX6_wholeValue) := goodIn_app (goodIn_of _ (by decide +kernel)) ggX6_digest_X6_wholeValue
set_option maxRecDepth 20000 in
theorem ggX6_digest_X6_elementValue : GoodIn wsX6_digest wsX6_elementValue := goodIn_r _ [82, 4, 83, 31, 32, 14, 33, 34, 35, 36, 37, 38, 20, 84, 22, 23, 24, 25, 26, 27, 28, 29, 30, 85, 65, 66, 67, 54, 68, 69, 70, 71, 55, 56, 57, 58, 59, 86, 51, 52, 53, 121, 122, 123, 124, 125, 129, 130, 131, 132, 133, 134, 135, 136, 137, 138] (by decide +kernel) (by decide +kernel)
set_option maxRecDepth 20000 in
theorem gX6_digest_X6_elementValue : GoodIn wsX6_digest (wsV RX6 148 RX6 yX6_elementValue wsX6_elementValue) := goodIn_app (goodIn_of _ (by decide +kernel)) ggX6_digest_X6_elementValue
set_option maxRecDepth 20000 in
theorem ggX6_digest_X3_brokenSet : GoodIn wsX6_digest wsX3_brokenSet := goodIn_r _ [19, 20, 21, 22, 23, 14, 24, 25, 26, 27, 28, 29, 30, 31, 32, 33, 34, 35, 36, 37, 38, 129, 130, 131, 132, 133, 134, 135, 136, 137, 138] (by decide +kernel) (by decide +kernel)
set_option maxRecDepth 20000 in
theorem gX6_digest_X3_brokenSet : GoodIn wsX6_digest (wsV RX6 160 RX3 yX3_brokenSet wsX3_brokenSet) := goodIn_app (goodIn_of _ (by decide +kernel)) ggX6_digest_X3_brokenSet
set_option maxRecDepth 20000 in
theorem ggX6_digest_X6_worstSearch : GoodIn wsX6_digest wsX6_worstSearch := goodIn_r _ [91, 4, 92, 93, 77, 27, 78, 94, 95, 96, 97, 98, 99, 100, 101, 102, 103, 104, 105, 106, 107, 108, 109, 110, 111, 36, 37, 14, 38, 20, 112, 56, 57, 58, 59, 113, 114, 115, 116, 121, 122, 123, 124, 125, 129, 130, 131, 132, 133, 134, 135, 136, 137, 138, 146, 147, 148, 149] (by decide +kernel) (by decide +kernel)
set_option maxRecDepth 20000 in
theorem gX6_digest_X6_worstSearch : GoodIn wsX6_digest (wsV RX6 236 RX6 yX6_worstSearch wsX6_worstSearch) := goodIn_app (goodIn_of _ (by decide +kernel)) ggX6_digest_X6_worstSearch
set_option maxRecDepth 20000 in
theorem ggX6_digest_X6_lostValues : GoodIn wsX6_digest wsX6_lostValues := goodIn_r _ [120, 4, 92, 94, 95, 96, 97, 98, 99, 100, 101, 102, 103, 104, 105, 106, 107, 77, 27, 78, 108, 109, 110, 111, 36, 37, 14, 38, 20, 112, 56, 57, 58, 59, 113, 114, 115, 116, 121, 122, 123, 124, 125, 129, 130, 131, 132, 133, 134, 135, 136, 137, 138, 146, 147, 148, 149] (by decide +kernel) (by decide +kernel)
set_option maxRecDepth 20000 in
theorem gX6_digest_X6_lostValues : GoodIn wsX6_digest (wsV RX6 239 RX6 yX6_lostValues wsX6_lostValues) := goodIn_app (goodIn_of _ (by decide +kernel)) ggX6_digest_X6_lostValues
theorem dX6_digest_0 : decode cX6_digest 0 = .ok (.ldc2_w 232, 3) := by decide +kernel
theorem dX6_digest_3 : decode cX6_digest 3 = .ok (.aload_n 0, 1) := by decide +kernel
theorem dX6_digest_4 : decode cX6_digest 4 = .ok (.getfield 36, 3) := by decide +kernel
theorem dX6_digest_7 : decode cX6_digest 7 = .ok (.getfield 224, 3) := by decide +kernel
theorem dX6_digest_10 : decode cX6_digest 10 = .ok (.i2l, 1) := by decide +kernel
theorem dX6_digest_11 : decode cX6_digest 11 = .ok (.ladd, 1) := by decide +kernel
theorem dX6_digest_12 : decode cX6_digest 12 = .ok (.lstore_n 1, 1) := by decide +kernel
theorem dX6_digest_13 : decode cX6_digest 13 = .ok (.iconst 0, 1) := by decide +kernel
theorem dX6_digest_14 : decode cX6_digest 14 = .ok (.istore_n 3, 1) := by decide +kernel
theorem dX6_digest_15 : decode cX6_digest 15 = .ok (.iload_n 3, 1) := by decide +kernel
theorem dX6_digest_16 : decode cX6_digest 16 = .ok (.bipush 11, 2) := by decide +kernel
theorem dX6_digest_18 : decode cX6_digest 18 = .ok (.if_icmp .gt 22, 3) := by decide +kernel
theorem dX6_digest_21 : decode cX6_digest 21 = .ok (.ldc2_w 234, 3) := by decide +kernel
theorem dX6_digest_24 : decode cX6_digest 24 = .ok (.lload_n 1, 1) := by decide +kernel
theorem dX6_digest_25 : decode cX6_digest 25 = .ok (.lmul, 1) := by decide +kernel
theorem dX6_digest_26 : decode cX6_digest 26 = .ok (.aload_n 0, 1) := by decide +kernel
theorem dX6_digest_27 : decode cX6_digest 27 = .ok (.iload_n 3, 1) := by decide +kernel
theorem dX6_digest_28 : decode cX6_digest 28 = .ok (.invokevirtual 166, 3) := by decide +kernel
theorem dX6_digest_31 : decode cX6_digest 31 = .ok (.i2l, 1) := by decide +kernel
theorem dX6_digest_32 : decode cX6_digest 32 = .ok (.ladd, 1) := by decide +kernel
theorem dX6_digest_33 : decode cX6_digest 33 = .ok (.lstore_n 1, 1) := by decide +kernel
theorem dX6_digest_34 : decode cX6_digest 34 = .ok (.iinc 3 1, 3) := by decide +kernel
theorem dX6_digest_37 : decode cX6_digest 37 = .ok (.goto (-22), 3) := by decide +kernel
theorem dX6_digest_40 : decode cX6_digest 40 = .ok (.iconst 0, 1) := by decide +kernel
theorem dX6_digest_41 : decode cX6_digest 41 = .ok (.istore_n 3, 1) := by decide +kernel
theorem dX6_digest_42 : decode cX6_digest 42 = .ok (.iload_n 3, 1) := by decide +kernel
theorem dX6_digest_43 : decode cX6_digest 43 = .ok (.aload_n 0, 1) := by decide +kernel
theorem dX6_digest_44 : decode cX6_digest 44 = .ok (.getfield 10, 3) := by decide +kernel
theorem dX6_digest_47 : decode cX6_digest 47 = .ok (.getfield 47, 3) := by decide +kernel
theorem dX6_digest_50 : decode cX6_digest 50 = .ok (.if_icmp .ge 55, 3) := by decide +kernel
theorem dX6_digest_53 : decode cX6_digest 53 = .ok (.ldc2_w 234, 3) := by decide +kernel
theorem dX6_digest_56 : decode cX6_digest 56 = .ok (.lload_n 1, 1) := by decide +kernel
theorem dX6_digest_57 : decode cX6_digest 57 = .ok (.lmul, 1) := by decide +kernel
theorem dX6_digest_58 : decode cX6_digest 58 = .ok (.aload_n 0, 1) := by decide +kernel
theorem dX6_digest_59 : decode cX6_digest 59 = .ok (.getfield 10, 3) := by decide +kernel
theorem dX6_digest_62 : decode cX6_digest 62 = .ok (.getfield 88, 3) := by decide +kernel
theorem dX6_digest_65 : decode cX6_digest 65 = .ok (.iload_n 3, 1) := by decide +kernel
theorem dX6_digest_66 : decode cX6_digest 66 = .ok (.laload, 1) := by decide +kernel
theorem dX6_digest_67 : decode cX6_digest 67 = .ok (.ladd, 1) := by decide +kernel
theorem dX6_digest_68 : decode cX6_digest 68 = .ok (.lstore_n 1, 1) := by decide +kernel
theorem dX6_digest_69 : decode cX6_digest 69 = .ok (.iconst 0, 1) := by decide +kernel
theorem dX6_digest_70 : decode cX6_digest 70 = .ok (.istore 4, 2) := by decide +kernel
theorem dX6_digest_72 : decode cX6_digest 72 = .ok (.iload 4, 2) := by decide +kernel
theorem dX6_digest_74 : decode cX6_digest 74 = .ok (.iconst 5, 1) := by decide +kernel
theorem dX6_digest_75 : decode cX6_digest 75 = .ok (.if_icmp .gt 24, 3) := by decide +kernel
theorem dX6_digest_78 : decode cX6_digest 78 = .ok (.ldc2_w 234, 3) := by decide +kernel
theorem dX6_digest_81 : decode cX6_digest 81 = .ok (.lload_n 1, 1) := by decide +kernel
theorem dX6_digest_82 : decode cX6_digest 82 = .ok (.lmul, 1) := by decide +kernel
theorem dX6_digest_83 : decode cX6_digest 83 = .ok (.aload_n 0, 1) := by decide +kernel
theorem dX6_digest_84 : decode cX6_digest 84 = .ok (.iload_n 3, 1) := by decide +kernel
theorem dX6_digest_85 : decode cX6_digest 85 = .ok (.iload 4, 2) := by decide +kernel
theorem dX6_digest_87 : decode cX6_digest 87 = .ok (.invokevirtual 148, 3) := by decide +kernel
theorem dX6_digest_90 : decode cX6_digest 90 = .ok (.i2l, 1) := by decide +kernel
theorem dX6_digest_91 : decode cX6_digest 91 = .ok (.ladd, 1) := by decide +kernel
theorem dX6_digest_92 : decode cX6_digest 92 = .ok (.lstore_n 1, 1) := by decide +kernel
theorem dX6_digest_93 : decode cX6_digest 93 = .ok (.iinc 4 1, 3) := by decide +kernel
theorem dX6_digest_96 : decode cX6_digest 96 = .ok (.goto (-24), 3) := by decide +kernel
theorem dX6_digest_99 : decode cX6_digest 99 = .ok (.iinc 3 1, 3) := by decide +kernel
theorem dX6_digest_102 : decode cX6_digest 102 = .ok (.goto (-60), 3) := by decide +kernel
theorem dX6_digest_105 : decode cX6_digest 105 = .ok (.ldc2_w 234, 3) := by decide +kernel
theorem dX6_digest_108 : decode cX6_digest 108 = .ok (.lload_n 1, 1) := by decide +kernel
theorem dX6_digest_109 : decode cX6_digest 109 = .ok (.lmul, 1) := by decide +kernel
theorem dX6_digest_110 : decode cX6_digest 110 = .ok (.aload_n 0, 1) := by decide +kernel
theorem dX6_digest_111 : decode cX6_digest 111 = .ok (.getfield 10, 3) := by decide +kernel
theorem dX6_digest_114 : decode cX6_digest 114 = .ok (.invokevirtual 160, 3) := by decide +kernel
theorem dX6_digest_117 : decode cX6_digest 117 = .ok (.ladd, 1) := by decide +kernel
theorem dX6_digest_118 : decode cX6_digest 118 = .ok (.lstore_n 1, 1) := by decide +kernel
theorem dX6_digest_119 : decode cX6_digest 119 = .ok (.ldc2_w 234, 3) := by decide +kernel
theorem dX6_digest_122 : decode cX6_digest 122 = .ok (.lload_n 1, 1) := by decide +kernel
theorem dX6_digest_123 : decode cX6_digest 123 = .ok (.lmul, 1) := by decide +kernel
theorem dX6_digest_124 : decode cX6_digest 124 = .ok (.aload_n 0, 1) := by decide +kernel
theorem dX6_digest_125 : decode cX6_digest 125 = .ok (.invokevirtual 236, 3) := by decide +kernel
theorem dX6_digest_128 : decode cX6_digest 128 = .ok (.i2l, 1) := by decide +kernel
theorem dX6_digest_129 : decode cX6_digest 129 = .ok (.ladd, 1) := by decide +kernel
theorem dX6_digest_130 : decode cX6_digest 130 = .ok (.lstore_n 1, 1) := by decide +kernel
theorem dX6_digest_131 : decode cX6_digest 131 = .ok (.ldc2_w 234, 3) := by decide +kernel
theorem dX6_digest_134 : decode cX6_digest 134 = .ok (.lload_n 1, 1) := by decide +kernel
theorem dX6_digest_135 : decode cX6_digest 135 = .ok (.lmul, 1) := by decide +kernel
theorem dX6_digest_136 : decode cX6_digest 136 = .ok (.aload_n 0, 1) := by decide +kernel
theorem dX6_digest_137 : decode cX6_digest 137 = .ok (.invokevirtual 239, 3) := by decide +kernel
theorem dX6_digest_140 : decode cX6_digest 140 = .ok (.i2l, 1) := by decide +kernel
theorem dX6_digest_141 : decode cX6_digest 141 = .ok (.ladd, 1) := by decide +kernel
theorem dX6_digest_142 : decode cX6_digest 142 = .ok (.lreturn, 1) := by decide +kernel
set_option maxRecDepth 20000 in
theorem ggX6_requireRoom_X3_hasRoom : GoodIn wsX6_requireRoom wsX3_hasRoom := goodIn_r _ [8, 9, 15, 16, 17, 18, 19, 20, 21, 22, 23, 24] (by decide +kernel) (by decide +kernel)
set_option maxRecDepth 20000 in
theorem gX6_requireRoom_X3_hasRoom : GoodIn wsX6_requireRoom (wsV RX6 185 RX3 yX3_hasRoom wsX3_hasRoom) := goodIn_app (goodIn_of _ (by decide +kernel)) ggX6_requireRoom_X3_hasRoom
theorem dX6_requireRoom_0 : decode cX6_requireRoom 0 = .ok (.aload_n 0, 1) := by decide +kernel
theorem dX6_requireRoom_1 : decode cX6_requireRoom 1 = .ok (.getfield 10, 3) := by decide +kernel
theorem dX6_requireRoom_4 : decode cX6_requireRoom 4 = .ok (.invokevirtual 185, 3) := by decide +kernel
theorem dX6_requireRoom_7 : decode cX6_requireRoom 7 = .ok (.ifCond .ne 13, 3) := by decide +kernel
theorem dX6_requireRoom_10 : decode cX6_requireRoom 10 = .ok (.new 198, 3) := by decide +kernel
theorem dX6_requireRoom_13 : decode cX6_requireRoom 13 = .ok (.dup, 1) := by decide +kernel
theorem dX6_requireRoom_14 : decode cX6_requireRoom 14 = .ok (.ldc 242, 2) := by decide +kernel
theorem dX6_requireRoom_16 : decode cX6_requireRoom 16 = .ok (.invokespecial 202, 3) := by decide +kernel
theorem dX6_requireRoom_19 : decode cX6_requireRoom 19 = .ok (.athrow, 1) := by decide +kernel
theorem dX6_requireRoom_20 : decode cX6_requireRoom 20 = .ok (.return_, 1) := by decide +kernel
set_option maxRecDepth 20000 in
theorem ggX6_requirePlace_X3_isPlace : GoodIn wsX6_requirePlace wsX3_isPlace := goodIn_r _ [8, 9, 15, 16, 17, 18, 19, 20, 21, 22, 23, 24] (by decide +kernel) (by decide +kernel)
set_option maxRecDepth 20000 in
theorem gX6_requirePlace_X3_isPlace : GoodIn wsX6_requirePlace (wsV RX6 155 RX3 yX3_isPlace wsX3_isPlace) := goodIn_app (goodIn_of _ (by decide +kernel)) ggX6_requirePlace_X3_isPlace
theorem dX6_requirePlace_0 : decode cX6_requirePlace 0 = .ok (.aload_n 0, 1) := by decide +kernel
theorem dX6_requirePlace_1 : decode cX6_requirePlace 1 = .ok (.getfield 10, 3) := by decide +kernel
theorem dX6_requirePlace_4 : decode cX6_requirePlace 4 = .ok (.iload_n 1, 1) := by decide +kernel
theorem dX6_requirePlace_5 : decode cX6_requirePlace 5 = .ok (.invokevirtual 155, 3) := by decide +kernel
theorem dX6_requirePlace_8 : decode cX6_requirePlace 8 = .ok (.ifCond .ne 13, 3) := by decide +kernel
theorem dX6_requirePlace_11 : decode cX6_requirePlace 11 = .ok (.new 98, 3) := by decide +kernel
theorem dX6_requirePlace_14 : decode cX6_requirePlace 14 = .ok (.dup, 1) := by decide +kernel
theorem dX6_requirePlace_15 : decode cX6_requirePlace 15 = .ok (.ldc 244, 2) := by decide +kernel
theorem dX6_requirePlace_17 : decode cX6_requirePlace 17 = .ok (.invokespecial 102, 3) := by decide +kernel
theorem dX6_requirePlace_20 : decode cX6_requirePlace 20 = .ok (.athrow, 1) := by decide +kernel
theorem dX6_requirePlace_21 : decode cX6_requirePlace 21 = .ok (.return_, 1) := by decide +kernel
set_option maxRecDepth 20000 in
theorem ggX6_requireBound_X3_isBound : GoodIn wsX6_requireBound wsX3_isBound := goodIn_r _ [8] (by decide +kernel) (by decide +kernel)
set_option maxRecDepth 20000 in
theorem gX6_requireBound_X3_isBound : GoodIn wsX6_requireBound (wsV RX6 246 RX3 yX3_isBound wsX3_isBound) := goodIn_app (goodIn_of _ (by decide +kernel)) ggX6_requireBound_X3_isBound
theorem dX6_requireBound_0 : decode cX6_requireBound 0 = .ok (.aload_n 0, 1) := by decide +kernel
theorem dX6_requireBound_1 : decode cX6_requireBound 1 = .ok (.getfield 10, 3) := by decide +kernel
theorem dX6_requireBound_4 : decode cX6_requireBound 4 = .ok (.iload_n 1, 1) := by decide +kernel
theorem dX6_requireBound_5 : decode cX6_requireBound 5 = .ok (.invokevirtual 246, 3) := by decide +kernel
theorem dX6_requireBound_8 : decode cX6_requireBound 8 = .ok (.ifCond .ne 13, 3) := by decide +kernel
theorem dX6_requireBound_11 : decode cX6_requireBound 11 = .ok (.new 67, 3) := by decide +kernel
theorem dX6_requireBound_14 : decode cX6_requireBound 14 = .ok (.dup, 1) := by decide +kernel
theorem dX6_requireBound_15 : decode cX6_requireBound 15 = .ok (.ldc 249, 2) := by decide +kernel
theorem dX6_requireBound_17 : decode cX6_requireBound 17 = .ok (.invokespecial 71, 3) := by decide +kernel
theorem dX6_requireBound_20 : decode cX6_requireBound 20 = .ok (.athrow, 1) := by decide +kernel
theorem dX6_requireBound_21 : decode cX6_requireBound 21 = .ok (.return_, 1) := by decide +kernel
set_option maxRecDepth 20000 in
theorem ggX6_endChange_X3_mendFully : GoodIn wsX6_endChange wsX3_mendFully := goodIn_r _ [6, 7, 8, 9, 5, 10, 11, 12, 13, 14, 15, 16, 17, 18, 19, 20, 21, 22, 23, 24, 25, 26, 27, 28, 29, 30, 31, 32, 33, 34, 35, 36, 37, 38, 39, 40, 41, 42, 43, 44, 45, 46, 47, 48, 49, 50, 51, 52, 53, 59, 60, 61, 62, 63, 64, 65, 66, 67, 68] (by decide +kernel) (by decide +kernel)
set_option maxRecDepth 20000 in
theorem gX6_endChange_X3_mendFully : GoodIn wsX6_endChange (wsV RX6 132 RX3 yX3_mendFully wsX3_mendFully) := goodIn_app (goodIn_of _ (by decide +kernel)) ggX6_endChange_X3_mendFully
theorem dX6_endChange_0 : decode cX6_endChange 0 = .ok (.aload_n 0, 1) := by decide +kernel
theorem dX6_endChange_1 : decode cX6_endChange 1 = .ok (.getfield 10, 3) := by decide +kernel
theorem dX6_endChange_4 : decode cX6_endChange 4 = .ok (.getfield 125, 3) := by decide +kernel
theorem dX6_endChange_7 : decode cX6_endChange 7 = .ok (.ifCond .eq 13, 3) := by decide +kernel
theorem dX6_endChange_10 : decode cX6_endChange 10 = .ok (.aload_n 0, 1) := by decide +kernel
theorem dX6_endChange_11 : decode cX6_endChange 11 = .ok (.getfield 10, 3) := by decide +kernel
theorem dX6_endChange_14 : decode cX6_endChange 14 = .ok (.invokevirtual 132, 3) := by decide +kernel
theorem dX6_endChange_17 : decode cX6_endChange 17 = .ok (.goto 4, 3) := by decide +kernel
theorem dX6_endChange_20 : decode cX6_endChange 20 = .ok (.iconst 0, 1) := by decide +kernel
theorem dX6_endChange_21 : decode cX6_endChange 21 = .ok (.ireturn, 1) := by decide +kernel
set_option maxRecDepth 20000 in
theorem ggX6_carryOut_Jx29ce0_ordinal_8abf5 : GoodIn wsX6_carryOut wsJx29ce0_ordinal_8abf5 := goodIn_r _ [9, 10] (by decide +kernel) (by decide +kernel)
set_option maxRecDepth 20000 in
theorem gX6_carryOut_Jx29ce0_ordinal_8abf5_u260X5 : GoodIn wsX6_carryOut (va_wsU RX6 260 RX5 "java/lang/Enum" ⟨"NearRanks$Word", "ordinal", "()I"⟩ yJx29ce0_ordinal_8abf5 wsJx29ce0_ordinal_8abf5) := goodIn_app (goodIn_of _ (by decide +kernel)) ggX6_carryOut_Jx29ce0_ordinal_8abf5
set_option maxRecDepth 20000 in
theorem ggX6_carryOut_X3_insertElement : GoodIn wsX6_carryOut wsX3_insertElement := goodIn_r _ [15, 16, 17, 18, 19, 20, 21, 22, 14, 23, 24, 25, 26, 27, 28, 29, 30, 31, 32, 33, 34, 35, 36, 37, 38, 39, 40, 41, 113, 114, 115, 116, 117, 118, 119, 120, 121, 122] (by decide +kernel) (by decide +kernel)
set_option maxRecDepth 20000 in
theorem gX6_carryOut_X3_insertElement : GoodIn wsX6_carryOut (wsV RX6 51 RX3 yX3_insertElement wsX3_insertElement) := goodIn_app (goodIn_of _ (by decide +kernel)) ggX6_carryOut_X3_insertElement
set_option maxRecDepth 20000 in
theorem ggX6_carryOut_X3_takeOut : GoodIn wsX6_carryOut wsX3_takeOut := goodIn_r _ [45, 16, 17, 18, 46, 47, 48, 14, 49, 28, 29, 30, 31, 32, 33, 34, 35, 36, 37, 38, 39, 40, 41, 113, 114, 115, 116, 117, 118, 119, 120, 121, 122] (by decide +kernel) (by decide +kernel)
set_option maxRecDepth 20000 in
theorem gX6_carryOut_X3_takeOut : GoodIn wsX6_carryOut (wsV RX6 85 RX3 yX3_takeOut wsX3_takeOut) := goodIn_app (goodIn_of _ (by decide +kernel)) ggX6_carryOut_X3_takeOut
set_option maxRecDepth 20000 in
theorem ggX6_carryOut_X3_changeValue : GoodIn wsX6_carryOut wsX3_changeValue := goodIn_r _ [53, 17, 46, 47, 48, 14, 49, 16, 28, 29, 30, 31, 32, 33, 34, 35, 36, 37, 38, 39, 40, 41, 113, 114, 115, 116, 117, 118, 119, 120, 121, 122] (by decide +kernel) (by decide +kernel)
set_option maxRecDepth 20000 in
theorem gX6_carryOut_X3_changeValue : GoodIn wsX6_carryOut (wsV RX6 92 RX3 yX3_changeValue wsX3_changeValue) := goodIn_app (goodIn_of _ (by decide +kernel)) ggX6_carryOut_X3_changeValue
set_option maxRecDepth 20000 in
theorem ggX6_carryOut_X3_swapElements : GoodIn wsX6_carryOut wsX3_swapElements := goodIn_r _ [57, 18, 17, 32, 58, 59, 60, 14, 61, 16, 113, 114, 115, 116, 117, 118, 119, 120, 121, 122] (by decide +kernel) (by decide +kernel)
set_option maxRecDepth 20000 in
theorem gX6_carryOut_X3_swapElements : GoodIn wsX6_carryOut (wsV RX6 106 RX3 yX3_swapElements wsX3_swapElements) := goodIn_app (goodIn_of _ (by decide +kernel)) ggX6_carryOut_X3_swapElements
set_option maxRecDepth 20000 in
theorem ggX6_carryOut_X3_changeBound : GoodIn wsX6_carryOut wsX3_changeBound := goodIn_r _ [65, 66, 67, 68, 69, 14, 70, 113, 114, 115, 116, 117, 118, 119, 120, 121, 122] (by decide +kernel) (by decide +kernel)
set_option maxRecDepth 20000 in
theorem gX6_carryOut_X3_changeBound : GoodIn wsX6_carryOut (wsV RX6 112 RX3 yX3_changeBound wsX3_changeBound) := goodIn_app (goodIn_of _ (by decide +kernel)) ggX6_carryOut_X3_changeBound
set_option maxRecDepth 20000 in
theorem ggX6_carryOut_X3_mendFully : GoodIn wsX6_carryOut wsX3_mendFully := goodIn_r _ [74, 75, 76, 77, 14, 78, 79, 80, 81, 82, 83, 66, 16, 84, 85, 86, 87, 88, 89, 90, 91, 32, 46, 47, 48, 49, 92, 93, 94, 95, 96, 97, 98, 99, 17, 58, 59, 60, 61, 37, 38, 39, 40, 41, 100, 55, 56, 57, 18, 113, 114, 115, 116, 117, 118, 119, 120, 121, 122] (by decide +kernel) (by decide +kernel)
set_option maxRecDepth 20000 in
theorem gX6_carryOut_X3_mendFully : GoodIn wsX6_carryOut (wsV RX6 132 RX3 yX3_mendFully wsX3_mendFully) := goodIn_app (goodIn_of _ (by decide +kernel)) ggX6_carryOut_X3_mendFully
theorem dX6_carryOut_0 : decode cX6_carryOut 0 = .ok (.aload_n 0, 1) := by decide +kernel
theorem dX6_carryOut_1 : decode cX6_carryOut 1 = .ok (.getfield 29, 3) := by decide +kernel
theorem dX6_carryOut_4 : decode cX6_carryOut 4 = .ok (.getfield 251, 3) := by decide +kernel
theorem dX6_carryOut_7 : decode cX6_carryOut 7 = .ok (.astore_n 1, 1) := by decide +kernel
theorem dX6_carryOut_8 : decode cX6_carryOut 8 = .ok (.aload_n 1, 1) := by decide +kernel
theorem dX6_carryOut_9 : decode cX6_carryOut 9 = .ok (.ifnonnull 5, 3) := by decide +kernel
theorem dX6_carryOut_12 : decode cX6_carryOut 12 = .ok (.iconst 0, 1) := by decide +kernel
theorem dX6_carryOut_13 : decode cX6_carryOut 13 = .ok (.ireturn, 1) := by decide +kernel
theorem dX6_carryOut_14 : decode cX6_carryOut 14 = .ok (.getstatic 255, 3) := by decide +kernel
theorem dX6_carryOut_17 : decode cX6_carryOut 17 = .ok (.aload_n 1, 1) := by decide +kernel
theorem dX6_carryOut_18 : decode cX6_carryOut 18 = .ok (.invokevirtual 260, 3) := by decide +kernel
theorem dX6_carryOut_21 : decode cX6_carryOut 21 = .ok (.iaload, 1) := by decide +kernel
theorem dX6_carryOut_22 : decode cX6_carryOut 22 = .ok (.tableswitch 149 1 6 #[38, 60, 82, 97, 119, 134], 38) := by decide +kernel
theorem dX6_carryOut_60 : decode cX6_carryOut 60 = .ok (.aload_n 0, 1) := by decide +kernel
theorem dX6_carryOut_61 : decode cX6_carryOut 61 = .ok (.getfield 10, 3) := by decide +kernel
theorem dX6_carryOut_64 : decode cX6_carryOut 64 = .ok (.aload_n 0, 1) := by decide +kernel
theorem dX6_carryOut_65 : decode cX6_carryOut 65 = .ok (.getfield 10, 3) := by decide +kernel
theorem dX6_carryOut_68 : decode cX6_carryOut 68 = .ok (.getfield 47, 3) := by decide +kernel
theorem dX6_carryOut_71 : decode cX6_carryOut 71 = .ok (.aload_n 0, 1) := by decide +kernel
theorem dX6_carryOut_72 : decode cX6_carryOut 72 = .ok (.getfield 29, 3) := by decide +kernel
theorem dX6_carryOut_75 : decode cX6_carryOut 75 = .ok (.getfield 265, 3) := by decide +kernel
theorem dX6_carryOut_78 : decode cX6_carryOut 78 = .ok (.invokevirtual 51, 3) := by decide +kernel
theorem dX6_carryOut_81 : decode cX6_carryOut 81 = .ok (.ireturn, 1) := by decide +kernel
theorem dX6_carryOut_82 : decode cX6_carryOut 82 = .ok (.aload_n 0, 1) := by decide +kernel
theorem dX6_carryOut_83 : decode cX6_carryOut 83 = .ok (.getfield 10, 3) := by decide +kernel
theorem dX6_carryOut_86 : decode cX6_carryOut 86 = .ok (.aload_n 0, 1) := by decide +kernel
theorem dX6_carryOut_87 : decode cX6_carryOut 87 = .ok (.getfield 29, 3) := by decide +kernel
theorem dX6_carryOut_90 : decode cX6_carryOut 90 = .ok (.getfield 269, 3) := by decide +kernel
theorem dX6_carryOut_93 : decode cX6_carryOut 93 = .ok (.aload_n 0, 1) := by decide +kernel
theorem dX6_carryOut_94 : decode cX6_carryOut 94 = .ok (.getfield 29, 3) := by decide +kernel
theorem dX6_carryOut_97 : decode cX6_carryOut 97 = .ok (.getfield 265, 3) := by decide +kernel
theorem dX6_carryOut_100 : decode cX6_carryOut 100 = .ok (.invokevirtual 51, 3) := by decide +kernel
theorem dX6_carryOut_103 : decode cX6_carryOut 103 = .ok (.ireturn, 1) := by decide +kernel
theorem dX6_carryOut_104 : decode cX6_carryOut 104 = .ok (.aload_n 0, 1) := by decide +kernel
theorem dX6_carryOut_105 : decode cX6_carryOut 105 = .ok (.getfield 10, 3) := by decide +kernel
theorem dX6_carryOut_108 : decode cX6_carryOut 108 = .ok (.aload_n 0, 1) := by decide +kernel
theorem dX6_carryOut_109 : decode cX6_carryOut 109 = .ok (.getfield 29, 3) := by decide +kernel
theorem dX6_carryOut_112 : decode cX6_carryOut 112 = .ok (.getfield 269, 3) := by decide +kernel
theorem dX6_carryOut_115 : decode cX6_carryOut 115 = .ok (.invokevirtual 85, 3) := by decide +kernel
theorem dX6_carryOut_118 : decode cX6_carryOut 118 = .ok (.ireturn, 1) := by decide +kernel
theorem dX6_carryOut_119 : decode cX6_carryOut 119 = .ok (.aload_n 0, 1) := by decide +kernel
theorem dX6_carryOut_120 : decode cX6_carryOut 120 = .ok (.getfield 10, 3) := by decide +kernel
theorem dX6_carryOut_123 : decode cX6_carryOut 123 = .ok (.aload_n 0, 1) := by decide +kernel
theorem dX6_carryOut_124 : decode cX6_carryOut 124 = .ok (.getfield 29, 3) := by decide +kernel
theorem dX6_carryOut_127 : decode cX6_carryOut 127 = .ok (.getfield 269, 3) := by decide +kernel
theorem dX6_carryOut_130 : decode cX6_carryOut 130 = .ok (.aload_n 0, 1) := by decide +kernel
theorem dX6_carryOut_131 : decode cX6_carryOut 131 = .ok (.getfield 29, 3) := by decide +kernel
theorem dX6_carryOut_134 : decode cX6_carryOut 134 = .ok (.getfield 265, 3) := by decide +kernel
theorem dX6_carryOut_137 : decode cX6_carryOut 137 = .ok (.invokevirtual 92, 3) := by decide +kernel
theorem dX6_carryOut_140 : decode cX6_carryOut 140 = .ok (.ireturn, 1) := by decide +kernel
theorem dX6_carryOut_141 : decode cX6_carryOut 141 = .ok (.aload_n 0, 1) := by decide +kernel
theorem dX6_carryOut_142 : decode cX6_carryOut 142 = .ok (.getfield 10, 3) := by decide +kernel
theorem dX6_carryOut_145 : decode cX6_carryOut 145 = .ok (.aload_n 0, 1) := by decide +kernel
theorem dX6_carryOut_146 : decode cX6_carryOut 146 = .ok (.getfield 29, 3) := by decide +kernel
theorem dX6_carryOut_149 : decode cX6_carryOut 149 = .ok (.getfield 269, 3) := by decide +kernel
theorem dX6_carryOut_152 : decode cX6_carryOut 152 = .ok (.invokevirtual 106, 3) := by decide +kernel
theorem dX6_carryOut_155 : decode cX6_carryOut 155 = .ok (.ireturn, 1) := by decide +kernel
theorem dX6_carryOut_156 : decode cX6_carryOut 156 = .ok (.aload_n 0, 1) := by decide +kernel
theorem dX6_carryOut_157 : decode cX6_carryOut 157 = .ok (.getfield 10, 3) := by decide +kernel
theorem dX6_carryOut_160 : decode cX6_carryOut 160 = .ok (.aload_n 0, 1) := by decide +kernel
theorem dX6_carryOut_161 : decode cX6_carryOut 161 = .ok (.getfield 29, 3) := by decide +kernel
theorem dX6_carryOut_164 : decode cX6_carryOut 164 = .ok (.getfield 269, 3) := by decide +kernel
theorem dX6_carryOut_167 : decode cX6_carryOut 167 = .ok (.invokevirtual 112, 3) := by decide +kernel
theorem dX6_carryOut_170 : decode cX6_carryOut 170 = .ok (.ireturn, 1) := by decide +kernel
theorem dX6_carryOut_171 : decode cX6_carryOut 171 = .ok (.aload_n 0, 1) := by decide +kernel
theorem dX6_carryOut_172 : decode cX6_carryOut 172 = .ok (.getfield 10, 3) := by decide +kernel
theorem dX6_carryOut_175 : decode cX6_carryOut 175 = .ok (.invokevirtual 132, 3) := by decide +kernel
theorem dX6_carryOut_178 : decode cX6_carryOut 178 = .ok (.pop, 1) := by decide +kernel
theorem dX6_carryOut_179 : decode cX6_carryOut 179 = .ok (.iconst 1, 1) := by decide +kernel
theorem dX6_carryOut_180 : decode cX6_carryOut 180 = .ok (.ireturn, 1) := by decide +kernel
set_option maxRecDepth 20000 in
theorem ggX6_elementValue_X3_distance : GoodIn wsX6_elementValue wsX3_distance := goodIn_r _ [6, 7, 8, 9, 10, 5, 11, 12, 46, 47, 48, 49, 50, 51, 52, 53, 54, 55] (by decide +kernel) (by decide +kernel)
set_option maxRecDepth 20000 in
theorem gX6_elementValue_X3_distance : GoodIn wsX6_elementValue (wsV RX6 55 RX3 yX3_distance wsX3_distance) := goodIn_app (goodIn_of _ (by decide +kernel)) ggX6_elementValue_X3_distance
set_option maxRecDepth 20000 in
theorem ggX6_elementValue_X3_isBroken : GoodIn wsX6_elementValue wsX3_isBroken := goodIn_r _ [16, 17, 18, 19, 20, 21, 22, 3, 4, 5, 6, 7, 8, 9, 10, 11, 12, 46, 47, 48, 49, 50, 51, 52, 53, 54, 55] (by decide +kernel) (by decide +kernel)
set_option maxRecDepth 20000 in
theorem gX6_elementValue_X3_isBroken : GoodIn wsX6_elementValue (wsV RX6 275 RX3 yX3_isBroken wsX3_isBroken) := goodIn_app (goodIn_of _ (by decide +kernel)) ggX6_elementValue_X3_isBroken
set_option maxRecDepth 20000 in
theorem ggX6_elementValue_X3_isFall : GoodIn wsX6_elementValue wsX3_isFall := goodIn_r _ [26, 27, 28, 29, 30, 5, 31, 12, 32, 33, 34, 35, 36, 46, 47, 48, 49, 50, 51, 52, 53, 54, 55] (by decide +kernel) (by decide +kernel)
set_option maxRecDepth 20000 in
theorem gX6_elementValue_X3_isFall : GoodIn wsX6_elementValue (wsV RX6 278 RX3 yX3_isFall wsX3_isFall) := goodIn_app (goodIn_of _ (by decide +kernel)) ggX6_elementValue_X3_isFall
set_option maxRecDepth 20000 in
theorem ggX6_elementValue_X3_inversionsOf : GoodIn wsX6_elementValue wsX3_inversionsOf := goodIn_r _ [40, 27, 12, 32, 33, 34, 5, 35, 36, 46, 47, 48, 49, 50, 51, 52, 53, 54, 55] (by decide +kernel) (by decide +kernel)
set_option maxRecDepth 20000 in
theorem gX6_elementValue_X3_inversionsOf : GoodIn wsX6_elementValue (wsV RX6 281 RX3 yX3_inversionsOf wsX3_inversionsOf) := goodIn_app (goodIn_of _ (by decide +kernel)) ggX6_elementValue_X3_inversionsOf
theorem dX6_elementValue_0 : decode cX6_elementValue 0 = .ok (.iload_n 2, 1) := by decide +kernel
theorem dX6_elementValue_1 : decode cX6_elementValue 1 = .ok (.tableswitch 98 0 4 #[35, 45, 55, 64, 81], 35) := by decide +kernel
theorem dX6_elementValue_36 : decode cX6_elementValue 36 = .ok (.aload_n 0, 1) := by decide +kernel
theorem dX6_elementValue_37 : decode cX6_elementValue 37 = .ok (.getfield 10, 3) := by decide +kernel
theorem dX6_elementValue_40 : decode cX6_elementValue 40 = .ok (.getfield 81, 3) := by decide +kernel
theorem dX6_elementValue_43 : decode cX6_elementValue 43 = .ok (.iload_n 1, 1) := by decide +kernel
theorem dX6_elementValue_44 : decode cX6_elementValue 44 = .ok (.iaload, 1) := by decide +kernel
theorem dX6_elementValue_45 : decode cX6_elementValue 45 = .ok (.ireturn, 1) := by decide +kernel
theorem dX6_elementValue_46 : decode cX6_elementValue 46 = .ok (.aload_n 0, 1) := by decide +kernel
theorem dX6_elementValue_47 : decode cX6_elementValue 47 = .ok (.getfield 10, 3) := by decide +kernel
theorem dX6_elementValue_50 : decode cX6_elementValue 50 = .ok (.getfield 272, 3) := by decide +kernel
theorem dX6_elementValue_53 : decode cX6_elementValue 53 = .ok (.iload_n 1, 1) := by decide +kernel
theorem dX6_elementValue_54 : decode cX6_elementValue 54 = .ok (.iaload, 1) := by decide +kernel
theorem dX6_elementValue_55 : decode cX6_elementValue 55 = .ok (.ireturn, 1) := by decide +kernel
theorem dX6_elementValue_56 : decode cX6_elementValue 56 = .ok (.aload_n 0, 1) := by decide +kernel
theorem dX6_elementValue_57 : decode cX6_elementValue 57 = .ok (.getfield 10, 3) := by decide +kernel
theorem dX6_elementValue_60 : decode cX6_elementValue 60 = .ok (.iload_n 1, 1) := by decide +kernel
theorem dX6_elementValue_61 : decode cX6_elementValue 61 = .ok (.invokevirtual 55, 3) := by decide +kernel
theorem dX6_elementValue_64 : decode cX6_elementValue 64 = .ok (.ireturn, 1) := by decide +kernel
theorem dX6_elementValue_65 : decode cX6_elementValue 65 = .ok (.aload_n 0, 1) := by decide +kernel
theorem dX6_elementValue_66 : decode cX6_elementValue 66 = .ok (.getfield 10, 3) := by decide +kernel
theorem dX6_elementValue_69 : decode cX6_elementValue 69 = .ok (.iload_n 1, 1) := by decide +kernel
theorem dX6_elementValue_70 : decode cX6_elementValue 70 = .ok (.invokevirtual 275, 3) := by decide +kernel
theorem dX6_elementValue_73 : decode cX6_elementValue 73 = .ok (.ifCond .eq 7, 3) := by decide +kernel
theorem dX6_elementValue_76 : decode cX6_elementValue 76 = .ok (.iconst 1, 1) := by decide +kernel
theorem dX6_elementValue_77 : decode cX6_elementValue 77 = .ok (.goto 4, 3) := by decide +kernel
theorem dX6_elementValue_80 : decode cX6_elementValue 80 = .ok (.iconst 0, 1) := by decide +kernel
theorem dX6_elementValue_81 : decode cX6_elementValue 81 = .ok (.ireturn, 1) := by decide +kernel
theorem dX6_elementValue_82 : decode cX6_elementValue 82 = .ok (.aload_n 0, 1) := by decide +kernel
theorem dX6_elementValue_83 : decode cX6_elementValue 83 = .ok (.getfield 10, 3) := by decide +kernel
theorem dX6_elementValue_86 : decode cX6_elementValue 86 = .ok (.iload_n 1, 1) := by decide +kernel
theorem dX6_elementValue_87 : decode cX6_elementValue 87 = .ok (.invokevirtual 278, 3) := by decide +kernel
theorem dX6_elementValue_90 : decode cX6_elementValue 90 = .ok (.ifCond .eq 7, 3) := by decide +kernel
theorem dX6_elementValue_93 : decode cX6_elementValue 93 = .ok (.iconst 1, 1) := by decide +kernel
theorem dX6_elementValue_94 : decode cX6_elementValue 94 = .ok (.goto 4, 3) := by decide +kernel
theorem dX6_elementValue_97 : decode cX6_elementValue 97 = .ok (.iconst 0, 1) := by decide +kernel
theorem dX6_elementValue_98 : decode cX6_elementValue 98 = .ok (.ireturn, 1) := by decide +kernel
theorem dX6_elementValue_99 : decode cX6_elementValue 99 = .ok (.aload_n 0, 1) := by decide +kernel
theorem dX6_elementValue_100 : decode cX6_elementValue 100 = .ok (.getfield 10, 3) := by decide +kernel
theorem dX6_elementValue_103 : decode cX6_elementValue 103 = .ok (.iload_n 1, 1) := by decide +kernel
theorem dX6_elementValue_104 : decode cX6_elementValue 104 = .ok (.invokevirtual 281, 3) := by decide +kernel
theorem dX6_elementValue_107 : decode cX6_elementValue 107 = .ok (.ireturn, 1) := by decide +kernel
set_option maxRecDepth 20000 in
theorem ggX6_wholeValue_X3_brokenCount : GoodIn wsX6_wholeValue wsX3_brokenCount := goodIn_r _ [7, 8, 9, 10, 6, 11, 12, 13, 14, 15, 16, 17, 18, 19, 20, 21, 22, 23, 24, 25, 26, 27, 28, 29, 30, 31, 32, 33, 34, 35, 36, 37, 76, 77, 78, 79, 80, 81, 82, 83, 84, 85] (by decide +kernel) (by decide +kernel)
set_option maxRecDepth 20000 in
theorem gX6_wholeValue_X3_brokenCount : GoodIn wsX6_wholeValue (wsV RX6 115 RX3 yX3_brokenCount wsX3_brokenCount) := goodIn_app (goodIn_of _ (by decide +kernel)) ggX6_wholeValue_X3_brokenCount
set_option maxRecDepth 20000 in
theorem ggX6_wholeValue_X3_inversions : GoodIn wsX6_wholeValue wsX3_inversions := goodIn_r _ [41, 12, 42, 43, 44, 6, 45, 46, 47, 48, 49, 50, 51, 76, 77, 78, 79, 80, 81, 82, 83, 84, 85] (by decide +kernel) (by decide +kernel)
set_option maxRecDepth 20000 in
theorem gX6_wholeValue_X3_inversions : GoodIn wsX6_wholeValue (wsV RX6 122 RX3 yX3_inversions wsX3_inversions) := goodIn_app (goodIn_of _ (by decide +kernel)) ggX6_wholeValue_X3_inversions
set_option maxRecDepth 20000 in
theorem ggX6_wholeValue_X3_falls : GoodIn wsX6_wholeValue wsX3_falls := goodIn_r _ [55, 12, 56, 57, 58, 6, 59, 46, 60, 61, 62, 63, 47, 48, 49, 50, 51, 76, 77, 78, 79, 80, 81, 82, 83, 84, 85] (by decide +kernel) (by decide +kernel)
set_option maxRecDepth 20000 in
theorem gX6_wholeValue_X3_falls : GoodIn wsX6_wholeValue (wsV RX6 290 RX3 yX3_falls wsX3_falls) := goodIn_app (goodIn_of _ (by decide +kernel)) ggX6_wholeValue_X3_falls
set_option maxRecDepth 20000 in
theorem ggX6_wholeValue_X3_greatestDistance : GoodIn wsX6_wholeValue wsX3_greatestDistance := goodIn_r _ [67, 12, 17, 18, 19, 20, 68, 69, 70, 22, 23, 24, 6, 25, 26, 27, 28, 29, 30, 76, 77, 78, 79, 80, 81, 82, 83, 84, 85] (by decide +kernel) (by decide +kernel)
set_option maxRecDepth 20000 in
theorem gX6_wholeValue_X3_greatestDistance : GoodIn wsX6_wholeValue (wsV RX6 296 RX3 yX3_greatestDistance wsX3_greatestDistance) := goodIn_app (goodIn_of _ (by decide +kernel)) ggX6_wholeValue_X3_greatestDistance
theorem dX6_wholeValue_0 : decode cX6_wholeValue 0 = .ok (.iload_n 1, 1) := by decide +kernel
theorem dX6_wholeValue_1 : decode cX6_wholeValue 1 = .ok (.tableswitch 163 0 10 #[59, 67, 75, 91, 107, 115, 123, 131, 139, 147, 155], 59) := by decide +kernel
theorem dX6_wholeValue_60 : decode cX6_wholeValue 60 = .ok (.aload_n 0, 1) := by decide +kernel
theorem dX6_wholeValue_61 : decode cX6_wholeValue 61 = .ok (.getfield 10, 3) := by decide +kernel
theorem dX6_wholeValue_64 : decode cX6_wholeValue 64 = .ok (.getfield 47, 3) := by decide +kernel
theorem dX6_wholeValue_67 : decode cX6_wholeValue 67 = .ok (.ireturn, 1) := by decide +kernel
theorem dX6_wholeValue_68 : decode cX6_wholeValue 68 = .ok (.aload_n 0, 1) := by decide +kernel
theorem dX6_wholeValue_69 : decode cX6_wholeValue 69 = .ok (.getfield 10, 3) := by decide +kernel
theorem dX6_wholeValue_72 : decode cX6_wholeValue 72 = .ok (.getfield 284, 3) := by decide +kernel
theorem dX6_wholeValue_75 : decode cX6_wholeValue 75 = .ok (.ireturn, 1) := by decide +kernel
theorem dX6_wholeValue_76 : decode cX6_wholeValue 76 = .ok (.aload_n 0, 1) := by decide +kernel
theorem dX6_wholeValue_77 : decode cX6_wholeValue 77 = .ok (.getfield 10, 3) := by decide +kernel
theorem dX6_wholeValue_80 : decode cX6_wholeValue 80 = .ok (.getfield 287, 3) := by decide +kernel
theorem dX6_wholeValue_83 : decode cX6_wholeValue 83 = .ok (.ifCond .eq 7, 3) := by decide +kernel
theorem dX6_wholeValue_86 : decode cX6_wholeValue 86 = .ok (.iconst 1, 1) := by decide +kernel
theorem dX6_wholeValue_87 : decode cX6_wholeValue 87 = .ok (.goto 4, 3) := by decide +kernel
theorem dX6_wholeValue_90 : decode cX6_wholeValue 90 = .ok (.iconst 0, 1) := by decide +kernel
theorem dX6_wholeValue_91 : decode cX6_wholeValue 91 = .ok (.ireturn, 1) := by decide +kernel
theorem dX6_wholeValue_92 : decode cX6_wholeValue 92 = .ok (.aload_n 0, 1) := by decide +kernel
theorem dX6_wholeValue_93 : decode cX6_wholeValue 93 = .ok (.getfield 10, 3) := by decide +kernel
theorem dX6_wholeValue_96 : decode cX6_wholeValue 96 = .ok (.getfield 125, 3) := by decide +kernel
theorem dX6_wholeValue_99 : decode cX6_wholeValue 99 = .ok (.ifCond .eq 7, 3) := by decide +kernel
theorem dX6_wholeValue_102 : decode cX6_wholeValue 102 = .ok (.iconst 1, 1) := by decide +kernel
theorem dX6_wholeValue_103 : decode cX6_wholeValue 103 = .ok (.goto 4, 3) := by decide +kernel
theorem dX6_wholeValue_106 : decode cX6_wholeValue 106 = .ok (.iconst 0, 1) := by decide +kernel
theorem dX6_wholeValue_107 : decode cX6_wholeValue 107 = .ok (.ireturn, 1) := by decide +kernel
theorem dX6_wholeValue_108 : decode cX6_wholeValue 108 = .ok (.aload_n 0, 1) := by decide +kernel
theorem dX6_wholeValue_109 : decode cX6_wholeValue 109 = .ok (.getfield 10, 3) := by decide +kernel
theorem dX6_wholeValue_112 : decode cX6_wholeValue 112 = .ok (.invokevirtual 115, 3) := by decide +kernel
theorem dX6_wholeValue_115 : decode cX6_wholeValue 115 = .ok (.ireturn, 1) := by decide +kernel
theorem dX6_wholeValue_116 : decode cX6_wholeValue 116 = .ok (.aload_n 0, 1) := by decide +kernel
theorem dX6_wholeValue_117 : decode cX6_wholeValue 117 = .ok (.getfield 10, 3) := by decide +kernel
theorem dX6_wholeValue_120 : decode cX6_wholeValue 120 = .ok (.invokevirtual 122, 3) := by decide +kernel
theorem dX6_wholeValue_123 : decode cX6_wholeValue 123 = .ok (.ireturn, 1) := by decide +kernel
theorem dX6_wholeValue_124 : decode cX6_wholeValue 124 = .ok (.aload_n 0, 1) := by decide +kernel
theorem dX6_wholeValue_125 : decode cX6_wholeValue 125 = .ok (.getfield 10, 3) := by decide +kernel
theorem dX6_wholeValue_128 : decode cX6_wholeValue 128 = .ok (.invokevirtual 290, 3) := by decide +kernel
theorem dX6_wholeValue_131 : decode cX6_wholeValue 131 = .ok (.ireturn, 1) := by decide +kernel
theorem dX6_wholeValue_132 : decode cX6_wholeValue 132 = .ok (.aload_n 0, 1) := by decide +kernel
theorem dX6_wholeValue_133 : decode cX6_wholeValue 133 = .ok (.getfield 10, 3) := by decide +kernel
theorem dX6_wholeValue_136 : decode cX6_wholeValue 136 = .ok (.getfield 293, 3) := by decide +kernel
theorem dX6_wholeValue_139 : decode cX6_wholeValue 139 = .ok (.ireturn, 1) := by decide +kernel
theorem dX6_wholeValue_140 : decode cX6_wholeValue 140 = .ok (.aload_n 0, 1) := by decide +kernel
theorem dX6_wholeValue_141 : decode cX6_wholeValue 141 = .ok (.getfield 10, 3) := by decide +kernel
theorem dX6_wholeValue_144 : decode cX6_wholeValue 144 = .ok (.getfield 139, 3) := by decide +kernel
theorem dX6_wholeValue_147 : decode cX6_wholeValue 147 = .ok (.ireturn, 1) := by decide +kernel
theorem dX6_wholeValue_148 : decode cX6_wholeValue 148 = .ok (.aload_n 0, 1) := by decide +kernel
theorem dX6_wholeValue_149 : decode cX6_wholeValue 149 = .ok (.getfield 10, 3) := by decide +kernel
theorem dX6_wholeValue_152 : decode cX6_wholeValue 152 = .ok (.getfield 74, 3) := by decide +kernel
theorem dX6_wholeValue_155 : decode cX6_wholeValue 155 = .ok (.ireturn, 1) := by decide +kernel
theorem dX6_wholeValue_156 : decode cX6_wholeValue 156 = .ok (.aload_n 0, 1) := by decide +kernel
theorem dX6_wholeValue_157 : decode cX6_wholeValue 157 = .ok (.getfield 10, 3) := by decide +kernel
theorem dX6_wholeValue_160 : decode cX6_wholeValue 160 = .ok (.invokevirtual 296, 3) := by decide +kernel
theorem dX6_wholeValue_163 : decode cX6_wholeValue 163 = .ok (.ireturn, 1) := by decide +kernel
theorem dX6_wholeValue_164 : decode cX6_wholeValue 164 = .ok (.aload_n 0, 1) := by decide +kernel
theorem dX6_wholeValue_165 : decode cX6_wholeValue 165 = .ok (.getfield 29, 3) := by decide +kernel
theorem dX6_wholeValue_168 : decode cX6_wholeValue 168 = .ok (.getfield 206, 3) := by decide +kernel
theorem dX6_wholeValue_171 : decode cX6_wholeValue 171 = .ok (.ireturn, 1) := by decide +kernel
theorem dX7_init_0 : decode cX7_init 0 = .ok (.aload_n 0, 1) := by decide +kernel
theorem dX7_init_1 : decode cX7_init 1 = .ok (.invokespecial 1, 3) := by decide +kernel
theorem dX7_init_4 : decode cX7_init 4 = .ok (.aload_n 0, 1) := by decide +kernel
theorem dX7_init_5 : decode cX7_init 5 = .ok (.bipush 71, 2) := by decide +kernel
theorem dX7_init_7 : decode cX7_init 7 = .ok (.newarray .long, 2) := by decide +kernel
theorem dX7_init_9 : decode cX7_init 9 = .ok (.putfield 7, 3) := by decide +kernel
theorem dX7_init_12 : decode cX7_init 12 = .ok (.aload_n 0, 1) := by decide +kernel
theorem dX7_init_13 : decode cX7_init 13 = .ok (.sipush 284, 3) := by decide +kernel
theorem dX7_init_16 : decode cX7_init 16 = .ok (.newarray .long, 2) := by decide +kernel
theorem dX7_init_18 : decode cX7_init 18 = .ok (.putfield 13, 3) := by decide +kernel
theorem dX7_init_21 : decode cX7_init 21 = .ok (.aload_n 0, 1) := by decide +kernel
theorem dX7_init_22 : decode cX7_init 22 = .ok (.bipush 71, 2) := by decide +kernel
theorem dX7_init_24 : decode cX7_init 24 = .ok (.newarray .long, 2) := by decide +kernel
theorem dX7_init_26 : decode cX7_init 26 = .ok (.putfield 16, 3) := by decide +kernel
theorem dX7_init_29 : decode cX7_init 29 = .ok (.aload_n 0, 1) := by decide +kernel
theorem dX7_init_30 : decode cX7_init 30 = .ok (.sipush 150, 3) := by decide +kernel
theorem dX7_init_33 : decode cX7_init 33 = .ok (.newarray .int, 2) := by decide +kernel
theorem dX7_init_35 : decode cX7_init 35 = .ok (.putfield 19, 3) := by decide +kernel
theorem dX7_init_38 : decode cX7_init 38 = .ok (.aload_n 0, 1) := by decide +kernel
theorem dX7_init_39 : decode cX7_init 39 = .ok (.getfield 7, 3) := by decide +kernel
theorem dX7_init_42 : decode cX7_init 42 = .ok (.iconst 1, 1) := by decide +kernel
theorem dX7_init_43 : decode cX7_init 43 = .ok (.ldc2_w 23, 3) := by decide +kernel
theorem dX7_init_46 : decode cX7_init 46 = .ok (.lastore, 1) := by decide +kernel
theorem dX7_init_47 : decode cX7_init 47 = .ok (.return_, 1) := by decide +kernel
theorem dX7_thrown_0 : decode cX7_thrown 0 = .ok (.aload_n 0, 1) := by decide +kernel
theorem dX7_thrown_1 : decode cX7_thrown 1 = .ok (.getfield 25, 3) := by decide +kernel
theorem dX7_thrown_4 : decode cX7_thrown 4 = .ok (.ireturn, 1) := by decide +kernel
theorem dX7_in_0 : decode cX7_in 0 = .ok (.lload_n 0, 1) := by decide +kernel
theorem dX7_in_1 : decode cX7_in 1 = .ok (.lload_n 2, 1) := by decide +kernel
theorem dX7_in_2 : decode cX7_in 2 = .ok (.lcmp, 1) := by decide +kernel
theorem dX7_in_3 : decode cX7_in 3 = .ok (.ifCond .lt 14, 3) := by decide +kernel
theorem dX7_in_6 : decode cX7_in 6 = .ok (.lload_n 0, 1) := by decide +kernel
theorem dX7_in_7 : decode cX7_in 7 = .ok (.lload 4, 2) := by decide +kernel
theorem dX7_in_9 : decode cX7_in 9 = .ok (.lcmp, 1) := by decide +kernel
theorem dX7_in_10 : decode cX7_in 10 = .ok (.ifCond .gt 7, 3) := by decide +kernel
theorem dX7_in_13 : decode cX7_in 13 = .ok (.iconst 1, 1) := by decide +kernel
theorem dX7_in_14 : decode cX7_in 14 = .ok (.goto 4, 3) := by decide +kernel
theorem dX7_in_17 : decode cX7_in 17 = .ok (.iconst 0, 1) := by decide +kernel
theorem dX7_in_18 : decode cX7_in 18 = .ok (.ireturn, 1) := by decide +kernel
theorem dX7_throwsAt_0 : decode cX7_throwsAt 0 = .ok (.aload_n 0, 1) := by decide +kernel
theorem dX7_throwsAt_1 : decode cX7_throwsAt 1 = .ok (.iload_n 1, 1) := by decide +kernel
theorem dX7_throwsAt_2 : decode cX7_throwsAt 2 = .ok (.putfield 25, 3) := by decide +kernel
theorem dX7_throwsAt_5 : decode cX7_throwsAt 5 = .ok (.iload_n 1, 1) := by decide +kernel
theorem dX7_throwsAt_6 : decode cX7_throwsAt 6 = .ok (.ifCond .le 7, 3) := by decide +kernel
theorem dX7_throwsAt_9 : decode cX7_throwsAt 9 = .ok (.iconst 1, 1) := by decide +kernel
theorem dX7_throwsAt_10 : decode cX7_throwsAt 10 = .ok (.goto 4, 3) := by decide +kernel
theorem dX7_throwsAt_13 : decode cX7_throwsAt 13 = .ok (.iconst 0, 1) := by decide +kernel
theorem dX7_throwsAt_14 : decode cX7_throwsAt 14 = .ok (.ireturn, 1) := by decide +kernel
theorem dX7_saves_0 : decode cX7_saves 0 = .ok (.aload_n 0, 1) := by decide +kernel
theorem dX7_saves_1 : decode cX7_saves 1 = .ok (.getfield 29, 3) := by decide +kernel
theorem dX7_saves_4 : decode cX7_saves 4 = .ok (.ifCond .eq 4, 3) := by decide +kernel
theorem dX7_saves_7 : decode cX7_saves 7 = .ok (.return_, 1) := by decide +kernel
theorem dX7_saves_8 : decode cX7_saves 8 = .ok (.aload_n 0, 1) := by decide +kernel
theorem dX7_saves_9 : decode cX7_saves 9 = .ok (.getfield 33, 3) := by decide +kernel
theorem dX7_saves_12 : decode cX7_saves 12 = .ok (.iconst 4, 1) := by decide +kernel
theorem dX7_saves_13 : decode cX7_saves 13 = .ok (.if_icmp .ne 43, 3) := by decide +kernel
theorem dX7_saves_16 : decode cX7_saves 16 = .ok (.iconst 0, 1) := by decide +kernel
theorem dX7_saves_17 : decode cX7_saves 17 = .ok (.istore_n 1, 1) := by decide +kernel
theorem dX7_saves_18 : decode cX7_saves 18 = .ok (.iload_n 1, 1) := by decide +kernel
theorem dX7_saves_19 : decode cX7_saves 19 = .ok (.sipush 213, 3) := by decide +kernel
theorem dX7_saves_22 : decode cX7_saves 22 = .ok (.if_icmp .ge 24, 3) := by decide +kernel
theorem dX7_saves_25 : decode cX7_saves 25 = .ok (.aload_n 0, 1) := by decide +kernel
theorem dX7_saves_26 : decode cX7_saves 26 = .ok (.getfield 13, 3) := by decide +kernel
theorem dX7_saves_29 : decode cX7_saves 29 = .ok (.iload_n 1, 1) := by decide +kernel
theorem dX7_saves_30 : decode cX7_saves 30 = .ok (.aload_n 0, 1) := by decide +kernel
theorem dX7_saves_31 : decode cX7_saves 31 = .ok (.getfield 13, 3) := by decide +kernel
theorem dX7_saves_34 : decode cX7_saves 34 = .ok (.iload_n 1, 1) := by decide +kernel
theorem dX7_saves_35 : decode cX7_saves 35 = .ok (.bipush 71, 2) := by decide +kernel
theorem dX7_saves_37 : decode cX7_saves 37 = .ok (.iadd, 1) := by decide +kernel
theorem dX7_saves_38 : decode cX7_saves 38 = .ok (.laload, 1) := by decide +kernel
theorem dX7_saves_39 : decode cX7_saves 39 = .ok (.lastore, 1) := by decide +kernel
theorem dX7_saves_40 : decode cX7_saves 40 = .ok (.iinc 1 1, 3) := by decide +kernel
theorem dX7_saves_43 : decode cX7_saves 43 = .ok (.goto (-25), 3) := by decide +kernel
theorem dX7_saves_46 : decode cX7_saves 46 = .ok (.aload_n 0, 1) := by decide +kernel
theorem dX7_saves_47 : decode cX7_saves 47 = .ok (.dup, 1) := by decide +kernel
theorem dX7_saves_48 : decode cX7_saves 48 = .ok (.getfield 33, 3) := by decide +kernel
theorem dX7_saves_51 : decode cX7_saves 51 = .ok (.iconst 1, 1) := by decide +kernel
theorem dX7_saves_52 : decode cX7_saves 52 = .ok (.isub, 1) := by decide +kernel
theorem dX7_saves_53 : decode cX7_saves 53 = .ok (.putfield 33, 3) := by decide +kernel
theorem dX7_saves_56 : decode cX7_saves 56 = .ok (.iconst 0, 1) := by decide +kernel
theorem dX7_saves_57 : decode cX7_saves 57 = .ok (.istore_n 1, 1) := by decide +kernel
theorem dX7_saves_58 : decode cX7_saves 58 = .ok (.iload_n 1, 1) := by decide +kernel
theorem dX7_saves_59 : decode cX7_saves 59 = .ok (.bipush 71, 2) := by decide +kernel
theorem dX7_saves_61 : decode cX7_saves 61 = .ok (.if_icmp .ge 29, 3) := by decide +kernel
theorem dX7_saves_64 : decode cX7_saves 64 = .ok (.aload_n 0, 1) := by decide +kernel
theorem dX7_saves_65 : decode cX7_saves 65 = .ok (.getfield 13, 3) := by decide +kernel
theorem dX7_saves_68 : decode cX7_saves 68 = .ok (.bipush 71, 2) := by decide +kernel
theorem dX7_saves_70 : decode cX7_saves 70 = .ok (.aload_n 0, 1) := by decide +kernel
theorem dX7_saves_71 : decode cX7_saves 71 = .ok (.getfield 33, 3) := by decide +kernel
theorem dX7_saves_74 : decode cX7_saves 74 = .ok (.imul, 1) := by decide +kernel
theorem dX7_saves_75 : decode cX7_saves 75 = .ok (.iload_n 1, 1) := by decide +kernel
theorem dX7_saves_76 : decode cX7_saves 76 = .ok (.iadd, 1) := by decide +kernel
theorem dX7_saves_77 : decode cX7_saves 77 = .ok (.aload_n 0, 1) := by decide +kernel
theorem dX7_saves_78 : decode cX7_saves 78 = .ok (.getfield 7, 3) := by decide +kernel
theorem dX7_saves_81 : decode cX7_saves 81 = .ok (.iload_n 1, 1) := by decide +kernel
theorem dX7_saves_82 : decode cX7_saves 82 = .ok (.laload, 1) := by decide +kernel
theorem dX7_saves_83 : decode cX7_saves 83 = .ok (.lastore, 1) := by decide +kernel
theorem dX7_saves_84 : decode cX7_saves 84 = .ok (.iinc 1 1, 3) := by decide +kernel
theorem dX7_saves_87 : decode cX7_saves 87 = .ok (.goto (-29), 3) := by decide +kernel
theorem dX7_saves_90 : decode cX7_saves 90 = .ok (.aload_n 0, 1) := by decide +kernel
theorem dX7_saves_91 : decode cX7_saves 91 = .ok (.dup, 1) := by decide +kernel
theorem dX7_saves_92 : decode cX7_saves 92 = .ok (.getfield 33, 3) := by decide +kernel
theorem dX7_saves_95 : decode cX7_saves 95 = .ok (.iconst 1, 1) := by decide +kernel
theorem dX7_saves_96 : decode cX7_saves 96 = .ok (.iadd, 1) := by decide +kernel
theorem dX7_saves_97 : decode cX7_saves 97 = .ok (.putfield 33, 3) := by decide +kernel
theorem dX7_saves_100 : decode cX7_saves 100 = .ok (.return_, 1) := by decide +kernel
theorem dX7_holds_0 : decode cX7_holds 0 = .ok (.iconst 0, 1) := by decide +kernel
theorem dX7_holds_1 : decode cX7_holds 1 = .ok (.istore_n 1, 1) := by decide +kernel
theorem dX7_holds_2 : decode cX7_holds 2 = .ok (.iload_n 1, 1) := by decide +kernel
theorem dX7_holds_3 : decode cX7_holds 3 = .ok (.bipush 71, 2) := by decide +kernel
theorem dX7_holds_5 : decode cX7_holds 5 = .ok (.if_icmp .ge 21, 3) := by decide +kernel
theorem dX7_holds_8 : decode cX7_holds 8 = .ok (.aload_n 0, 1) := by decide +kernel
theorem dX7_holds_9 : decode cX7_holds 9 = .ok (.getfield 16, 3) := by decide +kernel
theorem dX7_holds_12 : decode cX7_holds 12 = .ok (.iload_n 1, 1) := by decide +kernel
theorem dX7_holds_13 : decode cX7_holds 13 = .ok (.aload_n 0, 1) := by decide +kernel
theorem dX7_holds_14 : decode cX7_holds 14 = .ok (.getfield 7, 3) := by decide +kernel
theorem dX7_holds_17 : decode cX7_holds 17 = .ok (.iload_n 1, 1) := by decide +kernel
theorem dX7_holds_18 : decode cX7_holds 18 = .ok (.laload, 1) := by decide +kernel
theorem dX7_holds_19 : decode cX7_holds 19 = .ok (.lastore, 1) := by decide +kernel
theorem dX7_holds_20 : decode cX7_holds 20 = .ok (.iinc 1 1, 3) := by decide +kernel
theorem dX7_holds_23 : decode cX7_holds 23 = .ok (.goto (-21), 3) := by decide +kernel
theorem dX7_holds_26 : decode cX7_holds 26 = .ok (.return_, 1) := by decide +kernel
theorem dX7_lets_0 : decode cX7_lets 0 = .ok (.iconst 0, 1) := by decide +kernel
theorem dX7_lets_1 : decode cX7_lets 1 = .ok (.istore_n 1, 1) := by decide +kernel
theorem dX7_lets_2 : decode cX7_lets 2 = .ok (.iload_n 1, 1) := by decide +kernel
theorem dX7_lets_3 : decode cX7_lets 3 = .ok (.bipush 71, 2) := by decide +kernel
theorem dX7_lets_5 : decode cX7_lets 5 = .ok (.if_icmp .ge 21, 3) := by decide +kernel
theorem dX7_lets_8 : decode cX7_lets 8 = .ok (.aload_n 0, 1) := by decide +kernel
theorem dX7_lets_9 : decode cX7_lets 9 = .ok (.getfield 7, 3) := by decide +kernel
theorem dX7_lets_12 : decode cX7_lets 12 = .ok (.iload_n 1, 1) := by decide +kernel
theorem dX7_lets_13 : decode cX7_lets 13 = .ok (.aload_n 0, 1) := by decide +kernel
theorem dX7_lets_14 : decode cX7_lets 14 = .ok (.getfield 16, 3) := by decide +kernel
theorem dX7_lets_17 : decode cX7_lets 17 = .ok (.iload_n 1, 1) := by decide +kernel
theorem dX7_lets_18 : decode cX7_lets 18 = .ok (.laload, 1) := by decide +kernel
theorem dX7_lets_19 : decode cX7_lets 19 = .ok (.lastore, 1) := by decide +kernel
theorem dX7_lets_20 : decode cX7_lets 20 = .ok (.iinc 1 1, 3) := by decide +kernel
theorem dX7_lets_23 : decode cX7_lets 23 = .ok (.goto (-21), 3) := by decide +kernel
theorem dX7_lets_26 : decode cX7_lets 26 = .ok (.return_, 1) := by decide +kernel
theorem dX7_of_0 : decode cX7_of 0 = .ok (.aload_n 0, 1) := by decide +kernel
theorem dX7_of_1 : decode cX7_of 1 = .ok (.getfield 7, 3) := by decide +kernel
theorem dX7_of_4 : decode cX7_of 4 = .ok (.iload_n 1, 1) := by decide +kernel
theorem dX7_of_5 : decode cX7_of 5 = .ok (.laload, 1) := by decide +kernel
theorem dX7_of_6 : decode cX7_of 6 = .ok (.l2i, 1) := by decide +kernel
theorem dX7_of_7 : decode cX7_of 7 = .ok (.ireturn, 1) := by decide +kernel
theorem dX7_isPlace_0 : decode cX7_isPlace 0 = .ok (.iload_n 1, 1) := by decide +kernel
theorem dX7_isPlace_1 : decode cX7_isPlace 1 = .ok (.ifCond .lt 19, 3) := by decide +kernel
theorem dX7_isPlace_4 : decode cX7_isPlace 4 = .ok (.iload_n 1, 1) := by decide +kernel
theorem dX7_isPlace_5 : decode cX7_isPlace 5 = .ok (.i2l, 1) := by decide +kernel
theorem dX7_isPlace_6 : decode cX7_isPlace 6 = .ok (.aload_n 0, 1) := by decide +kernel
theorem dX7_isPlace_7 : decode cX7_isPlace 7 = .ok (.getfield 7, 3) := by decide +kernel
theorem dX7_isPlace_10 : decode cX7_isPlace 10 = .ok (.iconst 0, 1) := by decide +kernel
theorem dX7_isPlace_11 : decode cX7_isPlace 11 = .ok (.laload, 1) := by decide +kernel
theorem dX7_isPlace_12 : decode cX7_isPlace 12 = .ok (.lcmp, 1) := by decide +kernel
theorem dX7_isPlace_13 : decode cX7_isPlace 13 = .ok (.ifCond .ge 7, 3) := by decide +kernel
theorem dX7_isPlace_16 : decode cX7_isPlace 16 = .ok (.iconst 1, 1) := by decide +kernel
theorem dX7_isPlace_17 : decode cX7_isPlace 17 = .ok (.goto 4, 3) := by decide +kernel
theorem dX7_isPlace_20 : decode cX7_isPlace 20 = .ok (.iconst 0, 1) := by decide +kernel
theorem dX7_isPlace_21 : decode cX7_isPlace 21 = .ok (.ireturn, 1) := by decide +kernel
theorem dX7_isAhead_0 : decode cX7_isAhead 0 = .ok (.aload_n 0, 1) := by decide +kernel
theorem dX7_isAhead_1 : decode cX7_isAhead 1 = .ok (.getfield 7, 3) := by decide +kernel
theorem dX7_isAhead_4 : decode cX7_isAhead 4 = .ok (.iconst 2, 1) := by decide +kernel
theorem dX7_isAhead_5 : decode cX7_isAhead 5 = .ok (.laload, 1) := by decide +kernel
theorem dX7_isAhead_6 : decode cX7_isAhead 6 = .ok (.lconst 1, 1) := by decide +kernel
theorem dX7_isAhead_7 : decode cX7_isAhead 7 = .ok (.lcmp, 1) := by decide +kernel
theorem dX7_isAhead_8 : decode cX7_isAhead 8 = .ok (.ifCond .ne 17, 3) := by decide +kernel
theorem dX7_isAhead_11 : decode cX7_isAhead 11 = .ok (.lload_n 1, 1) := by decide +kernel
theorem dX7_isAhead_12 : decode cX7_isAhead 12 = .ok (.lload_n 3, 1) := by decide +kernel
theorem dX7_isAhead_13 : decode cX7_isAhead 13 = .ok (.lcmp, 1) := by decide +kernel
theorem dX7_isAhead_14 : decode cX7_isAhead 14 = .ok (.ifCond .le 7, 3) := by decide +kernel
theorem dX7_isAhead_17 : decode cX7_isAhead 17 = .ok (.iconst 1, 1) := by decide +kernel
theorem dX7_isAhead_18 : decode cX7_isAhead 18 = .ok (.goto 18, 3) := by decide +kernel
theorem dX7_isAhead_21 : decode cX7_isAhead 21 = .ok (.iconst 0, 1) := by decide +kernel
theorem dX7_isAhead_22 : decode cX7_isAhead 22 = .ok (.goto 14, 3) := by decide +kernel
theorem dX7_isAhead_25 : decode cX7_isAhead 25 = .ok (.lload_n 1, 1) := by decide +kernel
theorem dX7_isAhead_26 : decode cX7_isAhead 26 = .ok (.lload_n 3, 1) := by decide +kernel
theorem dX7_isAhead_27 : decode cX7_isAhead 27 = .ok (.lcmp, 1) := by decide +kernel
theorem dX7_isAhead_28 : decode cX7_isAhead 28 = .ok (.ifCond .ge 7, 3) := by decide +kernel
theorem dX7_isAhead_31 : decode cX7_isAhead 31 = .ok (.iconst 1, 1) := by decide +kernel
theorem dX7_isAhead_32 : decode cX7_isAhead 32 = .ok (.goto 4, 3) := by decide +kernel
theorem dX7_isAhead_35 : decode cX7_isAhead 35 = .ok (.iconst 0, 1) := by decide +kernel
theorem dX7_isAhead_36 : decode cX7_isAhead 36 = .ok (.ireturn, 1) := by decide +kernel
set_option maxRecDepth 20000 in
theorem ggX7_rank_X7_of : GoodIn wsX7_rank wsX7_of := goodIn_r _ [6, 1, 11, 12, 13, 14, 15, 16, 17, 18, 19, 20, 21, 22, 23, 24, 25] (by decide +kernel) (by decide +kernel)
set_option maxRecDepth 20000 in
theorem gX7_rank_X7_of : GoodIn wsX7_rank (wsV RX7 36 RX7 yX7_of wsX7_of) := goodIn_app (goodIn_of _ (by decide +kernel)) ggX7_rank_X7_of
set_option maxRecDepth 20000 in
theorem ggX7_rank_X7_isAhead : GoodIn wsX7_rank wsX7_isAhead := goodIn_r _ [10, 1, 11, 12, 13, 14, 15, 16, 17, 18, 19, 20, 21, 22, 23, 24, 25] (by decide +kernel) (by decide +kernel)
set_option maxRecDepth 20000 in
theorem gX7_rank_X7_isAhead : GoodIn wsX7_rank (wsV RX7 40 RX7 yX7_isAhead wsX7_isAhead) := goodIn_app (goodIn_of _ (by decide +kernel)) ggX7_rank_X7_isAhead
theorem dX7_rank_0 : decode cX7_rank 0 = .ok (.iconst 0, 1) := by decide +kernel
theorem dX7_rank_1 : decode cX7_rank 1 = .ok (.istore_n 2, 1) := by decide +kernel
theorem dX7_rank_2 : decode cX7_rank 2 = .ok (.iconst 0, 1) := by decide +kernel
theorem dX7_rank_3 : decode cX7_rank 3 = .ok (.istore_n 3, 1) := by decide +kernel
theorem dX7_rank_4 : decode cX7_rank 4 = .ok (.iload_n 3, 1) := by decide +kernel
theorem dX7_rank_5 : decode cX7_rank 5 = .ok (.aload_n 0, 1) := by decide +kernel
theorem dX7_rank_6 : decode cX7_rank 6 = .ok (.iconst 0, 1) := by decide +kernel
theorem dX7_rank_7 : decode cX7_rank 7 = .ok (.invokevirtual 36, 3) := by decide +kernel
theorem dX7_rank_10 : decode cX7_rank 10 = .ok (.if_icmp .ge 73, 3) := by decide +kernel
theorem dX7_rank_13 : decode cX7_rank 13 = .ok (.aload_n 0, 1) := by decide +kernel
theorem dX7_rank_14 : decode cX7_rank 14 = .ok (.aload_n 0, 1) := by decide +kernel
theorem dX7_rank_15 : decode cX7_rank 15 = .ok (.getfield 7, 3) := by decide +kernel
theorem dX7_rank_18 : decode cX7_rank 18 = .ok (.bipush 7, 2) := by decide +kernel
theorem dX7_rank_20 : decode cX7_rank 20 = .ok (.iload_n 3, 1) := by decide +kernel
theorem dX7_rank_21 : decode cX7_rank 21 = .ok (.iadd, 1) := by decide +kernel
theorem dX7_rank_22 : decode cX7_rank 22 = .ok (.laload, 1) := by decide +kernel
theorem dX7_rank_23 : decode cX7_rank 23 = .ok (.aload_n 0, 1) := by decide +kernel
theorem dX7_rank_24 : decode cX7_rank 24 = .ok (.getfield 7, 3) := by decide +kernel
theorem dX7_rank_27 : decode cX7_rank 27 = .ok (.bipush 7, 2) := by decide +kernel
theorem dX7_rank_29 : decode cX7_rank 29 = .ok (.iload_n 1, 1) := by decide +kernel
theorem dX7_rank_30 : decode cX7_rank 30 = .ok (.iadd, 1) := by decide +kernel
theorem dX7_rank_31 : decode cX7_rank 31 = .ok (.laload, 1) := by decide +kernel
theorem dX7_rank_32 : decode cX7_rank 32 = .ok (.invokevirtual 40, 3) := by decide +kernel
theorem dX7_rank_35 : decode cX7_rank 35 = .ok (.istore 4, 2) := by decide +kernel
theorem dX7_rank_37 : decode cX7_rank 37 = .ok (.iload_n 2, 1) := by decide +kernel
theorem dX7_rank_38 : decode cX7_rank 38 = .ok (.iload 4, 2) := by decide +kernel
theorem dX7_rank_40 : decode cX7_rank 40 = .ok (.ifCond .ne 30, 3) := by decide +kernel
theorem dX7_rank_43 : decode cX7_rank 43 = .ok (.iload_n 3, 1) := by decide +kernel
theorem dX7_rank_44 : decode cX7_rank 44 = .ok (.iload_n 1, 1) := by decide +kernel
theorem dX7_rank_45 : decode cX7_rank 45 = .ok (.if_icmp .ge 29, 3) := by decide +kernel
theorem dX7_rank_48 : decode cX7_rank 48 = .ok (.aload_n 0, 1) := by decide +kernel
theorem dX7_rank_49 : decode cX7_rank 49 = .ok (.getfield 7, 3) := by decide +kernel
theorem dX7_rank_52 : decode cX7_rank 52 = .ok (.bipush 7, 2) := by decide +kernel
theorem dX7_rank_54 : decode cX7_rank 54 = .ok (.iload_n 3, 1) := by decide +kernel
theorem dX7_rank_55 : decode cX7_rank 55 = .ok (.iadd, 1) := by decide +kernel
theorem dX7_rank_56 : decode cX7_rank 56 = .ok (.laload, 1) := by decide +kernel
theorem dX7_rank_57 : decode cX7_rank 57 = .ok (.aload_n 0, 1) := by decide +kernel
theorem dX7_rank_58 : decode cX7_rank 58 = .ok (.getfield 7, 3) := by decide +kernel
theorem dX7_rank_61 : decode cX7_rank 61 = .ok (.bipush 7, 2) := by decide +kernel
theorem dX7_rank_63 : decode cX7_rank 63 = .ok (.iload_n 1, 1) := by decide +kernel
theorem dX7_rank_64 : decode cX7_rank 64 = .ok (.iadd, 1) := by decide +kernel
theorem dX7_rank_65 : decode cX7_rank 65 = .ok (.laload, 1) := by decide +kernel
theorem dX7_rank_66 : decode cX7_rank 66 = .ok (.lcmp, 1) := by decide +kernel
theorem dX7_rank_67 : decode cX7_rank 67 = .ok (.ifCond .ne 7, 3) := by decide +kernel
theorem dX7_rank_70 : decode cX7_rank 70 = .ok (.iconst 1, 1) := by decide +kernel
theorem dX7_rank_71 : decode cX7_rank 71 = .ok (.goto 4, 3) := by decide +kernel
theorem dX7_rank_74 : decode cX7_rank 74 = .ok (.iconst 0, 1) := by decide +kernel
theorem dX7_rank_75 : decode cX7_rank 75 = .ok (.iadd, 1) := by decide +kernel
theorem dX7_rank_76 : decode cX7_rank 76 = .ok (.istore_n 2, 1) := by decide +kernel
theorem dX7_rank_77 : decode cX7_rank 77 = .ok (.iinc 3 1, 3) := by decide +kernel
theorem dX7_rank_80 : decode cX7_rank 80 = .ok (.goto (-76), 3) := by decide +kernel
theorem dX7_rank_83 : decode cX7_rank 83 = .ok (.iload_n 2, 1) := by decide +kernel
theorem dX7_rank_84 : decode cX7_rank 84 = .ok (.ireturn, 1) := by decide +kernel
set_option maxRecDepth 20000 in
theorem ggX7_distance_X7_rank : GoodIn wsX7_distance wsX7_rank := goodIn_r _ [5, 6, 7, 8, 9, 4, 10, 11, 12, 13, 14, 15, 16, 17, 18, 19, 20, 21, 22, 23, 24, 25, 26, 27, 28, 29] (by decide +kernel) (by decide +kernel)
set_option maxRecDepth 20000 in
theorem gX7_distance_X7_rank : GoodIn wsX7_distance (wsV RX7 44 RX7 yX7_rank wsX7_rank) := goodIn_app (goodIn_of _ (by decide +kernel)) ggX7_distance_X7_rank
theorem dX7_distance_0 : decode cX7_distance 0 = .ok (.iload_n 1, 1) := by decide +kernel
theorem dX7_distance_1 : decode cX7_distance 1 = .ok (.aload_n 0, 1) := by decide +kernel
theorem dX7_distance_2 : decode cX7_distance 2 = .ok (.iload_n 1, 1) := by decide +kernel
theorem dX7_distance_3 : decode cX7_distance 3 = .ok (.invokevirtual 44, 3) := by decide +kernel
theorem dX7_distance_6 : decode cX7_distance 6 = .ok (.isub, 1) := by decide +kernel
theorem dX7_distance_7 : decode cX7_distance 7 = .ok (.ireturn, 1) := by decide +kernel
theorem dX7_size_0 : decode cX7_size 0 = .ok (.iload_n 0, 1) := by decide +kernel
theorem dX7_size_1 : decode cX7_size 1 = .ok (.ifCond .ge 8, 3) := by decide +kernel
theorem dX7_size_4 : decode cX7_size 4 = .ok (.iload_n 0, 1) := by decide +kernel
theorem dX7_size_5 : decode cX7_size 5 = .ok (.ineg, 1) := by decide +kernel
theorem dX7_size_6 : decode cX7_size 6 = .ok (.goto 4, 3) := by decide +kernel
theorem dX7_size_9 : decode cX7_size 9 = .ok (.iload_n 0, 1) := by decide +kernel
theorem dX7_size_10 : decode cX7_size 10 = .ok (.ireturn, 1) := by decide +kernel
set_option maxRecDepth 20000 in
theorem ggX7_isBroken_X7_distance : GoodIn wsX7_isBroken wsX7_distance := goodIn_r _ [6, 7, 8, 9, 5, 10, 1, 11, 12, 13, 14, 15, 16, 17, 18, 22, 23, 24, 25, 26, 27, 28, 29, 30, 31, 32, 33, 34, 35, 36] (by decide +kernel) (by decide +kernel)
set_option maxRecDepth 20000 in
theorem gX7_isBroken_X7_distance : GoodIn wsX7_isBroken (wsV RX7 47 RX7 yX7_distance wsX7_distance) := goodIn_app (goodIn_of _ (by decide +kernel)) ggX7_isBroken_X7_distance
set_option maxRecDepth 20000 in
theorem ggX7_isBroken_X7_size : GoodIn wsX7_isBroken wsX7_size := goodIn_r _ [21] (by decide +kernel) (by decide +kernel)
set_option maxRecDepth 20000 in
theorem gX7_isBroken_X7_size : GoodIn wsX7_isBroken (va_wsS RX7 50 yX7_size wsX7_size) := goodIn_app (goodIn_of _ (by decide +kernel)) ggX7_isBroken_X7_size
theorem dX7_isBroken_0 : decode cX7_isBroken 0 = .ok (.aload_n 0, 1) := by decide +kernel
theorem dX7_isBroken_1 : decode cX7_isBroken 1 = .ok (.iload_n 1, 1) := by decide +kernel
theorem dX7_isBroken_2 : decode cX7_isBroken 2 = .ok (.invokevirtual 47, 3) := by decide +kernel
theorem dX7_isBroken_5 : decode cX7_isBroken 5 = .ok (.invokestatic 50, 3) := by decide +kernel
theorem dX7_isBroken_8 : decode cX7_isBroken 8 = .ok (.i2l, 1) := by decide +kernel
theorem dX7_isBroken_9 : decode cX7_isBroken 9 = .ok (.aload_n 0, 1) := by decide +kernel
theorem dX7_isBroken_10 : decode cX7_isBroken 10 = .ok (.getfield 7, 3) := by decide +kernel
theorem dX7_isBroken_13 : decode cX7_isBroken 13 = .ok (.iconst 1, 1) := by decide +kernel
theorem dX7_isBroken_14 : decode cX7_isBroken 14 = .ok (.laload, 1) := by decide +kernel
theorem dX7_isBroken_15 : decode cX7_isBroken 15 = .ok (.lcmp, 1) := by decide +kernel
theorem dX7_isBroken_16 : decode cX7_isBroken 16 = .ok (.ifCond .le 7, 3) := by decide +kernel
theorem dX7_isBroken_19 : decode cX7_isBroken 19 = .ok (.iconst 1, 1) := by decide +kernel
theorem dX7_isBroken_20 : decode cX7_isBroken 20 = .ok (.goto 4, 3) := by decide +kernel
theorem dX7_isBroken_23 : decode cX7_isBroken 23 = .ok (.iconst 0, 1) := by decide +kernel
theorem dX7_isBroken_24 : decode cX7_isBroken 24 = .ok (.ireturn, 1) := by decide +kernel
set_option maxRecDepth 20000 in
theorem ggX7_brokenOnes_X7_of : GoodIn wsX7_brokenOnes wsX7_of := goodIn_r _ [5, 6, 26, 27, 28, 29, 30, 31, 32, 33, 34, 35, 36, 37, 38, 39, 40] (by decide +kernel) (by decide +kernel)
set_option maxRecDepth 20000 in
theorem gX7_brokenOnes_X7_of : GoodIn wsX7_brokenOnes (wsV RX7 36 RX7 yX7_of wsX7_of) := goodIn_app (goodIn_of _ (by decide +kernel)) ggX7_brokenOnes_X7_of
set_option maxRecDepth 20000 in
theorem ggX7_brokenOnes_X7_isBroken : GoodIn wsX7_brokenOnes wsX7_isBroken := goodIn_r _ [10, 6, 11, 12, 13, 4, 14, 15, 16, 17, 18, 1, 2, 3, 5, 19, 20, 21, 22, 23, 24, 25, 26, 27, 28, 29, 30, 31, 32, 33, 34, 35, 36, 37, 38, 39, 40] (by decide +kernel) (by decide +kernel)
set_option maxRecDepth 20000 in
theorem gX7_brokenOnes_X7_isBroken : GoodIn wsX7_brokenOnes (wsV RX7 53 RX7 yX7_isBroken wsX7_isBroken) := goodIn_app (goodIn_of _ (by decide +kernel)) ggX7_brokenOnes_X7_isBroken
theorem dX7_brokenOnes_0 : decode cX7_brokenOnes 0 = .ok (.iconst 0, 1) := by decide +kernel
theorem dX7_brokenOnes_1 : decode cX7_brokenOnes 1 = .ok (.istore_n 1, 1) := by decide +kernel
theorem dX7_brokenOnes_2 : decode cX7_brokenOnes 2 = .ok (.iconst 0, 1) := by decide +kernel
theorem dX7_brokenOnes_3 : decode cX7_brokenOnes 3 = .ok (.istore_n 2, 1) := by decide +kernel
theorem dX7_brokenOnes_4 : decode cX7_brokenOnes 4 = .ok (.iload_n 2, 1) := by decide +kernel
theorem dX7_brokenOnes_5 : decode cX7_brokenOnes 5 = .ok (.aload_n 0, 1) := by decide +kernel
theorem dX7_brokenOnes_6 : decode cX7_brokenOnes 6 = .ok (.iconst 0, 1) := by decide +kernel
theorem dX7_brokenOnes_7 : decode cX7_brokenOnes 7 = .ok (.invokevirtual 36, 3) := by decide +kernel
theorem dX7_brokenOnes_10 : decode cX7_brokenOnes 10 = .ok (.if_icmp .ge 25, 3) := by decide +kernel
theorem dX7_brokenOnes_13 : decode cX7_brokenOnes 13 = .ok (.iload_n 1, 1) := by decide +kernel
theorem dX7_brokenOnes_14 : decode cX7_brokenOnes 14 = .ok (.aload_n 0, 1) := by decide +kernel
theorem dX7_brokenOnes_15 : decode cX7_brokenOnes 15 = .ok (.iload_n 2, 1) := by decide +kernel
theorem dX7_brokenOnes_16 : decode cX7_brokenOnes 16 = .ok (.invokevirtual 53, 3) := by decide +kernel
theorem dX7_brokenOnes_19 : decode cX7_brokenOnes 19 = .ok (.ifCond .eq 7, 3) := by decide +kernel
theorem dX7_brokenOnes_22 : decode cX7_brokenOnes 22 = .ok (.iconst 1, 1) := by decide +kernel
theorem dX7_brokenOnes_23 : decode cX7_brokenOnes 23 = .ok (.goto 4, 3) := by decide +kernel
theorem dX7_brokenOnes_26 : decode cX7_brokenOnes 26 = .ok (.iconst 0, 1) := by decide +kernel
theorem dX7_brokenOnes_27 : decode cX7_brokenOnes 27 = .ok (.iadd, 1) := by decide +kernel
theorem dX7_brokenOnes_28 : decode cX7_brokenOnes 28 = .ok (.istore_n 1, 1) := by decide +kernel
theorem dX7_brokenOnes_29 : decode cX7_brokenOnes 29 = .ok (.iinc 2 1, 3) := by decide +kernel
theorem dX7_brokenOnes_32 : decode cX7_brokenOnes 32 = .ok (.goto (-28), 3) := by decide +kernel
theorem dX7_brokenOnes_35 : decode cX7_brokenOnes 35 = .ok (.iload_n 1, 1) := by decide +kernel
theorem dX7_brokenOnes_36 : decode cX7_brokenOnes 36 = .ok (.ireturn, 1) := by decide +kernel
set_option maxRecDepth 20000 in
theorem ggX7_isFall_X7_isAhead : GoodIn wsX7_isFall wsX7_isAhead := goodIn_r _ [6, 1, 7, 8, 9, 10, 11, 12, 13, 14, 15, 16, 17, 18, 19, 20, 21] (by decide +kernel) (by decide +kernel)
set_option maxRecDepth 20000 in
theorem gX7_isFall_X7_isAhead : GoodIn wsX7_isFall (wsV RX7 40 RX7 yX7_isAhead wsX7_isAhead) := goodIn_app (goodIn_of _ (by decide +kernel)) ggX7_isFall_X7_isAhead
theorem dX7_isFall_0 : decode cX7_isFall 0 = .ok (.iload_n 1, 1) := by decide +kernel
theorem dX7_isFall_1 : decode cX7_isFall 1 = .ok (.iconst 1, 1) := by decide +kernel
theorem dX7_isFall_2 : decode cX7_isFall 2 = .ok (.iadd, 1) := by decide +kernel
theorem dX7_isFall_3 : decode cX7_isFall 3 = .ok (.i2l, 1) := by decide +kernel
theorem dX7_isFall_4 : decode cX7_isFall 4 = .ok (.aload_n 0, 1) := by decide +kernel
theorem dX7_isFall_5 : decode cX7_isFall 5 = .ok (.getfield 7, 3) := by decide +kernel
theorem dX7_isFall_8 : decode cX7_isFall 8 = .ok (.iconst 0, 1) := by decide +kernel
theorem dX7_isFall_9 : decode cX7_isFall 9 = .ok (.laload, 1) := by decide +kernel
theorem dX7_isFall_10 : decode cX7_isFall 10 = .ok (.lcmp, 1) := by decide +kernel
theorem dX7_isFall_11 : decode cX7_isFall 11 = .ok (.ifCond .ge 34, 3) := by decide +kernel
theorem dX7_isFall_14 : decode cX7_isFall 14 = .ok (.aload_n 0, 1) := by decide +kernel
theorem dX7_isFall_15 : decode cX7_isFall 15 = .ok (.aload_n 0, 1) := by decide +kernel
theorem dX7_isFall_16 : decode cX7_isFall 16 = .ok (.getfield 7, 3) := by decide +kernel
theorem dX7_isFall_19 : decode cX7_isFall 19 = .ok (.bipush 7, 2) := by decide +kernel
theorem dX7_isFall_21 : decode cX7_isFall 21 = .ok (.iload_n 1, 1) := by decide +kernel
theorem dX7_isFall_22 : decode cX7_isFall 22 = .ok (.iadd, 1) := by decide +kernel
theorem dX7_isFall_23 : decode cX7_isFall 23 = .ok (.iconst 1, 1) := by decide +kernel
theorem dX7_isFall_24 : decode cX7_isFall 24 = .ok (.iadd, 1) := by decide +kernel
theorem dX7_isFall_25 : decode cX7_isFall 25 = .ok (.laload, 1) := by decide +kernel
theorem dX7_isFall_26 : decode cX7_isFall 26 = .ok (.aload_n 0, 1) := by decide +kernel
theorem dX7_isFall_27 : decode cX7_isFall 27 = .ok (.getfield 7, 3) := by decide +kernel
theorem dX7_isFall_30 : decode cX7_isFall 30 = .ok (.bipush 7, 2) := by decide +kernel
theorem dX7_isFall_32 : decode cX7_isFall 32 = .ok (.iload_n 1, 1) := by decide +kernel
theorem dX7_isFall_33 : decode cX7_isFall 33 = .ok (.iadd, 1) := by decide +kernel
theorem dX7_isFall_34 : decode cX7_isFall 34 = .ok (.laload, 1) := by decide +kernel
theorem dX7_isFall_35 : decode cX7_isFall 35 = .ok (.invokevirtual 40, 3) := by decide +kernel
theorem dX7_isFall_38 : decode cX7_isFall 38 = .ok (.ifCond .eq 7, 3) := by decide +kernel
theorem dX7_isFall_41 : decode cX7_isFall 41 = .ok (.iconst 1, 1) := by decide +kernel
theorem dX7_isFall_42 : decode cX7_isFall 42 = .ok (.goto 4, 3) := by decide +kernel
theorem dX7_isFall_45 : decode cX7_isFall 45 = .ok (.iconst 0, 1) := by decide +kernel
theorem dX7_isFall_46 : decode cX7_isFall 46 = .ok (.ireturn, 1) := by decide +kernel
set_option maxRecDepth 20000 in
theorem ggX7_inversionsOf_X7_of : GoodIn wsX7_inversionsOf wsX7_of := goodIn_r _ [6, 1, 11, 12, 13, 14, 15, 16, 17, 18, 19, 20, 21, 22, 23, 24, 25] (by decide +kernel) (by decide +kernel)
set_option maxRecDepth 20000 in
theorem gX7_inversionsOf_X7_of : GoodIn wsX7_inversionsOf (wsV RX7 36 RX7 yX7_of wsX7_of) := goodIn_app (goodIn_of _ (by decide +kernel)) ggX7_inversionsOf_X7_of
set_option maxRecDepth 20000 in
theorem ggX7_inversionsOf_X7_isAhead : GoodIn wsX7_inversionsOf wsX7_isAhead := goodIn_r _ [10, 1, 11, 12, 13, 14, 15, 16, 17, 18, 19, 20, 21, 22, 23, 24, 25] (by decide +kernel) (by decide +kernel)
set_option maxRecDepth 20000 in
theorem gX7_inversionsOf_X7_isAhead : GoodIn wsX7_inversionsOf (wsV RX7 40 RX7 yX7_isAhead wsX7_isAhead) := goodIn_app (goodIn_of _ (by decide +kernel)) ggX7_inversionsOf_X7_isAhead
theorem dX7_inversionsOf_0 : decode cX7_inversionsOf 0 = .ok (.iconst 0, 1) := by decide +kernel
theorem dX7_inversionsOf_1 : decode cX7_inversionsOf 1 = .ok (.istore_n 2, 1) := by decide +kernel
theorem dX7_inversionsOf_2 : decode cX7_inversionsOf 2 = .ok (.iconst 0, 1) := by decide +kernel
theorem dX7_inversionsOf_3 : decode cX7_inversionsOf 3 = .ok (.istore_n 3, 1) := by decide +kernel
theorem dX7_inversionsOf_4 : decode cX7_inversionsOf 4 = .ok (.iload_n 3, 1) := by decide +kernel
theorem dX7_inversionsOf_5 : decode cX7_inversionsOf 5 = .ok (.aload_n 0, 1) := by decide +kernel
theorem dX7_inversionsOf_6 : decode cX7_inversionsOf 6 = .ok (.iconst 0, 1) := by decide +kernel
theorem dX7_inversionsOf_7 : decode cX7_inversionsOf 7 = .ok (.invokevirtual 36, 3) := by decide +kernel
theorem dX7_inversionsOf_10 : decode cX7_inversionsOf 10 = .ok (.if_icmp .ge 89, 3) := by decide +kernel
theorem dX7_inversionsOf_13 : decode cX7_inversionsOf 13 = .ok (.iload_n 3, 1) := by decide +kernel
theorem dX7_inversionsOf_14 : decode cX7_inversionsOf 14 = .ok (.iload_n 1, 1) := by decide +kernel
theorem dX7_inversionsOf_15 : decode cX7_inversionsOf 15 = .ok (.if_icmp .ge 28, 3) := by decide +kernel
theorem dX7_inversionsOf_18 : decode cX7_inversionsOf 18 = .ok (.aload_n 0, 1) := by decide +kernel
theorem dX7_inversionsOf_19 : decode cX7_inversionsOf 19 = .ok (.aload_n 0, 1) := by decide +kernel
theorem dX7_inversionsOf_20 : decode cX7_inversionsOf 20 = .ok (.getfield 7, 3) := by decide +kernel
theorem dX7_inversionsOf_23 : decode cX7_inversionsOf 23 = .ok (.bipush 7, 2) := by decide +kernel
theorem dX7_inversionsOf_25 : decode cX7_inversionsOf 25 = .ok (.iload_n 1, 1) := by decide +kernel
theorem dX7_inversionsOf_26 : decode cX7_inversionsOf 26 = .ok (.iadd, 1) := by decide +kernel
theorem dX7_inversionsOf_27 : decode cX7_inversionsOf 27 = .ok (.laload, 1) := by decide +kernel
theorem dX7_inversionsOf_28 : decode cX7_inversionsOf 28 = .ok (.aload_n 0, 1) := by decide +kernel
theorem dX7_inversionsOf_29 : decode cX7_inversionsOf 29 = .ok (.getfield 7, 3) := by decide +kernel
theorem dX7_inversionsOf_32 : decode cX7_inversionsOf 32 = .ok (.bipush 7, 2) := by decide +kernel
theorem dX7_inversionsOf_34 : decode cX7_inversionsOf 34 = .ok (.iload_n 3, 1) := by decide +kernel
theorem dX7_inversionsOf_35 : decode cX7_inversionsOf 35 = .ok (.iadd, 1) := by decide +kernel
theorem dX7_inversionsOf_36 : decode cX7_inversionsOf 36 = .ok (.laload, 1) := by decide +kernel
theorem dX7_inversionsOf_37 : decode cX7_inversionsOf 37 = .ok (.invokevirtual 40, 3) := by decide +kernel
theorem dX7_inversionsOf_40 : decode cX7_inversionsOf 40 = .ok (.goto 38, 3) := by decide +kernel
theorem dX7_inversionsOf_43 : decode cX7_inversionsOf 43 = .ok (.iload_n 3, 1) := by decide +kernel
theorem dX7_inversionsOf_44 : decode cX7_inversionsOf 44 = .ok (.iload_n 1, 1) := by decide +kernel
theorem dX7_inversionsOf_45 : decode cX7_inversionsOf 45 = .ok (.if_icmp .le 32, 3) := by decide +kernel
theorem dX7_inversionsOf_48 : decode cX7_inversionsOf 48 = .ok (.aload_n 0, 1) := by decide +kernel
theorem dX7_inversionsOf_49 : decode cX7_inversionsOf 49 = .ok (.aload_n 0, 1) := by decide +kernel
theorem dX7_inversionsOf_50 : decode cX7_inversionsOf 50 = .ok (.getfield 7, 3) := by decide +kernel
theorem dX7_inversionsOf_53 : decode cX7_inversionsOf 53 = .ok (.bipush 7, 2) := by decide +kernel
theorem dX7_inversionsOf_55 : decode cX7_inversionsOf 55 = .ok (.iload_n 3, 1) := by decide +kernel
theorem dX7_inversionsOf_56 : decode cX7_inversionsOf 56 = .ok (.iadd, 1) := by decide +kernel
theorem dX7_inversionsOf_57 : decode cX7_inversionsOf 57 = .ok (.laload, 1) := by decide +kernel
theorem dX7_inversionsOf_58 : decode cX7_inversionsOf 58 = .ok (.aload_n 0, 1) := by decide +kernel
theorem dX7_inversionsOf_59 : decode cX7_inversionsOf 59 = .ok (.getfield 7, 3) := by decide +kernel
theorem dX7_inversionsOf_62 : decode cX7_inversionsOf 62 = .ok (.bipush 7, 2) := by decide +kernel
theorem dX7_inversionsOf_64 : decode cX7_inversionsOf 64 = .ok (.iload_n 1, 1) := by decide +kernel
theorem dX7_inversionsOf_65 : decode cX7_inversionsOf 65 = .ok (.iadd, 1) := by decide +kernel
theorem dX7_inversionsOf_66 : decode cX7_inversionsOf 66 = .ok (.laload, 1) := by decide +kernel
theorem dX7_inversionsOf_67 : decode cX7_inversionsOf 67 = .ok (.invokevirtual 40, 3) := by decide +kernel
theorem dX7_inversionsOf_70 : decode cX7_inversionsOf 70 = .ok (.ifCond .eq 7, 3) := by decide +kernel
theorem dX7_inversionsOf_73 : decode cX7_inversionsOf 73 = .ok (.iconst 1, 1) := by decide +kernel
theorem dX7_inversionsOf_74 : decode cX7_inversionsOf 74 = .ok (.goto 4, 3) := by decide +kernel
theorem dX7_inversionsOf_77 : decode cX7_inversionsOf 77 = .ok (.iconst 0, 1) := by decide +kernel
theorem dX7_inversionsOf_78 : decode cX7_inversionsOf 78 = .ok (.istore 4, 2) := by decide +kernel
theorem dX7_inversionsOf_80 : decode cX7_inversionsOf 80 = .ok (.iload_n 2, 1) := by decide +kernel
theorem dX7_inversionsOf_81 : decode cX7_inversionsOf 81 = .ok (.iload 4, 2) := by decide +kernel
theorem dX7_inversionsOf_83 : decode cX7_inversionsOf 83 = .ok (.ifCond .eq 7, 3) := by decide +kernel
theorem dX7_inversionsOf_86 : decode cX7_inversionsOf 86 = .ok (.iconst 1, 1) := by decide +kernel
theorem dX7_inversionsOf_87 : decode cX7_inversionsOf 87 = .ok (.goto 4, 3) := by decide +kernel
theorem dX7_inversionsOf_90 : decode cX7_inversionsOf 90 = .ok (.iconst 0, 1) := by decide +kernel
theorem dX7_inversionsOf_91 : decode cX7_inversionsOf 91 = .ok (.iadd, 1) := by decide +kernel
theorem dX7_inversionsOf_92 : decode cX7_inversionsOf 92 = .ok (.istore_n 2, 1) := by decide +kernel
theorem dX7_inversionsOf_93 : decode cX7_inversionsOf 93 = .ok (.iinc 3 1, 3) := by decide +kernel
theorem dX7_inversionsOf_96 : decode cX7_inversionsOf 96 = .ok (.goto (-92), 3) := by decide +kernel
theorem dX7_inversionsOf_99 : decode cX7_inversionsOf 99 = .ok (.iload_n 2, 1) := by decide +kernel
theorem dX7_inversionsOf_100 : decode cX7_inversionsOf 100 = .ok (.ireturn, 1) := by decide +kernel
set_option maxRecDepth 20000 in
theorem ggX7_inversions_X7_of : GoodIn wsX7_inversions wsX7_of := goodIn_r _ [5, 6, 15, 16, 17, 18, 19, 20, 21, 22, 23, 24, 25, 26, 27, 28, 29] (by decide +kernel) (by decide +kernel)
set_option maxRecDepth 20000 in
theorem gX7_inversions_X7_of : GoodIn wsX7_inversions (wsV RX7 36 RX7 yX7_of wsX7_of) := goodIn_app (goodIn_of _ (by decide +kernel)) ggX7_inversions_X7_of
set_option maxRecDepth 20000 in
theorem ggX7_inversions_X7_inversionsOf : GoodIn wsX7_inversions wsX7_inversionsOf := goodIn_r _ [10, 6, 1, 2, 3, 4, 5, 11, 12, 13, 14, 15, 16, 17, 18, 19, 20, 21, 22, 23, 24, 25, 26, 27, 28, 29] (by decide +kernel) (by decide +kernel)
set_option maxRecDepth 20000 in
theorem gX7_inversions_X7_inversionsOf : GoodIn wsX7_inversions (wsV RX7 57 RX7 yX7_inversionsOf wsX7_inversionsOf) := goodIn_app (goodIn_of _ (by decide +kernel)) ggX7_inversions_X7_inversionsOf
theorem dX7_inversions_0 : decode cX7_inversions 0 = .ok (.iconst 0, 1) := by decide +kernel
theorem dX7_inversions_1 : decode cX7_inversions 1 = .ok (.istore_n 1, 1) := by decide +kernel
theorem dX7_inversions_2 : decode cX7_inversions 2 = .ok (.iconst 0, 1) := by decide +kernel
theorem dX7_inversions_3 : decode cX7_inversions 3 = .ok (.istore_n 2, 1) := by decide +kernel
theorem dX7_inversions_4 : decode cX7_inversions 4 = .ok (.iload_n 2, 1) := by decide +kernel
theorem dX7_inversions_5 : decode cX7_inversions 5 = .ok (.aload_n 0, 1) := by decide +kernel
theorem dX7_inversions_6 : decode cX7_inversions 6 = .ok (.iconst 0, 1) := by decide +kernel
theorem dX7_inversions_7 : decode cX7_inversions 7 = .ok (.invokevirtual 36, 3) := by decide +kernel
theorem dX7_inversions_10 : decode cX7_inversions 10 = .ok (.if_icmp .ge 17, 3) := by decide +kernel
theorem dX7_inversions_13 : decode cX7_inversions 13 = .ok (.iload_n 1, 1) := by decide +kernel
theorem dX7_inversions_14 : decode cX7_inversions 14 = .ok (.aload_n 0, 1) := by decide +kernel
theorem dX7_inversions_15 : decode cX7_inversions 15 = .ok (.iload_n 2, 1) := by decide +kernel
theorem dX7_inversions_16 : decode cX7_inversions 16 = .ok (.invokevirtual 57, 3) := by decide +kernel
theorem dX7_inversions_19 : decode cX7_inversions 19 = .ok (.iadd, 1) := by decide +kernel
theorem dX7_inversions_20 : decode cX7_inversions 20 = .ok (.istore_n 1, 1) := by decide +kernel
theorem dX7_inversions_21 : decode cX7_inversions 21 = .ok (.iinc 2 1, 3) := by decide +kernel
theorem dX7_inversions_24 : decode cX7_inversions 24 = .ok (.goto (-20), 3) := by decide +kernel
theorem dX7_inversions_27 : decode cX7_inversions 27 = .ok (.iload_n 1, 1) := by decide +kernel
theorem dX7_inversions_28 : decode cX7_inversions 28 = .ok (.iconst 2, 1) := by decide +kernel
theorem dX7_inversions_29 : decode cX7_inversions 29 = .ok (.idiv, 1) := by decide +kernel
theorem dX7_inversions_30 : decode cX7_inversions 30 = .ok (.ireturn, 1) := by decide +kernel
theorem dX7_swaps_0 : decode cX7_swaps 0 = .ok (.aload_n 0, 1) := by decide +kernel
theorem dX7_swaps_1 : decode cX7_swaps 1 = .ok (.getfield 7, 3) := by decide +kernel
theorem dX7_swaps_4 : decode cX7_swaps 4 = .ok (.bipush 7, 2) := by decide +kernel
theorem dX7_swaps_6 : decode cX7_swaps 6 = .ok (.iload_n 1, 1) := by decide +kernel
theorem dX7_swaps_7 : decode cX7_swaps 7 = .ok (.iadd, 1) := by decide +kernel
theorem dX7_swaps_8 : decode cX7_swaps 8 = .ok (.laload, 1) := by decide +kernel
theorem dX7_swaps_9 : decode cX7_swaps 9 = .ok (.lstore_n 2, 1) := by decide +kernel
theorem dX7_swaps_10 : decode cX7_swaps 10 = .ok (.aload_n 0, 1) := by decide +kernel
theorem dX7_swaps_11 : decode cX7_swaps 11 = .ok (.getfield 7, 3) := by decide +kernel
theorem dX7_swaps_14 : decode cX7_swaps 14 = .ok (.bipush 7, 2) := by decide +kernel
theorem dX7_swaps_16 : decode cX7_swaps 16 = .ok (.iload_n 1, 1) := by decide +kernel
theorem dX7_swaps_17 : decode cX7_swaps 17 = .ok (.iadd, 1) := by decide +kernel
theorem dX7_swaps_18 : decode cX7_swaps 18 = .ok (.aload_n 0, 1) := by decide +kernel
theorem dX7_swaps_19 : decode cX7_swaps 19 = .ok (.getfield 7, 3) := by decide +kernel
theorem dX7_swaps_22 : decode cX7_swaps 22 = .ok (.bipush 7, 2) := by decide +kernel
theorem dX7_swaps_24 : decode cX7_swaps 24 = .ok (.iload_n 1, 1) := by decide +kernel
theorem dX7_swaps_25 : decode cX7_swaps 25 = .ok (.iadd, 1) := by decide +kernel
theorem dX7_swaps_26 : decode cX7_swaps 26 = .ok (.iconst 1, 1) := by decide +kernel
theorem dX7_swaps_27 : decode cX7_swaps 27 = .ok (.iadd, 1) := by decide +kernel
theorem dX7_swaps_28 : decode cX7_swaps 28 = .ok (.laload, 1) := by decide +kernel
theorem dX7_swaps_29 : decode cX7_swaps 29 = .ok (.lastore, 1) := by decide +kernel
theorem dX7_swaps_30 : decode cX7_swaps 30 = .ok (.aload_n 0, 1) := by decide +kernel
theorem dX7_swaps_31 : decode cX7_swaps 31 = .ok (.getfield 7, 3) := by decide +kernel
theorem dX7_swaps_34 : decode cX7_swaps 34 = .ok (.bipush 7, 2) := by decide +kernel
theorem dX7_swaps_36 : decode cX7_swaps 36 = .ok (.iload_n 1, 1) := by decide +kernel
theorem dX7_swaps_37 : decode cX7_swaps 37 = .ok (.iadd, 1) := by decide +kernel
theorem dX7_swaps_38 : decode cX7_swaps 38 = .ok (.iconst 1, 1) := by decide +kernel
theorem dX7_swaps_39 : decode cX7_swaps 39 = .ok (.iadd, 1) := by decide +kernel
theorem dX7_swaps_40 : decode cX7_swaps 40 = .ok (.lload_n 2, 1) := by decide +kernel
theorem dX7_swaps_41 : decode cX7_swaps 41 = .ok (.lastore, 1) := by decide +kernel
theorem dX7_swaps_42 : decode cX7_swaps 42 = .ok (.aload_n 0, 1) := by decide +kernel
theorem dX7_swaps_43 : decode cX7_swaps 43 = .ok (.getfield 7, 3) := by decide +kernel
theorem dX7_swaps_46 : decode cX7_swaps 46 = .ok (.bipush 39, 2) := by decide +kernel
theorem dX7_swaps_48 : decode cX7_swaps 48 = .ok (.iload_n 1, 1) := by decide +kernel
theorem dX7_swaps_49 : decode cX7_swaps 49 = .ok (.iadd, 1) := by decide +kernel
theorem dX7_swaps_50 : decode cX7_swaps 50 = .ok (.laload, 1) := by decide +kernel
theorem dX7_swaps_51 : decode cX7_swaps 51 = .ok (.lstore 4, 2) := by decide +kernel
theorem dX7_swaps_53 : decode cX7_swaps 53 = .ok (.aload_n 0, 1) := by decide +kernel
theorem dX7_swaps_54 : decode cX7_swaps 54 = .ok (.getfield 7, 3) := by decide +kernel
theorem dX7_swaps_57 : decode cX7_swaps 57 = .ok (.bipush 39, 2) := by decide +kernel
theorem dX7_swaps_59 : decode cX7_swaps 59 = .ok (.iload_n 1, 1) := by decide +kernel
theorem dX7_swaps_60 : decode cX7_swaps 60 = .ok (.iadd, 1) := by decide +kernel
theorem dX7_swaps_61 : decode cX7_swaps 61 = .ok (.aload_n 0, 1) := by decide +kernel
theorem dX7_swaps_62 : decode cX7_swaps 62 = .ok (.getfield 7, 3) := by decide +kernel
theorem dX7_swaps_65 : decode cX7_swaps 65 = .ok (.bipush 39, 2) := by decide +kernel
theorem dX7_swaps_67 : decode cX7_swaps 67 = .ok (.iload_n 1, 1) := by decide +kernel
theorem dX7_swaps_68 : decode cX7_swaps 68 = .ok (.iadd, 1) := by decide +kernel
