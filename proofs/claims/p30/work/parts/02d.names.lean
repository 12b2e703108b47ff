theorem dX6_broken_4 : decode cX6_broken 4 = .ok (.invokevirtual 160, 3) := by decide +kernel
theorem dX6_broken_7 : decode cX6_broken 7 = .ok (.lreturn, 1) := by decide +kernel
set_option maxRecDepth 20000 in
theorem ggX6_whole_X6_wholeValue : GoodIn wsX6_whole wsX6_wholeValue := goodIn_r _ [7, 8, 9, 10, 11, 12, 13, 14, 15, 16, 17, 18, 19, 20, 21, 22, 23, 24, 25, 26, 27, 28, 29, 30, 31, 32, 33, 34, 35, 36, 37, 38, 39, 40, 41, 42, 43, 44, 45, 46, 47, 48, 49, 50, 51, 52, 53, 54, 55, 56, 57, 58, 59, 60, 61, 62, 63, 64, 65, 66, 67, 68, 69, 70, 71, 72, 73, 74, 75, 76, 77, 78, 79, 80, 81, 82, 83, 84, 85, 86, 87, 88, 89, 90, 91, 92, 93, 94, 95, 96, 97, 98, 99] (by decide +kernel) (by decide +kernel)
set_option maxRecDepth 20000 in
theorem gX6_whole_X6_wholeValue : GoodIn wsX6_whole (wsV RX6 166 RX6 yX6_wholeValue wsX6_wholeValue) := goodIn_app (goodIn_of _ (by decide +kernel)) ggX6_whole_X6_wholeValue
theorem dX6_whole_0 : decode cX6_whole 0 = .ok (.iload_n 1, 1) := by decide +kernel
theorem dX6_whole_1 : decode cX6_whole 1 = .ok (.ifCond .lt 9, 3) := by decide +kernel
theorem dX6_whole_4 : decode cX6_whole 4 = .ok (.iload_n 1, 1) := by decide +kernel
theorem dX6_whole_5 : decode cX6_whole 5 = .ok (.bipush 11, 2) := by decide +kernel
theorem dX6_whole_7 : decode cX6_whole 7 = .ok (.if_icmp .le 13, 3) := by decide +kernel
theorem dX6_whole_10 : decode cX6_whole 10 = .ok (.new 67, 3) := by decide +kernel
theorem dX6_whole_13 : decode cX6_whole 13 = .ok (.dup, 1) := by decide +kernel
theorem dX6_whole_14 : decode cX6_whole 14 = .ok (.ldc 164, 2) := by decide +kernel
theorem dX6_whole_16 : decode cX6_whole 16 = .ok (.invokespecial 71, 3) := by decide +kernel
theorem dX6_whole_19 : decode cX6_whole 19 = .ok (.athrow, 1) := by decide +kernel
theorem dX6_whole_20 : decode cX6_whole 20 = .ok (.aload_n 0, 1) := by decide +kernel
theorem dX6_whole_21 : decode cX6_whole 21 = .ok (.iload_n 1, 1) := by decide +kernel
theorem dX6_whole_22 : decode cX6_whole 22 = .ok (.invokevirtual 166, 3) := by decide +kernel
theorem dX6_whole_25 : decode cX6_whole 25 = .ok (.ireturn, 1) := by decide +kernel
set_option maxRecDepth 20000 in
theorem ggX6_lostValues_X4_lookFor : GoodIn wsX6_lostValues wsX4_lookFor := goodIn_r _ [7, 8, 9, 10, 11, 12, 13, 14, 6, 15, 16, 17, 18, 19, 20, 21, 22, 23, 24, 25, 26, 27, 28, 29, 30, 31, 32, 33, 34, 35, 36, 37, 53, 54, 55, 56, 43, 44, 45, 46, 47, 48, 49, 50, 51, 52] (by decide +kernel) (by decide +kernel)
set_option maxRecDepth 20000 in
theorem gX6_lostValues_X4_lookFor : GoodIn wsX6_lostValues (wsV RX6 135 RX4 yX4_lookFor wsX4_lookFor) := goodIn_app (goodIn_of _ (by decide +kernel)) ggX6_lostValues_X4_lookFor
theorem dX6_lostValues_0 : decode cX6_lostValues 0 = .ok (.iconst 0, 1) := by decide +kernel
theorem dX6_lostValues_1 : decode cX6_lostValues 1 = .ok (.istore_n 1, 1) := by decide +kernel
theorem dX6_lostValues_2 : decode cX6_lostValues 2 = .ok (.iconst 0, 1) := by decide +kernel
theorem dX6_lostValues_3 : decode cX6_lostValues 3 = .ok (.istore_n 2, 1) := by decide +kernel
theorem dX6_lostValues_4 : decode cX6_lostValues 4 = .ok (.iload_n 2, 1) := by decide +kernel
theorem dX6_lostValues_5 : decode cX6_lostValues 5 = .ok (.aload_n 0, 1) := by decide +kernel
theorem dX6_lostValues_6 : decode cX6_lostValues 6 = .ok (.getfield 10, 3) := by decide +kernel
theorem dX6_lostValues_9 : decode cX6_lostValues 9 = .ok (.getfield 47, 3) := by decide +kernel
theorem dX6_lostValues_12 : decode cX6_lostValues 12 = .ok (.if_icmp .ge 45, 3) := by decide +kernel
theorem dX6_lostValues_15 : decode cX6_lostValues 15 = .ok (.aload_n 0, 1) := by decide +kernel
theorem dX6_lostValues_16 : decode cX6_lostValues 16 = .ok (.getfield 22, 3) := by decide +kernel
theorem dX6_lostValues_19 : decode cX6_lostValues 19 = .ok (.aload_n 0, 1) := by decide +kernel
theorem dX6_lostValues_20 : decode cX6_lostValues 20 = .ok (.getfield 10, 3) := by decide +kernel
theorem dX6_lostValues_23 : decode cX6_lostValues 23 = .ok (.aload_n 0, 1) := by decide +kernel
theorem dX6_lostValues_24 : decode cX6_lostValues 24 = .ok (.getfield 10, 3) := by decide +kernel
theorem dX6_lostValues_27 : decode cX6_lostValues 27 = .ok (.getfield 88, 3) := by decide +kernel
theorem dX6_lostValues_30 : decode cX6_lostValues 30 = .ok (.iload_n 2, 1) := by decide +kernel
theorem dX6_lostValues_31 : decode cX6_lostValues 31 = .ok (.laload, 1) := by decide +kernel
theorem dX6_lostValues_32 : decode cX6_lostValues 32 = .ok (.invokevirtual 135, 3) := by decide +kernel
theorem dX6_lostValues_35 : decode cX6_lostValues 35 = .ok (.aload_n 0, 1) := by decide +kernel
theorem dX6_lostValues_36 : decode cX6_lostValues 36 = .ok (.getfield 22, 3) := by decide +kernel
theorem dX6_lostValues_39 : decode cX6_lostValues 39 = .ok (.getfield 143, 3) := by decide +kernel
theorem dX6_lostValues_42 : decode cX6_lostValues 42 = .ok (.sipush (-1000), 3) := by decide +kernel
theorem dX6_lostValues_45 : decode cX6_lostValues 45 = .ok (.if_icmp .ne 6, 3) := by decide +kernel
theorem dX6_lostValues_48 : decode cX6_lostValues 48 = .ok (.iinc 1 1, 3) := by decide +kernel
theorem dX6_lostValues_51 : decode cX6_lostValues 51 = .ok (.iinc 2 1, 3) := by decide +kernel
theorem dX6_lostValues_54 : decode cX6_lostValues 54 = .ok (.goto (-50), 3) := by decide +kernel
theorem dX6_lostValues_57 : decode cX6_lostValues 57 = .ok (.iload_n 1, 1) := by decide +kernel
theorem dX6_lostValues_58 : decode cX6_lostValues 58 = .ok (.ireturn, 1) := by decide +kernel
set_option maxRecDepth 20000 in
theorem ggX6_requireRoom_X3_hasRoom : GoodIn wsX6_requireRoom wsX3_hasRoom := goodIn_r _ [8, 9, 15, 16, 17, 18, 19, 20, 21, 22, 23, 24] (by decide +kernel) (by decide +kernel)
set_option maxRecDepth 20000 in
theorem gX6_requireRoom_X3_hasRoom : GoodIn wsX6_requireRoom (wsV RX6 185 RX3 yX3_hasRoom wsX3_hasRoom) := goodIn_app (goodIn_of _ (by decide +kernel)) ggX6_requireRoom_X3_hasRoom
theorem dX6_requireRoom_0 : decode cX6_requireRoom 0 = .ok (.aload_n 0, 1) := by decide +kernel
theorem dX6_requireRoom_1 : decode cX6_requireRoom 1 = .ok (.getfield 10, 3) := by decide +kernel
theorem dX6_requireRoom_4 : decode cX6_requireRoom 4 = .ok (.invokevirtual 185, 3) := by decide +kernel
theorem dX6_requireRoom_7 : decode cX6_requireRoom 7 = .ok (.ifCond .ne 13, 3) := by decide +kernel
theorem dX6_requireRoom_10 : decode cX6_requireRoom 10 = .ok (.new 198, 3) := by decide +kernel
theorem dX6_requireRoom_13 : decode cX6_requireRoom 13 = .ok (.dup, 1) := by decide +kernel
theorem dX6_requireRoom_14 : decode cX6_requireRoom 14 = .ok (.ldc 242, 2) := by decide +kernel
theorem dX6_requireRoom_16 : decode cX6_requireRoom 16 = .ok (.invokespecial 202, 3) := by decide +kernel
theorem dX6_requireRoom_19 : decode cX6_requireRoom 19 = .ok (.athrow, 1) := by decide +kernel
theorem dX6_requireRoom_20 : decode cX6_requireRoom 20 = .ok (.return_, 1) := by decide +kernel
set_option maxRecDepth 20000 in
theorem ggX6_requirePlace_X3_isPlace : GoodIn wsX6_requirePlace wsX3_isPlace := goodIn_r _ [8, 9, 15, 16, 17, 18, 19, 20, 21, 22, 23, 24] (by decide +kernel) (by decide +kernel)
set_option maxRecDepth 20000 in
theorem gX6_requirePlace_X3_isPlace : GoodIn wsX6_requirePlace (wsV RX6 155 RX3 yX3_isPlace wsX3_isPlace) := goodIn_app (goodIn_of _ (by decide +kernel)) ggX6_requirePlace_X3_isPlace
theorem dX6_requirePlace_0 : decode cX6_requirePlace 0 = .ok (.aload_n 0, 1) := by decide +kernel
theorem dX6_requirePlace_1 : decode cX6_requirePlace 1 = .ok (.getfield 10, 3) := by decide +kernel
theorem dX6_requirePlace_4 : decode cX6_requirePlace 4 = .ok (.iload_n 1, 1) := by decide +kernel
theorem dX6_requirePlace_5 : decode cX6_requirePlace 5 = .ok (.invokevirtual 155, 3) := by decide +kernel
theorem dX6_requirePlace_8 : decode cX6_requirePlace 8 = .ok (.ifCond .ne 13, 3) := by decide +kernel
theorem dX6_requirePlace_11 : decode cX6_requirePlace 11 = .ok (.new 98, 3) := by decide +kernel
theorem dX6_requirePlace_14 : decode cX6_requirePlace 14 = .ok (.dup, 1) := by decide +kernel
theorem dX6_requirePlace_15 : decode cX6_requirePlace 15 = .ok (.ldc 244, 2) := by decide +kernel
theorem dX6_requirePlace_17 : decode cX6_requirePlace 17 = .ok (.invokespecial 102, 3) := by decide +kernel
theorem dX6_requirePlace_20 : decode cX6_requirePlace 20 = .ok (.athrow, 1) := by decide +kernel
theorem dX6_requirePlace_21 : decode cX6_requirePlace 21 = .ok (.return_, 1) := by decide +kernel
set_option maxRecDepth 20000 in
theorem ggX6_requireBound_X3_isBound : GoodIn wsX6_requireBound wsX3_isBound := goodIn_r _ [8] (by decide +kernel) (by decide +kernel)
set_option maxRecDepth 20000 in
theorem gX6_requireBound_X3_isBound : GoodIn wsX6_requireBound (wsV RX6 246 RX3 yX3_isBound wsX3_isBound) := goodIn_app (goodIn_of _ (by decide +kernel)) ggX6_requireBound_X3_isBound
theorem dX6_requireBound_0 : decode cX6_requireBound 0 = .ok (.aload_n 0, 1) := by decide +kernel
theorem dX6_requireBound_1 : decode cX6_requireBound 1 = .ok (.getfield 10, 3) := by decide +kernel
theorem dX6_requireBound_4 : decode cX6_requireBound 4 = .ok (.iload_n 1, 1) := by decide +kernel
theorem dX6_requireBound_5 : decode cX6_requireBound 5 = .ok (.invokevirtual 246, 3) := by decide +kernel
theorem dX6_requireBound_8 : decode cX6_requireBound 8 = .ok (.ifCond .ne 13, 3) := by decide +kernel
theorem dX6_requireBound_11 : decode cX6_requireBound 11 = .ok (.new 67, 3) := by decide +kernel
theorem dX6_requireBound_14 : decode cX6_requireBound 14 = .ok (.dup, 1) := by decide +kernel
theorem dX6_requireBound_15 : decode cX6_requireBound 15 = .ok (.ldc 249, 2) := by decide +kernel
theorem dX6_requireBound_17 : decode cX6_requireBound 17 = .ok (.invokespecial 71, 3) := by decide +kernel
theorem dX6_requireBound_20 : decode cX6_requireBound 20 = .ok (.athrow, 1) := by decide +kernel
theorem dX6_requireBound_21 : decode cX6_requireBound 21 = .ok (.return_, 1) := by decide +kernel
set_option maxRecDepth 20000 in
theorem ggX6_endChange_X3_mendFully : GoodIn wsX6_endChange wsX3_mendFully := goodIn_r _ [6, 7, 8, 9, 5, 10, 11, 12, 13, 14, 15, 16, 17, 18, 19, 20, 21, 22, 23, 24, 25, 26, 27, 28, 29, 30, 31, 32, 33, 34, 35, 36, 37, 38, 39, 40, 41, 42, 43, 44, 45, 46, 47, 48, 49, 50, 51, 52, 53, 59, 60, 61, 62, 63, 64, 65, 66, 67, 68] (by decide +kernel) (by decide +kernel)
set_option maxRecDepth 20000 in
theorem gX6_endChange_X3_mendFully : GoodIn wsX6_endChange (wsV RX6 132 RX3 yX3_mendFully wsX3_mendFully) := goodIn_app (goodIn_of _ (by decide +kernel)) ggX6_endChange_X3_mendFully
theorem dX6_endChange_0 : decode cX6_endChange 0 = .ok (.aload_n 0, 1) := by decide +kernel
theorem dX6_endChange_1 : decode cX6_endChange 1 = .ok (.getfield 10, 3) := by decide +kernel
theorem dX6_endChange_4 : decode cX6_endChange 4 = .ok (.getfield 125, 3) := by decide +kernel
theorem dX6_endChange_7 : decode cX6_endChange 7 = .ok (.ifCond .eq 13, 3) := by decide +kernel
theorem dX6_endChange_10 : decode cX6_endChange 10 = .ok (.aload_n 0, 1) := by decide +kernel
theorem dX6_endChange_11 : decode cX6_endChange 11 = .ok (.getfield 10, 3) := by decide +kernel
theorem dX6_endChange_14 : decode cX6_endChange 14 = .ok (.invokevirtual 132, 3) := by decide +kernel
theorem dX6_endChange_17 : decode cX6_endChange 17 = .ok (.goto 4, 3) := by decide +kernel
theorem dX6_endChange_20 : decode cX6_endChange 20 = .ok (.iconst 0, 1) := by decide +kernel
theorem dX6_endChange_21 : decode cX6_endChange 21 = .ok (.ireturn, 1) := by decide +kernel
set_option maxRecDepth 20000 in
theorem ggX6_elementValue_X3_distance : GoodIn wsX6_elementValue wsX3_distance := goodIn_r _ [6, 7, 8, 9, 10, 5, 11, 12, 46, 47, 48, 49, 50, 51, 52, 53, 54, 55] (by decide +kernel) (by decide +kernel)
set_option maxRecDepth 20000 in
theorem gX6_elementValue_X3_distance : GoodIn wsX6_elementValue (wsV RX6 55 RX3 yX3_distance wsX3_distance) := goodIn_app (goodIn_of _ (by decide +kernel)) ggX6_elementValue_X3_distance
set_option maxRecDepth 20000 in
theorem ggX6_elementValue_X3_isBroken : GoodIn wsX6_elementValue wsX3_isBroken := goodIn_r _ [16, 17, 18, 19, 20, 21, 22, 3, 4, 5, 6, 7, 8, 9, 10, 11, 12, 46, 47, 48, 49, 50, 51, 52, 53, 54, 55] (by decide +kernel) (by decide +kernel)
set_option maxRecDepth 20000 in
theorem gX6_elementValue_X3_isBroken : GoodIn wsX6_elementValue (wsV RX6 275 RX3 yX3_isBroken wsX3_isBroken) := goodIn_app (goodIn_of _ (by decide +kernel)) ggX6_elementValue_X3_isBroken
set_option maxRecDepth 20000 in
theorem ggX6_elementValue_X3_isFall : GoodIn wsX6_elementValue wsX3_isFall := goodIn_r _ [26, 27, 28, 29, 30, 5, 31, 12, 32, 33, 34, 35, 36, 46, 47, 48, 49, 50, 51, 52, 53, 54, 55] (by decide +kernel) (by decide +kernel)
set_option maxRecDepth 20000 in
theorem gX6_elementValue_X3_isFall : GoodIn wsX6_elementValue (wsV RX6 278 RX3 yX3_isFall wsX3_isFall) := goodIn_app (goodIn_of _ (by decide +kernel)) ggX6_elementValue_X3_isFall
set_option maxRecDepth 20000 in
theorem ggX6_elementValue_X3_inversionsOf : GoodIn wsX6_elementValue wsX3_inversionsOf := goodIn_r _ [40, 27, 12, 32, 33, 34, 5, 35, 36, 46, 47, 48, 49, 50, 51, 52, 53, 54, 55] (by decide +kernel) (by decide +kernel)
set_option maxRecDepth 20000 in
theorem gX6_elementValue_X3_inversionsOf : GoodIn wsX6_elementValue (wsV RX6 281 RX3 yX3_inversionsOf wsX3_inversionsOf) := goodIn_app (goodIn_of _ (by decide +kernel)) ggX6_elementValue_X3_inversionsOf
theorem dX6_elementValue_0 : decode cX6_elementValue 0 = .ok (.iload_n 2, 1) := by decide +kernel
theorem dX6_elementValue_1 : decode cX6_elementValue 1 = .ok (.tableswitch 98 0 4 #[35, 45, 55, 64, 81], 35) := by decide +kernel
theorem dX6_elementValue_36 : decode cX6_elementValue 36 = .ok (.aload_n 0, 1) := by decide +kernel
theorem dX6_elementValue_37 : decode cX6_elementValue 37 = .ok (.getfield 10, 3) := by decide +kernel
theorem dX6_elementValue_40 : decode cX6_elementValue 40 = .ok (.getfield 81, 3) := by decide +kernel
theorem dX6_elementValue_43 : decode cX6_elementValue 43 = .ok (.iload_n 1, 1) := by decide +kernel
theorem dX6_elementValue_44 : decode cX6_elementValue 44 = .ok (.iaload, 1) := by decide +kernel
theorem dX6_elementValue_45 : decode cX6_elementValue 45 = .ok (.ireturn, 1) := by decide +kernel
theorem dX6_elementValue_46 : decode cX6_elementValue 46 = .ok (.aload_n 0, 1) := by decide +kernel
theorem dX6_elementValue_47 : decode cX6_elementValue 47 = .ok (.getfield 10, 3) := by decide +kernel
theorem dX6_elementValue_50 : decode cX6_elementValue 50 = .ok (.getfield 272, 3) := by decide +kernel
theorem dX6_elementValue_53 : decode cX6_elementValue 53 = .ok (.iload_n 1, 1) := by decide +kernel
theorem dX6_elementValue_54 : decode cX6_elementValue 54 = .ok (.iaload, 1) := by decide +kernel
theorem dX6_elementValue_55 : decode cX6_elementValue 55 = .ok (.ireturn, 1) := by decide +kernel
theorem dX6_elementValue_56 : decode cX6_elementValue 56 = .ok (.aload_n 0, 1) := by decide +kernel
theorem dX6_elementValue_57 : decode cX6_elementValue 57 = .ok (.getfield 10, 3) := by decide +kernel
theorem dX6_elementValue_60 : decode cX6_elementValue 60 = .ok (.iload_n 1, 1) := by decide +kernel
theorem dX6_elementValue_61 : decode cX6_elementValue 61 = .ok (.invokevirtual 55, 3) := by decide +kernel
theorem dX6_elementValue_64 : decode cX6_elementValue 64 = .ok (.ireturn, 1) := by decide +kernel
theorem dX6_elementValue_65 : decode cX6_elementValue 65 = .ok (.aload_n 0, 1) := by decide +kernel
theorem dX6_elementValue_66 : decode cX6_elementValue 66 = .ok (.getfield 10, 3) := by decide +kernel
theorem dX6_elementValue_69 : decode cX6_elementValue 69 = .ok (.iload_n 1, 1) := by decide +kernel
theorem dX6_elementValue_70 : decode cX6_elementValue 70 = .ok (.invokevirtual 275, 3) := by decide +kernel
theorem dX6_elementValue_73 : decode cX6_elementValue 73 = .ok (.ifCond .eq 7, 3) := by decide +kernel
theorem dX6_elementValue_76 : decode cX6_elementValue 76 = .ok (.iconst 1, 1) := by decide +kernel
theorem dX6_elementValue_77 : decode cX6_elementValue 77 = .ok (.goto 4, 3) := by decide +kernel
theorem dX6_elementValue_80 : decode cX6_elementValue 80 = .ok (.iconst 0, 1) := by decide +kernel
theorem dX6_elementValue_81 : decode cX6_elementValue 81 = .ok (.ireturn, 1) := by decide +kernel
theorem dX6_elementValue_82 : decode cX6_elementValue 82 = .ok (.aload_n 0, 1) := by decide +kernel
theorem dX6_elementValue_83 : decode cX6_elementValue 83 = .ok (.getfield 10, 3) := by decide +kernel
theorem dX6_elementValue_86 : decode cX6_elementValue 86 = .ok (.iload_n 1, 1) := by decide +kernel
theorem dX6_elementValue_87 : decode cX6_elementValue 87 = .ok (.invokevirtual 278, 3) := by decide +kernel
theorem dX6_elementValue_90 : decode cX6_elementValue 90 = .ok (.ifCond .eq 7, 3) := by decide +kernel
theorem dX6_elementValue_93 : decode cX6_elementValue 93 = .ok (.iconst 1, 1) := by decide +kernel
theorem dX6_elementValue_94 : decode cX6_elementValue 94 = .ok (.goto 4, 3) := by decide +kernel
theorem dX6_elementValue_97 : decode cX6_elementValue 97 = .ok (.iconst 0, 1) := by decide +kernel
theorem dX6_elementValue_98 : decode cX6_elementValue 98 = .ok (.ireturn, 1) := by decide +kernel
theorem dX6_elementValue_99 : decode cX6_elementValue 99 = .ok (.aload_n 0, 1) := by decide +kernel
theorem dX6_elementValue_100 : decode cX6_elementValue 100 = .ok (.getfield 10, 3) := by decide +kernel
theorem dX6_elementValue_103 : decode cX6_elementValue 103 = .ok (.iload_n 1, 1) := by decide +kernel
theorem dX6_elementValue_104 : decode cX6_elementValue 104 = .ok (.invokevirtual 281, 3) := by decide +kernel
theorem dX6_elementValue_107 : decode cX6_elementValue 107 = .ok (.ireturn, 1) := by decide +kernel
set_option maxRecDepth 20000 in
theorem ggX6_wholeValue_X3_brokenCount : GoodIn wsX6_wholeValue wsX3_brokenCount := goodIn_r _ [7, 8, 9, 10, 6, 11, 12, 13, 14, 15, 16, 17, 18, 19, 20, 21, 22, 23, 24, 25, 26, 27, 28, 29, 30, 31, 32, 33, 34, 35, 36, 37, 76, 77, 78, 79, 80, 81, 82, 83, 84, 85] (by decide +kernel) (by decide +kernel)
set_option maxRecDepth 20000 in
theorem gX6_wholeValue_X3_brokenCount : GoodIn wsX6_wholeValue (wsV RX6 115 RX3 yX3_brokenCount wsX3_brokenCount) := goodIn_app (goodIn_of _ (by decide +kernel)) ggX6_wholeValue_X3_brokenCount
set_option maxRecDepth 20000 in
theorem ggX6_wholeValue_X3_inversions : GoodIn wsX6_wholeValue wsX3_inversions := goodIn_r _ [41, 12, 42, 43, 44, 6, 45, 46, 47, 48, 49, 50, 51, 76, 77, 78, 79, 80, 81, 82, 83, 84, 85] (by decide +kernel) (by decide +kernel)
set_option maxRecDepth 20000 in
theorem gX6_wholeValue_X3_inversions : GoodIn wsX6_wholeValue (wsV RX6 122 RX3 yX3_inversions wsX3_inversions) := goodIn_app (goodIn_of _ (by decide +kernel)) ggX6_wholeValue_X3_inversions
set_option maxRecDepth 20000 in
theorem ggX6_wholeValue_X3_falls : GoodIn wsX6_wholeValue wsX3_falls := goodIn_r _ [55, 12, 56, 57, 58, 6, 59, 46, 60, 61, 62, 63, 47, 48, 49, 50, 51, 76, 77, 78, 79, 80, 81, 82, 83, 84, 85] (by decide +kernel) (by decide +kernel)
set_option maxRecDepth 20000 in
theorem gX6_wholeValue_X3_falls : GoodIn wsX6_wholeValue (wsV RX6 290 RX3 yX3_falls wsX3_falls) := goodIn_app (goodIn_of _ (by decide +kernel)) ggX6_wholeValue_X3_falls
set_option maxRecDepth 20000 in
theorem ggX6_wholeValue_X3_greatestDistance : GoodIn wsX6_wholeValue wsX3_greatestDistance := goodIn_r _ [67, 12, 17, 18, 19, 20, 68, 69, 70, 22, 23, 24, 6, 25, 26, 27, 28, 29, 30, 76, 77, 78, 79, 80, 81, 82, 83, 84, 85] (by decide +kernel) (by decide +kernel)
set_option maxRecDepth 20000 in
theorem gX6_wholeValue_X3_greatestDistance : GoodIn wsX6_wholeValue (wsV RX6 296 RX3 yX3_greatestDistance wsX3_greatestDistance) := goodIn_app (goodIn_of _ (by decide +kernel)) ggX6_wholeValue_X3_greatestDistance
theorem dX6_wholeValue_0 : decode cX6_wholeValue 0 = .ok (.iload_n 1, 1) := by decide +kernel
theorem dX6_wholeValue_1 : decode cX6_wholeValue 1 = .ok (.tableswitch 163 0 10 #[59, 67, 75, 91, 107, 115, 123, 131, 139, 147, 155], 59) := by decide +kernel
theorem dX6_wholeValue_60 : decode cX6_wholeValue 60 = .ok (.aload_n 0, 1) := by decide +kernel
theorem dX6_wholeValue_61 : decode cX6_wholeValue 61 = .ok (.getfield 10, 3) := by decide +kernel
theorem dX6_wholeValue_64 : decode cX6_wholeValue 64 = .ok (.getfield 47, 3) := by decide +kernel
theorem dX6_wholeValue_67 : decode cX6_wholeValue 67 = .ok (.ireturn, 1) := by decide +kernel
theorem dX6_wholeValue_68 : decode cX6_wholeValue 68 = .ok (.aload_n 0, 1) := by decide +kernel
theorem dX6_wholeValue_69 : decode cX6_wholeValue 69 = .ok (.getfield 10, 3) := by decide +kernel
theorem dX6_wholeValue_72 : decode cX6_wholeValue 72 = .ok (.getfield 284, 3) := by decide +kernel
theorem dX6_wholeValue_75 : decode cX6_wholeValue 75 = .ok (.ireturn, 1) := by decide +kernel
theorem dX6_wholeValue_76 : decode cX6_wholeValue 76 = .ok (.aload_n 0, 1) := by decide +kernel
theorem dX6_wholeValue_77 : decode cX6_wholeValue 77 = .ok (.getfield 10, 3) := by decide +kernel
theorem dX6_wholeValue_80 : decode cX6_wholeValue 80 = .ok (.getfield 287, 3) := by decide +kernel
theorem dX6_wholeValue_83 : decode cX6_wholeValue 83 = .ok (.ifCond .eq 7, 3) := by decide +kernel
theorem dX6_wholeValue_86 : decode cX6_wholeValue 86 = .ok (.iconst 1, 1) := by decide +kernel
theorem dX6_wholeValue_87 : decode cX6_wholeValue 87 = .ok (.goto 4, 3) := by decide +kernel
theorem dX6_wholeValue_90 : decode cX6_wholeValue 90 = .ok (.iconst 0, 1) := by decide +kernel
theorem dX6_wholeValue_91 : decode cX6_wholeValue 91 = .ok (.ireturn, 1) := by decide +kernel
theorem dX6_wholeValue_92 : decode cX6_wholeValue 92 = .ok (.aload_n 0, 1) := by decide +kernel
theorem dX6_wholeValue_93 : decode cX6_wholeValue 93 = .ok (.getfield 10, 3) := by decide +kernel
theorem dX6_wholeValue_96 : decode cX6_wholeValue 96 = .ok (.getfield 125, 3) := by decide +kernel
theorem dX6_wholeValue_99 : decode cX6_wholeValue 99 = .ok (.ifCond .eq 7, 3) := by decide +kernel
theorem dX6_wholeValue_102 : decode cX6_wholeValue 102 = .ok (.iconst 1, 1) := by decide +kernel
theorem dX6_wholeValue_103 : decode cX6_wholeValue 103 = .ok (.goto 4, 3) := by decide +kernel
theorem dX6_wholeValue_106 : decode cX6_wholeValue 106 = .ok (.iconst 0, 1) := by decide +kernel
theorem dX6_wholeValue_107 : decode cX6_wholeValue 107 = .ok (.ireturn, 1) := by decide +kernel
theorem dX6_wholeValue_108 : decode cX6_wholeValue 108 = .ok (.aload_n 0, 1) := by decide +kernel
theorem dX6_wholeValue_109 : decode cX6_wholeValue 109 = .ok (.getfield 10, 3) := by decide +kernel
theorem dX6_wholeValue_112 : decode cX6_wholeValue 112 = .ok (.invokevirtual 115, 3) := by decide +kernel
theorem dX6_wholeValue_115 : decode cX6_wholeValue 115 = .ok (.ireturn, 1) := by decide +kernel
theorem dX6_wholeValue_116 : decode cX6_wholeValue 116 = .ok (.aload_n 0, 1) := by decide +kernel
theorem dX6_wholeValue_117 : decode cX6_wholeValue 117 = .ok (.getfield 10, 3) := by decide +kernel
theorem dX6_wholeValue_120 : decode cX6_wholeValue 120 = .ok (.invokevirtual 122, 3) := by decide +kernel
theorem dX6_wholeValue_123 : decode cX6_wholeValue 123 = .ok (.ireturn, 1) := by decide +kernel
theorem dX6_wholeValue_124 : decode cX6_wholeValue 124 = .ok (.aload_n 0, 1) := by decide +kernel
theorem dX6_wholeValue_125 : decode cX6_wholeValue 125 = .ok (.getfield 10, 3) := by decide +kernel
theorem dX6_wholeValue_128 : decode cX6_wholeValue 128 = .ok (.invokevirtual 290, 3) := by decide +kernel
theorem dX6_wholeValue_131 : decode cX6_wholeValue 131 = .ok (.ireturn, 1) := by decide +kernel
theorem dX6_wholeValue_132 : decode cX6_wholeValue 132 = .ok (.aload_n 0, 1) := by decide +kernel
theorem dX6_wholeValue_133 : decode cX6_wholeValue 133 = .ok (.getfield 10, 3) := by decide +kernel
theorem dX6_wholeValue_136 : decode cX6_wholeValue 136 = .ok (.getfield 293, 3) := by decide +kernel
theorem dX6_wholeValue_139 : decode cX6_wholeValue 139 = .ok (.ireturn, 1) := by decide +kernel
theorem dX6_wholeValue_140 : decode cX6_wholeValue 140 = .ok (.aload_n 0, 1) := by decide +kernel
theorem dX6_wholeValue_141 : decode cX6_wholeValue 141 = .ok (.getfield 10, 3) := by decide +kernel
theorem dX6_wholeValue_144 : decode cX6_wholeValue 144 = .ok (.getfield 139, 3) := by decide +kernel
theorem dX6_wholeValue_147 : decode cX6_wholeValue 147 = .ok (.ireturn, 1) := by decide +kernel
theorem dX6_wholeValue_148 : decode cX6_wholeValue 148 = .ok (.aload_n 0, 1) := by decide +kernel
theorem dX6_wholeValue_149 : decode cX6_wholeValue 149 = .ok (.getfield 10, 3) := by decide +kernel
theorem dX6_wholeValue_152 : decode cX6_wholeValue 152 = .ok (.getfield 74, 3) := by decide +kernel
theorem dX6_wholeValue_155 : decode cX6_wholeValue 155 = .ok (.ireturn, 1) := by decide +kernel
theorem dX6_wholeValue_156 : decode cX6_wholeValue 156 = .ok (.aload_n 0, 1) := by decide +kernel
theorem dX6_wholeValue_157 : decode cX6_wholeValue 157 = .ok (.getfield 10, 3) := by decide +kernel
theorem dX6_wholeValue_160 : decode cX6_wholeValue 160 = .ok (.invokevirtual 296, 3) := by decide +kernel
theorem dX6_wholeValue_163 : decode cX6_wholeValue 163 = .ok (.ireturn, 1) := by decide +kernel
theorem dX6_wholeValue_164 : decode cX6_wholeValue 164 = .ok (.aload_n 0, 1) := by decide +kernel
theorem dX6_wholeValue_165 : decode cX6_wholeValue 165 = .ok (.getfield 29, 3) := by decide +kernel
theorem dX6_wholeValue_168 : decode cX6_wholeValue 168 = .ok (.getfield 206, 3) := by decide +kernel
theorem dX6_wholeValue_171 : decode cX6_wholeValue 171 = .ok (.ireturn, 1) := by decide +kernel
theorem dJ13_bitCount_95d88_0 : decode cJ13_bitCount_95d88 0 = .ok (.lload_n 0, 1) := by decide +kernel
theorem dJ13_bitCount_95d88_1 : decode cJ13_bitCount_95d88 1 = .ok (.lload_n 0, 1) := by decide +kernel
theorem dJ13_bitCount_95d88_2 : decode cJ13_bitCount_95d88 2 = .ok (.iconst 1, 1) := by decide +kernel
theorem dJ13_bitCount_95d88_3 : decode cJ13_bitCount_95d88 3 = .ok (.lushr, 1) := by decide +kernel
theorem dJ13_bitCount_95d88_4 : decode cJ13_bitCount_95d88 4 = .ok (.ldc2_w 314, 3) := by decide +kernel
theorem dJ13_bitCount_95d88_7 : decode cJ13_bitCount_95d88 7 = .ok (.land, 1) := by decide +kernel
theorem dJ13_bitCount_95d88_8 : decode cJ13_bitCount_95d88 8 = .ok (.lsub, 1) := by decide +kernel
theorem dJ13_bitCount_95d88_9 : decode cJ13_bitCount_95d88 9 = .ok (.lstore_n 0, 1) := by decide +kernel
theorem dJ13_bitCount_95d88_10 : decode cJ13_bitCount_95d88 10 = .ok (.lload_n 0, 1) := by decide +kernel
theorem dJ13_bitCount_95d88_11 : decode cJ13_bitCount_95d88 11 = .ok (.ldc2_w 316, 3) := by decide +kernel
theorem dJ13_bitCount_95d88_14 : decode cJ13_bitCount_95d88 14 = .ok (.land, 1) := by decide +kernel
theorem dJ13_bitCount_95d88_15 : decode cJ13_bitCount_95d88 15 = .ok (.lload_n 0, 1) := by decide +kernel
theorem dJ13_bitCount_95d88_16 : decode cJ13_bitCount_95d88 16 = .ok (.iconst 2, 1) := by decide +kernel
theorem dJ13_bitCount_95d88_17 : decode cJ13_bitCount_95d88 17 = .ok (.lushr, 1) := by decide +kernel
theorem dJ13_bitCount_95d88_18 : decode cJ13_bitCount_95d88 18 = .ok (.ldc2_w 316, 3) := by decide +kernel
theorem dJ13_bitCount_95d88_21 : decode cJ13_bitCount_95d88 21 = .ok (.land, 1) := by decide +kernel
theorem dJ13_bitCount_95d88_22 : decode cJ13_bitCount_95d88 22 = .ok (.ladd, 1) := by decide +kernel
theorem dJ13_bitCount_95d88_23 : decode cJ13_bitCount_95d88 23 = .ok (.lstore_n 0, 1) := by decide +kernel
theorem dJ13_bitCount_95d88_24 : decode cJ13_bitCount_95d88 24 = .ok (.lload_n 0, 1) := by decide +kernel
theorem dJ13_bitCount_95d88_25 : decode cJ13_bitCount_95d88 25 = .ok (.lload_n 0, 1) := by decide +kernel
theorem dJ13_bitCount_95d88_26 : decode cJ13_bitCount_95d88 26 = .ok (.iconst 4, 1) := by decide +kernel
theorem dJ13_bitCount_95d88_27 : decode cJ13_bitCount_95d88 27 = .ok (.lushr, 1) := by decide +kernel
theorem dJ13_bitCount_95d88_28 : decode cJ13_bitCount_95d88 28 = .ok (.ladd, 1) := by decide +kernel
theorem dJ13_bitCount_95d88_29 : decode cJ13_bitCount_95d88 29 = .ok (.ldc2_w 318, 3) := by decide +kernel
theorem dJ13_bitCount_95d88_32 : decode cJ13_bitCount_95d88 32 = .ok (.land, 1) := by decide +kernel
theorem dJ13_bitCount_95d88_33 : decode cJ13_bitCount_95d88 33 = .ok (.lstore_n 0, 1) := by decide +kernel
theorem dJ13_bitCount_95d88_34 : decode cJ13_bitCount_95d88 34 = .ok (.lload_n 0, 1) := by decide +kernel
theorem dJ13_bitCount_95d88_35 : decode cJ13_bitCount_95d88 35 = .ok (.lload_n 0, 1) := by decide +kernel
theorem dJ13_bitCount_95d88_36 : decode cJ13_bitCount_95d88 36 = .ok (.bipush 8, 2) := by decide +kernel
theorem dJ13_bitCount_95d88_38 : decode cJ13_bitCount_95d88 38 = .ok (.lushr, 1) := by decide +kernel
theorem dJ13_bitCount_95d88_39 : decode cJ13_bitCount_95d88 39 = .ok (.ladd, 1) := by decide +kernel
theorem dJ13_bitCount_95d88_40 : decode cJ13_bitCount_95d88 40 = .ok (.lstore_n 0, 1) := by decide +kernel
theorem dJ13_bitCount_95d88_41 : decode cJ13_bitCount_95d88 41 = .ok (.lload_n 0, 1) := by decide +kernel
theorem dJ13_bitCount_95d88_42 : decode cJ13_bitCount_95d88 42 = .ok (.lload_n 0, 1) := by decide +kernel
theorem dJ13_bitCount_95d88_43 : decode cJ13_bitCount_95d88 43 = .ok (.bipush 16, 2) := by decide +kernel
theorem dJ13_bitCount_95d88_45 : decode cJ13_bitCount_95d88 45 = .ok (.lushr, 1) := by decide +kernel
theorem dJ13_bitCount_95d88_46 : decode cJ13_bitCount_95d88 46 = .ok (.ladd, 1) := by decide +kernel
theorem dJ13_bitCount_95d88_47 : decode cJ13_bitCount_95d88 47 = .ok (.lstore_n 0, 1) := by decide +kernel
theorem dJ13_bitCount_95d88_48 : decode cJ13_bitCount_95d88 48 = .ok (.lload_n 0, 1) := by decide +kernel
theorem dJ13_bitCount_95d88_49 : decode cJ13_bitCount_95d88 49 = .ok (.lload_n 0, 1) := by decide +kernel
theorem dJ13_bitCount_95d88_50 : decode cJ13_bitCount_95d88 50 = .ok (.bipush 32, 2) := by decide +kernel
theorem dJ13_bitCount_95d88_52 : decode cJ13_bitCount_95d88 52 = .ok (.lushr, 1) := by decide +kernel
theorem dJ13_bitCount_95d88_53 : decode cJ13_bitCount_95d88 53 = .ok (.ladd, 1) := by decide +kernel
theorem dJ13_bitCount_95d88_54 : decode cJ13_bitCount_95d88 54 = .ok (.lstore_n 0, 1) := by decide +kernel
theorem dJ13_bitCount_95d88_55 : decode cJ13_bitCount_95d88 55 = .ok (.lload_n 0, 1) := by decide +kernel
theorem dJ13_bitCount_95d88_56 : decode cJ13_bitCount_95d88 56 = .ok (.l2i, 1) := by decide +kernel
theorem dJ13_bitCount_95d88_57 : decode cJ13_bitCount_95d88 57 = .ok (.bipush 127, 2) := by decide +kernel
theorem dJ13_bitCount_95d88_59 : decode cJ13_bitCount_95d88 59 = .ok (.iand, 1) := by decide +kernel
theorem dJ13_bitCount_95d88_60 : decode cJ13_bitCount_95d88 60 = .ok (.ireturn, 1) := by decide +kernel
theorem dJ9_abs_0f7a4_0 : decode cJ9_abs_0f7a4 0 = .ok (.iload_n 0, 1) := by decide +kernel
theorem dJ9_abs_0f7a4_1 : decode cJ9_abs_0f7a4 1 = .ok (.ifCond .ge 8, 3) := by decide +kernel
theorem dJ9_abs_0f7a4_4 : decode cJ9_abs_0f7a4 4 = .ok (.iload_n 0, 1) := by decide +kernel
theorem dJ9_abs_0f7a4_5 : decode cJ9_abs_0f7a4 5 = .ok (.ineg, 1) := by decide +kernel
theorem dJ9_abs_0f7a4_6 : decode cJ9_abs_0f7a4 6 = .ok (.goto 4, 3) := by decide +kernel
theorem dJ9_abs_0f7a4_9 : decode cJ9_abs_0f7a4 9 = .ok (.iload_n 0, 1) := by decide +kernel
theorem dJ9_abs_0f7a4_10 : decode cJ9_abs_0f7a4 10 = .ok (.ireturn, 1) := by decide +kernel
theorem dJ9_max_7cf53_0 : decode cJ9_max_7cf53 0 = .ok (.iload_n 0, 1) := by decide +kernel
theorem dJ9_max_7cf53_1 : decode cJ9_max_7cf53 1 = .ok (.iload_n 1, 1) := by decide +kernel
theorem dJ9_max_7cf53_2 : decode cJ9_max_7cf53 2 = .ok (.if_icmp .lt 7, 3) := by decide +kernel
theorem dJ9_max_7cf53_5 : decode cJ9_max_7cf53 5 = .ok (.iload_n 0, 1) := by decide +kernel
theorem dJ9_max_7cf53_6 : decode cJ9_max_7cf53 6 = .ok (.goto 4, 3) := by decide +kernel
theorem dJ9_max_7cf53_9 : decode cJ9_max_7cf53 9 = .ok (.iload_n 1, 1) := by decide +kernel
theorem dJ9_max_7cf53_10 : decode cJ9_max_7cf53 10 = .ok (.ireturn, 1) := by decide +kernel
theorem dJ9_min_7cf53_0 : decode cJ9_min_7cf53 0 = .ok (.iload_n 0, 1) := by decide +kernel
theorem dJ9_min_7cf53_1 : decode cJ9_min_7cf53 1 = .ok (.iload_n 1, 1) := by decide +kernel
theorem dJ9_min_7cf53_2 : decode cJ9_min_7cf53 2 = .ok (.if_icmp .gt 7, 3) := by decide +kernel
theorem dJ9_min_7cf53_5 : decode cJ9_min_7cf53 5 = .ok (.iload_n 0, 1) := by decide +kernel
theorem dJ9_min_7cf53_6 : decode cJ9_min_7cf53 6 = .ok (.goto 4, 3) := by decide +kernel
theorem dJ9_min_7cf53_9 : decode cJ9_min_7cf53 9 = .ok (.iload_n 1, 1) := by decide +kernel
theorem dJ9_min_7cf53_10 : decode cJ9_min_7cf53 10 = .ok (.ireturn, 1) := by decide +kernel
abbrev vwCl : List vw_C := [(RX1, TX1, 7), (RX2, TX2, 3), (RX3, TX3, 10), (RX4, TX4, 4), (RX6, TX6, 5)]
