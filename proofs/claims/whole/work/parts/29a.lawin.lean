/-! The law's own names. -/
theorem in_r {big ws : List Cond} (ps : List Nat) (hp : ws = ps.filterMap (fun i => big[i]?)) : ∀ w ∈ ws, w ∈ big := by
  intro w hw
  rw [hp] at hw
  obtain ⟨i, -, hi⟩ := List.mem_filterMap.mp hw
  exact List.mem_of_getElem? hi
set_option maxRecDepth 20000 in
theorem wsLi_1 : ∀ w ∈ wsL_law0_r1, w ∈ lw_tbl := in_r [79, 80, 57, 820, 821, 62, 137, 1155, 81, 82, 83, 84, 85, 86, 87, 88, 58, 215, 216, 139, 140, 59, 217, 162] (by decide +kernel)
set_option maxRecDepth 20000 in
theorem wsLi_2 : ∀ w ∈ wsL_law0_r2, w ∈ lw_tbl := in_r [163, 60, 218, 195, 196, 61, 219, 90, 91, 92, 93, 138, 96, 98, 103, 142, 143, 144, 165, 166, 167, 194, 168, 197] (by decide +kernel)
set_option maxRecDepth 20000 in
theorem wsLi_3 : ∀ w ∈ wsL_law0_r3, w ∈ lw_tbl := in_r [198, 199, 200, 201, 204, 822, 823, 824, 825, 827, 828, 829, 832, 826, 574, 575, 56, 576, 577, 578, 579, 580, 581, 582] (by decide +kernel)
set_option maxRecDepth 20000 in
theorem wsLi_4 : ∀ w ∈ wsL_law0_r4, w ∈ lw_tbl := in_r [584, 17, 585, 586, 66, 371, 372, 373, 374, 102, 235, 236, 237, 238, 205, 206, 239, 240, 241, 242, 243, 245, 244, 67] (by decide +kernel)
set_option maxRecDepth 20000 in
theorem wsLi_5 : ∀ w ∈ wsL_law0_r5, w ∈ lw_tbl := in_r [106, 108, 110, 112, 114, 376, 377, 378, 379, 380, 381, 382, 383, 384, 250, 252, 0, 253, 254, 256, 1, 257, 258, 259] (by decide +kernel)
set_option maxRecDepth 20000 in
theorem wsLi_6 : ∀ w ∈ wsL_law0_r6, w ∈ lw_tbl := in_r [260, 261, 568, 287, 288, 289, 290, 291, 292, 293, 270, 272, 2, 273, 274, 275, 276, 277, 278, 279, 280, 281, 282, 284] (by decide +kernel)
set_option maxRecDepth 20000 in
theorem wsLi_7 : ∀ w ∈ wsL_law0_r7, w ∈ lw_tbl := in_r [3, 285, 294, 295, 68, 296, 286, 297, 299, 4, 300, 301, 302, 303, 304, 305, 306, 307, 308, 309, 310, 311, 312, 877] (by decide +kernel)
set_option maxRecDepth 20000 in
theorem wsLi_8 : ∀ w ∈ wsL_law0_r8, w ∈ lw_tbl := in_r [878, 879, 880, 881, 882, 884, 21, 885, 834, 886, 888, 22, 889, 831, 830, 890, 892, 23, 893, 894, 896, 24, 897, 898] (by decide +kernel)
set_option maxRecDepth 20000 in
theorem wsLi_9 : ∀ w ∈ wsL_law0_r9, w ∈ lw_tbl := in_r [900, 25, 901, 902, 904, 26, 905, 906, 908, 27, 909, 910, 912, 28, 913, 914, 916, 29, 917, 918, 920, 30, 921, 922] (by decide +kernel)
set_option maxRecDepth 20000 in
theorem wsLi_10 : ∀ w ∈ wsL_law0_r10, w ∈ lw_tbl := in_r [924, 31, 925, 926, 927, 928, 929, 931, 32, 932, 933, 935, 33, 936, 873, 874, 875, 876, 653, 654, 655, 656, 657, 658] (by decide +kernel)
set_option maxRecDepth 20000 in
theorem wsLi_11 : ∀ w ∈ wsL_law0_r11, w ∈ lw_tbl := in_r [659, 660, 662, 69, 661, 937, 938, 939, 940, 941, 942, 943, 678, 679, 680, 681, 682, 683, 684, 685, 686, 688, 19, 689] (by decide +kernel)
set_option maxRecDepth 20000 in
theorem wsLi_12 : ∀ w ∈ wsL_law0_r12, w ∈ lw_tbl := in_r [691, 70, 690, 529, 530, 531, 532, 944, 945, 946, 947, 948, 950, 34, 951, 952, 954, 35, 955, 707, 708, 709, 710, 711] (by decide +kernel)
set_option maxRecDepth 20000 in
theorem wsLi_13 : ∀ w ∈ wsL_law0_r13, w ∈ lw_tbl := in_r [712, 713, 533, 534, 535, 536, 956, 957, 958, 959, 714, 715, 716, 717, 718, 719, 720, 721, 723, 724, 725, 726, 396, 960] (by decide +kernel)
set_option maxRecDepth 20000 in
theorem wsLi_14 : ∀ w ∈ wsL_law0_r14, w ∈ lw_tbl := in_r [961, 962, 963, 727, 728, 729, 730, 731, 732, 733, 734, 736, 20, 737, 738, 542, 543, 544, 537, 538, 539, 540, 541, 385] (by decide +kernel)
set_option maxRecDepth 20000 in
theorem wsLi_15 : ∀ w ∈ wsL_law0_r15, w ∈ lw_tbl := in_r [386, 387, 388, 389, 355, 356, 357, 358, 359, 360, 361, 390, 391, 71, 392, 393, 394, 395, 964, 965, 966, 967, 968, 969] (by decide +kernel)
set_option maxRecDepth 20000 in
theorem wsLi_16 : ∀ w ∈ wsL_law0_r16, w ∈ lw_tbl := in_r [971, 36, 972, 231, 232, 233, 234, 246, 247, 248, 249, 262, 263, 264, 265, 266, 267, 268, 269, 973, 974, 975, 976, 977] (by decide +kernel)
set_option maxRecDepth 20000 in
theorem wsLi_17 : ∀ w ∈ wsL_law0_r17, w ∈ lw_tbl := in_r [979, 37, 980, 981, 983, 38, 984, 313, 314, 315, 316, 985, 986, 987, 988, 317, 318, 319, 320, 321, 989, 990, 991, 992] (by decide +kernel)
set_option maxRecDepth 20000 in
theorem wsLi_18 : ∀ w ∈ wsL_law0_r18, w ∈ lw_tbl := in_r [322, 323, 324, 325, 993, 994, 995, 996, 326, 327, 328, 329, 330, 331, 332, 333, 145, 147, 149, 151, 334, 336, 5, 337] (by decide +kernel)
set_option maxRecDepth 20000 in
theorem wsLi_19 : ∀ w ∈ wsL_law0_r19, w ∈ lw_tbl := in_r [340, 341, 342, 343, 344, 345, 338, 339, 346, 348, 6, 349, 997, 998, 999, 1000, 835, 1001, 1003, 39, 1004, 836, 837, 740] (by decide +kernel)
set_option maxRecDepth 20000 in
theorem wsLi_20 : ∀ w ∈ wsL_law0_r20, w ∈ lw_tbl := in_r [741, 742, 743, 744, 745, 746, 1005, 1006, 1007, 1008, 747, 748, 749, 750, 751, 752, 753, 564, 566, 16, 567, 569, 570, 571] (by decide +kernel)
set_option maxRecDepth 20000 in
theorem wsLi_21 : ∀ w ∈ wsL_law0_r21, w ∈ lw_tbl := in_r [1009, 1010, 1011, 1012, 1013, 1014, 1016, 40, 1017, 755, 756, 757, 758, 759, 760, 761, 762, 763, 764, 765, 1018, 1019, 1020, 1021] (by decide +kernel)
set_option maxRecDepth 20000 in
theorem wsLi_22 : ∀ w ∈ wsL_law0_r22, w ∈ lw_tbl := in_r [350, 351, 352, 353, 354, 1022, 1023, 1024, 1025, 1026, 1028, 41, 1029, 767, 768, 769, 770, 771, 772, 773, 551, 553, 15, 554] (by decide +kernel)
set_option maxRecDepth 20000 in
theorem wsLi_23 : ∀ w ∈ wsL_law0_r23, w ∈ lw_tbl := in_r [555, 556, 557, 558, 559, 560, 561, 562, 563, 1030, 1031, 1032, 1033, 1034, 1035, 1037, 42, 1038, 833, 1039, 1041, 43, 1042, 1043] (by decide +kernel)
set_option maxRecDepth 20000 in
theorem wsLi_24 : ∀ w ∈ wsL_law0_r24, w ∈ lw_tbl := in_r [1045, 44, 1046, 775, 776, 777, 778, 779, 780, 781, 1047, 1048, 1049, 1050, 1051, 362, 363, 364, 365, 366, 1052, 1053, 1054, 1055] (by decide +kernel)
set_option maxRecDepth 20000 in
theorem wsLi_25 : ∀ w ∈ wsL_law0_r25, w ∈ lw_tbl := in_r [1056, 1058, 45, 1059, 783, 784, 785, 786, 787, 788, 789, 375, 1060, 1061, 1062, 1063, 1064, 1066, 46, 1067, 1068, 1070, 47, 1071] (by decide +kernel)
set_option maxRecDepth 20000 in
theorem wsLi_26 : ∀ w ∈ wsL_law0_r26, w ∈ lw_tbl := in_r [367, 368, 369, 370, 1072, 1073, 1074, 1075, 397, 398, 399, 400, 401, 1076, 1077, 1078, 1079, 402, 403, 404, 405, 1080, 1081, 1082] (by decide +kernel)
set_option maxRecDepth 20000 in
theorem wsLi_27 : ∀ w ∈ wsL_law0_r27, w ∈ lw_tbl := in_r [1083, 1084, 1086, 48, 1087, 790, 791, 792, 793, 794, 795, 796, 798, 799, 800, 801, 169, 803, 804, 805, 806, 807, 1088, 1089] (by decide +kernel)
set_option maxRecDepth 20000 in
theorem wsLi_28 : ∀ w ∈ wsL_law0_r28, w ∈ lw_tbl := in_r [1090, 1091, 1092, 406, 407, 408, 409, 1093, 1094, 1095, 1096, 410, 411, 412, 413, 414, 415, 416, 417, 171, 418, 419, 420, 421] (by decide +kernel)
set_option maxRecDepth 20000 in
theorem wsLi_29 : ∀ w ∈ wsL_law0_r29, w ∈ lw_tbl := in_r [422, 423, 424, 425, 426, 428, 7, 429, 430, 432, 8, 433, 434, 435, 436, 437, 173, 172, 175, 177, 438, 440, 9, 441] (by decide +kernel)
set_option maxRecDepth 20000 in
theorem wsLi_30 : ∀ w ∈ wsL_law0_r30, w ∈ lw_tbl := in_r [442, 443, 444, 445, 447, 10, 448, 451, 453, 11, 454, 455, 456, 457, 74, 458, 1158, 459, 460, 461, 462, 463, 1159, 465] (by decide +kernel)
set_option maxRecDepth 20000 in
theorem wsLi_31 : ∀ w ∈ wsL_law0_r31, w ∈ lw_tbl := in_r [466, 467, 468, 469, 470, 471, 472, 473, 474, 75, 475, 476, 477, 478, 479, 481, 482, 76, 483, 484, 485, 77, 486, 487] (by decide +kernel)
set_option maxRecDepth 20000 in
theorem wsLi_32 : ∀ w ∈ wsL_law0_r32, w ∈ lw_tbl := in_r [488, 489, 490, 491, 492, 493, 494, 495, 496, 497, 499, 501, 503, 505, 12, 506, 507, 509, 13, 510, 511, 512, 513, 514] (by decide +kernel)
set_option maxRecDepth 20000 in
theorem wsLi_33 : ∀ w ∈ wsL_law0_r33, w ∈ lw_tbl := in_r [515, 516, 517, 519, 14, 520, 521, 523, 524, 526, 527, 72, 528, 1162, 1097, 1098, 1099, 1100, 838, 1101, 1103, 49, 1104, 1105] (by decide +kernel)
set_option maxRecDepth 20000 in
theorem wsLi_34 : ∀ w ∈ wsL_law0_r34, w ∈ lw_tbl := in_r [1107, 50, 1108, 1109, 1111, 51, 1112, 1113, 1115, 52, 1116, 839, 1117, 1119, 53, 1120, 1121, 1122, 1123, 1124, 1125, 1126, 1127, 1128] (by decide +kernel)
set_option maxRecDepth 20000 in
theorem wsLi_35 : ∀ w ∈ wsL_law0_r35, w ∈ lw_tbl := in_r [1129, 1131, 54, 1132, 1133, 1134, 841, 840, 1135, 1137, 55, 1138, 1139, 1140, 1141, 1142, 1143, 1144, 1145, 808, 809, 810, 811, 812] (by decide +kernel)
set_option maxRecDepth 20000 in
theorem wsLi_36 : ∀ w ∈ wsL_law0_r36, w ∈ lw_tbl := in_r [813, 814, 816, 817, 818, 819, 1146, 1147, 1148, 1149, 545, 546, 547, 548, 549, 550, 572, 573, 1150, 1151, 1152, 1153, 1154] (by decide +kernel)
theorem wsLi_a : ∀ w ∈ ((wsL_law0_r1 ++ (wsL_law0_r2 ++ (wsL_law0_r3 ++ (wsL_law0_r4 ++ (wsL_law0_r5 ++ (wsL_law0_r6 ++ (wsL_law0_r7 ++ (wsL_law0_r8 ++ (wsL_law0_r9 ++ (wsL_law0_r10 ++ (wsL_law0_r11 ++ (wsL_law0_r12 ++ (wsL_law0_r13 ++ (wsL_law0_r14 ++ (wsL_law0_r15 ++ (wsL_law0_r16 ++ (wsL_law0_r17 ++ (wsL_law0_r18 ++ (wsL_law0_r19 ++ (wsL_law0_r20 ++ (wsL_law0_r21 ++ (wsL_law0_r22 ++ (wsL_law0_r23 ++ (wsL_law0_r24 ++ (wsL_law0_r25 ++ (wsL_law0_r26 ++ (wsL_law0_r27 ++ (wsL_law0_r28 ++ (wsL_law0_r29 ++ (wsL_law0_r30 ++ (wsL_law0_r31 ++ (wsL_law0_r32 ++ (wsL_law0_r33 ++ (wsL_law0_r34 ++ (wsL_law0_r35 ++ wsL_law0_r36)))))))))))))))))))))))))))))))))))), w ∈ lw_tbl := List.forall_mem_append.mpr ⟨wsLi_1, List.forall_mem_append.mpr ⟨wsLi_2, List.forall_mem_append.mpr ⟨wsLi_3, List.forall_mem_append.mpr ⟨wsLi_4, List.forall_mem_append.mpr ⟨wsLi_5, List.forall_mem_append.mpr ⟨wsLi_6, List.forall_mem_append.mpr ⟨wsLi_7, List.forall_mem_append.mpr ⟨wsLi_8, List.forall_mem_append.mpr ⟨wsLi_9, List.forall_mem_append.mpr ⟨wsLi_10, List.forall_mem_append.mpr ⟨wsLi_11, List.forall_mem_append.mpr ⟨wsLi_12, List.forall_mem_append.mpr ⟨wsLi_13, List.forall_mem_append.mpr ⟨wsLi_14, List.forall_mem_append.mpr ⟨wsLi_15, List.forall_mem_append.mpr ⟨wsLi_16, List.forall_mem_append.mpr ⟨wsLi_17, List.forall_mem_append.mpr ⟨wsLi_18, List.forall_mem_append.mpr ⟨wsLi_19, List.forall_mem_append.mpr ⟨wsLi_20, List.forall_mem_append.mpr ⟨wsLi_21, List.forall_mem_append.mpr ⟨wsLi_22, List.forall_mem_append.mpr ⟨wsLi_23, List.forall_mem_append.mpr ⟨wsLi_24, List.forall_mem_append.mpr ⟨wsLi_25, List.forall_mem_append.mpr ⟨wsLi_26, List.forall_mem_append.mpr ⟨wsLi_27, List.forall_mem_append.mpr ⟨wsLi_28, List.forall_mem_append.mpr ⟨wsLi_29, List.forall_mem_append.mpr ⟨wsLi_30, List.forall_mem_append.mpr ⟨wsLi_31, List.forall_mem_append.mpr ⟨wsLi_32, List.forall_mem_append.mpr ⟨wsLi_33, List.forall_mem_append.mpr ⟨wsLi_34, List.forall_mem_append.mpr ⟨wsLi_35, wsLi_36⟩⟩⟩⟩⟩⟩⟩⟩⟩⟩⟩⟩⟩⟩⟩⟩⟩⟩⟩⟩⟩⟩⟩⟩⟩⟩⟩⟩⟩⟩⟩⟩⟩⟩⟩
set_option maxRecDepth 20000 in
theorem inZX6 : ∀ w ∈ wsX60, w ∈ lw_tbl := by decide +kernel
set_option maxRecDepth 20000 in
theorem inZX7 : ∀ w ∈ wsX70, w ∈ lw_tbl := by decide +kernel
set_option maxRecDepth 20000 in
theorem inZX3 : ∀ w ∈ wsX30, w ∈ lw_tbl := by decide +kernel
set_option maxRecDepth 20000 in
theorem inZX4 : ∀ w ∈ wsX40, w ∈ lw_tbl := by decide +kernel
set_option maxRecDepth 20000 in
theorem inZX1 : ∀ w ∈ wsX10, w ∈ lw_tbl := by decide +kernel
set_option maxRecDepth 20000 in
theorem inZX2 : ∀ w ∈ wsX20, w ∈ lw_tbl := by decide +kernel
theorem wsL_law_in0 : ∀ w ∈ wsL_law0, w ∈ lw_tbl := List.forall_mem_append.mpr ⟨List.forall_mem_append.mpr ⟨List.forall_mem_append.mpr ⟨List.forall_mem_append.mpr ⟨List.forall_mem_append.mpr ⟨List.forall_mem_append.mpr ⟨List.forall_mem_append.mpr ⟨wsLi_a, inZX6⟩, inZX7⟩, inZX3⟩, inZX4⟩, inZX1⟩, inZX2⟩, fun _ h => absurd h List.not_mem_nil⟩
