set_option maxRecDepth 20000 in
theorem ggL_law_L_type : GoodIn wsL_law wsL_type := goodIn_ca (goodIn_ca (goodIn_r _ [631, 237, 66, 632, 633, 634, 2, 635, 242, 243, 75, 76, 26, 636, 637, 638, 25, 639, 640, 641, 642, 643, 644, 46, 645, 863, 864, 865, 866, 867, 897, 898, 899, 900, 901, 902, 903] (by decide +kernel) (by decide +kernel)) (goodIn_sub (fun _ h => List.mem_append_left _ (List.mem_append_right _ h)) (by decide +kernel))) (goodIn_sub (fun _ h => List.mem_append_left _ (List.mem_append_left _ (List.mem_append_right _ h))) (by decide +kernel))
set_option maxRecDepth 20000 in
theorem gL_law_L_type : GoodIn wsL_law (va_wsS RL 159 yL_type wsL_type) := goodIn_app (goodIn_of _ (by decide +kernel)) ggL_law_L_type
set_option maxRecDepth 20000 in
theorem ggL_law_X7_type : GoodIn wsL_law wsX7_type := goodIn_r _ [649, 650, 546, 60, 249, 250, 5, 251, 172, 173, 174, 175, 176, 868, 869, 870, 871, 872, 873, 874, 875, 876, 877, 878, 879, 880, 881, 882] (by decide +kernel) (by decide +kernel)
set_option maxRecDepth 20000 in
theorem gL_law_X7_type : GoodIn wsL_law (wsV RL 161 RX7 yX7_type wsX7_type) := goodIn_app (goodIn_of _ (by decide +kernel)) ggL_law_X7_type
set_option maxRecDepth 20000 in
theorem ggL_law_X6_clearCommands : GoodIn wsL_law wsX6_clearCommands := goodIn_r _ [654, 26, 863, 864, 865, 866, 867, 897, 898, 899, 900, 901, 902, 903] (by decide +kernel) (by decide +kernel)
set_option maxRecDepth 20000 in
theorem gL_law_X6_clearCommands : GoodIn wsL_law (wsV RL 162 RX6 yX6_clearCommands wsX6_clearCommands) := goodIn_app (goodIn_of _ (by decide +kernel)) ggL_law_X6_clearCommands
set_option maxRecDepth 20000 in
theorem ggL_law_X7_clearCommands : GoodIn wsL_law wsX7_clearCommands := goodIn_r _ [658, 176, 546, 868, 869, 870, 871, 872, 873, 874, 875, 876, 877, 878, 879, 880, 881, 882] (by decide +kernel) (by decide +kernel)
set_option maxRecDepth 20000 in
theorem gL_law_X7_clearCommands : GoodIn wsL_law (wsV RL 165 RX7 yX7_clearCommands wsX7_clearCommands) := goodIn_app (goodIn_of _ (by decide +kernel)) ggL_law_X7_clearCommands
set_option maxRecDepth 20000 in
theorem ggL_law_X6_runCommands : GoodIn wsL_law wsX6_runCommands := goodIn_r _ [662, 26, 30, 17, 663, 664, 665, 25, 666, 667, 668, 669, 670, 671, 672, 673, 674, 675, 640, 676, 677, 678, 679, 680, 681, 682, 683, 46, 684, 685, 686, 687, 688, 689, 690, 691, 692, 693, 694, 695, 696, 697, 698, 699, 700, 701, 702, 703, 704, 705, 706, 707, 708, 709, 710, 711, 712, 713, 714, 715, 716, 717, 718, 719, 720, 721, 722, 723, 724, 725, 726, 727, 728, 729, 730, 731, 732, 733, 734, 735, 736, 737, 738, 739, 740, 741, 742, 743, 744, 745, 746, 747, 748, 749, 750, 751, 752, 753, 754, 755, 756, 757, 758, 759, 760, 761, 762, 763, 764, 765, 766, 82, 83, 84, 29, 85, 52, 86, 87, 88, 89, 90, 16, 91, 34, 92, 93, 94, 95, 36, 37, 81, 38, 96, 97, 98, 99, 100, 767, 768, 769, 770, 771, 772, 2, 773, 774, 775, 776, 777, 778, 779, 780, 781, 101, 102, 103, 104, 105, 78, 79, 80, 106, 107, 108, 109, 110, 111, 112, 113, 114, 115, 116, 117, 118, 119, 120, 121, 267, 268, 269, 270, 126, 127, 128, 129, 290, 291, 292, 293, 310, 164, 165, 166, 159, 160, 161, 162, 330, 331, 332, 333, 334, 327, 328, 329, 134, 135, 136, 137, 138, 139, 140, 141, 142, 143, 144, 145, 146, 147, 148, 149, 150, 123, 124, 125, 151, 152, 153, 154, 155, 156, 157, 158, 163, 130, 131, 132, 133, 863, 864, 865, 866, 867, 897, 898, 899, 900, 901, 902, 903, 904, 905, 906, 883, 884, 885, 886, 887, 888, 889, 890, 891, 892] (by decide +kernel) (by decide +kernel)
set_option maxRecDepth 20000 in
theorem gL_law_X6_runCommands : GoodIn wsL_law (wsV RL 166 RX6 yX6_runCommands wsX6_runCommands) := goodIn_app (goodIn_of _ (by decide +kernel)) ggL_law_X6_runCommands
set_option maxRecDepth 20000 in
theorem ggL_law_X7_runCommands : GoodIn wsL_law wsX7_runCommands := goodIn_r _ [785, 176, 181, 786, 546, 787, 788, 789, 5, 790, 791, 792, 793, 794, 795, 796, 797, 798, 60, 249, 250, 251, 799, 800, 801, 802, 803, 484, 804, 805, 806, 807, 808, 809, 810, 811, 812, 813, 814, 815, 816, 817, 818, 819, 820, 821, 822, 823, 177, 178, 179, 180, 182, 58, 57, 824, 825, 826, 827, 828, 168, 169, 170, 171, 172, 173, 174, 175, 183, 184, 185, 186, 187, 188, 189, 190, 191, 192, 193, 194, 195, 196, 197, 198, 199, 200, 201, 202, 203, 204, 205, 206, 207, 208, 209, 210, 211, 212, 213, 214, 215, 216, 217, 218, 219, 220, 221, 222, 223, 224, 225, 226, 227, 228, 229, 829, 246, 247, 248, 830, 272, 273, 274, 275, 276, 277, 278, 279, 280, 281, 282, 831, 295, 296, 297, 832, 312, 313, 314, 833, 355, 356, 357, 358, 359, 360, 361, 362, 834, 413, 414, 415, 868, 869, 870, 871, 872, 873, 874, 875, 876, 877, 878, 879, 880, 881, 882] (by decide +kernel) (by decide +kernel)
set_option maxRecDepth 20000 in
theorem gL_law_X7_runCommands : GoodIn wsL_law (wsV RL 169 RX7 yX7_runCommands wsX7_runCommands) := goodIn_app (goodIn_of _ (by decide +kernel)) ggL_law_X7_runCommands
set_option maxRecDepth 20000 in
theorem ggL_law_L_undo : GoodIn wsL_law wsL_undo := goodIn_ca (goodIn_r _ [837, 66, 838, 839, 840, 2, 841, 75, 76, 30, 17, 842, 843, 844, 29, 845, 87, 52, 86, 88, 89, 90, 16, 91, 34, 92, 93, 94, 95, 36, 37, 81, 38, 96, 97, 98, 99, 100, 863, 864, 865, 866, 867, 904, 905, 906, 883, 884, 885, 886, 887, 888, 889, 890, 891, 892] (by decide +kernel) (by decide +kernel)) (goodIn_sub (fun _ h => List.mem_append_left _ (List.mem_append_left _ (List.mem_append_right _ h))) (by decide +kernel))
set_option maxRecDepth 20000 in
theorem gL_law_L_undo : GoodIn wsL_law (va_wsS RL 170 yL_undo wsL_undo) := goodIn_app (goodIn_of _ (by decide +kernel)) ggL_law_L_undo
set_option maxRecDepth 20000 in
theorem ggL_law_X7_undo : GoodIn wsL_law wsX7_undo := goodIn_r _ [849, 182, 57, 58, 172, 173, 174, 5, 175, 176, 868, 869, 870, 871, 872, 873, 874, 875, 876, 877, 878, 879, 880, 881, 882] (by decide +kernel) (by decide +kernel)
set_option maxRecDepth 20000 in
theorem gL_law_X7_undo : GoodIn wsL_law (wsV RL 173 RX7 yX7_undo wsX7_undo) := goodIn_app (goodIn_of _ (by decide +kernel)) ggL_law_X7_undo
set_option maxRecDepth 20000 in
theorem ggL_law_X6_digest : GoodIn wsL_law wsX6_digest := goodIn_r _ [853, 854, 30, 855, 17, 524, 525, 526, 2, 527, 26, 335, 336, 337, 16, 338, 339, 340, 341, 342, 81, 343, 344, 345, 346, 146, 147, 148, 149, 38, 150, 123, 124, 125, 37, 126, 127, 128, 129, 347, 348, 349, 350, 351, 352, 353, 371, 372, 373, 374, 375, 376, 377, 378, 34, 118, 119, 120, 121, 96, 528, 529, 530, 531, 155, 156, 157, 158, 159, 160, 161, 162, 532, 533, 534, 535, 536, 433, 434, 473, 474, 475, 476, 122, 477, 478, 479, 508, 856, 568, 569, 570, 22, 571, 420, 421, 422, 21, 423, 424, 425, 426, 427, 428, 429, 430, 431, 432, 435, 436, 437, 438, 439, 440, 441, 442, 443, 857, 618, 619, 620, 863, 864, 865, 866, 867, 904, 905, 906, 883, 884, 885, 886, 887, 888, 889, 890, 891, 892, 897, 898, 899, 900, 901, 902, 903, 893, 894, 895, 896] (by decide +kernel) (by decide +kernel)
set_option maxRecDepth 20000 in
theorem gL_law_X6_digest : GoodIn wsL_law (wsV RL 174 RX6 yX6_digest wsX6_digest) := goodIn_app (goodIn_of _ (by decide +kernel)) ggL_law_X6_digest
set_option maxRecDepth 20000 in
theorem ggL_law_X7_digest : GoodIn wsL_law wsX7_digest := goodIn_r _ [861, 176, 862, 182, 358, 57, 542, 543, 544, 5, 545, 546, 183, 184, 185, 186, 359, 360, 361, 362, 215, 216, 217, 218, 191, 192, 193, 194, 195, 196, 197, 198, 199, 200, 201, 202, 219, 220, 221, 383, 384, 385, 386, 387, 388, 389, 390, 547, 548, 549, 550, 222, 223, 224, 225, 551, 552, 553, 554, 485, 486, 487, 488, 513, 514, 515, 516, 576, 577, 578, 579, 448, 449, 450, 451, 452, 453, 454, 625, 626, 627, 628, 868, 869, 870, 871, 872, 873, 874, 875, 876, 877, 878, 879, 880, 881, 882] (by decide +kernel) (by decide +kernel)
set_option maxRecDepth 20000 in
theorem gL_law_X7_digest : GoodIn wsL_law (wsV RL 177 RX7 yX7_digest wsX7_digest) := goodIn_app (goodIn_of _ (by decide +kernel)) ggL_law_X7_digest
