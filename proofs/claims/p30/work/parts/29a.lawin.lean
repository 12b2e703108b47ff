/-! The law's own names. -/
set_option maxRecDepth 20000 in
theorem wsLi_1 : ∀ w ∈ wsL_law0_r1, w ∈ lw_tbl := in_r [28, 29, 14, 87, 86, 175, 396, 442, 430, 30, 31, 32, 33, 34, 35, 36, 37, 15, 152, 153, 88, 89, 16, 154] (by decide +kernel)
set_option maxRecDepth 20000 in
theorem wsLi_2 : ∀ w ∈ wsL_law0_r2, w ∈ lw_tbl := in_r [109, 110, 17, 155, 133, 134, 18, 156, 39, 40, 41, 42, 45, 47, 52, 91, 92, 93, 112, 113, 114, 132, 115, 135] (by decide +kernel)
set_option maxRecDepth 20000 in
theorem wsLi_3 : ∀ w ∈ wsL_law0_r3, w ∈ lw_tbl := in_r [136, 137, 138, 139, 142, 613, 614, 13, 615, 347, 348, 349, 350, 351, 352, 362, 363, 364, 365, 366, 367, 558, 559, 560] (by decide +kernel)
set_option maxRecDepth 20000 in
theorem wsLi_4 : ∀ w ∈ wsL_law0_r4, w ∈ lw_tbl := in_r [400, 561, 562, 563, 564, 405, 407, 7, 408, 410, 22, 409, 304, 305, 306, 51, 565, 566, 567, 374, 568, 569, 570, 571] (by decide +kernel)
set_option maxRecDepth 20000 in
theorem wsLi_5 : ∀ w ∈ wsL_law0_r5, w ∈ lw_tbl := in_r [380, 23, 573, 575, 11, 576, 299, 300, 301, 302, 303, 577, 493, 494, 495, 324, 325, 24, 326, 323, 578, 332, 333, 334] (by decide +kernel)
set_option maxRecDepth 20000 in
theorem wsLi_6 : ∀ w ∈ wsL_law0_r6, w ∈ lw_tbl := in_r [335, 336, 337, 338, 295, 296, 297, 298, 55, 579, 515, 516, 517, 580, 581, 582, 583, 584, 585, 586, 587, 588, 589, 590] (by decide +kernel)
set_option maxRecDepth 20000 in
theorem wsLi_7 : ∀ w ∈ wsL_law0_r7, w ∈ lw_tbl := in_r [460, 461, 462, 616, 617, 618, 619, 620, 489, 490, 491, 492, 621, 622, 623, 624, 538, 539, 540, 541, 94, 96, 98, 99] (by decide +kernel)
set_option maxRecDepth 20000 in
theorem wsLi_8 : ∀ w ∈ wsL_law0_r8, w ∈ lw_tbl := in_r [542, 544, 9, 545, 548, 549, 550, 551, 552, 553, 546, 547, 554, 556, 10, 557, 592, 593, 594, 595, 596, 597, 598, 600] (by decide +kernel)
set_option maxRecDepth 20000 in
theorem wsLi_9 : ∀ w ∈ wsL_law0_r9, w ∈ lw_tbl := in_r [602, 12, 603, 484, 485, 486, 487, 488, 496, 497, 25, 498, 499, 500, 501, 510, 511, 512, 513, 514, 604, 605, 606, 607] (by decide +kernel)
set_option maxRecDepth 20000 in
theorem wsLi_11 : ∀ w ∈ wsL_law0_r11, w ∈ lw_tbl := in_r [183, 184, 185, 186, 187, 188, 189, 190, 191, 192, 194, 0, 195, 200, 26, 196, 197, 198, 199, 267, 268, 269, 270, 143] (by decide +kernel)
set_option maxRecDepth 20000 in
theorem wsLi_12 : ∀ w ∈ wsL_law0_r12, w ∈ lw_tbl := in_r [144, 271, 272, 273, 274, 275, 277, 276, 27, 57, 59, 61, 63, 278, 279, 280, 281, 282, 283, 284, 285, 286, 287, 289] (by decide +kernel)
set_option maxRecDepth 20000 in
theorem wsLi_13 : ∀ w ∈ wsL_law0_r13, w ∈ lw_tbl := in_r [2, 290, 291, 293, 3, 294, 307, 309, 4, 310, 311, 312, 313, 314, 315, 316, 317, 318, 319, 321, 5, 322, 327, 329] (by decide +kernel)
set_option maxRecDepth 20000 in
theorem wsLi_14 : ∀ w ∈ wsL_law0_r14, w ∈ lw_tbl := in_r [6, 330, 339, 340, 341, 342, 344, 345, 346, 353, 354, 355, 356, 357, 358, 359, 360, 361, 368, 369, 370, 371, 372, 373] (by decide +kernel)
set_option maxRecDepth 20000 in
theorem wsLi_15 : ∀ w ∈ wsL_law0_r15, w ∈ lw_tbl := in_r [375, 376, 377, 378, 379, 397, 398, 399, 401, 402, 403, 404, 426, 427, 428, 429, 431, 432, 433, 434, 435, 436, 437, 438] (by decide +kernel)
set_option maxRecDepth 20000 in
theorem wsLi_16 : ∀ w ∈ wsL_law0_r16, w ∈ lw_tbl := in_r [439, 440, 441, 443, 444, 445, 446, 447, 448, 449, 450, 452, 453, 454, 455, 456, 463, 464, 465, 466, 467, 468, 469, 470] (by decide +kernel)
set_option maxRecDepth 20000 in
theorem wsLi_17 : ∀ w ∈ wsL_law0_r17, w ∈ lw_tbl := in_r [472, 8, 473, 474, 475, 476, 477, 479, 480, 481, 482, 483, 502, 503, 504, 505, 506, 507, 508, 509, 518, 519, 520, 521] (by decide +kernel)
set_option maxRecDepth 20000 in
theorem wsLi_18 : ∀ w ∈ wsL_law0_r18, w ∈ lw_tbl := in_r [522, 523, 524, 525, 526, 527, 528, 529, 530, 531, 532, 533, 534, 535, 536, 537] (by decide +kernel)
theorem wsLi_a : ∀ w ∈ ((wsL_law0_r1 ++ (wsL_law0_r2 ++ (wsL_law0_r3 ++ (wsL_law0_r4 ++ (wsL_law0_r5 ++ (wsL_law0_r6 ++ (wsL_law0_r7 ++ (wsL_law0_r8 ++ (wsL_law0_r9 ++ (wsL_law0_r10 ++ (wsL_law0_r11 ++ (wsL_law0_r12 ++ (wsL_law0_r13 ++ (wsL_law0_r14 ++ (wsL_law0_r15 ++ (wsL_law0_r16 ++ (wsL_law0_r17 ++ wsL_law0_r18)))))))))))))))))), w ∈ lw_tbl := List.forall_mem_append.mpr ⟨wsLi_1, List.forall_mem_append.mpr ⟨wsLi_2, List.forall_mem_append.mpr ⟨wsLi_3, List.forall_mem_append.mpr ⟨wsLi_4, List.forall_mem_append.mpr ⟨wsLi_5, List.forall_mem_append.mpr ⟨wsLi_6, List.forall_mem_append.mpr ⟨wsLi_7, List.forall_mem_append.mpr ⟨wsLi_8, List.forall_mem_append.mpr ⟨wsLi_9, List.forall_mem_append.mpr ⟨wsLi_10, List.forall_mem_append.mpr ⟨wsLi_11, List.forall_mem_append.mpr ⟨wsLi_12, List.forall_mem_append.mpr ⟨wsLi_13, List.forall_mem_append.mpr ⟨wsLi_14, List.forall_mem_append.mpr ⟨wsLi_15, List.forall_mem_append.mpr ⟨wsLi_16, List.forall_mem_append.mpr ⟨wsLi_17, wsLi_18⟩⟩⟩⟩⟩⟩⟩⟩⟩⟩⟩⟩⟩⟩⟩⟩⟩
set_option maxRecDepth 20000 in
theorem inZX6 : ∀ w ∈ wsX60, w ∈ lw_tbl := by decide +kernel
set_option maxRecDepth 20000 in
theorem inZX3 : ∀ w ∈ wsX30, w ∈ lw_tbl := by decide +kernel
set_option maxRecDepth 20000 in
theorem inZX4 : ∀ w ∈ wsX40, w ∈ lw_tbl := by decide +kernel
set_option maxRecDepth 20000 in
theorem inZX1 : ∀ w ∈ wsX10, w ∈ lw_tbl := by decide +kernel
set_option maxRecDepth 20000 in
theorem inZX2 : ∀ w ∈ wsX20, w ∈ lw_tbl := by decide +kernel
theorem wsL_law_in0 : ∀ w ∈ wsL_law0, w ∈ lw_tbl := List.forall_mem_append.mpr ⟨List.forall_mem_append.mpr ⟨List.forall_mem_append.mpr ⟨List.forall_mem_append.mpr ⟨List.forall_mem_append.mpr ⟨List.forall_mem_append.mpr ⟨wsLi_a, inZX6⟩, inZX3⟩, inZX4⟩, inZX1⟩, inZX2⟩, fun _ h => absurd h List.not_mem_nil⟩
