theorem mem_r {big ws : List Cond} (ps : List Nat) (hp : ws = ps.filterMap (fun i => big[i]?)) : ∀ w ∈ ws, w ∈ big := by
  intro w hw
  rw [hp] at hw
  obtain ⟨i, -, hi⟩ := List.mem_filterMap.mp hw
  exact List.mem_of_getElem? hi
set_option maxRecDepth 20000 in
theorem lin_wsL_law_r1 : ∀ w ∈ wsL_law_r1, w ∈ lw_tbl := mem_r [71, 72, 53, 662, 663, 57, 171, 927, 73, 74, 75, 76, 77, 78, 79, 80, 54, 172, 103, 104, 55, 173, 116, 117] (by decide +kernel)
set_option maxRecDepth 20000 in
theorem lin_wsL_law_r2 : ∀ w ∈ wsL_law_r2, w ∈ lw_tbl := mem_r [56, 174, 175, 81, 82, 83, 84, 101, 85, 102, 86, 106, 107, 108, 118, 119, 120, 121, 122, 124, 126, 127, 129, 131] (by decide +kernel)
set_option maxRecDepth 20000 in
theorem lin_wsL_law_r3 : ∀ w ∈ wsL_law_r3, w ∈ lw_tbl := mem_r [133, 135, 137, 139, 664, 665, 666, 667, 672, 673, 674, 727, 675, 676, 677, 678, 679, 680, 681, 648, 682, 685, 668, 670] (by decide +kernel)
set_option maxRecDepth 20000 in
theorem lin_wsL_law_r4 : ∀ w ∈ wsL_law_r4, w ∈ lw_tbl := mem_r [27, 671, 185, 186, 187, 188, 189, 190, 191, 192, 87, 732, 733, 734, 735, 684, 683, 193, 194, 195, 196, 143, 197, 198] (by decide +kernel)
set_option maxRecDepth 20000 in
theorem lin_wsL_law_r5 : ∀ w ∈ wsL_law_r5, w ∈ lw_tbl := mem_r [199, 200, 141, 144, 201, 202, 203, 204, 88, 89, 205, 207, 0, 208, 209, 211, 1, 212, 213, 215, 2, 216, 932, 217] (by decide +kernel)
set_option maxRecDepth 20000 in
theorem lin_wsL_law_r6 : ∀ w ∈ wsL_law_r6, w ∈ lw_tbl := mem_r [219, 3, 220, 929, 223, 225, 4, 226, 227, 228, 229, 58, 230, 930, 231, 232, 233, 234, 235, 931, 237, 238, 239, 240] (by decide +kernel)
set_option maxRecDepth 20000 in
theorem lin_wsL_law_r7 : ∀ w ∈ wsL_law_r7, w ∈ lw_tbl := mem_r [241, 242, 243, 244, 245, 246, 59, 247, 248, 249, 250, 251, 253, 254, 60, 255, 256, 257, 61, 258, 259, 260, 261, 262] (by decide +kernel)
set_option maxRecDepth 20000 in
theorem lin_wsL_law_r8 : ∀ w ∈ wsL_law_r8, w ∈ lw_tbl := mem_r [263, 264, 265, 266, 267, 268, 269, 271, 273, 275, 277, 5, 278, 279, 280, 281, 282, 283, 285, 286, 288, 289, 69, 290] (by decide +kernel)
set_option maxRecDepth 20000 in
theorem lin_wsL_law_r9 : ∀ w ∈ wsL_law_r9, w ∈ lw_tbl := mem_r [933, 291, 293, 6, 294, 298, 296, 297, 299, 301, 7, 302, 303, 305, 8, 306, 308, 309, 310, 312, 9, 313, 314, 315] (by decide +kernel)
set_option maxRecDepth 20000 in
theorem lin_wsL_law_r10 : ∀ w ∈ wsL_law_r10, w ∈ lw_tbl := mem_r [316, 317, 319, 10, 320, 321, 323, 11, 324, 325, 326, 327, 328, 329, 331, 12, 332, 333, 335, 13, 336, 337, 339, 14] (by decide +kernel)
set_option maxRecDepth 20000 in
theorem lin_wsL_law_r11 : ∀ w ∈ wsL_law_r11, w ∈ lw_tbl := mem_r [340, 341, 342, 343, 344, 345, 346, 347, 348, 349, 350, 351, 352, 353, 354, 355, 356, 357, 358, 359, 360, 361, 362, 363] (by decide +kernel)
set_option maxRecDepth 20000 in
theorem lin_wsL_law_r12 : ∀ w ∈ wsL_law_r12, w ∈ lw_tbl := mem_r [364, 365, 366, 367, 368, 369, 370, 371, 372, 373, 374, 375, 376, 377, 378, 379, 380, 736, 737, 738, 739, 686, 740, 742] (by decide +kernel)
set_option maxRecDepth 20000 in
theorem lin_wsL_law_r13 : ∀ w ∈ wsL_law_r13, w ∈ lw_tbl := mem_r [28, 743, 744, 746, 29, 747, 748, 750, 30, 751, 752, 754, 31, 755, 756, 758, 32, 759, 760, 761, 762, 763, 764, 765] (by decide +kernel)
set_option maxRecDepth 20000 in
theorem lin_wsL_law_r14 : ∀ w ∈ wsL_law_r14, w ∈ lw_tbl := mem_r [766, 767, 768, 769, 770, 771, 773, 33, 774, 775, 777, 34, 778, 779, 780, 782, 35, 783, 784, 785, 786, 787, 788, 789] (by decide +kernel)
set_option maxRecDepth 20000 in
theorem lin_wsL_law_r15 : ∀ w ∈ wsL_law_r15, w ∈ lw_tbl := mem_r [790, 792, 36, 793, 794, 796, 37, 797, 798, 800, 38, 801, 381, 382, 383, 384, 385, 802, 803, 804, 805, 806, 386, 387] (by decide +kernel)
set_option maxRecDepth 20000 in
theorem lin_wsL_law_r16 : ∀ w ∈ wsL_law_r16, w ∈ lw_tbl := mem_r [388, 389, 390, 807, 808, 809, 810, 391, 392, 393, 394, 395, 811, 812, 813, 814, 815, 817, 39, 818, 569, 570, 52, 571] (by decide +kernel)
set_option maxRecDepth 20000 in
theorem lin_wsL_law_r17 : ∀ w ∈ wsL_law_r17, w ∈ lw_tbl := mem_r [573, 574, 575, 576, 578, 579, 67, 456, 577, 649, 819, 820, 821, 822, 728, 729, 730, 731, 396, 397, 398, 399, 400, 401] (by decide +kernel)
set_option maxRecDepth 20000 in
theorem lin_wsL_law_r18 : ∀ w ∈ wsL_law_r18, w ∈ lw_tbl := mem_r [402, 403, 404, 406, 15, 407, 408, 409, 410, 411, 412, 413, 414, 415, 416, 417, 418, 419, 854, 855, 856, 857, 858, 860] (by decide +kernel)
set_option maxRecDepth 20000 in
theorem lin_wsL_law_r19 : ∀ w ∈ wsL_law_r19, w ∈ lw_tbl := mem_r [42, 861, 839, 841, 40, 842, 843, 844, 845, 846, 848, 41, 849, 420, 421, 422, 423, 424, 425, 426, 427, 862, 863, 864] (by decide +kernel)
set_option maxRecDepth 20000 in
theorem lin_wsL_law_r20 : ∀ w ∈ wsL_law_r20, w ∈ lw_tbl := mem_r [865, 428, 429, 430, 431, 432, 823, 824, 825, 826, 433, 434, 435, 436, 437, 438, 439, 440, 441, 443, 16, 444, 445, 446] (by decide +kernel)
set_option maxRecDepth 20000 in
theorem lin_wsL_law_r21 : ∀ w ∈ wsL_law_r21, w ∈ lw_tbl := mem_r [68, 447, 448, 449, 450, 866, 867, 868, 869, 870, 872, 43, 873, 874, 876, 44, 877, 878, 880, 45, 881, 452, 453, 454] (by decide +kernel)
set_option maxRecDepth 20000 in
theorem lin_wsL_law_r22 : ∀ w ∈ wsL_law_r22, w ∈ lw_tbl := mem_r [455, 457, 458, 459, 460, 882, 883, 884, 885, 886, 888, 46, 889, 461, 462, 463, 464, 465, 466, 467, 468, 898, 899, 900] (by decide +kernel)
set_option maxRecDepth 20000 in
theorem lin_wsL_law_r23 : ∀ w ∈ wsL_law_r23, w ∈ lw_tbl := mem_r [901, 650, 651, 652, 653, 654, 655, 656, 658, 659, 660, 661, 890, 891, 892, 893, 469, 470, 471, 472, 473, 827, 828, 829] (by decide +kernel)
set_option maxRecDepth 20000 in
theorem lin_wsL_law_r24 : ∀ w ∈ wsL_law_r24, w ∈ lw_tbl := mem_r [830, 474, 475, 476, 477, 478, 831, 832, 833, 834, 479, 480, 481, 482, 483, 484, 485, 486, 487, 835, 836, 837, 838, 488] (by decide +kernel)
set_option maxRecDepth 20000 in
theorem lin_wsL_law_r25 : ∀ w ∈ wsL_law_r25, w ∈ lw_tbl := mem_r [489, 490, 491, 492, 850, 851, 852, 853, 493, 494, 495, 496, 497, 498, 499, 500, 109, 110, 142, 501, 503, 17, 504, 505] (by decide +kernel)
set_option maxRecDepth 20000 in
theorem lin_wsL_law_r26 : ∀ w ∈ wsL_law_r26, w ∈ lw_tbl := mem_r [123, 125, 507, 509, 18, 510, 934, 511, 512, 513, 515, 19, 516, 517, 519, 20, 520, 521, 522, 524, 21, 525, 526, 128] (by decide +kernel)
set_option maxRecDepth 20000 in
theorem lin_wsL_law_r27 : ∀ w ∈ wsL_law_r27, w ∈ lw_tbl := mem_r [548, 130, 132, 550, 134, 552, 528, 529, 530, 531, 532, 534, 22, 535, 537, 539, 23, 540, 542, 544, 24, 545, 546, 554] (by decide +kernel)
set_option maxRecDepth 20000 in
theorem lin_wsL_law_r28 : ∀ w ∈ wsL_law_r28, w ∈ lw_tbl := mem_r [556, 25, 557, 145, 558, 136, 138, 140, 902, 903, 904, 905, 687, 688, 689, 906, 908, 47, 909, 910, 912, 48, 913, 914] (by decide +kernel)
set_option maxRecDepth 20000 in
theorem lin_wsL_law_r29 : ∀ w ∈ wsL_law_r29, w ∈ lw_tbl := mem_r [915, 917, 49, 918, 919, 921, 50, 922, 923, 925, 51, 926, 560, 561, 562, 563, 564, 565, 566, 567, 568, 894, 895, 896] (by decide +kernel)
set_option maxRecDepth 20000 in
theorem lin_wsL_law_r30 : ∀ w ∈ wsL_law_r30, w ∈ lw_tbl := mem_r [897] (by decide +kernel)
set_option maxRecDepth 20000 in
theorem lin_X5 : ∀ w ∈ wsX50, w ∈ lw_tbl := mem_r [176, 178, 180, 182] (by decide +kernel)
set_option maxRecDepth 20000 in
theorem lin_X6 : ∀ w ∈ wsX60, w ∈ lw_tbl := mem_r [690, 692, 694, 696, 698, 700, 702, 704, 706, 708, 710, 712, 714, 716, 718, 720, 722, 724] (by decide +kernel)
set_option maxRecDepth 20000 in
theorem lin_X2 : ∀ w ∈ wsX20, w ∈ lw_tbl := mem_r [90, 92, 94, 96, 98] (by decide +kernel)
set_option maxRecDepth 20000 in
theorem lin_X3 : ∀ w ∈ wsX30, w ∈ lw_tbl := mem_r [111, 113] (by decide +kernel)
set_option maxRecDepth 20000 in
theorem lin_X1 : ∀ w ∈ wsX10, w ∈ lw_tbl := mem_r [146, 148, 150, 152, 154, 156, 158, 160, 162, 164, 166, 168] (by decide +kernel)
set_option maxRecDepth 20000 in
theorem lin_Jx00060 : ∀ w ∈ wsJx000600, w ∈ lw_tbl := mem_r [591, 593, 595, 597, 599, 644] (by decide +kernel)
set_option maxRecDepth 20000 in
theorem wsL_law_in2 : ∀ w ∈ wsL_law, w ∈ lw_tbl := by
  have hr : ∀ w ∈ (wsL_law_r1 ++ (wsL_law_r2 ++ (wsL_law_r3 ++ (wsL_law_r4 ++ (wsL_law_r5 ++ (wsL_law_r6 ++ (wsL_law_r7 ++ (wsL_law_r8 ++ (wsL_law_r9 ++ (wsL_law_r10 ++ (wsL_law_r11 ++ (wsL_law_r12 ++ (wsL_law_r13 ++ (wsL_law_r14 ++ (wsL_law_r15 ++ (wsL_law_r16 ++ (wsL_law_r17 ++ (wsL_law_r18 ++ (wsL_law_r19 ++ (wsL_law_r20 ++ (wsL_law_r21 ++ (wsL_law_r22 ++ (wsL_law_r23 ++ (wsL_law_r24 ++ (wsL_law_r25 ++ (wsL_law_r26 ++ (wsL_law_r27 ++ (wsL_law_r28 ++ (wsL_law_r29 ++ wsL_law_r30))))))))))))))))))))))))))))), w ∈ lw_tbl := List.forall_mem_append.mpr ⟨lin_wsL_law_r1, List.forall_mem_append.mpr ⟨lin_wsL_law_r2, List.forall_mem_append.mpr ⟨lin_wsL_law_r3, List.forall_mem_append.mpr ⟨lin_wsL_law_r4, List.forall_mem_append.mpr ⟨lin_wsL_law_r5, List.forall_mem_append.mpr ⟨lin_wsL_law_r6, List.forall_mem_append.mpr ⟨lin_wsL_law_r7, List.forall_mem_append.mpr ⟨lin_wsL_law_r8, List.forall_mem_append.mpr ⟨lin_wsL_law_r9, List.forall_mem_append.mpr ⟨lin_wsL_law_r10, List.forall_mem_append.mpr ⟨lin_wsL_law_r11, List.forall_mem_append.mpr ⟨lin_wsL_law_r12, List.forall_mem_append.mpr ⟨lin_wsL_law_r13, List.forall_mem_append.mpr ⟨lin_wsL_law_r14, List.forall_mem_append.mpr ⟨lin_wsL_law_r15, List.forall_mem_append.mpr ⟨lin_wsL_law_r16, List.forall_mem_append.mpr ⟨lin_wsL_law_r17, List.forall_mem_append.mpr ⟨lin_wsL_law_r18, List.forall_mem_append.mpr ⟨lin_wsL_law_r19, List.forall_mem_append.mpr ⟨lin_wsL_law_r20, List.forall_mem_append.mpr ⟨lin_wsL_law_r21, List.forall_mem_append.mpr ⟨lin_wsL_law_r22, List.forall_mem_append.mpr ⟨lin_wsL_law_r23, List.forall_mem_append.mpr ⟨lin_wsL_law_r24, List.forall_mem_append.mpr ⟨lin_wsL_law_r25, List.forall_mem_append.mpr ⟨lin_wsL_law_r26, List.forall_mem_append.mpr ⟨lin_wsL_law_r27, List.forall_mem_append.mpr ⟨lin_wsL_law_r28, List.forall_mem_append.mpr ⟨lin_wsL_law_r29, lin_wsL_law_r30⟩⟩⟩⟩⟩⟩⟩⟩⟩⟩⟩⟩⟩⟩⟩⟩⟩⟩⟩⟩⟩⟩⟩⟩⟩⟩⟩⟩⟩
  exact List.forall_mem_append.mpr ⟨List.forall_mem_append.mpr ⟨List.forall_mem_append.mpr ⟨List.forall_mem_append.mpr ⟨List.forall_mem_append.mpr ⟨List.forall_mem_append.mpr ⟨List.forall_mem_append.mpr ⟨hr, lin_X5⟩, lin_X6⟩, lin_X2⟩, lin_X3⟩, lin_X1⟩, lin_Jx00060⟩, fun _ h => absurd h List.not_mem_nil⟩
