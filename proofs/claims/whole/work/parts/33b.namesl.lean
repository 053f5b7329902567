set_option maxRecDepth 20000 in
theorem ggL_law_X5_init : GoodIn wsL_law wsX5_init := goodIn_r _ [10, 11, 12, 13, 14, 15, 16, 17, 18, 19, 20, 21, 22, 23, 24, 25, 26, 27, 28, 29, 30, 31, 32, 33, 34, 35, 36, 37, 38, 39, 40, 41, 42, 6, 43, 44, 45, 46, 47, 48, 49, 50, 51, 719, 720, 721, 722, 723, 697, 698, 699, 700, 724, 725, 726, 727, 728, 729, 730, 731, 732, 733, 734, 735, 736, 737] (by decide +kernel) (by decide +kernel)
set_option maxRecDepth 20000 in
theorem gL_law_X5_init : GoodIn wsL_law (wsX5_init) := ggL_law_X5_init
set_option maxRecDepth 20000 in
theorem ggL_law_X6_init : GoodIn wsL_law wsX6_init := goodIn_r _ [54, 55, 12, 13, 33, 56, 57, 58, 59, 60, 61, 62, 63, 64, 65, 66, 67, 68, 69, 70, 71, 72, 5, 73, 701, 702, 703, 704, 705, 706, 707, 708, 709, 710, 711, 712, 713, 714, 715, 716, 717, 718] (by decide +kernel) (by decide +kernel)
set_option maxRecDepth 20000 in
theorem gL_law_X6_init : GoodIn wsL_law (wsX6_init) := ggL_law_X6_init
set_option maxRecDepth 20000 in
theorem ggL_law_X5_unit : GoodIn wsL_law wsX5_unit := goodIn_r _ [77, 17, 78, 79, 80, 16, 81, 82, 32, 697, 698, 699, 700, 719, 720, 721, 722, 723] (by decide +kernel) (by decide +kernel)
set_option maxRecDepth 20000 in
theorem gL_law_X5_unit : GoodIn wsL_law (wsV RL 23 RX5 yX5_unit wsX5_unit) := goodIn_app (goodIn_of _ (by decide +kernel)) ggL_law_X5_unit
set_option maxRecDepth 20000 in
theorem ggL_law_X6_unit : GoodIn wsL_law wsX6_unit := goodIn_r _ [86, 87, 88, 68, 701, 702, 703, 704, 705, 706, 707, 708, 709, 710, 711, 712, 713, 714, 715, 716, 717, 718] (by decide +kernel) (by decide +kernel)
set_option maxRecDepth 20000 in
theorem gL_law_X6_unit : GoodIn wsL_law (wsV RL 27 RX6 yX6_unit wsX6_unit) := goodIn_app (goodIn_of _ (by decide +kernel)) ggL_law_X6_unit
set_option maxRecDepth 20000 in
theorem ggL_law_X5_read : GoodIn wsL_law wsX5_read := goodIn_r _ [92, 26, 17, 25, 93, 94, 95, 96, 24, 97, 98, 99, 100, 101, 102, 16, 103, 104, 105, 106, 107, 108, 109, 82, 110, 111, 112, 113, 32, 114, 115, 116, 117, 118, 34, 119, 120, 121, 122, 123, 124, 125, 126, 127, 128, 129, 130, 131, 132, 133, 134, 135, 136, 137, 138, 139, 140, 141, 142, 143, 144, 145, 146, 147, 148, 149, 150, 151, 152, 153, 154, 155, 156, 157, 158, 159, 160, 161, 162, 163, 164, 165, 166, 167, 168, 169, 170, 171, 172, 173, 174, 175, 176, 177, 178, 179, 180, 181, 182, 183, 184, 185, 186, 187, 188, 189, 190, 191, 192, 193, 194, 195, 196, 197, 198, 2, 199, 200, 201, 202, 203, 44, 204, 205, 206, 207, 208, 209, 210, 211, 212, 213, 45, 214, 215, 216, 217, 218, 219, 220, 221, 222, 223, 224, 46, 225, 226, 227, 228, 229, 230, 231, 232, 47, 233, 234, 235, 236, 237, 238, 239, 240, 241, 242, 243, 244, 245, 246, 247, 248, 42, 43, 48, 249, 250, 251, 252, 253, 254, 255, 256, 257, 258, 259, 260, 49, 50, 51, 261, 262, 263, 264, 265, 266, 267, 268, 269, 270, 271, 272, 273, 274, 275, 276, 277, 278, 279, 280, 697, 698, 699, 700, 726, 727, 728, 729, 730, 731, 732, 733, 734, 735, 736, 737, 719, 720, 721, 722, 723] (by decide +kernel) (by decide +kernel)
set_option maxRecDepth 20000 in
theorem gL_law_X5_read : GoodIn wsL_law (wsV RL 28 RX5 yX5_read wsX5_read) := goodIn_app (goodIn_of _ (by decide +kernel)) ggL_law_X5_read
set_option maxRecDepth 20000 in
theorem ggL_law_X6_read : GoodIn wsL_law wsX6_read := goodIn_r _ [284, 87, 285, 88, 56, 70, 71, 72, 5, 73, 62, 60, 61, 64, 65, 66, 286, 287, 288, 289, 290, 291, 292, 293, 68, 294, 295, 296, 297, 69, 298, 299, 300, 301, 302, 303, 304, 305, 306, 307, 308, 309, 310, 311, 312, 313, 314, 315, 316, 317, 318, 319, 320, 321, 322, 323, 324, 325, 326, 327, 328, 329, 330, 331, 332, 333, 334, 335, 336, 337, 338, 339, 340, 341, 342, 343, 57, 58, 63, 344, 345, 346, 347, 701, 702, 703, 704, 705, 706, 707, 708, 709, 710, 711, 712, 713, 714, 715, 716, 717, 718] (by decide +kernel) (by decide +kernel)
set_option maxRecDepth 20000 in
theorem gL_law_X6_read : GoodIn wsL_law (wsV RL 32 RX6 yX6_read wsX6_read) := goodIn_app (goodIn_of _ (by decide +kernel)) ggL_law_X6_read
set_option maxRecDepth 20000 in
theorem ggL_law_X5_part : GoodIn wsL_law wsX5_part := goodIn_r _ [351, 25, 352, 246, 247, 24, 248, 98, 42, 43, 44, 45, 46, 47, 48, 193, 194, 195, 196, 197, 198, 2, 199, 214, 215, 216, 697, 698, 699, 700, 726, 727, 728, 729, 730, 731, 732, 733, 734, 735, 736, 737] (by decide +kernel) (by decide +kernel)
set_option maxRecDepth 20000 in
theorem gL_law_X5_part : GoodIn wsL_law (wsV RL 35 RX5 yX5_part wsX5_part) := goodIn_app (goodIn_of _ (by decide +kernel)) ggL_law_X5_part
set_option maxRecDepth 20000 in
theorem ggL_law_X6_part : GoodIn wsL_law wsX6_part := goodIn_r _ [356, 87, 357, 56, 321, 322, 323, 5, 324, 325, 60, 61, 62, 64, 65, 326, 327, 328, 329, 330, 331, 332, 340, 341, 342, 343, 57, 58, 63, 66, 701, 702, 703, 704, 705, 706, 707, 708, 709, 710, 711, 712, 713, 714, 715, 716, 717, 718] (by decide +kernel) (by decide +kernel)
set_option maxRecDepth 20000 in
theorem gL_law_X6_part : GoodIn wsL_law (wsV RL 39 RX6 yX6_part wsX6_part) := goodIn_app (goodIn_of _ (by decide +kernel)) ggL_law_X6_part
set_option maxRecDepth 20000 in
theorem ggL_law_X5_fasten : GoodIn wsL_law wsX5_fasten := goodIn_r _ [361, 25, 362, 258, 259, 24, 260, 99, 49, 50, 51, 217, 218, 219, 220, 204, 205, 206, 207, 98, 198, 2, 199, 697, 698, 699, 700, 726, 727, 728, 729, 730, 731, 732, 733, 734, 735, 736, 737] (by decide +kernel) (by decide +kernel)
set_option maxRecDepth 20000 in
theorem gL_law_X5_fasten : GoodIn wsL_law (wsV RL 40 RX5 yX5_fasten wsX5_fasten) := goodIn_app (goodIn_of _ (by decide +kernel)) ggL_law_X5_fasten
set_option maxRecDepth 20000 in
theorem ggL_law_X6_fasten : GoodIn wsL_law wsX6_fasten := goodIn_r _ [366, 87, 62, 321, 322, 323, 5, 324, 56, 325, 60, 61, 64, 65, 326, 327, 328, 329, 330, 331, 332, 340, 341, 342, 343, 57, 58, 63, 66, 701, 702, 703, 704, 705, 706, 707, 708, 709, 710, 711, 712, 713, 714, 715, 716, 717, 718] (by decide +kernel) (by decide +kernel)
set_option maxRecDepth 20000 in
theorem gL_law_X6_fasten : GoodIn wsL_law (wsV RL 44 RX6 yX6_fasten wsX6_fasten) := goodIn_app (goodIn_of _ (by decide +kernel)) ggL_law_X6_fasten
set_option maxRecDepth 20000 in
theorem ggL_law_X5_cover : GoodIn wsL_law wsX5_cover := goodIn_r _ [370, 25, 371, 250, 251, 24, 252, 44, 200, 201, 202, 203, 204, 205, 206, 207, 98, 208, 2, 209, 697, 698, 699, 700, 726, 727, 728, 729, 730, 731, 732, 733, 734, 735, 736, 737] (by decide +kernel) (by decide +kernel)
set_option maxRecDepth 20000 in
theorem gL_law_X5_cover : GoodIn wsL_law (wsV RL 45 RX5 yX5_cover wsX5_cover) := goodIn_app (goodIn_of _ (by decide +kernel)) ggL_law_X5_cover
set_option maxRecDepth 20000 in
theorem ggL_law_X6_cover : GoodIn wsL_law wsX6_cover := goodIn_r _ [375, 87, 376, 377, 378, 5, 379, 321, 322, 323, 324, 56, 325, 60, 61, 62, 64, 65, 326, 327, 328, 329, 330, 331, 332, 340, 341, 342, 343, 57, 58, 63, 66, 701, 702, 703, 704, 705, 706, 707, 708, 709, 710, 711, 712, 713, 714, 715, 716, 717, 718] (by decide +kernel) (by decide +kernel)
set_option maxRecDepth 20000 in
theorem gL_law_X6_cover : GoodIn wsL_law (wsV RL 49 RX6 yX6_cover wsX6_cover) := goodIn_app (goodIn_of _ (by decide +kernel)) ggL_law_X6_cover
set_option maxRecDepth 20000 in
theorem ggL_law_L_way : GoodIn wsL_law wsL_way := goodIn_r _ [383, 384, 385, 386, 2, 387, 25, 388, 389, 390, 391, 226, 227, 24, 228, 98, 392, 198, 199, 393, 254, 255, 256, 45, 210, 211, 212, 213, 204, 205, 206, 207, 214, 215, 216, 208, 209, 697, 698, 699, 700, 738, 739, 740, 741, 742, 743, 726, 727, 728, 729, 730, 731, 732, 733, 734, 735, 736, 737] (by decide +kernel) (by decide +kernel)
set_option maxRecDepth 20000 in
theorem gL_law_L_way : GoodIn wsL_law (va_wsS RL 50 yL_way wsL_way) := goodIn_app (goodIn_of _ (by decide +kernel)) ggL_law_L_way
set_option maxRecDepth 20000 in
theorem ggL_law_X6_way : GoodIn wsL_law wsX6_way := goodIn_r _ [397, 87, 326, 327, 328, 5, 329, 56, 376, 377, 378, 379, 321, 322, 323, 324, 325, 60, 61, 62, 64, 65, 330, 331, 332, 340, 341, 342, 343, 57, 58, 63, 66, 701, 702, 703, 704, 705, 706, 707, 708, 709, 710, 711, 712, 713, 714, 715, 716, 717, 718] (by decide +kernel) (by decide +kernel)
set_option maxRecDepth 20000 in
theorem gL_law_X6_way : GoodIn wsL_law (wsV RL 55 RX6 yX6_way wsX6_way) := goodIn_app (goodIn_of _ (by decide +kernel)) ggL_law_X6_way
set_option maxRecDepth 20000 in
theorem ggL_law_X6_thrown : GoodIn wsL_law wsX6_thrown := goodIn_r _ [401, 87, 701, 702, 703, 704, 705, 706, 707, 708, 709, 710, 711, 712, 713, 714, 715, 716, 717, 718] (by decide +kernel) (by decide +kernel)
set_option maxRecDepth 20000 in
theorem gL_law_X6_thrown : GoodIn wsL_law (wsV RL 56 RX6 yX6_thrown wsX6_thrown) := goodIn_app (goodIn_of _ (by decide +kernel)) ggL_law_X6_thrown
set_option maxRecDepth 20000 in
theorem ggL_law_X5_before : GoodIn wsL_law wsX5_before := goodIn_r _ [405, 25, 406, 407, 408, 24, 409, 98, 225, 226, 227, 228, 410, 411, 412, 413, 414, 415, 416, 417, 45, 418, 419, 420, 421, 44, 208, 2, 209, 214, 215, 216, 422, 423, 424, 425, 697, 698, 699, 700, 726, 727, 728, 729, 730, 731, 732, 733, 734, 735, 736, 737] (by decide +kernel) (by decide +kernel)
set_option maxRecDepth 20000 in
theorem gL_law_X5_before : GoodIn wsL_law (wsV RL 59 RX5 yX5_before wsX5_before) := goodIn_app (goodIn_of _ (by decide +kernel)) ggL_law_X5_before
set_option maxRecDepth 20000 in
theorem ggL_law_X6_before : GoodIn wsL_law wsX6_before := goodIn_r _ [429, 87, 56, 326, 327, 328, 5, 329, 430, 431, 432, 433, 434, 435, 436, 437, 61, 330, 331, 332, 438, 439, 440, 441, 442, 443, 444, 60, 701, 702, 703, 704, 705, 706, 707, 708, 709, 710, 711, 712, 713, 714, 715, 716, 717, 718] (by decide +kernel) (by decide +kernel)
set_option maxRecDepth 20000 in
theorem gL_law_X6_before : GoodIn wsL_law (wsV RL 63 RX6 yX6_before wsX6_before) := goodIn_app (goodIn_of _ (by decide +kernel)) ggL_law_X6_before
set_option maxRecDepth 20000 in
theorem ggL_law_X5_ring : GoodIn wsL_law wsX5_ring := goodIn_r _ [448, 25, 449, 450, 451, 24, 452, 98, 410, 411, 412, 413, 414, 415, 416, 417, 45, 418, 419, 420, 421, 44, 225, 226, 227, 228, 208, 2, 209, 214, 215, 216, 422, 423, 424, 425, 697, 698, 699, 700, 726, 727, 728, 729, 730, 731, 732, 733, 734, 735, 736, 737] (by decide +kernel) (by decide +kernel)
set_option maxRecDepth 20000 in
theorem gL_law_X5_ring : GoodIn wsL_law (wsV RL 64 RX5 yX5_ring wsX5_ring) := goodIn_app (goodIn_of _ (by decide +kernel)) ggL_law_X5_ring
set_option maxRecDepth 20000 in
theorem ggL_law_X6_ring : GoodIn wsL_law wsX6_ring := goodIn_r _ [456, 87, 56, 430, 431, 432, 5, 433, 434, 435, 436, 437, 61, 330, 331, 332, 438, 439, 440, 441, 442, 443, 444, 60, 701, 702, 703, 704, 705, 706, 707, 708, 709, 710, 711, 712, 713, 714, 715, 716, 717, 718] (by decide +kernel) (by decide +kernel)
set_option maxRecDepth 20000 in
theorem gL_law_X6_ring : GoodIn wsL_law (wsV RL 68 RX6 yX6_ring wsX6_ring) := goodIn_app (goodIn_of _ (by decide +kernel)) ggL_law_X6_ring
set_option maxRecDepth 20000 in
theorem ggL_law_X5_option : GoodIn wsL_law wsX5_option := goodIn_r _ [460, 25, 461, 266, 267, 24, 268, 47, 229, 230, 231, 232, 225, 226, 227, 228, 98, 198, 2, 199, 697, 698, 699, 700, 726, 727, 728, 729, 730, 731, 732, 733, 734, 735, 736, 737] (by decide +kernel) (by decide +kernel)
set_option maxRecDepth 20000 in
theorem gL_law_X5_option : GoodIn wsL_law (wsV RL 69 RX5 yX5_option wsX5_option) := goodIn_app (goodIn_of _ (by decide +kernel)) ggL_law_X5_option
set_option maxRecDepth 20000 in
theorem ggL_law_X6_option : GoodIn wsL_law wsX6_option := goodIn_r _ [465, 87, 376, 377, 378, 5, 379, 321, 322, 323, 324, 56, 325, 60, 61, 62, 64, 65, 326, 327, 328, 329, 330, 331, 332, 340, 341, 342, 343, 57, 58, 63, 66, 701, 702, 703, 704, 705, 706, 707, 708, 709, 710, 711, 712, 713, 714, 715, 716, 717, 718] (by decide +kernel) (by decide +kernel)
set_option maxRecDepth 20000 in
theorem gL_law_X6_option : GoodIn wsL_law (wsV RL 72 RX6 yX6_option wsX6_option) := goodIn_app (goodIn_of _ (by decide +kernel)) ggL_law_X6_option
set_option maxRecDepth 20000 in
theorem ggL_law_X5_family : GoodIn wsL_law wsX5_family := goodIn_r _ [469, 25, 470, 471, 472, 24, 473, 474, 475, 476, 477, 98, 47, 478, 479, 480, 481, 482, 483, 484, 423, 2, 424, 425, 208, 209, 422, 697, 698, 699, 700, 726, 727, 728, 729, 730, 731, 732, 733, 734, 735, 736, 737] (by decide +kernel) (by decide +kernel)
set_option maxRecDepth 20000 in
theorem gL_law_X5_family : GoodIn wsL_law (wsV RL 73 RX5 yX5_family wsX5_family) := goodIn_app (goodIn_of _ (by decide +kernel)) ggL_law_X5_family
set_option maxRecDepth 20000 in
theorem ggL_law_X6_family : GoodIn wsL_law wsX6_family := goodIn_r _ [488, 87, 56, 489, 490, 491, 5, 492, 65, 493, 494, 495, 496, 497, 498, 499, 500, 701, 702, 703, 704, 705, 706, 707, 708, 709, 710, 711, 712, 713, 714, 715, 716, 717, 718] (by decide +kernel) (by decide +kernel)
set_option maxRecDepth 20000 in
theorem gL_law_X6_family : GoodIn wsL_law (wsV RL 76 RX6 yX6_family wsX6_family) := goodIn_app (goodIn_of _ (by decide +kernel)) ggL_law_X6_family
set_option maxRecDepth 20000 in
theorem ggL_law_X5_holds : GoodIn wsL_law wsX5_holds := goodIn_r _ [504, 25, 391, 226, 227, 24, 228, 98, 505, 506, 507, 508, 99, 49, 50, 225, 208, 2, 209, 425, 697, 698, 699, 700, 726, 727, 728, 729, 730, 731, 732, 733, 734, 735, 736, 737] (by decide +kernel) (by decide +kernel)
set_option maxRecDepth 20000 in
theorem gL_law_X5_holds : GoodIn wsL_law (wsV RL 77 RX5 yX5_holds wsX5_holds) := goodIn_app (goodIn_of _ (by decide +kernel)) ggL_law_X5_holds
set_option maxRecDepth 20000 in
theorem ggL_law_X6_holds : GoodIn wsL_law wsX6_holds := goodIn_r _ [512, 87, 326, 327, 328, 5, 329, 56, 513, 514, 515, 516, 62, 63, 438, 439, 440, 701, 702, 703, 704, 705, 706, 707, 708, 709, 710, 711, 712, 713, 714, 715, 716, 717, 718] (by decide +kernel) (by decide +kernel)
set_option maxRecDepth 20000 in
theorem gL_law_X6_holds : GoodIn wsL_law (wsV RL 80 RX6 yX6_holds wsX6_holds) := goodIn_app (goodIn_of _ (by decide +kernel)) ggL_law_X6_holds
set_option maxRecDepth 20000 in
theorem ggL_law_X5_alike : GoodIn wsL_law wsX5_alike := goodIn_r _ [520, 25, 521, 522, 523, 24, 524, 98, 42, 43, 46, 225, 226, 227, 228, 422, 423, 2, 424, 425, 208, 209, 697, 698, 699, 700, 726, 727, 728, 729, 730, 731, 732, 733, 734, 735, 736, 737] (by decide +kernel) (by decide +kernel)
set_option maxRecDepth 20000 in
theorem gL_law_X5_alike : GoodIn wsL_law (wsV RL 81 RX5 yX5_alike wsX5_alike) := goodIn_app (goodIn_of _ (by decide +kernel)) ggL_law_X5_alike
set_option maxRecDepth 20000 in
theorem ggL_law_X6_alike : GoodIn wsL_law wsX6_alike := goodIn_r _ [528, 87, 56, 57, 58, 64, 326, 327, 328, 5, 329, 701, 702, 703, 704, 705, 706, 707, 708, 709, 710, 711, 712, 713, 714, 715, 716, 717, 718] (by decide +kernel) (by decide +kernel)
set_option maxRecDepth 20000 in
theorem gL_law_X6_alike : GoodIn wsL_law (wsV RL 84 RX6 yX6_alike wsX6_alike) := goodIn_app (goodIn_of _ (by decide +kernel)) ggL_law_X6_alike
set_option maxRecDepth 20000 in
theorem ggL_law_L_weight : GoodIn wsL_law wsL_weight := goodIn_r _ [531, 532, 533, 534, 2, 535, 25, 388, 389, 390, 391, 226, 227, 24, 228, 98, 505, 506, 507, 508, 99, 49, 50, 225, 208, 209, 536, 537, 538, 539, 43, 697, 698, 699, 700, 738, 739, 740, 741, 742, 743, 726, 727, 728, 729, 730, 731, 732, 733, 734, 735, 736, 737] (by decide +kernel) (by decide +kernel)
set_option maxRecDepth 20000 in
theorem gL_law_L_weight : GoodIn wsL_law (va_wsS RL 85 yL_weight wsL_weight) := goodIn_app (goodIn_of _ (by decide +kernel)) ggL_law_L_weight
set_option maxRecDepth 20000 in
theorem ggL_law_X6_weight : GoodIn wsL_law wsX6_weight := goodIn_r _ [543, 87, 56, 58, 326, 327, 328, 5, 329, 513, 514, 515, 516, 62, 63, 438, 439, 440, 701, 702, 703, 704, 705, 706, 707, 708, 709, 710, 711, 712, 713, 714, 715, 716, 717, 718] (by decide +kernel) (by decide +kernel)
set_option maxRecDepth 20000 in
theorem gL_law_X6_weight : GoodIn wsL_law (wsV RL 88 RX6 yX6_weight wsX6_weight) := goodIn_app (goodIn_of _ (by decide +kernel)) ggL_law_X6_weight
set_option maxRecDepth 20000 in
theorem ggL_law_X5_hazard : GoodIn wsL_law wsX5_hazard := goodIn_r _ [547, 25, 548, 262, 263, 24, 264, 46, 221, 222, 223, 224, 225, 226, 227, 228, 98, 198, 2, 199, 208, 209, 697, 698, 699, 700, 726, 727, 728, 729, 730, 731, 732, 733, 734, 735, 736, 737] (by decide +kernel) (by decide +kernel)
set_option maxRecDepth 20000 in
theorem gL_law_X5_hazard : GoodIn wsL_law (wsV RL 89 RX5 yX5_hazard wsX5_hazard) := goodIn_app (goodIn_of _ (by decide +kernel)) ggL_law_X5_hazard
set_option maxRecDepth 20000 in
theorem ggL_law_X6_hazard : GoodIn wsL_law wsX6_hazard := goodIn_r _ [552, 87, 376, 377, 378, 5, 379, 321, 322, 323, 324, 56, 325, 60, 61, 62, 64, 65, 326, 327, 328, 329, 330, 331, 332, 340, 341, 342, 343, 57, 58, 63, 66, 701, 702, 703, 704, 705, 706, 707, 708, 709, 710, 711, 712, 713, 714, 715, 716, 717, 718] (by decide +kernel) (by decide +kernel)
set_option maxRecDepth 20000 in
theorem gL_law_X6_hazard : GoodIn wsL_law (wsV RL 92 RX6 yX6_hazard wsX6_hazard) := goodIn_app (goodIn_of _ (by decide +kernel)) ggL_law_X6_hazard
set_option maxRecDepth 20000 in
theorem ggL_law_X5_damage : GoodIn wsL_law wsX5_damage := goodIn_r _ [556, 25, 557, 270, 271, 24, 272, 48, 233, 234, 235, 236, 225, 226, 227, 228, 98, 198, 2, 199, 697, 698, 699, 700, 726, 727, 728, 729, 730, 731, 732, 733, 734, 735, 736, 737] (by decide +kernel) (by decide +kernel)
set_option maxRecDepth 20000 in
theorem gL_law_X5_damage : GoodIn wsL_law (wsV RL 93 RX5 yX5_damage wsX5_damage) := goodIn_app (goodIn_of _ (by decide +kernel)) ggL_law_X5_damage
set_option maxRecDepth 20000 in
theorem ggL_law_X6_damage : GoodIn wsL_law wsX6_damage := goodIn_r _ [561, 87, 66, 321, 322, 323, 5, 324, 56, 325, 60, 61, 62, 64, 65, 326, 327, 328, 329, 330, 331, 332, 701, 702, 703, 704, 705, 706, 707, 708, 709, 710, 711, 712, 713, 714, 715, 716, 717, 718] (by decide +kernel) (by decide +kernel)
set_option maxRecDepth 20000 in
theorem gL_law_X6_damage : GoodIn wsL_law (wsV RL 96 RX6 yX6_damage wsX6_damage) := goodIn_app (goodIn_of _ (by decide +kernel)) ggL_law_X6_damage
set_option maxRecDepth 20000 in
theorem ggL_law_X5_free : GoodIn wsL_law wsX5_free := goodIn_r _ [565, 25, 566, 567, 2, 568, 569, 570, 415, 416, 24, 417, 45, 418, 419, 420, 421, 44, 225, 226, 227, 228, 98, 208, 209, 214, 215, 216, 697, 698, 699, 700, 726, 727, 728, 729, 730, 731, 732, 733, 734, 735, 736, 737] (by decide +kernel) (by decide +kernel)
set_option maxRecDepth 20000 in
theorem gL_law_X5_free : GoodIn wsL_law (wsV RL 97 RX5 yX5_free wsX5_free) := goodIn_app (goodIn_of _ (by decide +kernel)) ggL_law_X5_free
set_option maxRecDepth 20000 in
theorem ggL_law_X6_free : GoodIn wsL_law wsX6_free := goodIn_r _ [574, 87, 326, 327, 328, 5, 329, 56, 434, 435, 436, 437, 61, 330, 331, 332, 438, 439, 440, 441, 442, 443, 444, 60, 701, 702, 703, 704, 705, 706, 707, 708, 709, 710, 711, 712, 713, 714, 715, 716, 717, 718] (by decide +kernel) (by decide +kernel)
set_option maxRecDepth 20000 in
theorem gL_law_X6_free : GoodIn wsL_law (wsV RL 101 RX6 yX6_free wsX6_free) := goodIn_app (goodIn_of _ (by decide +kernel)) ggL_law_X6_free
set_option maxRecDepth 20000 in
theorem ggL_law_X5_plain : GoodIn wsL_law wsX5_plain := goodIn_r _ [578, 25, 566, 567, 2, 568, 569, 579, 419, 420, 24, 421, 44, 225, 226, 227, 228, 98, 208, 209, 697, 698, 699, 700, 726, 727, 728, 729, 730, 731, 732, 733, 734, 735, 736, 737] (by decide +kernel) (by decide +kernel)
set_option maxRecDepth 20000 in
theorem gL_law_X5_plain : GoodIn wsL_law (wsV RL 102 RX5 yX5_plain wsX5_plain) := goodIn_app (goodIn_of _ (by decide +kernel)) ggL_law_X5_plain
set_option maxRecDepth 20000 in
theorem ggL_law_X6_plain : GoodIn wsL_law wsX6_plain := goodIn_r _ [583, 87, 326, 327, 328, 5, 329, 56, 441, 442, 443, 444, 60, 438, 439, 440, 701, 702, 703, 704, 705, 706, 707, 708, 709, 710, 711, 712, 713, 714, 715, 716, 717, 718] (by decide +kernel) (by decide +kernel)
set_option maxRecDepth 20000 in
theorem gL_law_X6_plain : GoodIn wsL_law (wsV RL 105 RX6 yX6_plain wsX6_plain) := goodIn_app (goodIn_of _ (by decide +kernel)) ggL_law_X6_plain
set_option maxRecDepth 20000 in
theorem ggL_law_X5_write : GoodIn wsL_law wsX5_write := goodIn_r _ [587, 21, 25, 588, 589, 590, 20, 591, 592, 593, 594, 595, 596, 597, 598, 599, 600, 601, 602, 603, 604, 605, 606, 607, 129, 130, 131, 132, 133, 134, 135, 136, 137, 138, 139, 608, 141, 142, 143, 144, 145, 146, 147, 148, 149, 150, 151, 152, 153, 154, 155, 156, 157, 158, 159, 160, 161, 162, 163, 164, 165, 166, 167, 168, 169, 170, 171, 172, 173, 174, 175, 176, 609, 610, 611, 612, 613, 614, 615, 616, 617, 618, 619, 620, 621, 622, 623, 624, 625, 626, 627, 628, 629, 630, 631, 632, 24, 633, 98, 44, 208, 2, 209, 634, 635, 636, 637, 638, 639, 640, 641, 215, 216, 642, 643, 644, 645, 646, 647, 648, 649, 650, 651, 652, 653, 654, 655, 697, 698, 699, 700, 724, 725, 726, 727, 728, 729, 730, 731, 732, 733, 734, 735, 736, 737] (by decide +kernel) (by decide +kernel)
set_option maxRecDepth 20000 in
theorem gL_law_X5_write : GoodIn wsL_law (wsV RL 106 RX5 yX5_write wsX5_write) := goodIn_app (goodIn_of _ (by decide +kernel)) ggL_law_X5_write
set_option maxRecDepth 20000 in
theorem ggL_law_X6_write : GoodIn wsL_law wsX6_write := goodIn_r _ [659, 87, 660, 661, 662, 56, 57, 58, 62, 63, 663, 664, 665, 5, 666, 667, 668, 669, 670, 671, 306, 307, 308, 309, 310, 311, 312, 313, 314, 315, 316, 672, 673, 674, 675, 676, 677, 678, 679, 680, 681, 682, 683, 60, 61, 64, 65, 66, 330, 331, 332, 701, 702, 703, 704, 705, 706, 707, 708, 709, 710, 711, 712, 713, 714, 715, 716, 717, 718] (by decide +kernel) (by decide +kernel)
set_option maxRecDepth 20000 in
theorem gL_law_X6_write : GoodIn wsL_law (wsV RL 109 RX6 yX6_write wsX6_write) := goodIn_app (goodIn_of _ (by decide +kernel)) ggL_law_X6_write
set_option maxRecDepth 20000 in
theorem ggL_law_X5_loose : GoodIn wsL_law wsX5_loose := goodIn_r _ [687, 25, 688, 689, 690, 24, 691, 98, 208, 2, 209, 692, 506, 507, 508, 99, 49, 50, 225, 226, 227, 228, 697, 698, 699, 700, 726, 727, 728, 729, 730, 731, 732, 733, 734, 735, 736, 737] (by decide +kernel) (by decide +kernel)
set_option maxRecDepth 20000 in
theorem gL_law_X5_loose : GoodIn wsL_law (wsV RL 110 RX5 yX5_loose wsX5_loose) := goodIn_app (goodIn_of _ (by decide +kernel)) ggL_law_X5_loose
set_option maxRecDepth 20000 in
theorem ggL_law_X6_loose : GoodIn wsL_law wsX6_loose := goodIn_r _ [696, 87, 56, 513, 514, 515, 5, 516, 62, 63, 438, 439, 440, 701, 702, 703, 704, 705, 706, 707, 708, 709, 710, 711, 712, 713, 714, 715, 716, 717, 718] (by decide +kernel) (by decide +kernel)
set_option maxRecDepth 20000 in
theorem gL_law_X6_loose : GoodIn wsL_law (wsV RL 113 RX6 yX6_loose wsX6_loose) := goodIn_app (goodIn_of _ (by decide +kernel)) ggL_law_X6_loose
