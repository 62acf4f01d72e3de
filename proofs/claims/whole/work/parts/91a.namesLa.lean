set_option maxRecDepth 20000 in
theorem ggL_law_X6_init : GoodIn wsL_law wsX6_init := goodIn_r _ [8, 9, 10, 11, 12, 13, 14, 15, 16, 17, 18, 19, 20, 21, 22, 23, 24, 25, 26, 27, 28, 29, 30, 31, 32, 33, 34, 35, 36, 37, 38, 39, 40, 41, 42, 43, 44, 45, 46, 47, 48, 49, 50, 51, 52, 53, 54, 55, 56, 57, 58, 59, 60, 61, 62, 63, 64, 65, 66, 67, 68, 69, 70, 71, 72, 73, 74, 75, 76, 77, 78, 79, 80, 81, 82, 763, 764, 765, 766, 767, 768, 769, 770, 771, 740, 741, 742, 743, 744, 772, 773, 774, 775, 776, 777, 778, 779, 780, 781, 782, 783, 784, 785, 786, 787, 788, 789, 790, 791, 792, 793, 794, 795, 796, 797, 798, 799, 800, 801, 802] (by decide +kernel) (by decide +kernel)
set_option maxRecDepth 20000 in
theorem gL_law_X6_init : GoodIn wsL_law (wsX6_init) := ggL_law_X6_init
set_option maxRecDepth 20000 in
theorem ggL_law_X7_init : GoodIn wsL_law wsX7_init := goodIn_r _ [85, 86, 10, 11, 51, 87, 88, 89, 90, 91, 92, 93, 745, 746, 747, 748, 749, 750, 751, 752, 753, 754, 755, 756, 757, 758, 759, 760, 761, 762] (by decide +kernel) (by decide +kernel)
set_option maxRecDepth 20000 in
theorem gL_law_X7_init : GoodIn wsL_law (wsX7_init) := ggL_law_X7_init
set_option maxRecDepth 20000 in
theorem ggL_law_X6_lot : GoodIn wsL_law wsX6_lot := goodIn_r _ [97, 16, 15, 98, 99, 100, 14, 101, 35, 39, 46, 47, 102, 103, 104, 105, 106, 107, 108, 109, 34, 110, 52, 53, 54, 55, 111, 112, 113, 114, 115, 38, 116, 59, 60, 117, 118, 119, 120, 121, 122, 123, 2, 124, 125, 126, 127, 128, 129, 130, 131, 132, 133, 134, 135, 136, 137, 20, 138, 139, 140, 141, 142, 143, 144, 145, 146, 19, 147, 148, 66, 149, 150, 151, 152, 153, 740, 741, 742, 743, 744, 763, 764, 765, 766, 767, 768, 769, 770, 771, 794, 795, 796, 797, 798, 799, 800, 801, 802, 772, 773] (by decide +kernel) (by decide +kernel)
set_option maxRecDepth 20000 in
theorem gL_law_X6_lot : GoodIn wsL_law (wsV RL 13 RX6 yX6_lot wsX6_lot) := goodIn_app (goodIn_of _ (by decide +kernel)) ggL_law_X6_lot
set_option maxRecDepth 20000 in
theorem ggL_law_X7_lot : GoodIn wsL_law wsX7_lot := goodIn_r _ [157, 158, 87, 159, 160, 161, 5, 162, 163, 164, 165, 166, 167, 168, 88, 169, 170, 171, 172, 745, 746, 747, 748, 749, 750, 751, 752, 753, 754, 755, 756, 757, 758, 759, 760, 761, 762] (by decide +kernel) (by decide +kernel)
set_option maxRecDepth 20000 in
theorem gL_law_X7_lot : GoodIn wsL_law (wsV RL 17 RX7 yX7_lot wsX7_lot) := goodIn_app (goodIn_of _ (by decide +kernel)) ggL_law_X7_lot
set_option maxRecDepth 20000 in
theorem ggL_law_X6_part : GoodIn wsL_law wsX6_part := goodIn_r _ [176, 16, 15, 98, 99, 100, 14, 101, 35, 39, 46, 47, 102, 103, 104, 105, 106, 107, 108, 109, 34, 110, 52, 53, 54, 55, 111, 112, 113, 114, 115, 38, 116, 59, 60, 117, 177, 178, 179, 180, 122, 181, 182, 183, 184, 185, 186, 187, 188, 189, 190, 131, 132, 133, 125, 126, 127, 128, 129, 130, 134, 135, 136, 2, 137, 20, 138, 139, 140, 141, 142, 143, 123, 124, 144, 145, 146, 19, 147, 148, 66, 149, 150, 151, 152, 153, 740, 741, 742, 743, 744, 763, 764, 765, 766, 767, 768, 769, 770, 771, 794, 795, 796, 797, 798, 799, 800, 801, 802, 772, 773] (by decide +kernel) (by decide +kernel)
set_option maxRecDepth 20000 in
theorem gL_law_X6_part : GoodIn wsL_law (wsV RL 18 RX6 yX6_part wsX6_part) := goodIn_app (goodIn_of _ (by decide +kernel)) ggL_law_X6_part
set_option maxRecDepth 20000 in
theorem ggL_law_X7_part : GoodIn wsL_law wsX7_part := goodIn_r _ [194, 158, 195, 87, 159, 196, 197, 198, 5, 199, 200, 201, 202, 203, 204, 205, 206, 207, 208, 163, 164, 165, 166, 167, 168, 88, 209, 210, 211, 212, 169, 170, 171, 172, 745, 746, 747, 748, 749, 750, 751, 752, 753, 754, 755, 756, 757, 758, 759, 760, 761, 762] (by decide +kernel) (by decide +kernel)
set_option maxRecDepth 20000 in
theorem gL_law_X7_part : GoodIn wsL_law (wsV RL 21 RX7 yX7_part wsX7_part) := goodIn_app (goodIn_of _ (by decide +kernel)) ggL_law_X7_part
set_option maxRecDepth 20000 in
theorem ggL_law_X6_blend : GoodIn wsL_law wsX6_blend := goodIn_r _ [216, 16, 15, 98, 99, 100, 14, 101, 35, 39, 46, 47, 102, 103, 104, 105, 106, 107, 108, 109, 34, 110, 52, 53, 54, 55, 111, 112, 113, 114, 115, 38, 116, 59, 60, 117, 217, 218, 219, 220, 122, 181, 182, 183, 186, 187, 188, 189, 190, 131, 132, 133, 221, 222, 223, 224, 225, 226, 227, 228, 125, 126, 127, 128, 129, 130, 134, 135, 136, 2, 137, 20, 138, 139, 140, 141, 142, 143, 123, 124, 144, 145, 146, 19, 147, 148, 66, 149, 150, 151, 152, 153, 740, 741, 742, 743, 744, 763, 764, 765, 766, 767, 768, 769, 770, 771, 794, 795, 796, 797, 798, 799, 800, 801, 802, 772, 773] (by decide +kernel) (by decide +kernel)
set_option maxRecDepth 20000 in
theorem gL_law_X6_blend : GoodIn wsL_law (wsV RL 22 RX6 yX6_blend wsX6_blend) := goodIn_app (goodIn_of _ (by decide +kernel)) ggL_law_X6_blend
set_option maxRecDepth 20000 in
theorem ggL_law_X7_blend : GoodIn wsL_law wsX7_blend := goodIn_r _ [232, 158, 195, 87, 159, 196, 197, 198, 5, 199, 200, 201, 202, 203, 204, 205, 206, 207, 208, 163, 164, 165, 166, 167, 168, 88, 233, 234, 235, 236, 237, 238, 239, 240, 241, 242, 243, 209, 210, 211, 212, 169, 170, 171, 172, 745, 746, 747, 748, 749, 750, 751, 752, 753, 754, 755, 756, 757, 758, 759, 760, 761, 762] (by decide +kernel) (by decide +kernel)
set_option maxRecDepth 20000 in
theorem gL_law_X7_blend : GoodIn wsL_law (wsV RL 26 RX7 yX7_blend wsX7_blend) := goodIn_app (goodIn_of _ (by decide +kernel)) ggL_law_X7_blend
set_option maxRecDepth 20000 in
theorem ggL_law_X6_cup : GoodIn wsL_law wsX6_cup := goodIn_r _ [247, 16, 15, 98, 99, 100, 14, 101, 35, 39, 46, 47, 102, 103, 104, 105, 106, 107, 108, 109, 34, 110, 52, 53, 54, 55, 111, 112, 113, 114, 115, 38, 116, 59, 60, 117, 248, 249, 250, 251, 122, 181, 182, 184, 185, 186, 187, 188, 189, 221, 222, 223, 224, 134, 135, 136, 2, 137, 20, 138, 139, 140, 141, 142, 143, 123, 124, 144, 145, 146, 19, 147, 148, 66, 149, 150, 151, 152, 153, 740, 741, 742, 743, 744, 763, 764, 765, 766, 767, 768, 769, 770, 771, 794, 795, 796, 797, 798, 799, 800, 801, 802, 772, 773] (by decide +kernel) (by decide +kernel)
set_option maxRecDepth 20000 in
theorem gL_law_X6_cup : GoodIn wsL_law (wsV RL 27 RX6 yX6_cup wsX6_cup) := goodIn_app (goodIn_of _ (by decide +kernel)) ggL_law_X6_cup
set_option maxRecDepth 20000 in
theorem ggL_law_X7_cup : GoodIn wsL_law wsX7_cup := goodIn_r _ [255, 158, 195, 87, 196, 197, 198, 5, 199, 200, 201, 202, 203, 204, 205, 206, 207, 208, 163, 164, 165, 166, 167, 168, 88, 233, 234, 235, 236, 237, 238, 239, 240, 745, 746, 747, 748, 749, 750, 751, 752, 753, 754, 755, 756, 757, 758, 759, 760, 761, 762] (by decide +kernel) (by decide +kernel)
set_option maxRecDepth 20000 in
theorem gL_law_X7_cup : GoodIn wsL_law (wsV RL 31 RX7 yX7_cup wsX7_cup) := goodIn_app (goodIn_of _ (by decide +kernel)) ggL_law_X7_cup
set_option maxRecDepth 20000 in
theorem ggL_law_X6_worth : GoodIn wsL_law wsX6_worth := goodIn_r _ [259, 16, 15, 98, 99, 100, 14, 101, 35, 39, 46, 47, 102, 103, 104, 105, 106, 107, 108, 109, 34, 110, 52, 53, 54, 55, 111, 112, 113, 114, 115, 38, 116, 59, 60, 117, 260, 261, 262, 263, 122, 123, 2, 124, 134, 135, 136, 137, 20, 138, 139, 140, 141, 142, 143, 144, 145, 146, 19, 147, 148, 66, 149, 150, 151, 152, 153, 740, 741, 742, 743, 744, 763, 764, 765, 766, 767, 768, 769, 770, 771, 794, 795, 796, 797, 798, 799, 800, 801, 802, 772, 773] (by decide +kernel) (by decide +kernel)
set_option maxRecDepth 20000 in
theorem gL_law_X6_worth : GoodIn wsL_law (wsV RL 32 RX6 yX6_worth wsX6_worth) := goodIn_app (goodIn_of _ (by decide +kernel)) ggL_law_X6_worth
set_option maxRecDepth 20000 in
theorem ggL_law_X7_worth : GoodIn wsL_law wsX7_worth := goodIn_r _ [267, 158, 87, 160, 161, 5, 162, 163, 164, 165, 166, 167, 168, 88, 745, 746, 747, 748, 749, 750, 751, 752, 753, 754, 755, 756, 757, 758, 759, 760, 761, 762] (by decide +kernel) (by decide +kernel)
set_option maxRecDepth 20000 in
theorem gL_law_X7_worth : GoodIn wsL_law (wsV RL 35 RX7 yX7_worth wsX7_worth) := goodIn_app (goodIn_of _ (by decide +kernel)) ggL_law_X7_worth
set_option maxRecDepth 20000 in
theorem ggL_law_X6_sell : GoodIn wsL_law wsX6_sell := goodIn_r _ [271, 16, 15, 98, 99, 100, 14, 101, 35, 39, 46, 47, 102, 103, 104, 105, 106, 107, 108, 109, 34, 110, 52, 53, 54, 55, 111, 112, 113, 114, 115, 38, 116, 59, 60, 117, 272, 273, 274, 275, 122, 182, 123, 2, 124, 276, 277, 278, 279, 280, 281, 282, 283, 284, 285, 286, 287, 288, 134, 135, 136, 137, 20, 138, 139, 140, 141, 142, 143, 144, 145, 146, 19, 147, 148, 66, 149, 150, 151, 152, 153, 740, 741, 742, 743, 744, 763, 764, 765, 766, 767, 768, 769, 770, 771, 794, 795, 796, 797, 798, 799, 800, 801, 802, 772, 773] (by decide +kernel) (by decide +kernel)
set_option maxRecDepth 20000 in
theorem gL_law_X6_sell : GoodIn wsL_law (wsV RL 36 RX6 yX6_sell wsX6_sell) := goodIn_app (goodIn_of _ (by decide +kernel)) ggL_law_X6_sell
set_option maxRecDepth 20000 in
theorem ggL_law_X7_sell : GoodIn wsL_law wsX7_sell := goodIn_r _ [292, 158, 87, 195, 159, 160, 161, 5, 162, 293, 294, 295, 296, 163, 164, 165, 166, 167, 168, 88, 745, 746, 747, 748, 749, 750, 751, 752, 753, 754, 755, 756, 757, 758, 759, 760, 761, 762] (by decide +kernel) (by decide +kernel)
set_option maxRecDepth 20000 in
theorem gL_law_X7_sell : GoodIn wsL_law (wsV RL 39 RX7 yX7_sell wsX7_sell) := goodIn_app (goodIn_of _ (by decide +kernel)) ggL_law_X7_sell
set_option maxRecDepth 20000 in
theorem ggL_law_X6_buyBack : GoodIn wsL_law wsX6_buyBack := goodIn_r _ [300, 16, 15, 98, 99, 100, 14, 101, 35, 39, 46, 47, 102, 103, 104, 105, 106, 107, 108, 109, 34, 110, 52, 53, 54, 55, 111, 112, 113, 114, 115, 38, 116, 59, 60, 117, 301, 302, 303, 304, 122, 305, 306, 307, 308, 309, 123, 2, 124, 310, 311, 312, 313, 314, 134, 135, 136, 137, 20, 138, 139, 140, 141, 142, 143, 144, 145, 146, 19, 147, 148, 66, 149, 150, 151, 152, 153, 740, 741, 742, 743, 744, 763, 764, 765, 766, 767, 768, 769, 770, 771, 794, 795, 796, 797, 798, 799, 800, 801, 802, 772, 773] (by decide +kernel) (by decide +kernel)
set_option maxRecDepth 20000 in
theorem gL_law_X6_buyBack : GoodIn wsL_law (wsV RL 40 RX6 yX6_buyBack wsX6_buyBack) := goodIn_app (goodIn_of _ (by decide +kernel)) ggL_law_X6_buyBack
set_option maxRecDepth 20000 in
theorem ggL_law_X7_buyBack : GoodIn wsL_law wsX7_buyBack := goodIn_r _ [318, 158, 87, 319, 320, 321, 5, 322, 160, 161, 162, 163, 164, 165, 166, 167, 168, 88, 323, 324, 325, 326, 327, 328, 329, 330, 745, 746, 747, 748, 749, 750, 751, 752, 753, 754, 755, 756, 757, 758, 759, 760, 761, 762] (by decide +kernel) (by decide +kernel)
set_option maxRecDepth 20000 in
theorem gL_law_X7_buyBack : GoodIn wsL_law (wsV RL 43 RX7 yX7_buyBack wsX7_buyBack) := goodIn_app (goodIn_of _ (by decide +kernel)) ggL_law_X7_buyBack
set_option maxRecDepth 20000 in
theorem ggL_law_X6_meet : GoodIn wsL_law wsX6_meet := goodIn_r _ [334, 16, 15, 24, 98, 99, 100, 14, 101, 35, 39, 46, 47, 102, 103, 104, 105, 106, 107, 108, 109, 34, 110, 52, 53, 54, 55, 111, 112, 113, 114, 115, 38, 116, 59, 60, 117, 335, 336, 337, 338, 122, 339, 182, 305, 340, 341, 181, 342, 343, 344, 306, 307, 308, 309, 345, 346, 347, 23, 348, 349, 350, 351, 352, 353, 354, 355, 356, 357, 358, 359, 360, 361, 362, 73, 74, 75, 76, 363, 364, 222, 223, 224, 365, 366, 367, 368, 369, 370, 371, 372, 373, 2, 374, 375, 376, 377, 378, 379, 380, 381, 382, 383, 384, 385, 386, 70, 71, 225, 226, 227, 228, 310, 311, 312, 313, 314, 134, 135, 136, 137, 20, 138, 139, 140, 141, 142, 143, 123, 124, 144, 145, 146, 19, 147, 148, 66, 149, 150, 151, 152, 153, 740, 741, 742, 743, 744, 763, 764, 765, 766, 767, 768, 769, 770, 771, 794, 795, 796, 797, 798, 799, 800, 801, 802, 774, 775, 776, 777, 778, 779, 780, 781, 782, 783, 784, 785, 772, 773] (by decide +kernel) (by decide +kernel)
set_option maxRecDepth 20000 in
theorem gL_law_X6_meet : GoodIn wsL_law (wsV RL 44 RX6 yX6_meet wsX6_meet) := goodIn_app (goodIn_of _ (by decide +kernel)) ggL_law_X6_meet
set_option maxRecDepth 20000 in
theorem ggL_law_X7_meet : GoodIn wsL_law wsX7_meet := goodIn_r _ [390, 158, 87, 391, 195, 392, 91, 92, 319, 320, 321, 5, 322, 323, 324, 325, 326, 393, 394, 395, 396, 204, 237, 238, 239, 240, 205, 206, 207, 208, 397, 398, 399, 400, 401, 402, 403, 404, 405, 406, 407, 408, 409, 410, 411, 412, 413, 414, 415, 163, 164, 165, 166, 167, 168, 88, 416, 417, 418, 419, 209, 210, 211, 212, 200, 201, 202, 203, 327, 328, 329, 330, 745, 746, 747, 748, 749, 750, 751, 752, 753, 754, 755, 756, 757, 758, 759, 760, 761, 762] (by decide +kernel) (by decide +kernel)
set_option maxRecDepth 20000 in
theorem gL_law_X7_meet : GoodIn wsL_law (wsV RL 47 RX7 yX7_meet wsX7_meet) := goodIn_app (goodIn_of _ (by decide +kernel)) ggL_law_X7_meet
set_option maxRecDepth 20000 in
theorem ggL_law_X6_pass : GoodIn wsL_law wsX6_pass := goodIn_r _ [423, 16, 15, 98, 99, 100, 14, 101, 35, 39, 46, 47, 102, 103, 104, 105, 106, 107, 108, 109, 34, 110, 52, 53, 54, 55, 111, 112, 113, 114, 115, 38, 116, 59, 60, 117, 424, 425, 426, 427, 122, 183, 123, 2, 124, 428, 429, 430, 431, 134, 135, 136, 137, 20, 138, 139, 140, 141, 142, 143, 144, 145, 146, 19, 147, 148, 66, 149, 150, 151, 152, 153, 740, 741, 742, 743, 744, 763, 764, 765, 766, 767, 768, 769, 770, 771, 794, 795, 796, 797, 798, 799, 800, 801, 802, 772, 773] (by decide +kernel) (by decide +kernel)
set_option maxRecDepth 20000 in
theorem gL_law_X6_pass : GoodIn wsL_law (wsV RL 48 RX6 yX6_pass wsX6_pass) := goodIn_app (goodIn_of _ (by decide +kernel)) ggL_law_X6_pass
set_option maxRecDepth 20000 in
theorem ggL_law_X7_pass : GoodIn wsL_law wsX7_pass := goodIn_r _ [435, 158, 87, 159, 160, 161, 5, 162, 163, 164, 165, 166, 167, 168, 88, 436, 437, 438, 439, 412, 413, 414, 415, 327, 328, 329, 330, 745, 746, 747, 748, 749, 750, 751, 752, 753, 754, 755, 756, 757, 758, 759, 760, 761, 762] (by decide +kernel) (by decide +kernel)
set_option maxRecDepth 20000 in
theorem gL_law_X7_pass : GoodIn wsL_law (wsV RL 51 RX7 yX7_pass wsX7_pass) := goodIn_app (goodIn_of _ (by decide +kernel)) ggL_law_X7_pass
set_option maxRecDepth 20000 in
theorem ggL_law_X6_set : GoodIn wsL_law wsX6_set := goodIn_r _ [443, 16, 15, 98, 99, 100, 14, 101, 35, 39, 46, 47, 102, 103, 104, 105, 106, 107, 108, 109, 34, 110, 52, 53, 54, 55, 111, 112, 113, 114, 115, 38, 116, 59, 60, 117, 444, 445, 446, 447, 122, 448, 182, 123, 2, 124, 134, 135, 136, 137, 20, 138, 139, 140, 141, 142, 143, 144, 145, 146, 19, 147, 148, 66, 149, 150, 151, 152, 153, 740, 741, 742, 743, 744, 763, 764, 765, 766, 767, 768, 769, 770, 771, 794, 795, 796, 797, 798, 799, 800, 801, 802, 772, 773] (by decide +kernel) (by decide +kernel)
set_option maxRecDepth 20000 in
theorem gL_law_X6_set : GoodIn wsL_law (wsV RL 52 RX6 yX6_set wsX6_set) := goodIn_app (goodIn_of _ (by decide +kernel)) ggL_law_X6_set
set_option maxRecDepth 20000 in
theorem ggL_law_X7_set : GoodIn wsL_law wsX7_set := goodIn_r _ [452, 158, 87, 195, 160, 161, 5, 162, 163, 164, 165, 166, 167, 168, 88, 745, 746, 747, 748, 749, 750, 751, 752, 753, 754, 755, 756, 757, 758, 759, 760, 761, 762] (by decide +kernel) (by decide +kernel)
set_option maxRecDepth 20000 in
theorem gL_law_X7_set : GoodIn wsL_law (wsV RL 55 RX7 yX7_set wsX7_set) := goodIn_app (goodIn_of _ (by decide +kernel)) ggL_law_X7_set
set_option maxRecDepth 20000 in
theorem ggL_law_X6_lotOf : GoodIn wsL_law wsX6_lotOf := goodIn_r _ [456, 15, 457, 142, 458, 187, 188, 34, 189, 111, 52, 459, 460, 461, 14, 462, 35, 181, 184, 185, 102, 46, 122, 221, 222, 223, 224, 54, 55, 373, 2, 374, 463, 366, 367, 368, 740, 741, 742, 743, 744, 763, 764, 765, 766, 767, 768, 769, 770, 771, 794, 795, 796, 797, 798, 799] (by decide +kernel) (by decide +kernel)
set_option maxRecDepth 20000 in
theorem gL_law_X6_lotOf : GoodIn wsL_law (wsV RL 56 RX6 yX6_lotOf wsX6_lotOf) := goodIn_app (goodIn_of _ (by decide +kernel)) ggL_law_X6_lotOf
set_option maxRecDepth 20000 in
theorem ggL_law_X7_lotOf : GoodIn wsL_law wsX7_lotOf := goodIn_r _ [467, 158, 87, 196, 197, 198, 5, 199, 200, 201, 202, 203, 204, 205, 206, 207, 208, 160, 161, 162, 233, 234, 235, 236, 237, 238, 239, 240, 409, 410, 411, 405, 406, 407, 408, 745, 746, 747, 748, 749, 750, 751, 752, 753, 754, 755, 756, 757, 758, 759, 760, 761, 762] (by decide +kernel) (by decide +kernel)
set_option maxRecDepth 20000 in
theorem gL_law_X7_lotOf : GoodIn wsL_law (wsV RL 59 RX7 yX7_lotOf wsX7_lotOf) := goodIn_app (goodIn_of _ (by decide +kernel)) ggL_law_X7_lotOf
set_option maxRecDepth 20000 in
theorem ggL_law_X6_numberOf : GoodIn wsL_law wsX6_numberOf := goodIn_r _ [471, 142, 15, 457, 472, 473, 141, 740, 741, 742, 743, 744, 763, 764, 765, 766, 767, 768, 769, 770, 771, 794, 795, 796, 797, 798, 799] (by decide +kernel) (by decide +kernel)
set_option maxRecDepth 20000 in
theorem gL_law_X6_numberOf : GoodIn wsL_law (wsV RL 60 RX6 yX6_numberOf wsX6_numberOf) := goodIn_app (goodIn_of _ (by decide +kernel)) ggL_law_X6_numberOf
