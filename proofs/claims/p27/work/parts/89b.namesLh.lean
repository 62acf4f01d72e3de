set_option maxRecDepth 20000 in
theorem ggL_acts_X6_buyBack : GoodIn wsL_acts wsX6_buyBack := goodIn_r _ [245, 19, 20, 21, 22, 23, 24, 25, 26, 27, 28, 29, 30, 31, 32, 33, 34, 35, 36, 37, 38, 39, 40, 41, 42, 43, 44, 45, 46, 47, 48, 49, 50, 51, 52, 53, 246, 247, 248, 249, 58, 178, 184, 185, 186, 187, 59, 17, 60, 237, 238, 239, 240, 241, 70, 71, 72, 73, 74, 75, 76, 77, 78, 79, 80, 81, 82, 83, 84, 85, 86, 87, 88, 89, 90, 91, 92, 298, 299, 300, 301, 302, 303, 304, 305, 306, 307, 308, 309, 310, 311, 312, 313, 314, 315, 316, 317, 318, 319, 320, 321, 322] (by decide +kernel) (by decide +kernel)
set_option maxRecDepth 20000 in
theorem gL_acts_X6_buyBack : GoodIn wsL_acts (wsV RL 70 RX6 yX6_buyBack wsX6_buyBack) := goodIn_app (goodIn_of _ (by decide +kernel)) ggL_acts_X6_buyBack
set_option maxRecDepth 20000 in
theorem ggL_acts_L_close : GoodIn wsL_acts wsL_close := goodIn_r _ [252] (by decide +kernel) (by decide +kernel)
set_option maxRecDepth 20000 in
theorem gL_acts_L_close : GoodIn wsL_acts (va_wsS RL 73 yL_close wsL_close) := goodIn_app (goodIn_of _ (by decide +kernel)) ggL_acts_L_close
set_option maxRecDepth 20000 in
theorem ggL_acts_L_gives : GoodIn wsL_acts wsL_gives := goodIn_r _ [255, 256, 257, 258, 8, 259, 260, 261, 262, 144, 145, 146, 263, 264, 265] (by decide +kernel) (by decide +kernel)
set_option maxRecDepth 20000 in
theorem gL_acts_L_gives : GoodIn wsL_acts (va_wsS RL 77 yL_gives wsL_gives) := goodIn_app (goodIn_of _ (by decide +kernel)) ggL_acts_L_gives
set_option maxRecDepth 20000 in
theorem ggL_acts_L_paidAll : GoodIn wsL_acts wsL_paidAll := goodIn_r _ [268, 141, 142, 8, 143, 257, 258, 259, 260, 261, 262, 144, 145, 146, 263, 264, 265] (by decide +kernel) (by decide +kernel)
set_option maxRecDepth 20000 in
theorem gL_acts_L_paidAll : GoodIn wsL_acts (va_wsS RL 81 yL_paidAll wsL_paidAll) := goodIn_app (goodIn_of _ (by decide +kernel)) ggL_acts_L_paidAll
set_option maxRecDepth 20000 in
theorem ggL_acts_L_takes : GoodIn wsL_acts wsL_takes := goodIn_r _ [140, 141, 142, 8, 143] (by decide +kernel) (by decide +kernel)
set_option maxRecDepth 20000 in
theorem gL_acts_L_takes : GoodIn wsL_acts (va_wsS RL 52 yL_takes wsL_takes) := goodIn_app (goodIn_of _ (by decide +kernel)) ggL_acts_L_takes
set_option maxRecDepth 20000 in
theorem ggL_acts_X6_pass : GoodIn wsL_acts wsX6_pass := goodIn_r _ [272, 19, 20, 21, 22, 23, 24, 25, 26, 27, 28, 29, 30, 31, 32, 33, 34, 35, 36, 37, 38, 39, 40, 41, 42, 43, 44, 45, 46, 47, 48, 49, 50, 51, 52, 53, 273, 274, 275, 276, 58, 106, 59, 17, 60, 277, 278, 279, 280, 70, 71, 72, 73, 74, 75, 76, 77, 78, 79, 80, 81, 82, 83, 84, 85, 86, 87, 88, 89, 90, 91, 92, 298, 299, 300, 301, 302, 303, 304, 305, 306, 307, 308, 309, 310, 311, 312, 313, 314, 315, 316, 317, 318, 319, 320, 321, 322] (by decide +kernel) (by decide +kernel)
set_option maxRecDepth 20000 in
theorem gL_acts_X6_pass : GoodIn wsL_acts (wsV RL 85 RX6 yX6_pass wsX6_pass) := goodIn_app (goodIn_of _ (by decide +kernel)) ggL_acts_X6_pass
set_option maxRecDepth 20000 in
theorem ggL_acts_X6_worth : GoodIn wsL_acts wsX6_worth := goodIn_r _ [284, 19, 20, 21, 22, 23, 24, 25, 26, 27, 28, 29, 30, 31, 32, 33, 34, 35, 36, 37, 38, 39, 40, 41, 42, 43, 44, 45, 46, 47, 48, 49, 50, 51, 52, 53, 285, 286, 287, 288, 58, 59, 17, 60, 70, 71, 72, 73, 74, 75, 76, 77, 78, 79, 80, 81, 82, 83, 84, 85, 86, 87, 88, 89, 90, 91, 92, 298, 299, 300, 301, 302, 303, 304, 305, 306, 307, 308, 309, 310, 311, 312, 313, 314, 315, 316, 317, 318, 319, 320, 321, 322] (by decide +kernel) (by decide +kernel)
set_option maxRecDepth 20000 in
theorem gL_acts_X6_worth : GoodIn wsL_acts (wsV RL 88 RX6 yX6_worth wsX6_worth) := goodIn_app (goodIn_of _ (by decide +kernel)) ggL_acts_X6_worth
set_option maxRecDepth 20000 in
theorem ggL_acts_X6_set : GoodIn wsL_acts wsX6_set := goodIn_r _ [292, 19, 20, 21, 22, 23, 24, 25, 26, 27, 28, 29, 30, 31, 32, 33, 34, 35, 36, 37, 38, 39, 40, 41, 42, 43, 44, 45, 46, 47, 48, 49, 50, 51, 52, 53, 293, 294, 295, 296, 58, 297, 105, 59, 17, 60, 70, 71, 72, 73, 74, 75, 76, 77, 78, 79, 80, 81, 82, 83, 84, 85, 86, 87, 88, 89, 90, 91, 92, 298, 299, 300, 301, 302, 303, 304, 305, 306, 307, 308, 309, 310, 311, 312, 313, 314, 315, 316, 317, 318, 319, 320, 321, 322] (by decide +kernel) (by decide +kernel)
set_option maxRecDepth 20000 in
theorem gL_acts_X6_set : GoodIn wsL_acts (wsV RL 91 RX6 yX6_set wsX6_set) := goodIn_app (goodIn_of _ (by decide +kernel)) ggL_acts_X6_set
set_option maxRecDepth 20000 in
theorem ggL_isSo_L_cup : GoodIn wsL_isSo wsL_cup := goodIn_r _ [6] (by decide +kernel) (by decide +kernel)
set_option maxRecDepth 20000 in
theorem gL_isSo_L_cup : GoodIn wsL_isSo (va_wsS RL 9 yL_cup wsL_cup) := goodIn_app (goodIn_of _ (by decide +kernel)) ggL_isSo_L_cup
set_option maxRecDepth 20000 in
theorem ggL_isSo_X6_numberOf : GoodIn wsL_isSo wsX6_numberOf := goodIn_r _ [11, 12, 13, 14, 15, 16, 17, 104, 105, 106, 107, 108, 109, 110, 111, 112, 113, 114, 115, 116, 117, 118, 119, 120, 121, 122, 123] (by decide +kernel) (by decide +kernel)
set_option maxRecDepth 20000 in
theorem gL_isSo_X6_numberOf : GoodIn wsL_isSo (wsV RL 94 RX6 yX6_numberOf wsX6_numberOf) := goodIn_app (goodIn_of _ (by decide +kernel)) ggL_isSo_X6_numberOf
set_option maxRecDepth 20000 in
theorem ggL_isSo_X6_lotOf : GoodIn wsL_isSo wsX6_lotOf := goodIn_r _ [21, 13, 14, 12, 22, 23, 24, 25, 26, 27, 28, 29, 30, 31, 32, 33, 34, 35, 36, 37, 38, 39, 40, 41, 42, 43, 44, 45, 46, 47, 10, 48, 49, 50, 51, 52, 104, 105, 106, 107, 108, 109, 110, 111, 112, 113, 114, 115, 116, 117, 118, 119, 120, 121, 122, 123] (by decide +kernel) (by decide +kernel)
set_option maxRecDepth 20000 in
theorem gL_isSo_X6_lotOf : GoodIn wsL_isSo (wsV RL 97 RX6 yX6_lotOf wsX6_lotOf) := goodIn_app (goodIn_of _ (by decide +kernel)) ggL_isSo_X6_lotOf
set_option maxRecDepth 20000 in
theorem ggL_isSo_L_band : GoodIn wsL_isSo wsL_band := goodIn_r _ [55] (by decide +kernel) (by decide +kernel)
set_option maxRecDepth 20000 in
theorem gL_isSo_L_band : GoodIn wsL_isSo (va_wsS RL 19 yL_band wsL_band) := goodIn_app (goodIn_of _ (by decide +kernel)) ggL_isSo_L_band
set_option maxRecDepth 20000 in
theorem ggL_isSo_X6_count : GoodIn wsL_isSo wsX6_count := goodIn_r _ [59, 13, 60, 61, 62, 63, 64, 65, 66, 10, 67, 68, 69, 70, 32, 71, 34, 72, 38, 73, 74, 75, 76, 77, 78, 79, 40, 80, 81, 82, 25, 83, 27, 84, 85, 86, 87, 88, 89, 42, 43, 44, 45, 46, 104, 105, 106, 107, 108, 109, 110, 111, 112, 113, 114, 115, 116, 117, 124, 125, 126, 127, 128, 129, 130, 131, 132, 133, 118, 119, 120, 121, 122, 123, 134, 135, 136] (by decide +kernel) (by decide +kernel)
set_option maxRecDepth 20000 in
theorem gL_isSo_X6_count : GoodIn wsL_isSo (wsV RL 100 RX6 yX6_count wsX6_count) := goodIn_app (goodIn_of _ (by decide +kernel)) ggL_isSo_X6_count
set_option maxRecDepth 20000 in
theorem ggL_isSo_X6_contractOf : GoodIn wsL_isSo wsX6_contractOf := goodIn_r _ [93, 13, 94, 12, 95, 96, 97, 98, 99, 100, 101, 102, 103, 104, 105, 106, 107, 108, 109, 110, 111, 112, 113, 114, 115, 116, 117, 134, 135, 136] (by decide +kernel) (by decide +kernel)
set_option maxRecDepth 20000 in
theorem gL_isSo_X6_contractOf : GoodIn wsL_isSo (wsV RL 103 RX6 yX6_contractOf wsX6_contractOf) := goodIn_app (goodIn_of _ (by decide +kernel)) ggL_isSo_X6_contractOf
set_option maxRecDepth 20000 in
theorem ggL_law_X6_init : GoodIn wsL_law wsX6_init := goodIn_r _ [8, 9, 10, 11, 12, 13, 14, 15, 16, 17, 18, 19, 20, 21, 22, 23, 24, 25, 26, 27, 28, 29, 30, 31, 32, 33, 34, 35, 36, 37, 38, 39, 40, 41, 42, 43, 44, 45, 46, 47, 48, 49, 50, 3, 51, 52, 53, 54, 55, 56, 57, 58, 59, 60, 61, 62, 63, 64, 65, 66, 67, 68, 69, 70, 71, 72, 73, 74, 75, 76, 77, 78, 79, 80, 81, 413, 414, 415, 416, 417, 418, 419, 420, 421, 408, 409, 410, 411, 412, 422, 423, 424, 425, 426, 427, 428, 429, 430, 431, 432, 433, 434, 435, 436, 437, 438, 439, 440, 441, 442, 443, 444, 445, 446, 447, 448, 449, 450, 451, 452] (by decide +kernel) (by decide +kernel)
set_option maxRecDepth 20000 in
theorem gL_law_X6_init : GoodIn wsL_law (wsX6_init) := ggL_law_X6_init
set_option maxRecDepth 20000 in
theorem ggL_law_L_isSo : GoodIn wsL_law wsL_isSo := goodIn_r _ [85, 5, 86, 87, 88, 84, 89, 90, 91, 92, 2, 93, 94, 15, 95, 96, 97, 98, 99, 100, 101, 102, 103, 104, 105, 34, 106, 107, 51, 108, 109, 110, 14, 111, 35, 112, 113, 114, 115, 46, 116, 117, 118, 119, 120, 53, 54, 121, 122, 123, 124, 125, 126, 127, 128, 129, 130, 131, 132, 133, 134, 20, 135, 28, 136, 137, 138, 139, 140, 141, 142, 143, 144, 39, 145, 146, 147, 148, 149, 150, 151, 152, 153, 154, 52, 155, 156, 157, 158, 159, 160, 161, 162, 163, 164, 165, 166, 167, 168, 169, 170, 38, 171, 172, 408, 409, 410, 411, 412, 413, 414, 415, 416, 417, 418, 419, 420, 421, 444, 445, 446, 447, 448, 449, 422, 423, 436, 437, 438, 439, 440, 441, 442, 443, 450, 451, 452] (by decide +kernel) (by decide +kernel)
set_option maxRecDepth 20000 in
theorem gL_law_L_isSo : GoodIn wsL_law (va_wsS RL 108 yL_isSo wsL_isSo) := goodIn_app (goodIn_of _ (by decide +kernel)) ggL_law_L_isSo
set_option maxRecDepth 20000 in
theorem ggL_law_L_cell : GoodIn wsL_law wsL_cell := goodIn_r _ [175, 176] (by decide +kernel) (by decide +kernel)
set_option maxRecDepth 20000 in
theorem gL_law_L_cell : GoodIn wsL_law (va_wsS RL 112 yL_cell wsL_cell) := goodIn_app (goodIn_of _ (by decide +kernel)) ggL_law_L_cell
set_option maxRecDepth 20000 in
theorem ggL_law_L_acts : GoodIn wsL_law wsL_acts := goodIn_r _ [179, 180, 5, 181, 182, 3, 183, 184, 84, 185, 4, 186, 187, 188, 189, 190, 191, 2, 192, 16, 15, 193, 194, 195, 14, 196, 35, 39, 46, 47, 115, 146, 147, 148, 149, 197, 198, 199, 34, 200, 51, 52, 53, 54, 107, 201, 202, 203, 204, 38, 205, 58, 59, 172, 206, 207, 208, 209, 116, 138, 139, 210, 211, 212, 213, 214, 215, 216, 217, 218, 219, 220, 221, 222, 20, 223, 224, 225, 98, 94, 137, 226, 227, 228, 19, 229, 230, 65, 231, 232, 233, 234, 235, 236, 237, 238, 239, 240, 241, 242, 243, 244, 245, 246, 112, 247, 248, 113, 114, 249, 104, 105, 106, 250, 251, 252, 253, 254, 255, 256, 257, 258, 117, 118, 119, 120, 259, 260, 261, 262, 263, 264, 265, 266, 267, 268, 269, 270, 271, 272, 273, 274, 275, 276, 87, 88, 89, 277, 278, 279, 280, 281, 282, 283, 284, 285, 286, 287, 288, 289, 290, 291, 292, 293, 294, 295, 296, 297, 298, 299, 300, 301, 24, 302, 303, 304, 305, 306, 307, 308, 309, 310, 311, 312, 313, 169, 170, 171, 314, 315, 316, 23, 317, 318, 319, 320, 321, 322, 323, 324, 325, 326, 327, 328, 329, 330, 331, 72, 73, 74, 75, 332, 333, 334, 124, 125, 126, 335, 336, 337, 338, 121, 122, 339, 340, 341, 342, 343, 344, 345, 346, 347, 348, 349, 350, 69, 70, 351, 352, 353, 354, 355, 356, 357, 358, 359, 360, 361, 362, 363, 364, 365, 366, 367, 368, 369, 370, 371, 372, 373, 374, 375, 376, 127, 128, 129, 377, 378, 379, 380, 381, 382, 383, 384, 385, 386, 387, 388, 389, 390, 391, 392, 393, 394, 395, 396, 397, 398, 399, 400, 401, 402, 403, 404, 405, 406, 407, 145, 408, 409, 410, 411, 412, 413, 414, 415, 416, 417, 418, 419, 420, 421, 444, 445, 446, 447, 448, 449, 450, 451, 452, 422, 423, 424, 425, 426, 427, 428, 429, 430, 431, 432, 433, 434, 435] (by decide +kernel) (by decide +kernel)
set_option maxRecDepth 20000 in
theorem gL_law_L_acts : GoodIn wsL_law (va_wsS RL 116 yL_acts wsL_acts) := goodIn_app (goodIn_of _ (by decide +kernel)) ggL_law_L_acts
set_option maxRecDepth 20000 in
theorem ggL_law_L_low : GoodIn wsL_law wsL_low := goodIn_r _ [185, 4] (by decide +kernel) (by decide +kernel)
set_option maxRecDepth 20000 in
theorem gL_law_L_low : GoodIn wsL_law (va_wsS RL 57 yL_low wsL_low) := goodIn_app (goodIn_of _ (by decide +kernel)) ggL_law_L_low
set_option maxRecDepth 20000 in
theorem ggL_law_X6_count : GoodIn wsL_law wsX6_count := goodIn_r _ [133, 15, 134, 20, 135, 28, 136, 137, 138, 2, 139, 140, 141, 142, 14, 143, 35, 144, 115, 39, 145, 146, 147, 148, 149, 150, 116, 151, 152, 153, 34, 154, 107, 52, 155, 156, 157, 158, 159, 118, 119, 120, 53, 54, 408, 409, 410, 411, 412, 413, 414, 415, 416, 417, 418, 419, 420, 421, 422, 423, 436, 437, 438, 439, 440, 441, 442, 443, 444, 445, 446, 447, 448, 449, 450, 451, 452] (by decide +kernel) (by decide +kernel)
set_option maxRecDepth 20000 in
theorem gL_law_X6_count : GoodIn wsL_law (wsV RL 100 RX6 yX6_count wsX6_count) := goodIn_app (goodIn_of _ (by decide +kernel)) ggL_law_X6_count
set_option maxRecDepth 20000 in
theorem ggL_law_X6_contractOf : GoodIn wsL_law wsX6_contractOf := goodIn_r _ [163, 15, 164, 94, 165, 166, 167, 168, 169, 170, 38, 171, 172, 408, 409, 410, 411, 412, 413, 414, 415, 416, 417, 418, 419, 420, 421, 450, 451, 452] (by decide +kernel) (by decide +kernel)
set_option maxRecDepth 20000 in
theorem gL_law_X6_contractOf : GoodIn wsL_law (wsV RL 103 RX6 yX6_contractOf wsX6_contractOf) := goodIn_app (goodIn_of _ (by decide +kernel)) ggL_law_X6_contractOf
