set_option maxRecDepth 20000 in
theorem ggL_law_X6_init : GoodIn wsL_law wsX6_init := goodIn_r _ [8, 9, 10, 11, 12, 13, 14, 15, 16, 17, 18, 19, 20, 21, 22, 23, 24, 25, 26, 27, 28, 29, 30, 31, 32, 33, 34, 35, 36, 37, 38, 39, 40, 41, 42, 43, 44, 45, 46, 47, 48, 49, 50, 3, 51, 52, 53, 54, 55, 56, 57, 58, 59, 60, 61, 62, 63, 64, 65, 66, 67, 68, 69, 70, 71, 72, 73, 74, 75, 76, 77, 78, 79, 80, 81, 413, 414, 415, 416, 417, 418, 419, 420, 421, 408, 409, 410, 411, 412, 422, 423, 424, 425, 426, 427, 428, 429, 430, 431, 432, 433, 434, 435, 436, 437, 438, 439, 440, 441, 442, 443, 444, 445, 446, 447, 448, 449, 450, 451, 452] (by decide +kernel) (by decide +kernel)
set_option maxRecDepth 20000 in
theorem gL_law_X6_init : GoodIn wsL_law (wsX6_init) := ggL_law_X6_init
set_option maxRecDepth 100000 in
theorem ggL_law_L_isSo_h : GoodIn wsL_law [Cond.code yL_isSo cL_isSo 11 (some .boolean)] := goodIn_x _ 85 rfl (by decide +kernel)
set_option maxRecDepth 100000 in
theorem ggL_law_L_isSo_r1 : GoodIn wsL_law wsL_isSo_r1 := goodIn_r _ [5, 86, 87, 88, 84, 89, 90, 91, 92, 2, 93, 94, 15, 95, 96, 97, 98, 99, 100, 101, 102, 103, 104, 105] (by decide +kernel) (by decide +kernel)
set_option maxRecDepth 100000 in
theorem ggL_law_L_isSo_r2 : GoodIn wsL_law wsL_isSo_r2 := goodIn_r _ [34, 106, 107, 51, 108, 109, 110, 14, 111, 35, 112, 113, 114, 115, 46, 116, 117, 118, 119, 120, 53, 54, 121, 122] (by decide +kernel) (by decide +kernel)
set_option maxRecDepth 100000 in
theorem ggL_law_L_isSo_r3 : GoodIn wsL_law wsL_isSo_r3 := goodIn_r _ [123, 124, 125, 126, 127, 128, 129, 130, 131, 132, 133, 134, 20, 135, 28, 136, 137, 138, 139, 140, 141, 142, 143, 144] (by decide +kernel) (by decide +kernel)
set_option maxRecDepth 100000 in
theorem ggL_law_L_isSo_r4 : GoodIn wsL_law wsL_isSo_r4 := goodIn_r _ [39, 145, 146, 147, 148, 149, 150, 151, 152, 153, 154, 52, 155, 156, 157, 158, 159, 160, 161, 162, 163, 164, 165, 166] (by decide +kernel) (by decide +kernel)
set_option maxRecDepth 100000 in
theorem ggL_law_L_isSo_r5 : GoodIn wsL_law wsL_isSo_r5 := goodIn_r _ [167, 168, 169, 170, 38, 171, 172] (by decide +kernel) (by decide +kernel)
set_option maxRecDepth 100000 in
theorem ggL_law_L_isSo_wsX60 : GoodIn wsL_law wsX60 := goodIn_r _ [408, 409, 410, 411, 412] (by decide +kernel) (by decide +kernel)
set_option maxRecDepth 100000 in
theorem ggL_law_L_isSo_wsX30 : GoodIn wsL_law wsX30 := goodIn_r _ [413, 414, 415, 416, 417, 418, 419, 420, 421] (by decide +kernel) (by decide +kernel)
set_option maxRecDepth 100000 in
theorem ggL_law_L_isSo_wsX40 : GoodIn wsL_law wsX40 := goodIn_r _ [444, 445, 446, 447, 448, 449] (by decide +kernel) (by decide +kernel)
set_option maxRecDepth 100000 in
theorem ggL_law_L_isSo_wsX20 : GoodIn wsL_law wsX20 := goodIn_r _ [422, 423] (by decide +kernel) (by decide +kernel)
set_option maxRecDepth 100000 in
theorem ggL_law_L_isSo_wsX50 : GoodIn wsL_law wsX50 := goodIn_r _ [436, 437, 438, 439, 440, 441, 442, 443] (by decide +kernel) (by decide +kernel)
set_option maxRecDepth 100000 in
theorem ggL_law_L_isSo_wsX00 : GoodIn wsL_law wsX00 := goodIn_r _ [450, 451, 452] (by decide +kernel) (by decide +kernel)
set_option maxRecDepth 100000 in
theorem ggL_law_L_isSo : GoodIn wsL_law wsL_isSo := goodIn_y ggL_law_L_isSo_h (goodIn_app (goodIn_app (goodIn_app (goodIn_app (goodIn_app (goodIn_app (goodIn_app ggL_law_L_isSo_r1 (goodIn_app ggL_law_L_isSo_r2 (goodIn_app ggL_law_L_isSo_r3 (goodIn_app ggL_law_L_isSo_r4 (ggL_law_L_isSo_r5))))) ggL_law_L_isSo_wsX60) ggL_law_L_isSo_wsX30) ggL_law_L_isSo_wsX40) ggL_law_L_isSo_wsX20) ggL_law_L_isSo_wsX50) ggL_law_L_isSo_wsX00)
set_option maxRecDepth 20000 in
theorem gL_law_L_isSo : GoodIn wsL_law (va_wsS RL 108 yL_isSo wsL_isSo) := goodIn_app (goodIn_of _ (by decide +kernel)) ggL_law_L_isSo
set_option maxRecDepth 20000 in
theorem ggL_law_L_cell : GoodIn wsL_law wsL_cell := goodIn_r _ [175, 176] (by decide +kernel) (by decide +kernel)
set_option maxRecDepth 20000 in
theorem gL_law_L_cell : GoodIn wsL_law (va_wsS RL 112 yL_cell wsL_cell) := goodIn_app (goodIn_of _ (by decide +kernel)) ggL_law_L_cell
set_option maxRecDepth 100000 in
theorem ggL_law_L_acts_h : GoodIn wsL_law [Cond.code yL_acts cL_acts 12 (some .boolean)] := goodIn_x _ 179 rfl (by decide +kernel)
set_option maxRecDepth 100000 in
theorem ggL_law_L_acts_r1_0 : GoodIn wsL_law ([Cond.constant RL 56 (10000000), Cond.constant RL 44 (-2000000001), Cond.constant RL 51 (-2000000002), Cond.constant RL 37 (-2000000003), Cond.arrayClass .int, Cond.methodLink RL 57 yL_low, Cond.static yL_low, Cond.initialized RL, Cond.code yL_low cL_low 2 (some .int), Cond.constant RL 8 (2147483647), Cond.methodLink RL 60 yL_lots, Cond.static yL_lots] : List Cond) := goodIn_r _ [180, 5, 181, 182, 3, 183, 184, 84, 185, 4, 186, 187] (by decide +kernel) (by decide +kernel)
set_option maxRecDepth 100000 in
theorem ggL_law_L_acts_r1_1 : GoodIn wsL_law ([Cond.code yL_lots cL_lots 13 (some .boolean)] : List Cond) := goodIn_x _ 188 rfl (by decide +kernel)
set_option maxRecDepth 100000 in
theorem ggL_law_L_acts_r1_2 : GoodIn wsL_law ([Cond.methodLink RL 31 yX6_lot, Cond.instanceMethod yX6_lot, Cond.selects RX6 yX6_lot yX6_lot, Cond.initialized RX6, Cond.code yX6_lot cX6_lot 3 (some .int), Cond.fieldLink RX6 16 "CupReceipts" "trial" "LCupReceipts$House;", Cond.fieldLink RX6 10 "CupReceipts" "house" "LCupReceipts$House;", Cond.methodLink RX6 40 yX3_copyFrom, Cond.instanceMethod yX3_copyFrom, Cond.selects RX3 yX3_copyFrom yX3_copyFrom, Cond.initialized RX3] : List Cond) := goodIn_r _ [189, 190, 191, 2, 192, 16, 15, 193, 194, 195, 14] (by decide +kernel) (by decide +kernel)
set_option maxRecDepth 100000 in
theorem ggL_law_L_acts_r1 : GoodIn wsL_law wsL_acts_r1 := goodIn_app ggL_law_L_acts_r1_0 (goodIn_app ggL_law_L_acts_r1_1 (ggL_law_L_acts_r1_2))
set_option maxRecDepth 100000 in
theorem ggL_law_L_acts_r2 : GoodIn wsL_law wsL_acts_r2 := goodIn_r _ [196, 35, 39, 46, 47, 115, 146, 147, 148, 149, 197, 198, 199, 34, 200, 51, 52, 53, 54, 107, 201, 202, 203, 204] (by decide +kernel) (by decide +kernel)
set_option maxRecDepth 100000 in
theorem ggL_law_L_acts_r3 : GoodIn wsL_law wsL_acts_r3 := goodIn_r _ [38, 205, 58, 59, 172, 206, 207, 208, 209, 116, 138, 139, 210, 211, 212, 213, 214, 215, 216, 217, 218, 219, 220, 221] (by decide +kernel) (by decide +kernel)
set_option maxRecDepth 100000 in
theorem ggL_law_L_acts_r4 : GoodIn wsL_law wsL_acts_r4 := goodIn_r _ [222, 20, 223, 224, 225, 98, 94, 137, 226, 227, 228, 19, 229, 230, 65, 231, 232, 233, 234, 235, 236, 237, 238, 239] (by decide +kernel) (by decide +kernel)
set_option maxRecDepth 100000 in
theorem ggL_law_L_acts_r5 : GoodIn wsL_law wsL_acts_r5 := goodIn_r _ [240, 241, 242, 243, 244, 245, 246, 112, 247, 248, 113, 114, 249, 104, 105, 106, 250, 251, 252, 253, 254, 255, 256, 257] (by decide +kernel) (by decide +kernel)
set_option maxRecDepth 100000 in
theorem ggL_law_L_acts_r6 : GoodIn wsL_law wsL_acts_r6 := goodIn_r _ [258, 117, 118, 119, 120, 259, 260, 261, 262, 263, 264, 265, 266, 267, 268, 269, 270, 271, 272, 273, 274, 275, 276, 87] (by decide +kernel) (by decide +kernel)
set_option maxRecDepth 100000 in
theorem ggL_law_L_acts_r7 : GoodIn wsL_law wsL_acts_r7 := goodIn_r _ [88, 89, 277, 278, 279, 280, 281, 282, 283, 284, 285, 286, 287, 288, 289, 290, 291, 292, 293, 294, 295, 296, 297, 298] (by decide +kernel) (by decide +kernel)
set_option maxRecDepth 100000 in
theorem ggL_law_L_acts_r8 : GoodIn wsL_law wsL_acts_r8 := goodIn_r _ [299, 300, 301, 24, 302, 303, 304, 305, 306, 307, 308, 309, 310, 311, 312, 313, 169, 170, 171, 314, 315, 316, 23, 317] (by decide +kernel) (by decide +kernel)
set_option maxRecDepth 100000 in
theorem ggL_law_L_acts_r9 : GoodIn wsL_law wsL_acts_r9 := goodIn_r _ [318, 319, 320, 321, 322, 323, 324, 325, 326, 327, 328, 329, 330, 331, 72, 73, 74, 75, 332, 333, 334, 124, 125, 126] (by decide +kernel) (by decide +kernel)
set_option maxRecDepth 100000 in
theorem ggL_law_L_acts_r10 : GoodIn wsL_law wsL_acts_r10 := goodIn_r _ [335, 336, 337, 338, 121, 122, 339, 340, 341, 342, 343, 344, 345, 346, 347, 348, 349, 350, 69, 70, 351, 352, 353, 354] (by decide +kernel) (by decide +kernel)
set_option maxRecDepth 100000 in
theorem ggL_law_L_acts_r11 : GoodIn wsL_law wsL_acts_r11 := goodIn_r _ [355, 356, 357, 358, 359, 360, 361, 362, 363, 364, 365, 366, 367, 368, 369, 370, 371, 372, 373, 374, 375, 376, 127, 128] (by decide +kernel) (by decide +kernel)
set_option maxRecDepth 100000 in
theorem ggL_law_L_acts_r12 : GoodIn wsL_law wsL_acts_r12 := goodIn_r _ [129, 377, 378, 379, 380, 381, 382, 383, 384, 385, 386, 387, 388, 389, 390, 391, 392, 393, 394, 395, 396, 397, 398, 399] (by decide +kernel) (by decide +kernel)
set_option maxRecDepth 100000 in
theorem ggL_law_L_acts_r13 : GoodIn wsL_law wsL_acts_r13 := goodIn_r _ [400, 401, 402, 403, 404, 405, 406, 407, 145] (by decide +kernel) (by decide +kernel)
set_option maxRecDepth 100000 in
theorem ggL_law_L_acts_wsX60 : GoodIn wsL_law wsX60 := goodIn_r _ [408, 409, 410, 411, 412] (by decide +kernel) (by decide +kernel)
set_option maxRecDepth 100000 in
theorem ggL_law_L_acts_wsX30 : GoodIn wsL_law wsX30 := goodIn_r _ [413, 414, 415, 416, 417, 418, 419, 420, 421] (by decide +kernel) (by decide +kernel)
set_option maxRecDepth 100000 in
theorem ggL_law_L_acts_wsX40 : GoodIn wsL_law wsX40 := goodIn_r _ [444, 445, 446, 447, 448, 449] (by decide +kernel) (by decide +kernel)
set_option maxRecDepth 100000 in
theorem ggL_law_L_acts_wsX00 : GoodIn wsL_law wsX00 := goodIn_r _ [450, 451, 452] (by decide +kernel) (by decide +kernel)
set_option maxRecDepth 100000 in
theorem ggL_law_L_acts_wsX20 : GoodIn wsL_law wsX20 := goodIn_r _ [422, 423] (by decide +kernel) (by decide +kernel)
set_option maxRecDepth 100000 in
theorem ggL_law_L_acts_wsX10 : GoodIn wsL_law wsX10 := goodIn_r _ [424, 425, 426, 427, 428, 429, 430, 431, 432, 433, 434, 435] (by decide +kernel) (by decide +kernel)
set_option maxRecDepth 100000 in
theorem ggL_law_L_acts : GoodIn wsL_law wsL_acts := goodIn_y ggL_law_L_acts_h (goodIn_app (goodIn_app (goodIn_app (goodIn_app (goodIn_app (goodIn_app (goodIn_app ggL_law_L_acts_r1 (goodIn_app ggL_law_L_acts_r2 (goodIn_app ggL_law_L_acts_r3 (goodIn_app ggL_law_L_acts_r4 (goodIn_app ggL_law_L_acts_r5 (goodIn_app ggL_law_L_acts_r6 (goodIn_app ggL_law_L_acts_r7 (goodIn_app ggL_law_L_acts_r8 (goodIn_app ggL_law_L_acts_r9 (goodIn_app ggL_law_L_acts_r10 (goodIn_app ggL_law_L_acts_r11 (goodIn_app ggL_law_L_acts_r12 (ggL_law_L_acts_r13))))))))))))) ggL_law_L_acts_wsX60) ggL_law_L_acts_wsX30) ggL_law_L_acts_wsX40) ggL_law_L_acts_wsX00) ggL_law_L_acts_wsX20) ggL_law_L_acts_wsX10)
set_option maxRecDepth 20000 in
theorem gL_law_L_acts : GoodIn wsL_law (va_wsS RL 116 yL_acts wsL_acts) := goodIn_app (goodIn_of _ (by decide +kernel)) ggL_law_L_acts
set_option maxRecDepth 20000 in
theorem ggL_law_L_low : GoodIn wsL_law wsL_low := goodIn_r _ [185, 4] (by decide +kernel) (by decide +kernel)
set_option maxRecDepth 20000 in
theorem gL_law_L_low : GoodIn wsL_law (va_wsS RL 57 yL_low wsL_low) := goodIn_app (goodIn_of _ (by decide +kernel)) ggL_law_L_low
set_option maxRecDepth 20000 in
theorem ggL_law_X6_count : GoodIn wsL_law wsX6_count := goodIn_r _ [133, 15, 134, 20, 135, 28, 136, 137, 138, 2, 139, 140, 141, 142, 14, 143, 35, 144, 115, 39, 145, 146, 147, 148, 149, 150, 116, 151, 152, 153, 34, 154, 107, 52, 155, 156, 157, 158, 159, 118, 119, 120, 53, 54, 408, 409, 410, 411, 412, 413, 414, 415, 416, 417, 418, 419, 420, 421, 422, 423, 436, 437, 438, 439, 440, 441, 442, 443, 444, 445, 446, 447, 448, 449, 450, 451, 452] (by decide +kernel) (by decide +kernel)
set_option maxRecDepth 20000 in
theorem gL_law_X6_count : GoodIn wsL_law (wsV RL 100 RX6 yX6_count wsX6_count) := goodIn_app (goodIn_of _ (by decide +kernel)) ggL_law_X6_count
set_option maxRecDepth 20000 in
theorem ggL_law_X6_contractOf : GoodIn wsL_law wsX6_contractOf := goodIn_r _ [163, 15, 164, 94, 165, 166, 167, 168, 169, 170, 38, 171, 172, 408, 409, 410, 411, 412, 413, 414, 415, 416, 417, 418, 419, 420, 421, 450, 451, 452] (by decide +kernel) (by decide +kernel)
set_option maxRecDepth 20000 in
theorem gL_law_X6_contractOf : GoodIn wsL_law (wsV RL 103 RX6 yX6_contractOf wsX6_contractOf) := goodIn_app (goodIn_of _ (by decide +kernel)) ggL_law_X6_contractOf
