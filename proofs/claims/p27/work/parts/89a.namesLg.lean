set_option maxRecDepth 20000 in
theorem ggL_paid_L_cup : GoodIn wsL_paid wsL_cup := goodIn_r _ [4] (by decide +kernel) (by decide +kernel)
set_option maxRecDepth 20000 in
theorem gL_paid_L_cup : GoodIn wsL_paid (va_wsS RL 9 yL_cup wsL_cup) := goodIn_app (goodIn_of _ (by decide +kernel)) ggL_paid_L_cup
set_option maxRecDepth 20000 in
theorem ggL_gain_L_paid : GoodIn wsL_gain wsL_paid := goodIn_r _ [4, 5, 6, 3, 7] (by decide +kernel) (by decide +kernel)
set_option maxRecDepth 20000 in
theorem gL_gain_L_paid : GoodIn wsL_gain (va_wsS RL 15 yL_paid wsL_paid) := goodIn_app (goodIn_of _ (by decide +kernel)) ggL_gain_L_paid
set_option maxRecDepth 20000 in
theorem ggL_gain_L_cup : GoodIn wsL_gain wsL_cup := goodIn_r _ [7] (by decide +kernel) (by decide +kernel)
set_option maxRecDepth 20000 in
theorem gL_gain_L_cup : GoodIn wsL_gain (va_wsS RL 9 yL_cup wsL_cup) := goodIn_app (goodIn_of _ (by decide +kernel)) ggL_gain_L_cup
set_option maxRecDepth 20000 in
theorem ggL_gain_L_band : GoodIn wsL_gain wsL_band := goodIn_r _ [10] (by decide +kernel) (by decide +kernel)
set_option maxRecDepth 20000 in
theorem gL_gain_L_band : GoodIn wsL_gain (va_wsS RL 19 yL_band wsL_band) := goodIn_app (goodIn_of _ (by decide +kernel)) ggL_gain_L_band
set_option maxRecDepth 20000 in
theorem ggL_takes_L_find : GoodIn wsL_takes wsL_find := goodIn_r _ [4] (by decide +kernel) (by decide +kernel)
set_option maxRecDepth 20000 in
theorem gL_takes_L_find : GoodIn wsL_takes (va_wsS RL 23 yL_find wsL_find) := goodIn_app (goodIn_of _ (by decide +kernel)) ggL_takes_L_find
set_option maxRecDepth 20000 in
theorem ggL_gives_L_gain : GoodIn wsL_gives wsL_gain := goodIn_r _ [5, 6, 7, 4, 8, 9, 10, 11, 12, 13, 14] (by decide +kernel) (by decide +kernel)
set_option maxRecDepth 20000 in
theorem gL_gives_L_gain : GoodIn wsL_gives (va_wsS RL 28 yL_gain wsL_gain) := goodIn_app (goodIn_of _ (by decide +kernel)) ggL_gives_L_gain
set_option maxRecDepth 20000 in
theorem ggL_gives_L_cup : GoodIn wsL_gives wsL_cup := goodIn_r _ [11] (by decide +kernel) (by decide +kernel)
set_option maxRecDepth 20000 in
theorem gL_gives_L_cup : GoodIn wsL_gives (va_wsS RL 9 yL_cup wsL_cup) := goodIn_app (goodIn_of _ (by decide +kernel)) ggL_gives_L_cup
set_option maxRecDepth 20000 in
theorem ggL_paidAll_L_find : GoodIn wsL_paidAll wsL_find := goodIn_r _ [4] (by decide +kernel) (by decide +kernel)
set_option maxRecDepth 20000 in
theorem gL_paidAll_L_find : GoodIn wsL_paidAll (va_wsS RL 23 yL_find wsL_find) := goodIn_app (goodIn_of _ (by decide +kernel)) ggL_paidAll_L_find
set_option maxRecDepth 20000 in
theorem ggL_paidAll_L_gain : GoodIn wsL_paidAll wsL_gain := goodIn_r _ [7, 8, 9, 3, 10, 11, 12, 13, 14, 15, 16] (by decide +kernel) (by decide +kernel)
set_option maxRecDepth 20000 in
theorem gL_paidAll_L_gain : GoodIn wsL_paidAll (va_wsS RL 28 yL_gain wsL_gain) := goodIn_app (goodIn_of _ (by decide +kernel)) ggL_paidAll_L_gain
set_option maxRecDepth 20000 in
theorem ggL_paidAll_L_paid : GoodIn wsL_paidAll wsL_paid := goodIn_r _ [10, 11, 12, 3, 13] (by decide +kernel) (by decide +kernel)
set_option maxRecDepth 20000 in
theorem gL_paidAll_L_paid : GoodIn wsL_paidAll (va_wsS RL 15 yL_paid wsL_paid) := goodIn_app (goodIn_of _ (by decide +kernel)) ggL_paidAll_L_paid
set_option maxRecDepth 20000 in
theorem ggL_lots_X6_lot : GoodIn wsL_lots wsX6_lot := goodIn_r _ [8, 9, 10, 11, 12, 13, 14, 15, 16, 17, 18, 19, 20, 21, 22, 23, 24, 25, 26, 27, 28, 29, 30, 31, 32, 33, 34, 35, 36, 37, 38, 39, 40, 41, 42, 43, 44, 45, 46, 47, 48, 49, 7, 50, 51, 52, 53, 54, 55, 56, 57, 58, 59, 60, 61, 62, 63, 64, 65, 66, 67, 68, 69, 70, 71, 72, 73, 74, 75, 76, 77, 78, 79, 80, 81, 82, 138, 139, 140, 141, 142, 143, 144, 145, 146, 147, 148, 149, 150, 151, 152, 153, 154, 155, 156, 157, 158, 159, 160, 161, 162] (by decide +kernel) (by decide +kernel)
set_option maxRecDepth 20000 in
theorem gL_lots_X6_lot : GoodIn wsL_lots (wsV RL 31 RX6 yX6_lot wsX6_lot) := goodIn_app (goodIn_of _ (by decide +kernel)) ggL_lots_X6_lot
set_option maxRecDepth 20000 in
theorem ggL_lots_L_makes : GoodIn wsL_lots wsL_makes := goodIn_r _ [86] (by decide +kernel) (by decide +kernel)
set_option maxRecDepth 20000 in
theorem gL_lots_L_makes : GoodIn wsL_lots (va_wsS RL 38 yL_makes wsL_makes) := goodIn_app (goodIn_of _ (by decide +kernel)) ggL_lots_L_makes
set_option maxRecDepth 20000 in
theorem ggL_lots_X6_part : GoodIn wsL_lots wsX6_part := goodIn_r _ [90, 9, 10, 11, 12, 13, 14, 15, 16, 17, 18, 19, 20, 21, 22, 23, 24, 25, 26, 27, 28, 29, 30, 31, 32, 33, 34, 35, 36, 37, 38, 39, 40, 41, 42, 43, 91, 92, 93, 94, 48, 95, 96, 97, 98, 99, 100, 101, 102, 103, 104, 57, 58, 59, 51, 52, 53, 54, 55, 56, 60, 61, 62, 7, 63, 64, 65, 66, 67, 68, 69, 70, 49, 50, 71, 72, 73, 74, 75, 76, 77, 78, 79, 80, 81, 82, 138, 139, 140, 141, 142, 143, 144, 145, 146, 147, 148, 149, 150, 151, 152, 153, 154, 155, 156, 157, 158, 159, 160, 161, 162] (by decide +kernel) (by decide +kernel)
set_option maxRecDepth 20000 in
theorem gL_lots_X6_part : GoodIn wsL_lots (wsV RL 41 RX6 yX6_part wsX6_part) := goodIn_app (goodIn_of _ (by decide +kernel)) ggL_lots_X6_part
set_option maxRecDepth 20000 in
theorem ggL_lots_X6_cup : GoodIn wsL_lots wsX6_cup := goodIn_r _ [108, 9, 10, 11, 12, 13, 14, 15, 16, 17, 18, 19, 20, 21, 22, 23, 24, 25, 26, 27, 28, 29, 30, 31, 32, 33, 34, 35, 36, 37, 38, 39, 40, 41, 42, 43, 109, 110, 111, 112, 48, 95, 96, 98, 99, 100, 101, 102, 103, 113, 114, 115, 116, 60, 61, 62, 7, 63, 64, 65, 66, 67, 68, 69, 70, 49, 50, 71, 72, 73, 74, 75, 76, 77, 78, 79, 80, 81, 82, 138, 139, 140, 141, 142, 143, 144, 145, 146, 147, 148, 149, 150, 151, 152, 153, 154, 155, 156, 157, 158, 159, 160, 161, 162] (by decide +kernel) (by decide +kernel)
set_option maxRecDepth 20000 in
theorem gL_lots_X6_cup : GoodIn wsL_lots (wsV RL 45 RX6 yX6_cup wsX6_cup) := goodIn_app (goodIn_of _ (by decide +kernel)) ggL_lots_X6_cup
set_option maxRecDepth 20000 in
theorem ggL_lots_X6_blend : GoodIn wsL_lots wsX6_blend := goodIn_r _ [120, 9, 10, 11, 12, 13, 14, 15, 16, 17, 18, 19, 20, 21, 22, 23, 24, 25, 26, 27, 28, 29, 30, 31, 32, 33, 34, 35, 36, 37, 38, 39, 40, 41, 42, 43, 121, 122, 123, 124, 48, 95, 96, 97, 100, 101, 102, 103, 104, 57, 58, 59, 113, 114, 115, 116, 125, 126, 127, 128, 51, 52, 53, 54, 55, 56, 60, 61, 62, 7, 63, 64, 65, 66, 67, 68, 69, 70, 49, 50, 71, 72, 73, 74, 75, 76, 77, 78, 79, 80, 81, 82, 138, 139, 140, 141, 142, 143, 144, 145, 146, 147, 148, 149, 150, 151, 152, 153, 154, 155, 156, 157, 158, 159, 160, 161, 162] (by decide +kernel) (by decide +kernel)
set_option maxRecDepth 20000 in
theorem gL_lots_X6_blend : GoodIn wsL_lots (wsV RL 47 RX6 yX6_blend wsX6_blend) := goodIn_app (goodIn_of _ (by decide +kernel)) ggL_lots_X6_blend
set_option maxRecDepth 20000 in
theorem ggL_lots_L_takes : GoodIn wsL_lots wsL_takes := goodIn_r _ [131, 132, 133, 85, 134] (by decide +kernel) (by decide +kernel)
set_option maxRecDepth 20000 in
theorem gL_lots_L_takes : GoodIn wsL_lots (va_wsS RL 52 yL_takes wsL_takes) := goodIn_app (goodIn_of _ (by decide +kernel)) ggL_lots_L_takes
set_option maxRecDepth 20000 in
theorem ggL_lots_L_cup : GoodIn wsL_lots wsL_cup := goodIn_r _ [137] (by decide +kernel) (by decide +kernel)
set_option maxRecDepth 20000 in
theorem gL_lots_L_cup : GoodIn wsL_lots (va_wsS RL 9 yL_cup wsL_cup) := goodIn_app (goodIn_of _ (by decide +kernel)) ggL_lots_L_cup
set_option maxRecDepth 20000 in
theorem ggL_acts_L_low : GoodIn wsL_acts wsL_low := goodIn_r _ [9, 10] (by decide +kernel) (by decide +kernel)
set_option maxRecDepth 20000 in
theorem gL_acts_L_low : GoodIn wsL_acts (va_wsS RL 57 yL_low wsL_low) := goodIn_app (goodIn_of _ (by decide +kernel)) ggL_acts_L_low
set_option maxRecDepth 20000 in
theorem ggL_acts_L_lots : GoodIn wsL_acts wsL_lots := goodIn_r _ [13, 4, 2, 3, 14, 15, 16, 17, 18, 19, 20, 21, 22, 23, 24, 25, 26, 27, 28, 29, 30, 31, 32, 33, 34, 35, 36, 37, 38, 39, 40, 41, 42, 43, 44, 45, 46, 47, 48, 49, 50, 51, 52, 53, 54, 55, 56, 57, 58, 59, 60, 61, 62, 63, 64, 65, 66, 67, 68, 69, 70, 71, 72, 73, 74, 75, 76, 77, 78, 79, 80, 81, 82, 83, 84, 85, 86, 87, 88, 89, 90, 91, 92, 93, 94, 8, 95, 96, 97, 98, 99, 100, 101, 102, 103, 104, 105, 106, 107, 108, 109, 110, 111, 112, 113, 114, 115, 116, 117, 118, 119, 120, 121, 122, 123, 124, 125, 126, 127, 128, 129, 130, 131, 132, 133, 134, 135, 136, 137, 138, 139, 140, 141, 142, 143, 144, 145, 146, 298, 299, 300, 301, 302, 303, 304, 305, 306, 307, 308, 309, 310, 311, 312, 313, 314, 315, 316, 317, 318, 319, 320, 321, 322] (by decide +kernel) (by decide +kernel)
set_option maxRecDepth 20000 in
theorem gL_acts_L_lots : GoodIn wsL_acts (va_wsS RL 60 yL_lots wsL_lots) := goodIn_app (goodIn_of _ (by decide +kernel)) ggL_acts_L_lots
set_option maxRecDepth 20000 in
theorem ggL_acts_X6_sell : GoodIn wsL_acts wsX6_sell := goodIn_r _ [150, 19, 20, 21, 22, 23, 24, 25, 26, 27, 28, 29, 30, 31, 32, 33, 34, 35, 36, 37, 38, 39, 40, 41, 42, 43, 44, 45, 46, 47, 48, 49, 50, 51, 52, 53, 151, 152, 153, 154, 58, 105, 59, 17, 60, 155, 156, 157, 158, 159, 160, 161, 162, 163, 164, 165, 166, 167, 70, 71, 72, 73, 74, 75, 76, 77, 78, 79, 80, 81, 82, 83, 84, 85, 86, 87, 88, 89, 90, 91, 92, 298, 299, 300, 301, 302, 303, 304, 305, 306, 307, 308, 309, 310, 311, 312, 313, 314, 315, 316, 317, 318, 319, 320, 321, 322] (by decide +kernel) (by decide +kernel)
set_option maxRecDepth 20000 in
theorem gL_acts_X6_sell : GoodIn wsL_acts (wsV RL 64 RX6 yX6_sell wsX6_sell) := goodIn_app (goodIn_of _ (by decide +kernel)) ggL_acts_X6_sell
set_option maxRecDepth 20000 in
theorem ggL_acts_X6_meet : GoodIn wsL_acts wsX6_meet := goodIn_r _ [171, 19, 20, 172, 21, 22, 23, 24, 25, 26, 27, 28, 29, 30, 31, 32, 33, 34, 35, 36, 37, 38, 39, 40, 41, 42, 43, 44, 45, 46, 47, 48, 49, 50, 51, 52, 53, 173, 174, 175, 176, 58, 177, 105, 178, 179, 180, 104, 181, 182, 183, 184, 185, 186, 187, 188, 189, 190, 191, 192, 193, 194, 195, 196, 197, 198, 199, 200, 201, 202, 203, 204, 205, 206, 207, 208, 209, 210, 211, 212, 123, 124, 125, 213, 214, 215, 216, 217, 218, 219, 220, 221, 17, 222, 223, 224, 225, 226, 227, 228, 229, 230, 231, 232, 233, 234, 235, 236, 134, 135, 136, 137, 237, 238, 239, 240, 241, 70, 71, 72, 73, 74, 75, 76, 77, 78, 79, 80, 59, 60, 81, 82, 83, 84, 85, 86, 87, 88, 89, 90, 91, 92, 298, 299, 300, 301, 302, 303, 304, 305, 306, 307, 308, 309, 310, 311, 312, 313, 314, 315, 316, 317, 318, 319, 320, 323, 324, 325, 326, 327, 328, 329, 330, 331, 332, 333, 334, 321, 322] (by decide +kernel) (by decide +kernel)
set_option maxRecDepth 20000 in
theorem gL_acts_X6_meet : GoodIn wsL_acts (wsV RL 67 RX6 yX6_meet wsX6_meet) := goodIn_app (goodIn_of _ (by decide +kernel)) ggL_acts_X6_meet
