set_option maxRecDepth 20000 in
theorem ggL_acts_L_low : GoodIn wsL_acts wsL_low := goodIn_r _ [9, 10] (by decide +kernel) (by decide +kernel)
set_option maxRecDepth 20000 in
theorem gL_acts_L_low : GoodIn wsL_acts (va_wsS RL 57 yL_low wsL_low) := goodIn_app (goodIn_of _ (by decide +kernel)) ggL_acts_L_low
set_option maxRecDepth 100000 in
theorem ggL_acts_L_lots_h : GoodIn wsL_acts [Cond.code yL_lots cL_lots 13 (some .boolean)] := goodIn_x _ 13 rfl (by decide +kernel)
set_option maxRecDepth 100000 in
theorem ggL_acts_L_lots_r1 : GoodIn wsL_acts wsL_lots_r1 := goodIn_r _ [4, 2, 3, 14, 15, 16, 17, 18, 19, 20, 21, 22, 23, 24, 25, 26, 27, 28, 29, 30, 31, 32, 33, 34] (by decide +kernel) (by decide +kernel)
set_option maxRecDepth 100000 in
theorem ggL_acts_L_lots_r2 : GoodIn wsL_acts wsL_lots_r2 := goodIn_r _ [35, 36, 37, 38, 39, 40, 41, 42, 43, 44, 45, 46, 47, 48, 49, 50, 51, 52, 53, 54, 55, 56, 57, 58] (by decide +kernel) (by decide +kernel)
set_option maxRecDepth 100000 in
theorem ggL_acts_L_lots_r3 : GoodIn wsL_acts wsL_lots_r3 := goodIn_r _ [59, 60, 61, 62, 63, 64, 65, 66, 67, 68, 69, 70, 71, 72, 73, 74, 75, 76, 77, 78, 79, 80, 81, 82] (by decide +kernel) (by decide +kernel)
set_option maxRecDepth 100000 in
theorem ggL_acts_L_lots_r4 : GoodIn wsL_acts wsL_lots_r4 := goodIn_r _ [83, 84, 85, 86, 87, 88, 89, 90, 91, 92, 93, 94, 8, 95, 96, 97, 98, 99, 100, 101, 102, 103, 104, 105] (by decide +kernel) (by decide +kernel)
set_option maxRecDepth 100000 in
theorem ggL_acts_L_lots_r5 : GoodIn wsL_acts wsL_lots_r5 := goodIn_r _ [106, 107, 108, 109, 110, 111, 112, 113, 114, 115, 116, 117, 118, 119, 120, 121, 122, 123, 124, 125, 126, 127, 128, 129] (by decide +kernel) (by decide +kernel)
set_option maxRecDepth 100000 in
theorem ggL_acts_L_lots_r6 : GoodIn wsL_acts wsL_lots_r6 := goodIn_r _ [130, 131, 132, 133, 134, 135, 136, 137, 138, 139, 140, 141, 142, 143, 144, 145, 146] (by decide +kernel) (by decide +kernel)
set_option maxRecDepth 100000 in
theorem ggL_acts_L_lots_wsX60 : GoodIn wsL_acts wsX60 := goodIn_r _ [298, 299, 300, 301, 302] (by decide +kernel) (by decide +kernel)
set_option maxRecDepth 100000 in
theorem ggL_acts_L_lots_wsX30 : GoodIn wsL_acts wsX30 := goodIn_r _ [303, 304, 305, 306, 307, 308, 309, 310, 311] (by decide +kernel) (by decide +kernel)
set_option maxRecDepth 100000 in
theorem ggL_acts_L_lots_wsX40 : GoodIn wsL_acts wsX40 := goodIn_r _ [312, 313, 314, 315, 316, 317] (by decide +kernel) (by decide +kernel)
set_option maxRecDepth 100000 in
theorem ggL_acts_L_lots_wsX00 : GoodIn wsL_acts wsX00 := goodIn_r _ [318, 319, 320] (by decide +kernel) (by decide +kernel)
set_option maxRecDepth 100000 in
theorem ggL_acts_L_lots_wsX20 : GoodIn wsL_acts wsX20 := goodIn_r _ [321, 322] (by decide +kernel) (by decide +kernel)
set_option maxRecDepth 100000 in
theorem ggL_acts_L_lots : GoodIn wsL_acts wsL_lots := goodIn_y ggL_acts_L_lots_h (goodIn_app (goodIn_app (goodIn_app (goodIn_app (goodIn_app (goodIn_app ggL_acts_L_lots_r1 (goodIn_app ggL_acts_L_lots_r2 (goodIn_app ggL_acts_L_lots_r3 (goodIn_app ggL_acts_L_lots_r4 (goodIn_app ggL_acts_L_lots_r5 (ggL_acts_L_lots_r6)))))) ggL_acts_L_lots_wsX60) ggL_acts_L_lots_wsX30) ggL_acts_L_lots_wsX40) ggL_acts_L_lots_wsX00) ggL_acts_L_lots_wsX20)
set_option maxRecDepth 20000 in
theorem gL_acts_L_lots : GoodIn wsL_acts (va_wsS RL 60 yL_lots wsL_lots) := goodIn_app (goodIn_of _ (by decide +kernel)) ggL_acts_L_lots
set_option maxRecDepth 20000 in
theorem ggL_acts_X6_sell : GoodIn wsL_acts wsX6_sell := goodIn_r _ [150, 19, 20, 21, 22, 23, 24, 25, 26, 27, 28, 29, 30, 31, 32, 33, 34, 35, 36, 37, 38, 39, 40, 41, 42, 43, 44, 45, 46, 47, 48, 49, 50, 51, 52, 53, 151, 152, 153, 154, 58, 105, 59, 17, 60, 155, 156, 157, 158, 159, 160, 161, 162, 163, 164, 165, 166, 167, 70, 71, 72, 73, 74, 75, 76, 77, 78, 79, 80, 81, 82, 83, 84, 85, 86, 87, 88, 89, 90, 91, 92, 298, 299, 300, 301, 302, 303, 304, 305, 306, 307, 308, 309, 310, 311, 312, 313, 314, 315, 316, 317, 318, 319, 320, 321, 322] (by decide +kernel) (by decide +kernel)
set_option maxRecDepth 20000 in
theorem gL_acts_X6_sell : GoodIn wsL_acts (wsV RL 64 RX6 yX6_sell wsX6_sell) := goodIn_app (goodIn_of _ (by decide +kernel)) ggL_acts_X6_sell
set_option maxRecDepth 20000 in
theorem ggL_acts_X6_meet : GoodIn wsL_acts wsX6_meet := goodIn_r _ [171, 19, 20, 172, 21, 22, 23, 24, 25, 26, 27, 28, 29, 30, 31, 32, 33, 34, 35, 36, 37, 38, 39, 40, 41, 42, 43, 44, 45, 46, 47, 48, 49, 50, 51, 52, 53, 173, 174, 175, 176, 58, 177, 105, 178, 179, 180, 104, 181, 182, 183, 184, 185, 186, 187, 188, 189, 190, 191, 192, 193, 194, 195, 196, 197, 198, 199, 200, 201, 202, 203, 204, 205, 206, 207, 208, 209, 210, 211, 212, 123, 124, 125, 213, 214, 215, 216, 217, 218, 219, 220, 221, 17, 222, 223, 224, 225, 226, 227, 228, 229, 230, 231, 232, 233, 234, 235, 236, 134, 135, 136, 137, 237, 238, 239, 240, 241, 70, 71, 72, 73, 74, 75, 76, 77, 78, 79, 80, 59, 60, 81, 82, 83, 84, 85, 86, 87, 88, 89, 90, 91, 92, 298, 299, 300, 301, 302, 303, 304, 305, 306, 307, 308, 309, 310, 311, 312, 313, 314, 315, 316, 317, 318, 319, 320, 323, 324, 325, 326, 327, 328, 329, 330, 331, 332, 333, 334, 321, 322] (by decide +kernel) (by decide +kernel)
set_option maxRecDepth 20000 in
theorem gL_acts_X6_meet : GoodIn wsL_acts (wsV RL 67 RX6 yX6_meet wsX6_meet) := goodIn_app (goodIn_of _ (by decide +kernel)) ggL_acts_X6_meet
set_option maxRecDepth 20000 in
theorem ggL_acts_X6_buyBack : GoodIn wsL_acts wsX6_buyBack := goodIn_r _ [245, 19, 20, 21, 22, 23, 24, 25, 26, 27, 28, 29, 30, 31, 32, 33, 34, 35, 36, 37, 38, 39, 40, 41, 42, 43, 44, 45, 46, 47, 48, 49, 50, 51, 52, 53, 246, 247, 248, 249, 58, 178, 184, 185, 186, 187, 59, 17, 60, 237, 238, 239, 240, 241, 70, 71, 72, 73, 74, 75, 76, 77, 78, 79, 80, 81, 82, 83, 84, 85, 86, 87, 88, 89, 90, 91, 92, 298, 299, 300, 301, 302, 303, 304, 305, 306, 307, 308, 309, 310, 311, 312, 313, 314, 315, 316, 317, 318, 319, 320, 321, 322] (by decide +kernel) (by decide +kernel)
set_option maxRecDepth 20000 in
theorem gL_acts_X6_buyBack : GoodIn wsL_acts (wsV RL 70 RX6 yX6_buyBack wsX6_buyBack) := goodIn_app (goodIn_of _ (by decide +kernel)) ggL_acts_X6_buyBack
set_option maxRecDepth 20000 in
theorem ggL_acts_L_close : GoodIn wsL_acts wsL_close := goodIn_r _ [252] (by decide +kernel) (by decide +kernel)
set_option maxRecDepth 20000 in
theorem gL_acts_L_close : GoodIn wsL_acts (va_wsS RL 73 yL_close wsL_close) := goodIn_app (goodIn_of _ (by decide +kernel)) ggL_acts_L_close
set_option maxRecDepth 20000 in
theorem ggL_acts_L_gives : GoodIn wsL_acts wsL_gives := goodIn_r _ [255, 256, 257, 258, 8, 259, 260, 261, 262, 144, 145, 146, 263, 264, 265] (by decide +kernel) (by decide +kernel)
set_option maxRecDepth 20000 in
theorem gL_acts_L_gives : GoodIn wsL_acts (va_wsS RL 77 yL_gives wsL_gives) := goodIn_app (goodIn_of _ (by decide +kernel)) ggL_acts_L_gives
set_option maxRecDepth 20000 in
theorem ggL_acts_L_paidAll : GoodIn wsL_acts wsL_paidAll := goodIn_r _ [268, 141, 142, 8, 143, 257, 258, 259, 260, 261, 262, 144, 145, 146, 263, 264, 265] (by decide +kernel) (by decide +kernel)
set_option maxRecDepth 20000 in
theorem gL_acts_L_paidAll : GoodIn wsL_acts (va_wsS RL 81 yL_paidAll wsL_paidAll) := goodIn_app (goodIn_of _ (by decide +kernel)) ggL_acts_L_paidAll
set_option maxRecDepth 20000 in
theorem ggL_acts_L_takes : GoodIn wsL_acts wsL_takes := goodIn_r _ [140, 141, 142, 8, 143] (by decide +kernel) (by decide +kernel)
set_option maxRecDepth 20000 in
theorem gL_acts_L_takes : GoodIn wsL_acts (va_wsS RL 52 yL_takes wsL_takes) := goodIn_app (goodIn_of _ (by decide +kernel)) ggL_acts_L_takes
set_option maxRecDepth 20000 in
theorem ggL_acts_X6_pass : GoodIn wsL_acts wsX6_pass := goodIn_r _ [272, 19, 20, 21, 22, 23, 24, 25, 26, 27, 28, 29, 30, 31, 32, 33, 34, 35, 36, 37, 38, 39, 40, 41, 42, 43, 44, 45, 46, 47, 48, 49, 50, 51, 52, 53, 273, 274, 275, 276, 58, 106, 59, 17, 60, 277, 278, 279, 280, 70, 71, 72, 73, 74, 75, 76, 77, 78, 79, 80, 81, 82, 83, 84, 85, 86, 87, 88, 89, 90, 91, 92, 298, 299, 300, 301, 302, 303, 304, 305, 306, 307, 308, 309, 310, 311, 312, 313, 314, 315, 316, 317, 318, 319, 320, 321, 322] (by decide +kernel) (by decide +kernel)
set_option maxRecDepth 20000 in
theorem gL_acts_X6_pass : GoodIn wsL_acts (wsV RL 85 RX6 yX6_pass wsX6_pass) := goodIn_app (goodIn_of _ (by decide +kernel)) ggL_acts_X6_pass
set_option maxRecDepth 20000 in
theorem ggL_acts_X6_worth : GoodIn wsL_acts wsX6_worth := goodIn_r _ [284, 19, 20, 21, 22, 23, 24, 25, 26, 27, 28, 29, 30, 31, 32, 33, 34, 35, 36, 37, 38, 39, 40, 41, 42, 43, 44, 45, 46, 47, 48, 49, 50, 51, 52, 53, 285, 286, 287, 288, 58, 59, 17, 60, 70, 71, 72, 73, 74, 75, 76, 77, 78, 79, 80, 81, 82, 83, 84, 85, 86, 87, 88, 89, 90, 91, 92, 298, 299, 300, 301, 302, 303, 304, 305, 306, 307, 308, 309, 310, 311, 312, 313, 314, 315, 316, 317, 318, 319, 320, 321, 322] (by decide +kernel) (by decide +kernel)
set_option maxRecDepth 20000 in
theorem gL_acts_X6_worth : GoodIn wsL_acts (wsV RL 88 RX6 yX6_worth wsX6_worth) := goodIn_app (goodIn_of _ (by decide +kernel)) ggL_acts_X6_worth
set_option maxRecDepth 20000 in
theorem ggL_acts_X6_set : GoodIn wsL_acts wsX6_set := goodIn_r _ [292, 19, 20, 21, 22, 23, 24, 25, 26, 27, 28, 29, 30, 31, 32, 33, 34, 35, 36, 37, 38, 39, 40, 41, 42, 43, 44, 45, 46, 47, 48, 49, 50, 51, 52, 53, 293, 294, 295, 296, 58, 297, 105, 59, 17, 60, 70, 71, 72, 73, 74, 75, 76, 77, 78, 79, 80, 81, 82, 83, 84, 85, 86, 87, 88, 89, 90, 91, 92, 298, 299, 300, 301, 302, 303, 304, 305, 306, 307, 308, 309, 310, 311, 312, 313, 314, 315, 316, 317, 318, 319, 320, 321, 322] (by decide +kernel) (by decide +kernel)
set_option maxRecDepth 20000 in
theorem gL_acts_X6_set : GoodIn wsL_acts (wsV RL 91 RX6 yX6_set wsX6_set) := goodIn_app (goodIn_of _ (by decide +kernel)) ggL_acts_X6_set
