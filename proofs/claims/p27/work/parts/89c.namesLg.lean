set_option maxRecDepth 20000 in
theorem ggL_isSo_L_cup : GoodIn wsL_isSo wsL_cup := goodIn_r _ [6] (by decide +kernel) (by decide +kernel)
set_option maxRecDepth 20000 in
theorem gL_isSo_L_cup : GoodIn wsL_isSo (va_wsS RL 9 yL_cup wsL_cup) := goodIn_app (goodIn_of _ (by decide +kernel)) ggL_isSo_L_cup
set_option maxRecDepth 20000 in
theorem ggL_isSo_X6_numberOf : GoodIn wsL_isSo wsX6_numberOf := goodIn_r _ [11, 12, 13, 14, 15, 16, 17, 104, 105, 106, 107, 108, 109, 110, 111, 112, 113, 114, 115, 116, 117, 118, 119, 120, 121, 122, 123] (by decide +kernel) (by decide +kernel)
set_option maxRecDepth 20000 in
theorem gL_isSo_X6_numberOf : GoodIn wsL_isSo (wsV RL 94 RX6 yX6_numberOf wsX6_numberOf) := goodIn_app (goodIn_of _ (by decide +kernel)) ggL_isSo_X6_numberOf
set_option maxRecDepth 20000 in
theorem ggL_isSo_X6_lotOf : GoodIn wsL_isSo wsX6_lotOf := goodIn_r _ [21, 13, 14, 12, 22, 23, 24, 25, 26, 27, 28, 29, 30, 31, 32, 33, 34, 35, 36, 37, 38, 39, 40, 41, 42, 43, 44, 45, 46, 47, 10, 48, 49, 50, 51, 52, 104, 105, 106, 107, 108, 109, 110, 111, 112, 113, 114, 115, 116, 117, 118, 119, 120, 121, 122, 123] (by decide +kernel) (by decide +kernel)
set_option maxRecDepth 20000 in
theorem gL_isSo_X6_lotOf : GoodIn wsL_isSo (wsV RL 97 RX6 yX6_lotOf wsX6_lotOf) := goodIn_app (goodIn_of _ (by decide +kernel)) ggL_isSo_X6_lotOf
set_option maxRecDepth 20000 in
theorem ggL_isSo_L_band : GoodIn wsL_isSo wsL_band := goodIn_r _ [55] (by decide +kernel) (by decide +kernel)
set_option maxRecDepth 20000 in
theorem gL_isSo_L_band : GoodIn wsL_isSo (va_wsS RL 19 yL_band wsL_band) := goodIn_app (goodIn_of _ (by decide +kernel)) ggL_isSo_L_band
set_option maxRecDepth 20000 in
theorem ggL_isSo_X6_count : GoodIn wsL_isSo wsX6_count := goodIn_r _ [59, 13, 60, 61, 62, 63, 64, 65, 66, 10, 67, 68, 69, 70, 32, 71, 34, 72, 38, 73, 74, 75, 76, 77, 78, 79, 40, 80, 81, 82, 25, 83, 27, 84, 85, 86, 87, 88, 89, 42, 43, 44, 45, 46, 104, 105, 106, 107, 108, 109, 110, 111, 112, 113, 114, 115, 116, 117, 124, 125, 126, 127, 128, 129, 130, 131, 132, 133, 118, 119, 120, 121, 122, 123, 134, 135, 136] (by decide +kernel) (by decide +kernel)
set_option maxRecDepth 20000 in
theorem gL_isSo_X6_count : GoodIn wsL_isSo (wsV RL 100 RX6 yX6_count wsX6_count) := goodIn_app (goodIn_of _ (by decide +kernel)) ggL_isSo_X6_count
set_option maxRecDepth 20000 in
theorem ggL_isSo_X6_contractOf : GoodIn wsL_isSo wsX6_contractOf := goodIn_r _ [93, 13, 94, 12, 95, 96, 97, 98, 99, 100, 101, 102, 103, 104, 105, 106, 107, 108, 109, 110, 111, 112, 113, 114, 115, 116, 117, 134, 135, 136] (by decide +kernel) (by decide +kernel)
set_option maxRecDepth 20000 in
theorem gL_isSo_X6_contractOf : GoodIn wsL_isSo (wsV RL 103 RX6 yX6_contractOf wsX6_contractOf) := goodIn_app (goodIn_of _ (by decide +kernel)) ggL_isSo_X6_contractOf
