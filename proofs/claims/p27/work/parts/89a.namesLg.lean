theorem goodIn_x {big : List Cond} (w : Cond) (i : Nat) (h : big[i]? = some w) (hg : goodWord w = true) : GoodIn big [w] := fun v hv => by
  rw [List.mem_singleton] at hv
  subst hv
  exact ⟨List.mem_of_getElem? h, good_of_word hg⟩
theorem goodIn_y {big : List Cond} {w : Cond} {ws : List Cond} (h : GoodIn big [w]) (hs : GoodIn big ws) : GoodIn big (w :: ws) := fun v hv => (List.mem_cons.mp hv).elim (fun e => h v (List.mem_singleton.mpr e)) (hs v)
set_option maxRecDepth 20000 in
theorem ggL_paid_L_cup : GoodIn wsL_paid wsL_cup := goodIn_r _ [4] (by decide +kernel) (by decide +kernel)
set_option maxRecDepth 20000 in
theorem gL_paid_L_cup : GoodIn wsL_paid (va_wsS RL 9 yL_cup wsL_cup) := goodIn_app (goodIn_of _ (by decide +kernel)) ggL_paid_L_cup
set_option maxRecDepth 20000 in
theorem ggL_gain_L_paid : GoodIn wsL_gain wsL_paid := goodIn_r _ [4, 5, 6, 3, 7] (by decide +kernel) (by decide +kernel)
set_option maxRecDepth 20000 in
theorem gL_gain_L_paid : GoodIn wsL_gain (va_wsS RL 15 yL_paid wsL_paid) := goodIn_app (goodIn_of _ (by decide +kernel)) ggL_gain_L_paid
set_option maxRecDepth 20000 in
theorem ggL_gain_L_cup : GoodIn wsL_gain wsL_cup := goodIn_r _ [7] (by decide +kernel) (by decide +kernel)
set_option maxRecDepth 20000 in
theorem gL_gain_L_cup : GoodIn wsL_gain (va_wsS RL 9 yL_cup wsL_cup) := goodIn_app (goodIn_of _ (by decide +kernel)) ggL_gain_L_cup
set_option maxRecDepth 20000 in
theorem ggL_gain_L_band : GoodIn wsL_gain wsL_band := goodIn_r _ [10] (by decide +kernel) (by decide +kernel)
set_option maxRecDepth 20000 in
theorem gL_gain_L_band : GoodIn wsL_gain (va_wsS RL 19 yL_band wsL_band) := goodIn_app (goodIn_of _ (by decide +kernel)) ggL_gain_L_band
set_option maxRecDepth 20000 in
theorem ggL_takes_L_find : GoodIn wsL_takes wsL_find := goodIn_r _ [4] (by decide +kernel) (by decide +kernel)
set_option maxRecDepth 20000 in
theorem gL_takes_L_find : GoodIn wsL_takes (va_wsS RL 23 yL_find wsL_find) := goodIn_app (goodIn_of _ (by decide +kernel)) ggL_takes_L_find
set_option maxRecDepth 20000 in
theorem ggL_gives_L_gain : GoodIn wsL_gives wsL_gain := goodIn_r _ [5, 6, 7, 4, 8, 9, 10, 11, 12, 13, 14] (by decide +kernel) (by decide +kernel)
set_option maxRecDepth 20000 in
theorem gL_gives_L_gain : GoodIn wsL_gives (va_wsS RL 28 yL_gain wsL_gain) := goodIn_app (goodIn_of _ (by decide +kernel)) ggL_gives_L_gain
set_option maxRecDepth 20000 in
theorem ggL_gives_L_cup : GoodIn wsL_gives wsL_cup := goodIn_r _ [11] (by decide +kernel) (by decide +kernel)
set_option maxRecDepth 20000 in
theorem gL_gives_L_cup : GoodIn wsL_gives (va_wsS RL 9 yL_cup wsL_cup) := goodIn_app (goodIn_of _ (by decide +kernel)) ggL_gives_L_cup
set_option maxRecDepth 20000 in
theorem ggL_paidAll_L_find : GoodIn wsL_paidAll wsL_find := goodIn_r _ [4] (by decide +kernel) (by decide +kernel)
set_option maxRecDepth 20000 in
theorem gL_paidAll_L_find : GoodIn wsL_paidAll (va_wsS RL 23 yL_find wsL_find) := goodIn_app (goodIn_of _ (by decide +kernel)) ggL_paidAll_L_find
set_option maxRecDepth 20000 in
theorem ggL_paidAll_L_gain : GoodIn wsL_paidAll wsL_gain := goodIn_r _ [7, 8, 9, 3, 10, 11, 12, 13, 14, 15, 16] (by decide +kernel) (by decide +kernel)
set_option maxRecDepth 20000 in
theorem gL_paidAll_L_gain : GoodIn wsL_paidAll (va_wsS RL 28 yL_gain wsL_gain) := goodIn_app (goodIn_of _ (by decide +kernel)) ggL_paidAll_L_gain
set_option maxRecDepth 20000 in
theorem ggL_paidAll_L_paid : GoodIn wsL_paidAll wsL_paid := goodIn_r _ [10, 11, 12, 3, 13] (by decide +kernel) (by decide +kernel)
set_option maxRecDepth 20000 in
theorem gL_paidAll_L_paid : GoodIn wsL_paidAll (va_wsS RL 15 yL_paid wsL_paid) := goodIn_app (goodIn_of _ (by decide +kernel)) ggL_paidAll_L_paid
set_option maxRecDepth 20000 in
theorem ggL_lots_X6_lot : GoodIn wsL_lots wsX6_lot := goodIn_r _ [8, 9, 10, 11, 12, 13, 14, 15, 16, 17, 18, 19, 20, 21, 22, 23, 24, 25, 26, 27, 28, 29, 30, 31, 32, 33, 34, 35, 36, 37, 38, 39, 40, 41, 42, 43, 44, 45, 46, 47, 48, 49, 7, 50, 51, 52, 53, 54, 55, 56, 57, 58, 59, 60, 61, 62, 63, 64, 65, 66, 67, 68, 69, 70, 71, 72, 73, 74, 75, 76, 77, 78, 79, 80, 81, 82, 138, 139, 140, 141, 142, 143, 144, 145, 146, 147, 148, 149, 150, 151, 152, 153, 154, 155, 156, 157, 158, 159, 160, 161, 162] (by decide +kernel) (by decide +kernel)
set_option maxRecDepth 20000 in
theorem gL_lots_X6_lot : GoodIn wsL_lots (wsV RL 31 RX6 yX6_lot wsX6_lot) := goodIn_app (goodIn_of _ (by decide +kernel)) ggL_lots_X6_lot
set_option maxRecDepth 20000 in
theorem ggL_lots_L_makes : GoodIn wsL_lots wsL_makes := goodIn_r _ [86] (by decide +kernel) (by decide +kernel)
set_option maxRecDepth 20000 in
theorem gL_lots_L_makes : GoodIn wsL_lots (va_wsS RL 38 yL_makes wsL_makes) := goodIn_app (goodIn_of _ (by decide +kernel)) ggL_lots_L_makes
set_option maxRecDepth 20000 in
theorem ggL_lots_X6_part : GoodIn wsL_lots wsX6_part := goodIn_r _ [90, 9, 10, 11, 12, 13, 14, 15, 16, 17, 18, 19, 20, 21, 22, 23, 24, 25, 26, 27, 28, 29, 30, 31, 32, 33, 34, 35, 36, 37, 38, 39, 40, 41, 42, 43, 91, 92, 93, 94, 48, 95, 96, 97, 98, 99, 100, 101, 102, 103, 104, 57, 58, 59, 51, 52, 53, 54, 55, 56, 60, 61, 62, 7, 63, 64, 65, 66, 67, 68, 69, 70, 49, 50, 71, 72, 73, 74, 75, 76, 77, 78, 79, 80, 81, 82, 138, 139, 140, 141, 142, 143, 144, 145, 146, 147, 148, 149, 150, 151, 152, 153, 154, 155, 156, 157, 158, 159, 160, 161, 162] (by decide +kernel) (by decide +kernel)
set_option maxRecDepth 20000 in
theorem gL_lots_X6_part : GoodIn wsL_lots (wsV RL 41 RX6 yX6_part wsX6_part) := goodIn_app (goodIn_of _ (by decide +kernel)) ggL_lots_X6_part
set_option maxRecDepth 20000 in
theorem ggL_lots_X6_cup : GoodIn wsL_lots wsX6_cup := goodIn_r _ [108, 9, 10, 11, 12, 13, 14, 15, 16, 17, 18, 19, 20, 21, 22, 23, 24, 25, 26, 27, 28, 29, 30, 31, 32, 33, 34, 35, 36, 37, 38, 39, 40, 41, 42, 43, 109, 110, 111, 112, 48, 95, 96, 98, 99, 100, 101, 102, 103, 113, 114, 115, 116, 60, 61, 62, 7, 63, 64, 65, 66, 67, 68, 69, 70, 49, 50, 71, 72, 73, 74, 75, 76, 77, 78, 79, 80, 81, 82, 138, 139, 140, 141, 142, 143, 144, 145, 146, 147, 148, 149, 150, 151, 152, 153, 154, 155, 156, 157, 158, 159, 160, 161, 162] (by decide +kernel) (by decide +kernel)
set_option maxRecDepth 20000 in
theorem gL_lots_X6_cup : GoodIn wsL_lots (wsV RL 45 RX6 yX6_cup wsX6_cup) := goodIn_app (goodIn_of _ (by decide +kernel)) ggL_lots_X6_cup
set_option maxRecDepth 20000 in
theorem ggL_lots_X6_blend : GoodIn wsL_lots wsX6_blend := goodIn_r _ [120, 9, 10, 11, 12, 13, 14, 15, 16, 17, 18, 19, 20, 21, 22, 23, 24, 25, 26, 27, 28, 29, 30, 31, 32, 33, 34, 35, 36, 37, 38, 39, 40, 41, 42, 43, 121, 122, 123, 124, 48, 95, 96, 97, 100, 101, 102, 103, 104, 57, 58, 59, 113, 114, 115, 116, 125, 126, 127, 128, 51, 52, 53, 54, 55, 56, 60, 61, 62, 7, 63, 64, 65, 66, 67, 68, 69, 70, 49, 50, 71, 72, 73, 74, 75, 76, 77, 78, 79, 80, 81, 82, 138, 139, 140, 141, 142, 143, 144, 145, 146, 147, 148, 149, 150, 151, 152, 153, 154, 155, 156, 157, 158, 159, 160, 161, 162] (by decide +kernel) (by decide +kernel)
set_option maxRecDepth 20000 in
theorem gL_lots_X6_blend : GoodIn wsL_lots (wsV RL 47 RX6 yX6_blend wsX6_blend) := goodIn_app (goodIn_of _ (by decide +kernel)) ggL_lots_X6_blend
set_option maxRecDepth 20000 in
theorem ggL_lots_L_takes : GoodIn wsL_lots wsL_takes := goodIn_r _ [131, 132, 133, 85, 134] (by decide +kernel) (by decide +kernel)
set_option maxRecDepth 20000 in
theorem gL_lots_L_takes : GoodIn wsL_lots (va_wsS RL 52 yL_takes wsL_takes) := goodIn_app (goodIn_of _ (by decide +kernel)) ggL_lots_L_takes
set_option maxRecDepth 20000 in
theorem ggL_lots_L_cup : GoodIn wsL_lots wsL_cup := goodIn_r _ [137] (by decide +kernel) (by decide +kernel)
set_option maxRecDepth 20000 in
theorem gL_lots_L_cup : GoodIn wsL_lots (va_wsS RL 9 yL_cup wsL_cup) := goodIn_app (goodIn_of _ (by decide +kernel)) ggL_lots_L_cup
