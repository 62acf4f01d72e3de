theorem dX5_init_0 : decode cX5_init 0 = .ok (.aload_n 0, 1) := by decide +kernel
theorem dX5_init_1 : decode cX5_init 1 = .ok (.invokespecial 3, 3) := by decide +kernel
theorem dX5_init_4 : decode cX5_init 4 = .ok (.aload_n 0, 1) := by decide +kernel
theorem dX5_init_5 : decode cX5_init 5 = .ok (.bipush 60, 2) := by decide +kernel
theorem dX5_init_7 : decode cX5_init 7 = .ok (.newarray .char, 2) := by decide +kernel
theorem dX5_init_9 : decode cX5_init 9 = .ok (.putfield 9, 3) := by decide +kernel
theorem dX5_init_12 : decode cX5_init 12 = .ok (.aload_n 0, 1) := by decide +kernel
theorem dX5_init_13 : decode cX5_init 13 = .ok (.iconst 4, 1) := by decide +kernel
theorem dX5_init_14 : decode cX5_init 14 = .ok (.newarray .int, 2) := by decide +kernel
theorem dX5_init_16 : decode cX5_init 16 = .ok (.putfield 15, 3) := by decide +kernel
theorem dX5_init_19 : decode cX5_init 19 = .ok (.return_, 1) := by decide +kernel
set_option maxRecDepth 20000 in
theorem ggX6_init_X3_init : GoodIn wsX6_init wsX3_init := goodIn_r _ [22, 23, 2, 3, 24, 25, 26, 27, 28, 29, 30, 31, 32, 33, 34, 35, 36, 37, 38, 39, 40, 41, 42, 43, 44, 45, 46, 47, 48, 49, 50, 51, 52, 111, 112, 113, 114, 115, 116, 75, 76, 77, 78, 79, 80, 81, 82, 83, 117, 118, 119] (by decide +kernel) (by decide +kernel)
set_option maxRecDepth 20000 in
theorem gX6_init_X3_init_n9 : GoodIn wsX6_init (wsX3_init) := ggX6_init_X3_init
set_option maxRecDepth 20000 in
theorem ggX6_init_X2_init : GoodIn wsX6_init wsX2_init := goodIn_r _ [55, 56, 2, 3, 57, 58, 5, 6, 21, 22, 23, 24, 25, 26, 27, 28, 29, 30, 31, 32, 33, 34, 35, 36, 37, 38, 39, 40, 41, 42, 43, 44, 45, 46, 47, 48, 49, 50, 51, 52, 89, 90, 75, 76, 77, 78, 79, 80, 81, 82, 83, 111, 112, 113, 114, 115, 116, 117, 118, 119] (by decide +kernel) (by decide +kernel)
set_option maxRecDepth 20000 in
theorem gX6_init_X2_init : GoodIn wsX6_init (wsX2_init) := ggX6_init_X2_init
set_option maxRecDepth 20000 in
theorem ggX6_init_X1_init : GoodIn wsX6_init wsX1_init := goodIn_r _ [60, 61, 2, 3, 43, 62, 63, 64, 65, 66, 67, 68, 91, 92, 93, 94, 95, 96, 97, 98, 99, 100, 101, 102] (by decide +kernel) (by decide +kernel)
set_option maxRecDepth 20000 in
theorem gX6_init_X1_init_n28 : GoodIn wsX6_init (wsX1_init) := ggX6_init_X1_init
set_option maxRecDepth 20000 in
theorem ggX6_init_X5_init : GoodIn wsX6_init wsX5_init := goodIn_r _ [70, 71, 2, 3, 72, 73, 43, 74, 103, 104, 105, 106, 107, 108, 109, 110] (by decide +kernel) (by decide +kernel)
set_option maxRecDepth 20000 in
theorem gX6_init_X5_init_n35 : GoodIn wsX6_init (wsX5_init) := ggX6_init_X5_init
theorem dX6_init_0 : decode cX6_init 0 = .ok (.aload_n 0, 1) := by decide +kernel
theorem dX6_init_1 : decode cX6_init 1 = .ok (.invokespecial 1, 3) := by decide +kernel
theorem dX6_init_4 : decode cX6_init 4 = .ok (.aload_n 0, 1) := by decide +kernel
theorem dX6_init_5 : decode cX6_init 5 = .ok (.new 7, 3) := by decide +kernel
theorem dX6_init_8 : decode cX6_init 8 = .ok (.dup, 1) := by decide +kernel
theorem dX6_init_9 : decode cX6_init 9 = .ok (.invokespecial 9, 3) := by decide +kernel
theorem dX6_init_12 : decode cX6_init 12 = .ok (.putfield 10, 3) := by decide +kernel
theorem dX6_init_15 : decode cX6_init 15 = .ok (.aload_n 0, 1) := by decide +kernel
theorem dX6_init_16 : decode cX6_init 16 = .ok (.new 7, 3) := by decide +kernel
theorem dX6_init_19 : decode cX6_init 19 = .ok (.dup, 1) := by decide +kernel
theorem dX6_init_20 : decode cX6_init 20 = .ok (.invokespecial 9, 3) := by decide +kernel
theorem dX6_init_23 : decode cX6_init 23 = .ok (.putfield 16, 3) := by decide +kernel
theorem dX6_init_26 : decode cX6_init 26 = .ok (.aload_n 0, 1) := by decide +kernel
theorem dX6_init_27 : decode cX6_init 27 = .ok (.new 19, 3) := by decide +kernel
theorem dX6_init_30 : decode cX6_init 30 = .ok (.dup, 1) := by decide +kernel
theorem dX6_init_31 : decode cX6_init 31 = .ok (.invokespecial 21, 3) := by decide +kernel
theorem dX6_init_34 : decode cX6_init 34 = .ok (.putfield 22, 3) := by decide +kernel
theorem dX6_init_37 : decode cX6_init 37 = .ok (.aload_n 0, 1) := by decide +kernel
theorem dX6_init_38 : decode cX6_init 38 = .ok (.new 26, 3) := by decide +kernel
theorem dX6_init_41 : decode cX6_init 41 = .ok (.dup, 1) := by decide +kernel
theorem dX6_init_42 : decode cX6_init 42 = .ok (.invokespecial 28, 3) := by decide +kernel
theorem dX6_init_45 : decode cX6_init 45 = .ok (.putfield 29, 3) := by decide +kernel
theorem dX6_init_48 : decode cX6_init 48 = .ok (.aload_n 0, 1) := by decide +kernel
theorem dX6_init_49 : decode cX6_init 49 = .ok (.new 33, 3) := by decide +kernel
theorem dX6_init_52 : decode cX6_init 52 = .ok (.dup, 1) := by decide +kernel
theorem dX6_init_53 : decode cX6_init 53 = .ok (.invokespecial 35, 3) := by decide +kernel
theorem dX6_init_56 : decode cX6_init 56 = .ok (.putfield 36, 3) := by decide +kernel
theorem dX6_init_59 : decode cX6_init 59 = .ok (.return_, 1) := by decide +kernel
set_option maxRecDepth 20000 in
theorem ggX6_lot_X3_copyFrom : GoodIn wsX6_lot wsX3_copyFrom := goodIn_r _ [7, 8, 9, 10, 11, 12, 13, 14, 15, 16, 17, 18, 19, 20, 21, 22, 23, 24, 25, 26, 27, 28, 29, 30, 31, 32, 33, 34, 35, 81, 82, 83, 84, 85, 86, 87, 88, 89, 90, 91, 92, 93, 94, 95, 96, 97, 98] (by decide +kernel) (by decide +kernel)
set_option maxRecDepth 20000 in
theorem gX6_lot_X3_copyFrom : GoodIn wsX6_lot (wsV RX6 40 RX3 yX3_copyFrom wsX3_copyFrom) := goodIn_app (goodIn_of _ (by decide +kernel)) ggX6_lot_X3_copyFrom
set_option maxRecDepth 20000 in
theorem ggX6_lot_X3_bringLot : GoodIn wsX6_lot wsX3_bringLot := goodIn_r _ [39, 40, 8, 12, 41, 42, 43, 44, 45, 46, 20, 47, 48, 22, 26, 27, 23, 24, 25, 49, 50, 51, 52, 81, 82, 83, 84, 85, 86, 87, 88, 89, 90, 91, 92, 93, 94, 95] (by decide +kernel) (by decide +kernel)
set_option maxRecDepth 20000 in
theorem gX6_lot_X3_bringLot : GoodIn wsX6_lot (wsV RX6 44 RX3 yX3_bringLot wsX3_bringLot) := goodIn_app (goodIn_of _ (by decide +kernel)) ggX6_lot_X3_bringLot
set_option maxRecDepth 20000 in
theorem ggX6_lot_X6_accept : GoodIn wsX6_lot wsX6_accept := goodIn_r _ [56, 57, 2, 1, 58, 59, 42, 60, 61, 62, 63, 41, 43, 64, 65, 66, 67, 68, 69, 70, 71, 72, 73, 74, 75, 4, 5, 6, 7, 8, 9, 10, 11, 12, 13, 14, 15, 16, 17, 18, 19, 20, 21, 22, 23, 24, 25, 26, 27, 28, 29, 30, 31, 32, 33, 34, 35, 3, 76, 77, 78, 79, 80, 99, 100, 81, 82, 83, 84, 85, 86, 87, 88, 89, 90, 91, 92, 93, 94, 95, 96, 97, 98] (by decide +kernel) (by decide +kernel)
set_option maxRecDepth 20000 in
theorem gX6_lot_X6_accept : GoodIn wsX6_lot (wsV RX6 48 RX6 yX6_accept wsX6_accept) := goodIn_app (goodIn_of _ (by decide +kernel)) ggX6_lot_X6_accept
theorem dX6_lot_0 : decode cX6_lot 0 = .ok (.aload_n 0, 1) := by decide +kernel
theorem dX6_lot_1 : decode cX6_lot 1 = .ok (.getfield 16, 3) := by decide +kernel
theorem dX6_lot_4 : decode cX6_lot 4 = .ok (.aload_n 0, 1) := by decide +kernel
theorem dX6_lot_5 : decode cX6_lot 5 = .ok (.getfield 10, 3) := by decide +kernel
theorem dX6_lot_8 : decode cX6_lot 8 = .ok (.invokevirtual 40, 3) := by decide +kernel
theorem dX6_lot_11 : decode cX6_lot 11 = .ok (.aload_n 0, 1) := by decide +kernel
theorem dX6_lot_12 : decode cX6_lot 12 = .ok (.aload_n 0, 1) := by decide +kernel
theorem dX6_lot_13 : decode cX6_lot 13 = .ok (.getfield 16, 3) := by decide +kernel
theorem dX6_lot_16 : decode cX6_lot 16 = .ok (.iload_n 1, 1) := by decide +kernel
theorem dX6_lot_17 : decode cX6_lot 17 = .ok (.iload_n 2, 1) := by decide +kernel
theorem dX6_lot_18 : decode cX6_lot 18 = .ok (.invokevirtual 44, 3) := by decide +kernel
theorem dX6_lot_21 : decode cX6_lot 21 = .ok (.invokevirtual 48, 3) := by decide +kernel
theorem dX6_lot_24 : decode cX6_lot 24 = .ok (.ireturn, 1) := by decide +kernel
set_option maxRecDepth 20000 in
theorem ggX6_part_X3_copyFrom : GoodIn wsX6_part wsX3_copyFrom := goodIn_r _ [7, 8, 9, 10, 11, 12, 13, 14, 15, 16, 17, 18, 19, 20, 21, 22, 23, 24, 25, 26, 27, 28, 29, 30, 31, 32, 33, 34, 35, 91, 92, 93, 94, 95, 96, 97, 98, 99, 100, 101, 102, 103, 104, 105, 106, 107, 108] (by decide +kernel) (by decide +kernel)
set_option maxRecDepth 20000 in
theorem gX6_part_X3_copyFrom : GoodIn wsX6_part (wsV RX6 40 RX3 yX3_copyFrom wsX3_copyFrom) := goodIn_app (goodIn_of _ (by decide +kernel)) ggX6_part_X3_copyFrom
set_option maxRecDepth 20000 in
theorem ggX6_part_X3_partLot : GoodIn wsX6_part wsX3_partLot := goodIn_r _ [39, 8, 40, 41, 42, 43, 44, 45, 46, 47, 48, 20, 49, 26, 22, 50, 51, 52, 53, 54, 55, 56, 57, 58, 27, 23, 24, 25, 59, 91, 92, 93, 94, 95, 96, 97, 98, 99, 100, 101, 102, 103, 104, 105] (by decide +kernel) (by decide +kernel)
set_option maxRecDepth 20000 in
theorem gX6_part_X3_partLot : GoodIn wsX6_part (wsV RX6 52 RX3 yX3_partLot wsX3_partLot) := goodIn_app (goodIn_of _ (by decide +kernel)) ggX6_part_X3_partLot
set_option maxRecDepth 20000 in
theorem ggX6_part_X6_accept : GoodIn wsX6_part wsX6_accept := goodIn_r _ [64, 65, 2, 1, 66, 67, 63, 68, 69, 70, 71, 72, 73, 74, 75, 76, 77, 78, 79, 80, 81, 82, 83, 84, 85, 4, 5, 6, 7, 8, 9, 10, 11, 12, 13, 14, 15, 16, 17, 18, 19, 20, 21, 22, 23, 24, 25, 26, 27, 28, 29, 30, 31, 32, 33, 34, 35, 3, 86, 87, 88, 89, 90, 109, 110, 91, 92, 93, 94, 95, 96, 97, 98, 99, 100, 101, 102, 103, 104, 105, 106, 107, 108] (by decide +kernel) (by decide +kernel)
set_option maxRecDepth 20000 in
theorem gX6_part_X6_accept : GoodIn wsX6_part (wsV RX6 48 RX6 yX6_accept wsX6_accept) := goodIn_app (goodIn_of _ (by decide +kernel)) ggX6_part_X6_accept
theorem dX6_part_0 : decode cX6_part 0 = .ok (.aload_n 0, 1) := by decide +kernel
theorem dX6_part_1 : decode cX6_part 1 = .ok (.getfield 16, 3) := by decide +kernel
theorem dX6_part_4 : decode cX6_part 4 = .ok (.aload_n 0, 1) := by decide +kernel
theorem dX6_part_5 : decode cX6_part 5 = .ok (.getfield 10, 3) := by decide +kernel
theorem dX6_part_8 : decode cX6_part 8 = .ok (.invokevirtual 40, 3) := by decide +kernel
theorem dX6_part_11 : decode cX6_part 11 = .ok (.aload_n 0, 1) := by decide +kernel
theorem dX6_part_12 : decode cX6_part 12 = .ok (.aload_n 0, 1) := by decide +kernel
theorem dX6_part_13 : decode cX6_part 13 = .ok (.getfield 16, 3) := by decide +kernel
theorem dX6_part_16 : decode cX6_part 16 = .ok (.iload_n 1, 1) := by decide +kernel
theorem dX6_part_17 : decode cX6_part 17 = .ok (.iload_n 2, 1) := by decide +kernel
theorem dX6_part_18 : decode cX6_part 18 = .ok (.invokevirtual 52, 3) := by decide +kernel
theorem dX6_part_21 : decode cX6_part 21 = .ok (.invokevirtual 48, 3) := by decide +kernel
theorem dX6_part_24 : decode cX6_part 24 = .ok (.ireturn, 1) := by decide +kernel
set_option maxRecDepth 20000 in
theorem ggX6_blend_X3_copyFrom : GoodIn wsX6_blend wsX3_copyFrom := goodIn_r _ [7, 8, 9, 10, 11, 12, 13, 14, 15, 16, 17, 18, 19, 20, 21, 22, 23, 24, 25, 26, 27, 28, 29, 30, 31, 32, 33, 34, 35, 97, 98, 99, 100, 101, 102, 103, 104, 105, 106, 107, 108, 109, 110, 111, 112, 113, 114] (by decide +kernel) (by decide +kernel)
set_option maxRecDepth 20000 in
theorem gX6_blend_X3_copyFrom : GoodIn wsX6_blend (wsV RX6 40 RX3 yX3_copyFrom wsX3_copyFrom) := goodIn_app (goodIn_of _ (by decide +kernel)) ggX6_blend_X3_copyFrom
set_option maxRecDepth 20000 in
theorem ggX6_blend_X3_blendLots : GoodIn wsX6_blend wsX3_blendLots := goodIn_r _ [39, 8, 40, 41, 42, 43, 12, 44, 45, 46, 20, 47, 26, 22, 48, 49, 50, 51, 52, 53, 54, 55, 24, 25, 56, 57, 58, 59, 23, 60, 61, 62, 63, 64, 27, 65, 97, 98, 99, 100, 101, 102, 103, 104, 105, 106, 107, 108, 109, 110, 111] (by decide +kernel) (by decide +kernel)
set_option maxRecDepth 20000 in
theorem gX6_blend_X3_blendLots : GoodIn wsX6_blend (wsV RX6 55 RX3 yX3_blendLots wsX3_blendLots) := goodIn_app (goodIn_of _ (by decide +kernel)) ggX6_blend_X3_blendLots
set_option maxRecDepth 20000 in
theorem ggX6_blend_X6_accept : GoodIn wsX6_blend wsX6_accept := goodIn_r _ [70, 71, 2, 1, 72, 73, 69, 74, 75, 76, 77, 78, 79, 80, 81, 82, 83, 84, 85, 86, 87, 88, 89, 90, 91, 4, 5, 6, 7, 8, 9, 10, 11, 12, 13, 14, 15, 16, 17, 18, 19, 20, 21, 22, 23, 24, 25, 26, 27, 28, 29, 30, 31, 32, 33, 34, 35, 3, 92, 93, 94, 95, 96, 115, 116, 97, 98, 99, 100, 101, 102, 103, 104, 105, 106, 107, 108, 109, 110, 111, 112, 113, 114] (by decide +kernel) (by decide +kernel)
set_option maxRecDepth 20000 in
theorem gX6_blend_X6_accept : GoodIn wsX6_blend (wsV RX6 48 RX6 yX6_accept wsX6_accept) := goodIn_app (goodIn_of _ (by decide +kernel)) ggX6_blend_X6_accept
theorem dX6_blend_0 : decode cX6_blend 0 = .ok (.aload_n 0, 1) := by decide +kernel
theorem dX6_blend_1 : decode cX6_blend 1 = .ok (.getfield 16, 3) := by decide +kernel
theorem dX6_blend_4 : decode cX6_blend 4 = .ok (.aload_n 0, 1) := by decide +kernel
theorem dX6_blend_5 : decode cX6_blend 5 = .ok (.getfield 10, 3) := by decide +kernel
theorem dX6_blend_8 : decode cX6_blend 8 = .ok (.invokevirtual 40, 3) := by decide +kernel
theorem dX6_blend_11 : decode cX6_blend 11 = .ok (.aload_n 0, 1) := by decide +kernel
theorem dX6_blend_12 : decode cX6_blend 12 = .ok (.aload_n 0, 1) := by decide +kernel
theorem dX6_blend_13 : decode cX6_blend 13 = .ok (.getfield 16, 3) := by decide +kernel
theorem dX6_blend_16 : decode cX6_blend 16 = .ok (.iload_n 1, 1) := by decide +kernel
theorem dX6_blend_17 : decode cX6_blend 17 = .ok (.iload_n 2, 1) := by decide +kernel
theorem dX6_blend_18 : decode cX6_blend 18 = .ok (.iload_n 3, 1) := by decide +kernel
theorem dX6_blend_19 : decode cX6_blend 19 = .ok (.iload 4, 2) := by decide +kernel
theorem dX6_blend_21 : decode cX6_blend 21 = .ok (.invokevirtual 55, 3) := by decide +kernel
theorem dX6_blend_24 : decode cX6_blend 24 = .ok (.invokevirtual 48, 3) := by decide +kernel
theorem dX6_blend_27 : decode cX6_blend 27 = .ok (.ireturn, 1) := by decide +kernel
set_option maxRecDepth 20000 in
theorem ggX6_cup_X3_copyFrom : GoodIn wsX6_cup wsX3_copyFrom := goodIn_r _ [7, 8, 9, 10, 11, 12, 13, 14, 15, 16, 17, 18, 19, 20, 21, 22, 23, 24, 25, 26, 27, 28, 29, 30, 31, 32, 33, 34, 35, 84, 85, 86, 87, 88, 89, 90, 91, 92, 93, 94, 95, 96, 97, 98, 99, 100, 101] (by decide +kernel) (by decide +kernel)
set_option maxRecDepth 20000 in
theorem gX6_cup_X3_copyFrom : GoodIn wsX6_cup (wsV RX6 40 RX3 yX3_copyFrom wsX3_copyFrom) := goodIn_app (goodIn_of _ (by decide +kernel)) ggX6_cup_X3_copyFrom
set_option maxRecDepth 20000 in
theorem ggX6_cup_X3_cupAnew : GoodIn wsX6_cup wsX3_cupAnew := goodIn_r _ [39, 8, 40, 41, 42, 43, 12, 44, 45, 46, 47, 20, 48, 26, 22, 49, 50, 51, 52, 24, 25, 84, 85, 86, 87, 88, 89, 90, 91, 92, 93, 94, 95, 96, 97, 98] (by decide +kernel) (by decide +kernel)
set_option maxRecDepth 20000 in
theorem gX6_cup_X3_cupAnew : GoodIn wsX6_cup (wsV RX6 59 RX3 yX3_cupAnew wsX3_cupAnew) := goodIn_app (goodIn_of _ (by decide +kernel)) ggX6_cup_X3_cupAnew
set_option maxRecDepth 20000 in
theorem ggX6_cup_X6_accept : GoodIn wsX6_cup wsX6_accept := goodIn_r _ [57, 58, 2, 1, 59, 60, 56, 61, 62, 63, 64, 65, 66, 67, 68, 69, 70, 71, 72, 73, 74, 75, 76, 77, 78, 4, 5, 6, 7, 8, 9, 10, 11, 12, 13, 14, 15, 16, 17, 18, 19, 20, 21, 22, 23, 24, 25, 26, 27, 28, 29, 30, 31, 32, 33, 34, 35, 3, 79, 80, 81, 82, 83, 102, 103, 84, 85, 86, 87, 88, 89, 90, 91, 92, 93, 94, 95, 96, 97, 98, 99, 100, 101] (by decide +kernel) (by decide +kernel)
set_option maxRecDepth 20000 in
theorem gX6_cup_X6_accept : GoodIn wsX6_cup (wsV RX6 48 RX6 yX6_accept wsX6_accept) := goodIn_app (goodIn_of _ (by decide +kernel)) ggX6_cup_X6_accept
theorem dX6_cup_0 : decode cX6_cup 0 = .ok (.aload_n 0, 1) := by decide +kernel
theorem dX6_cup_1 : decode cX6_cup 1 = .ok (.getfield 16, 3) := by decide +kernel
theorem dX6_cup_4 : decode cX6_cup 4 = .ok (.aload_n 0, 1) := by decide +kernel
theorem dX6_cup_5 : decode cX6_cup 5 = .ok (.getfield 10, 3) := by decide +kernel
theorem dX6_cup_8 : decode cX6_cup 8 = .ok (.invokevirtual 40, 3) := by decide +kernel
theorem dX6_cup_11 : decode cX6_cup 11 = .ok (.aload_n 0, 1) := by decide +kernel
theorem dX6_cup_12 : decode cX6_cup 12 = .ok (.aload_n 0, 1) := by decide +kernel
theorem dX6_cup_13 : decode cX6_cup 13 = .ok (.getfield 16, 3) := by decide +kernel
theorem dX6_cup_16 : decode cX6_cup 16 = .ok (.iload_n 1, 1) := by decide +kernel
theorem dX6_cup_17 : decode cX6_cup 17 = .ok (.invokevirtual 59, 3) := by decide +kernel
theorem dX6_cup_20 : decode cX6_cup 20 = .ok (.invokevirtual 48, 3) := by decide +kernel
theorem dX6_cup_23 : decode cX6_cup 23 = .ok (.ireturn, 1) := by decide +kernel
set_option maxRecDepth 20000 in
theorem ggX6_worth_X3_copyFrom : GoodIn wsX6_worth wsX3_copyFrom := goodIn_r _ [7, 8, 9, 10, 11, 12, 13, 14, 15, 16, 17, 18, 19, 20, 21, 22, 23, 24, 25, 26, 27, 28, 29, 30, 31, 32, 33, 34, 35, 72, 73, 74, 75, 76, 77, 78, 79, 80, 81, 82, 83, 84, 85, 86, 87, 88, 89] (by decide +kernel) (by decide +kernel)
set_option maxRecDepth 20000 in
theorem gX6_worth_X3_copyFrom : GoodIn wsX6_worth (wsV RX6 40 RX3 yX3_copyFrom wsX3_copyFrom) := goodIn_app (goodIn_of _ (by decide +kernel)) ggX6_worth_X3_copyFrom
set_option maxRecDepth 20000 in
theorem ggX6_worth_X3_changeWorth : GoodIn wsX6_worth wsX3_changeWorth := goodIn_r _ [39, 40, 10, 41, 42, 43, 72, 73, 74, 75, 76, 77, 78, 79, 80] (by decide +kernel) (by decide +kernel)
set_option maxRecDepth 20000 in
theorem gX6_worth_X3_changeWorth : GoodIn wsX6_worth (wsV RX6 62 RX3 yX3_changeWorth wsX3_changeWorth) := goodIn_app (goodIn_of _ (by decide +kernel)) ggX6_worth_X3_changeWorth
set_option maxRecDepth 20000 in
theorem ggX6_worth_X6_accept : GoodIn wsX6_worth wsX6_accept := goodIn_r _ [47, 48, 2, 1, 49, 50, 42, 51, 52, 53, 54, 41, 43, 55, 56, 57, 58, 59, 60, 61, 62, 63, 64, 65, 66, 4, 5, 6, 7, 8, 9, 10, 11, 12, 13, 14, 15, 16, 17, 18, 19, 20, 21, 22, 23, 24, 25, 26, 27, 28, 29, 30, 31, 32, 33, 34, 35, 3, 67, 68, 69, 70, 71, 90, 91, 72, 73, 74, 75, 76, 77, 78, 79, 80, 81, 82, 83, 84, 85, 86, 87, 88, 89] (by decide +kernel) (by decide +kernel)
set_option maxRecDepth 20000 in
theorem gX6_worth_X6_accept : GoodIn wsX6_worth (wsV RX6 48 RX6 yX6_accept wsX6_accept) := goodIn_app (goodIn_of _ (by decide +kernel)) ggX6_worth_X6_accept
theorem dX6_worth_0 : decode cX6_worth 0 = .ok (.aload_n 0, 1) := by decide +kernel
theorem dX6_worth_1 : decode cX6_worth 1 = .ok (.getfield 16, 3) := by decide +kernel
theorem dX6_worth_4 : decode cX6_worth 4 = .ok (.aload_n 0, 1) := by decide +kernel
theorem dX6_worth_5 : decode cX6_worth 5 = .ok (.getfield 10, 3) := by decide +kernel
theorem dX6_worth_8 : decode cX6_worth 8 = .ok (.invokevirtual 40, 3) := by decide +kernel
theorem dX6_worth_11 : decode cX6_worth 11 = .ok (.aload_n 0, 1) := by decide +kernel
theorem dX6_worth_12 : decode cX6_worth 12 = .ok (.aload_n 0, 1) := by decide +kernel
theorem dX6_worth_13 : decode cX6_worth 13 = .ok (.getfield 16, 3) := by decide +kernel
theorem dX6_worth_16 : decode cX6_worth 16 = .ok (.iload_n 1, 1) := by decide +kernel
theorem dX6_worth_17 : decode cX6_worth 17 = .ok (.iload_n 2, 1) := by decide +kernel
theorem dX6_worth_18 : decode cX6_worth 18 = .ok (.invokevirtual 62, 3) := by decide +kernel
theorem dX6_worth_21 : decode cX6_worth 21 = .ok (.invokevirtual 48, 3) := by decide +kernel
theorem dX6_worth_24 : decode cX6_worth 24 = .ok (.ireturn, 1) := by decide +kernel
set_option maxRecDepth 20000 in
theorem ggX6_sell_X3_copyFrom : GoodIn wsX6_sell wsX3_copyFrom := goodIn_r _ [7, 8, 9, 10, 11, 12, 13, 14, 15, 16, 17, 18, 19, 20, 21, 22, 23, 24, 25, 26, 27, 28, 29, 30, 31, 32, 33, 34, 35, 86, 87, 88, 89, 90, 91, 92, 93, 94, 95, 96, 97, 98, 99, 100, 101, 102, 103] (by decide +kernel) (by decide +kernel)
set_option maxRecDepth 20000 in
theorem gX6_sell_X3_copyFrom : GoodIn wsX6_sell (wsV RX6 40 RX3 yX3_copyFrom wsX3_copyFrom) := goodIn_app (goodIn_of _ (by decide +kernel)) ggX6_sell_X3_copyFrom
set_option maxRecDepth 20000 in
theorem ggX6_sell_X3_sellContract : GoodIn wsX6_sell wsX3_sellContract := goodIn_r _ [39, 40, 12, 41, 9, 42, 43, 44, 45, 46, 47, 6, 48, 11, 49, 50, 51, 52, 53, 54, 55, 31, 56, 35, 57, 33, 34, 86, 87, 88, 89, 90, 91, 92, 93, 94, 101, 102, 103] (by decide +kernel) (by decide +kernel)
set_option maxRecDepth 20000 in
theorem gX6_sell_X3_sellContract : GoodIn wsX6_sell (wsV RX6 65 RX3 yX3_sellContract wsX3_sellContract) := goodIn_app (goodIn_of _ (by decide +kernel)) ggX6_sell_X3_sellContract
set_option maxRecDepth 20000 in
theorem ggX6_sell_X6_accept : GoodIn wsX6_sell wsX6_accept := goodIn_r _ [61, 62, 2, 1, 63, 64, 43, 65, 66, 67, 68, 42, 44, 69, 70, 71, 72, 73, 74, 75, 76, 77, 78, 79, 80, 4, 5, 6, 7, 8, 9, 10, 11, 12, 13, 14, 15, 16, 17, 18, 19, 20, 21, 22, 23, 24, 25, 26, 27, 28, 29, 30, 31, 32, 33, 34, 35, 3, 81, 82, 83, 84, 85, 104, 105, 86, 87, 88, 89, 90, 91, 92, 93, 94, 95, 96, 97, 98, 99, 100, 101, 102, 103] (by decide +kernel) (by decide +kernel)
set_option maxRecDepth 20000 in
theorem gX6_sell_X6_accept : GoodIn wsX6_sell (wsV RX6 48 RX6 yX6_accept wsX6_accept) := goodIn_app (goodIn_of _ (by decide +kernel)) ggX6_sell_X6_accept
theorem dX6_sell_0 : decode cX6_sell 0 = .ok (.aload_n 0, 1) := by decide +kernel
theorem dX6_sell_1 : decode cX6_sell 1 = .ok (.getfield 16, 3) := by decide +kernel
theorem dX6_sell_4 : decode cX6_sell 4 = .ok (.aload_n 0, 1) := by decide +kernel
theorem dX6_sell_5 : decode cX6_sell 5 = .ok (.getfield 10, 3) := by decide +kernel
theorem dX6_sell_8 : decode cX6_sell 8 = .ok (.invokevirtual 40, 3) := by decide +kernel
theorem dX6_sell_11 : decode cX6_sell 11 = .ok (.aload_n 0, 1) := by decide +kernel
theorem dX6_sell_12 : decode cX6_sell 12 = .ok (.aload_n 0, 1) := by decide +kernel
theorem dX6_sell_13 : decode cX6_sell 13 = .ok (.getfield 16, 3) := by decide +kernel
theorem dX6_sell_16 : decode cX6_sell 16 = .ok (.iload_n 1, 1) := by decide +kernel
theorem dX6_sell_17 : decode cX6_sell 17 = .ok (.iload_n 2, 1) := by decide +kernel
theorem dX6_sell_18 : decode cX6_sell 18 = .ok (.invokevirtual 65, 3) := by decide +kernel
theorem dX6_sell_21 : decode cX6_sell 21 = .ok (.invokevirtual 48, 3) := by decide +kernel
theorem dX6_sell_24 : decode cX6_sell 24 = .ok (.ireturn, 1) := by decide +kernel
set_option maxRecDepth 20000 in
theorem ggX6_buyBack_X3_copyFrom : GoodIn wsX6_buyBack wsX3_copyFrom := goodIn_r _ [7, 8, 9, 10, 11, 12, 13, 14, 15, 16, 17, 18, 19, 20, 21, 22, 23, 24, 25, 26, 27, 28, 29, 30, 31, 32, 33, 34, 35, 82, 83, 84, 85, 86, 87, 88, 89, 90, 91, 92, 93, 94, 95, 96, 97, 98, 99] (by decide +kernel) (by decide +kernel)
set_option maxRecDepth 20000 in
theorem gX6_buyBack_X3_copyFrom : GoodIn wsX6_buyBack (wsV RX6 40 RX3 yX3_copyFrom wsX3_copyFrom) := goodIn_app (goodIn_of _ (by decide +kernel)) ggX6_buyBack_X3_copyFrom
set_option maxRecDepth 20000 in
theorem ggX6_buyBack_X3_buyContractBack : GoodIn wsX6_buyBack wsX3_buyContractBack := goodIn_r _ [39, 9, 40, 11, 41, 13, 42, 43, 44, 31, 45, 35, 46, 47, 48, 49, 50, 51, 52, 33, 34, 53, 82, 83, 84, 85, 86, 87, 88, 89, 90, 97, 98, 99] (by decide +kernel) (by decide +kernel)
set_option maxRecDepth 20000 in
theorem gX6_buyBack_X3_buyContractBack : GoodIn wsX6_buyBack (wsV RX6 68 RX3 yX3_buyContractBack wsX3_buyContractBack) := goodIn_app (goodIn_of _ (by decide +kernel)) ggX6_buyBack_X3_buyContractBack
set_option maxRecDepth 20000 in
theorem ggX6_buyBack_X6_accept : GoodIn wsX6_buyBack wsX6_accept := goodIn_r _ [57, 58, 2, 1, 59, 60, 47, 61, 62, 63, 64, 46, 48, 65, 66, 67, 68, 69, 70, 71, 72, 73, 74, 75, 76, 4, 5, 6, 7, 8, 9, 10, 11, 12, 13, 14, 15, 16, 17, 18, 19, 20, 21, 22, 23, 24, 25, 26, 27, 28, 29, 30, 31, 32, 33, 34, 35, 3, 77, 78, 79, 80, 81, 100, 101, 82, 83, 84, 85, 86, 87, 88, 89, 90, 91, 92, 93, 94, 95, 96, 97, 98, 99] (by decide +kernel) (by decide +kernel)
set_option maxRecDepth 20000 in
theorem gX6_buyBack_X6_accept : GoodIn wsX6_buyBack (wsV RX6 48 RX6 yX6_accept wsX6_accept) := goodIn_app (goodIn_of _ (by decide +kernel)) ggX6_buyBack_X6_accept
theorem dX6_buyBack_0 : decode cX6_buyBack 0 = .ok (.aload_n 0, 1) := by decide +kernel
theorem dX6_buyBack_1 : decode cX6_buyBack 1 = .ok (.getfield 16, 3) := by decide +kernel
theorem dX6_buyBack_4 : decode cX6_buyBack 4 = .ok (.aload_n 0, 1) := by decide +kernel
theorem dX6_buyBack_5 : decode cX6_buyBack 5 = .ok (.getfield 10, 3) := by decide +kernel
theorem dX6_buyBack_8 : decode cX6_buyBack 8 = .ok (.invokevirtual 40, 3) := by decide +kernel
theorem dX6_buyBack_11 : decode cX6_buyBack 11 = .ok (.aload_n 0, 1) := by decide +kernel
theorem dX6_buyBack_12 : decode cX6_buyBack 12 = .ok (.aload_n 0, 1) := by decide +kernel
theorem dX6_buyBack_13 : decode cX6_buyBack 13 = .ok (.getfield 16, 3) := by decide +kernel
theorem dX6_buyBack_16 : decode cX6_buyBack 16 = .ok (.iload_n 1, 1) := by decide +kernel
theorem dX6_buyBack_17 : decode cX6_buyBack 17 = .ok (.iload_n 2, 1) := by decide +kernel
theorem dX6_buyBack_18 : decode cX6_buyBack 18 = .ok (.invokevirtual 68, 3) := by decide +kernel
theorem dX6_buyBack_21 : decode cX6_buyBack 21 = .ok (.invokevirtual 48, 3) := by decide +kernel
theorem dX6_buyBack_24 : decode cX6_buyBack 24 = .ok (.ireturn, 1) := by decide +kernel
set_option maxRecDepth 20000 in
theorem ggX6_meet_X3_copyFrom : GoodIn wsX6_meet wsX3_copyFrom := goodIn_r _ [8, 9, 10, 11, 12, 13, 14, 15, 16, 17, 18, 19, 20, 21, 22, 23, 24, 25, 26, 27, 28, 29, 30, 31, 32, 33, 34, 35, 36, 147, 148, 149, 150, 151, 152, 153, 154, 155, 156, 157, 158, 159, 160, 161, 162, 163, 164] (by decide +kernel) (by decide +kernel)
set_option maxRecDepth 20000 in
theorem gX6_meet_X3_copyFrom : GoodIn wsX6_meet (wsV RX6 40 RX3 yX3_copyFrom wsX3_copyFrom) := goodIn_app (goodIn_of _ (by decide +kernel)) ggX6_meet_X3_copyFrom
set_option maxRecDepth 20000 in
theorem ggX6_meet_X3_meetContract : GoodIn wsX6_meet wsX3_meetContract := goodIn_r _ [40, 10, 41, 42, 13, 43, 44, 45, 46, 9, 47, 48, 49, 14, 50, 15, 17, 12, 51, 52, 53, 32, 54, 36, 55, 56, 57, 58, 59, 60, 61, 62, 63, 64, 65, 66, 67, 68, 69, 70, 71, 72, 73, 74, 75, 76, 77, 78, 79, 80, 81, 21, 82, 25, 26, 83, 84, 85, 86, 87, 88, 89, 7, 90, 91, 92, 93, 94, 95, 96, 97, 98, 99, 100, 101, 102, 103, 104, 105, 106, 107, 108, 109, 110, 111, 27, 24, 23, 112, 113, 114, 115, 34, 35, 116, 147, 148, 149, 150, 151, 152, 153, 154, 155, 162, 163, 164, 165, 166, 167, 168, 169, 170, 171, 172, 173, 174, 175, 176, 156, 157, 158, 159, 160, 161] (by decide +kernel) (by decide +kernel)
set_option maxRecDepth 20000 in
theorem gX6_meet_X3_meetContract : GoodIn wsX6_meet (wsV RX6 71 RX3 yX3_meetContract wsX3_meetContract) := goodIn_app (goodIn_of _ (by decide +kernel)) ggX6_meet_X3_meetContract
set_option maxRecDepth 20000 in
theorem ggX6_meet_X6_accept : GoodIn wsX6_meet wsX6_accept := goodIn_r _ [120, 121, 2, 1, 122, 123, 92, 124, 125, 126, 127, 128, 129, 130, 131, 132, 133, 134, 135, 136, 137, 138, 139, 140, 141, 5, 6, 7, 8, 9, 10, 11, 12, 13, 14, 15, 16, 17, 18, 19, 20, 21, 22, 23, 24, 25, 26, 27, 28, 29, 30, 31, 32, 33, 34, 35, 36, 4, 142, 143, 144, 145, 146, 177, 178, 147, 148, 149, 150, 151, 152, 153, 154, 155, 156, 157, 158, 159, 160, 161, 162, 163, 164] (by decide +kernel) (by decide +kernel)
set_option maxRecDepth 20000 in
theorem gX6_meet_X6_accept : GoodIn wsX6_meet (wsV RX6 48 RX6 yX6_accept wsX6_accept) := goodIn_app (goodIn_of _ (by decide +kernel)) ggX6_meet_X6_accept
theorem dX6_meet_0 : decode cX6_meet 0 = .ok (.aload_n 0, 1) := by decide +kernel
theorem dX6_meet_1 : decode cX6_meet 1 = .ok (.getfield 16, 3) := by decide +kernel
theorem dX6_meet_4 : decode cX6_meet 4 = .ok (.aload_n 0, 1) := by decide +kernel
theorem dX6_meet_5 : decode cX6_meet 5 = .ok (.getfield 10, 3) := by decide +kernel
theorem dX6_meet_8 : decode cX6_meet 8 = .ok (.invokevirtual 40, 3) := by decide +kernel
theorem dX6_meet_11 : decode cX6_meet 11 = .ok (.aload_n 0, 1) := by decide +kernel
theorem dX6_meet_12 : decode cX6_meet 12 = .ok (.aload_n 0, 1) := by decide +kernel
theorem dX6_meet_13 : decode cX6_meet 13 = .ok (.getfield 16, 3) := by decide +kernel
theorem dX6_meet_16 : decode cX6_meet 16 = .ok (.iload_n 1, 1) := by decide +kernel
theorem dX6_meet_17 : decode cX6_meet 17 = .ok (.aload_n 0, 1) := by decide +kernel
theorem dX6_meet_18 : decode cX6_meet 18 = .ok (.getfield 29, 3) := by decide +kernel
theorem dX6_meet_21 : decode cX6_meet 21 = .ok (.invokevirtual 71, 3) := by decide +kernel
theorem dX6_meet_24 : decode cX6_meet 24 = .ok (.invokevirtual 48, 3) := by decide +kernel
theorem dX6_meet_27 : decode cX6_meet 27 = .ok (.ireturn, 1) := by decide +kernel
set_option maxRecDepth 20000 in
theorem ggX6_pass_X3_copyFrom : GoodIn wsX6_pass wsX3_copyFrom := goodIn_r _ [7, 8, 9, 10, 11, 12, 13, 14, 15, 16, 17, 18, 19, 20, 21, 22, 23, 24, 25, 26, 27, 28, 29, 30, 31, 32, 33, 34, 35, 77, 78, 79, 80, 81, 82, 83, 84, 85, 86, 87, 88, 89, 90, 91, 92, 93, 94] (by decide +kernel) (by decide +kernel)
set_option maxRecDepth 20000 in
theorem gX6_pass_X3_copyFrom : GoodIn wsX6_pass (wsV RX6 40 RX3 yX3_copyFrom wsX3_copyFrom) := goodIn_app (goodIn_of _ (by decide +kernel)) ggX6_pass_X3_copyFrom
set_option maxRecDepth 20000 in
theorem ggX6_pass_X3_passMonths : GoodIn wsX6_pass wsX3_passMonths := goodIn_r _ [39, 40, 12, 41, 9, 15, 13, 11, 42, 43, 44, 45, 46, 47, 31, 48, 35, 33, 34, 77, 78, 79, 80, 81, 82, 83, 84, 85, 92, 93, 94] (by decide +kernel) (by decide +kernel)
set_option maxRecDepth 20000 in
theorem gX6_pass_X3_passMonths : GoodIn wsX6_pass (wsV RX6 75 RX3 yX3_passMonths wsX3_passMonths) := goodIn_app (goodIn_of _ (by decide +kernel)) ggX6_pass_X3_passMonths
set_option maxRecDepth 20000 in
theorem ggX6_pass_X6_accept : GoodIn wsX6_pass wsX6_accept := goodIn_r _ [52, 53, 2, 1, 54, 55, 43, 56, 57, 58, 59, 42, 44, 60, 61, 62, 63, 64, 65, 66, 67, 68, 69, 70, 71, 4, 5, 6, 7, 8, 9, 10, 11, 12, 13, 14, 15, 16, 17, 18, 19, 20, 21, 22, 23, 24, 25, 26, 27, 28, 29, 30, 31, 32, 33, 34, 35, 3, 72, 73, 74, 75, 76, 95, 96, 77, 78, 79, 80, 81, 82, 83, 84, 85, 86, 87, 88, 89, 90, 91, 92, 93, 94] (by decide +kernel) (by decide +kernel)
set_option maxRecDepth 20000 in
theorem gX6_pass_X6_accept : GoodIn wsX6_pass (wsV RX6 48 RX6 yX6_accept wsX6_accept) := goodIn_app (goodIn_of _ (by decide +kernel)) ggX6_pass_X6_accept
theorem dX6_pass_0 : decode cX6_pass 0 = .ok (.aload_n 0, 1) := by decide +kernel
theorem dX6_pass_1 : decode cX6_pass 1 = .ok (.getfield 16, 3) := by decide +kernel
theorem dX6_pass_4 : decode cX6_pass 4 = .ok (.aload_n 0, 1) := by decide +kernel
theorem dX6_pass_5 : decode cX6_pass 5 = .ok (.getfield 10, 3) := by decide +kernel
theorem dX6_pass_8 : decode cX6_pass 8 = .ok (.invokevirtual 40, 3) := by decide +kernel
theorem dX6_pass_11 : decode cX6_pass 11 = .ok (.aload_n 0, 1) := by decide +kernel
theorem dX6_pass_12 : decode cX6_pass 12 = .ok (.aload_n 0, 1) := by decide +kernel
theorem dX6_pass_13 : decode cX6_pass 13 = .ok (.getfield 16, 3) := by decide +kernel
theorem dX6_pass_16 : decode cX6_pass 16 = .ok (.iload_n 1, 1) := by decide +kernel
theorem dX6_pass_17 : decode cX6_pass 17 = .ok (.invokevirtual 75, 3) := by decide +kernel
theorem dX6_pass_20 : decode cX6_pass 20 = .ok (.invokevirtual 48, 3) := by decide +kernel
theorem dX6_pass_23 : decode cX6_pass 23 = .ok (.ireturn, 1) := by decide +kernel
set_option maxRecDepth 20000 in
theorem ggX6_set_X3_copyFrom : GoodIn wsX6_set wsX3_copyFrom := goodIn_r _ [7, 8, 9, 10, 11, 12, 13, 14, 15, 16, 17, 18, 19, 20, 21, 22, 23, 24, 25, 26, 27, 28, 29, 30, 31, 32, 33, 34, 35, 74, 75, 76, 77, 78, 79, 80, 81, 82, 83, 84, 85, 86, 87, 88, 89, 90, 91] (by decide +kernel) (by decide +kernel)
set_option maxRecDepth 20000 in
theorem gX6_set_X3_copyFrom : GoodIn wsX6_set (wsV RX6 40 RX3 yX3_copyFrom wsX3_copyFrom) := goodIn_app (goodIn_of _ (by decide +kernel)) ggX6_set_X3_copyFrom
set_option maxRecDepth 20000 in
theorem ggX6_set_X3_changeSetting : GoodIn wsX6_set wsX3_changeSetting := goodIn_r _ [39, 40, 9, 41, 42, 11, 43, 44, 45, 74, 75, 76, 77, 78, 79, 80, 81, 82, 89, 90, 91] (by decide +kernel) (by decide +kernel)
set_option maxRecDepth 20000 in
theorem gX6_set_X3_changeSetting : GoodIn wsX6_set (wsV RX6 78 RX3 yX3_changeSetting wsX3_changeSetting) := goodIn_app (goodIn_of _ (by decide +kernel)) ggX6_set_X3_changeSetting
set_option maxRecDepth 20000 in
theorem ggX6_set_X6_accept : GoodIn wsX6_set wsX6_accept := goodIn_r _ [49, 50, 2, 1, 51, 52, 44, 53, 54, 55, 56, 43, 45, 57, 58, 59, 60, 61, 62, 63, 64, 65, 66, 67, 68, 4, 5, 6, 7, 8, 9, 10, 11, 12, 13, 14, 15, 16, 17, 18, 19, 20, 21, 22, 23, 24, 25, 26, 27, 28, 29, 30, 31, 32, 33, 34, 35, 3, 69, 70, 71, 72, 73, 92, 93, 74, 75, 76, 77, 78, 79, 80, 81, 82, 83, 84, 85, 86, 87, 88, 89, 90, 91] (by decide +kernel) (by decide +kernel)
set_option maxRecDepth 20000 in
theorem gX6_set_X6_accept : GoodIn wsX6_set (wsV RX6 48 RX6 yX6_accept wsX6_accept) := goodIn_app (goodIn_of _ (by decide +kernel)) ggX6_set_X6_accept
theorem dX6_set_0 : decode cX6_set 0 = .ok (.aload_n 0, 1) := by decide +kernel
theorem dX6_set_1 : decode cX6_set 1 = .ok (.getfield 16, 3) := by decide +kernel
theorem dX6_set_4 : decode cX6_set 4 = .ok (.aload_n 0, 1) := by decide +kernel
theorem dX6_set_5 : decode cX6_set 5 = .ok (.getfield 10, 3) := by decide +kernel
theorem dX6_set_8 : decode cX6_set 8 = .ok (.invokevirtual 40, 3) := by decide +kernel
theorem dX6_set_11 : decode cX6_set 11 = .ok (.aload_n 0, 1) := by decide +kernel
theorem dX6_set_12 : decode cX6_set 12 = .ok (.aload_n 0, 1) := by decide +kernel
theorem dX6_set_13 : decode cX6_set 13 = .ok (.getfield 16, 3) := by decide +kernel
theorem dX6_set_16 : decode cX6_set 16 = .ok (.iload_n 1, 1) := by decide +kernel
theorem dX6_set_17 : decode cX6_set 17 = .ok (.iload_n 2, 1) := by decide +kernel
theorem dX6_set_18 : decode cX6_set 18 = .ok (.invokevirtual 78, 3) := by decide +kernel
theorem dX6_set_21 : decode cX6_set 21 = .ok (.invokevirtual 48, 3) := by decide +kernel
theorem dX6_set_24 : decode cX6_set 24 = .ok (.ireturn, 1) := by decide +kernel
set_option maxRecDepth 20000 in
theorem ggX6_lotOf_X4_rowOf : GoodIn wsX6_lotOf wsX4_rowOf := goodIn_r _ [8, 9, 10, 50, 51, 52, 53, 54, 55] (by decide +kernel) (by decide +kernel)
set_option maxRecDepth 20000 in
theorem gX6_lotOf_X4_rowOf : GoodIn wsX6_lotOf (wsV RX6 85 RX4 yX4_rowOf wsX4_rowOf) := goodIn_app (goodIn_of _ (by decide +kernel)) ggX6_lotOf_X4_rowOf
set_option maxRecDepth 20000 in
theorem ggX6_lotOf_X3_tellOfLot : GoodIn wsX6_lotOf wsX3_tellOfLot := goodIn_r _ [15, 16, 17, 18, 19, 20, 21, 22, 23, 24, 25, 7, 26, 27, 28, 29, 30, 31, 32, 33, 34, 35, 41, 42, 43, 44, 45, 46, 47, 48, 49, 50, 51, 52, 53, 54, 55] (by decide +kernel) (by decide +kernel)
set_option maxRecDepth 20000 in
theorem gX6_lotOf_X3_tellOfLot : GoodIn wsX6_lotOf (wsV RX6 91 RX3 yX3_tellOfLot wsX3_tellOfLot) := goodIn_app (goodIn_of _ (by decide +kernel)) ggX6_lotOf_X3_tellOfLot
theorem dX6_lotOf_0 : decode cX6_lotOf 0 = .ok (.aload_n 0, 1) := by decide +kernel
theorem dX6_lotOf_1 : decode cX6_lotOf 1 = .ok (.getfield 10, 3) := by decide +kernel
theorem dX6_lotOf_4 : decode cX6_lotOf 4 = .ok (.getfield 81, 3) := by decide +kernel
theorem dX6_lotOf_7 : decode cX6_lotOf 7 = .ok (.iload_n 1, 1) := by decide +kernel
theorem dX6_lotOf_8 : decode cX6_lotOf 8 = .ok (.invokevirtual 85, 3) := by decide +kernel
theorem dX6_lotOf_11 : decode cX6_lotOf 11 = .ok (.istore_n 3, 1) := by decide +kernel
theorem dX6_lotOf_12 : decode cX6_lotOf 12 = .ok (.iload_n 3, 1) := by decide +kernel
theorem dX6_lotOf_13 : decode cX6_lotOf 13 = .ok (.ifCond .ge 8, 3) := by decide +kernel
theorem dX6_lotOf_16 : decode cX6_lotOf 16 = .ok (.ldc 90, 2) := by decide +kernel
theorem dX6_lotOf_18 : decode cX6_lotOf 18 = .ok (.goto 12, 3) := by decide +kernel
theorem dX6_lotOf_21 : decode cX6_lotOf 21 = .ok (.aload_n 0, 1) := by decide +kernel
theorem dX6_lotOf_22 : decode cX6_lotOf 22 = .ok (.getfield 10, 3) := by decide +kernel
theorem dX6_lotOf_25 : decode cX6_lotOf 25 = .ok (.iload_n 3, 1) := by decide +kernel
theorem dX6_lotOf_26 : decode cX6_lotOf 26 = .ok (.iload_n 2, 1) := by decide +kernel
theorem dX6_lotOf_27 : decode cX6_lotOf 27 = .ok (.invokevirtual 91, 3) := by decide +kernel
theorem dX6_lotOf_30 : decode cX6_lotOf 30 = .ok (.ireturn, 1) := by decide +kernel
theorem dX6_numberOf_0 : decode cX6_numberOf 0 = .ok (.iload_n 1, 1) := by decide +kernel
theorem dX6_numberOf_1 : decode cX6_numberOf 1 = .ok (.ifCond .ge 6, 3) := by decide +kernel
theorem dX6_numberOf_4 : decode cX6_numberOf 4 = .ok (.ldc 90, 2) := by decide +kernel
theorem dX6_numberOf_6 : decode cX6_numberOf 6 = .ok (.ireturn, 1) := by decide +kernel
theorem dX6_numberOf_7 : decode cX6_numberOf 7 = .ok (.iload_n 1, 1) := by decide +kernel
theorem dX6_numberOf_8 : decode cX6_numberOf 8 = .ok (.aload_n 0, 1) := by decide +kernel
theorem dX6_numberOf_9 : decode cX6_numberOf 9 = .ok (.getfield 10, 3) := by decide +kernel
theorem dX6_numberOf_12 : decode cX6_numberOf 12 = .ok (.getfield 81, 3) := by decide +kernel
theorem dX6_numberOf_15 : decode cX6_numberOf 15 = .ok (.getfield 94, 3) := by decide +kernel
theorem dX6_numberOf_18 : decode cX6_numberOf 18 = .ok (.if_icmp .ge 18, 3) := by decide +kernel
theorem dX6_numberOf_21 : decode cX6_numberOf 21 = .ok (.aload_n 0, 1) := by decide +kernel
theorem dX6_numberOf_22 : decode cX6_numberOf 22 = .ok (.getfield 10, 3) := by decide +kernel
theorem dX6_numberOf_25 : decode cX6_numberOf 25 = .ok (.getfield 81, 3) := by decide +kernel
theorem dX6_numberOf_28 : decode cX6_numberOf 28 = .ok (.getfield 98, 3) := by decide +kernel
theorem dX6_numberOf_31 : decode cX6_numberOf 31 = .ok (.iload_n 1, 1) := by decide +kernel
theorem dX6_numberOf_32 : decode cX6_numberOf 32 = .ok (.iaload, 1) := by decide +kernel
theorem dX6_numberOf_33 : decode cX6_numberOf 33 = .ok (.goto 5, 3) := by decide +kernel
theorem dX6_numberOf_36 : decode cX6_numberOf 36 = .ok (.ldc 102, 2) := by decide +kernel
theorem dX6_numberOf_38 : decode cX6_numberOf 38 = .ok (.ireturn, 1) := by decide +kernel
set_option maxRecDepth 20000 in
theorem ggX6_contractOf_X0_isOpen : GoodIn wsX6_contractOf wsX0_isOpen := goodIn_r _ [11, 12, 27, 28, 29] (by decide +kernel) (by decide +kernel)
set_option maxRecDepth 20000 in
theorem gX6_contractOf_X0_isOpen : GoodIn wsX6_contractOf (wsV RX6 107 RX0 yX0_isOpen wsX0_isOpen) := goodIn_app (goodIn_of _ (by decide +kernel)) ggX6_contractOf_X0_isOpen
theorem dX6_contractOf_0 : decode cX6_contractOf 0 = .ok (.aload_n 0, 1) := by decide +kernel
theorem dX6_contractOf_1 : decode cX6_contractOf 1 = .ok (.getfield 10, 3) := by decide +kernel
theorem dX6_contractOf_4 : decode cX6_contractOf 4 = .ok (.getfield 103, 3) := by decide +kernel
theorem dX6_contractOf_7 : decode cX6_contractOf 7 = .ok (.iload_n 1, 1) := by decide +kernel
theorem dX6_contractOf_8 : decode cX6_contractOf 8 = .ok (.invokevirtual 107, 3) := by decide +kernel
theorem dX6_contractOf_11 : decode cX6_contractOf 11 = .ok (.ifCond .ne 6, 3) := by decide +kernel
theorem dX6_contractOf_14 : decode cX6_contractOf 14 = .ok (.ldc 90, 2) := by decide +kernel
theorem dX6_contractOf_16 : decode cX6_contractOf 16 = .ok (.ireturn, 1) := by decide +kernel
theorem dX6_contractOf_17 : decode cX6_contractOf 17 = .ok (.iload_n 2, 1) := by decide +kernel
theorem dX6_contractOf_18 : decode cX6_contractOf 18 = .ok (.tableswitch 73 0 2 #[26, 39, 52], 26) := by decide +kernel
theorem dX6_contractOf_44 : decode cX6_contractOf 44 = .ok (.aload_n 0, 1) := by decide +kernel
theorem dX6_contractOf_45 : decode cX6_contractOf 45 = .ok (.getfield 10, 3) := by decide +kernel
theorem dX6_contractOf_48 : decode cX6_contractOf 48 = .ok (.getfield 103, 3) := by decide +kernel
theorem dX6_contractOf_51 : decode cX6_contractOf 51 = .ok (.getfield 113, 3) := by decide +kernel
theorem dX6_contractOf_54 : decode cX6_contractOf 54 = .ok (.iload_n 1, 1) := by decide +kernel
theorem dX6_contractOf_55 : decode cX6_contractOf 55 = .ok (.iaload, 1) := by decide +kernel
theorem dX6_contractOf_56 : decode cX6_contractOf 56 = .ok (.ireturn, 1) := by decide +kernel
theorem dX6_contractOf_57 : decode cX6_contractOf 57 = .ok (.aload_n 0, 1) := by decide +kernel
theorem dX6_contractOf_58 : decode cX6_contractOf 58 = .ok (.getfield 10, 3) := by decide +kernel
theorem dX6_contractOf_61 : decode cX6_contractOf 61 = .ok (.getfield 103, 3) := by decide +kernel
theorem dX6_contractOf_64 : decode cX6_contractOf 64 = .ok (.getfield 116, 3) := by decide +kernel
theorem dX6_contractOf_67 : decode cX6_contractOf 67 = .ok (.iload_n 1, 1) := by decide +kernel
theorem dX6_contractOf_68 : decode cX6_contractOf 68 = .ok (.iaload, 1) := by decide +kernel
theorem dX6_contractOf_69 : decode cX6_contractOf 69 = .ok (.ireturn, 1) := by decide +kernel
theorem dX6_contractOf_70 : decode cX6_contractOf 70 = .ok (.aload_n 0, 1) := by decide +kernel
theorem dX6_contractOf_71 : decode cX6_contractOf 71 = .ok (.getfield 10, 3) := by decide +kernel
theorem dX6_contractOf_74 : decode cX6_contractOf 74 = .ok (.getfield 103, 3) := by decide +kernel
theorem dX6_contractOf_77 : decode cX6_contractOf 77 = .ok (.getfield 113, 3) := by decide +kernel
theorem dX6_contractOf_80 : decode cX6_contractOf 80 = .ok (.iload_n 1, 1) := by decide +kernel
theorem dX6_contractOf_81 : decode cX6_contractOf 81 = .ok (.iaload, 1) := by decide +kernel
theorem dX6_contractOf_82 : decode cX6_contractOf 82 = .ok (.aload_n 0, 1) := by decide +kernel
theorem dX6_contractOf_83 : decode cX6_contractOf 83 = .ok (.getfield 10, 3) := by decide +kernel
theorem dX6_contractOf_86 : decode cX6_contractOf 86 = .ok (.getfield 119, 3) := by decide +kernel
theorem dX6_contractOf_89 : decode cX6_contractOf 89 = .ok (.isub, 1) := by decide +kernel
theorem dX6_contractOf_90 : decode cX6_contractOf 90 = .ok (.ireturn, 1) := by decide +kernel
theorem dX6_contractOf_91 : decode cX6_contractOf 91 = .ok (.ldc 90, 2) := by decide +kernel
theorem dX6_contractOf_93 : decode cX6_contractOf 93 = .ok (.ireturn, 1) := by decide +kernel
set_option maxRecDepth 20000 in
theorem ggX6_count_X6_isWithin : GoodIn wsX6_count wsX6_isWithin := goodIn_r _ [10] (by decide +kernel) (by decide +kernel)
set_option maxRecDepth 20000 in
theorem gX6_count_X6_isWithin : GoodIn wsX6_count (va_wsS RX6 122 yX6_isWithin wsX6_isWithin) := goodIn_app (goodIn_of _ (by decide +kernel)) ggX6_count_X6_isWithin
set_option maxRecDepth 20000 in
theorem ggX6_count_X3_tellCount : GoodIn wsX6_count wsX3_tellCount := goodIn_r _ [15, 16, 17, 18, 19, 20, 21, 22, 23, 24, 25, 26, 27, 28, 29, 30, 31, 32, 33, 34, 35, 36, 37, 38, 39, 40, 41, 42, 43, 49, 50, 51, 52, 53, 54, 55, 56, 57, 68, 69, 70, 71, 72, 73, 74, 75, 76] (by decide +kernel) (by decide +kernel)
set_option maxRecDepth 20000 in
theorem gX6_count_X3_tellCount : GoodIn wsX6_count (wsV RX6 191 RX3 yX3_tellCount wsX3_tellCount) := goodIn_app (goodIn_of _ (by decide +kernel)) ggX6_count_X3_tellCount
theorem dX6_count_0 : decode cX6_count 0 = .ok (.iload_n 1, 1) := by decide +kernel
theorem dX6_count_1 : decode cX6_count 1 = .ok (.bipush 20, 2) := by decide +kernel
theorem dX6_count_3 : decode cX6_count 3 = .ok (.bipush 24, 2) := by decide +kernel
theorem dX6_count_5 : decode cX6_count 5 = .ok (.invokestatic 122, 3) := by decide +kernel
theorem dX6_count_8 : decode cX6_count 8 = .ok (.ifCond .eq 16, 3) := by decide +kernel
theorem dX6_count_11 : decode cX6_count 11 = .ok (.aload_n 0, 1) := by decide +kernel
theorem dX6_count_12 : decode cX6_count 12 = .ok (.getfield 10, 3) := by decide +kernel
theorem dX6_count_15 : decode cX6_count 15 = .ok (.getfield 172, 3) := by decide +kernel
theorem dX6_count_18 : decode cX6_count 18 = .ok (.iload_n 1, 1) := by decide +kernel
theorem dX6_count_19 : decode cX6_count 19 = .ok (.bipush 20, 2) := by decide +kernel
theorem dX6_count_21 : decode cX6_count 21 = .ok (.isub, 1) := by decide +kernel
theorem dX6_count_22 : decode cX6_count 22 = .ok (.iaload, 1) := by decide +kernel
theorem dX6_count_23 : decode cX6_count 23 = .ok (.ireturn, 1) := by decide +kernel
theorem dX6_count_24 : decode cX6_count 24 = .ok (.iload_n 1, 1) := by decide +kernel
theorem dX6_count_25 : decode cX6_count 25 = .ok (.lookupswitch 43 #[(10, 27), (11, 35)], 27) := by decide +kernel
theorem dX6_count_52 : decode cX6_count 52 = .ok (.aload_n 0, 1) := by decide +kernel
theorem dX6_count_53 : decode cX6_count 53 = .ok (.getfield 22, 3) := by decide +kernel
theorem dX6_count_56 : decode cX6_count 56 = .ok (.getfield 185, 3) := by decide +kernel
theorem dX6_count_59 : decode cX6_count 59 = .ok (.ireturn, 1) := by decide +kernel
theorem dX6_count_60 : decode cX6_count 60 = .ok (.aload_n 0, 1) := by decide +kernel
theorem dX6_count_61 : decode cX6_count 61 = .ok (.getfield 36, 3) := by decide +kernel
theorem dX6_count_64 : decode cX6_count 64 = .ok (.getfield 188, 3) := by decide +kernel
theorem dX6_count_67 : decode cX6_count 67 = .ok (.ireturn, 1) := by decide +kernel
theorem dX6_count_68 : decode cX6_count 68 = .ok (.aload_n 0, 1) := by decide +kernel
theorem dX6_count_69 : decode cX6_count 69 = .ok (.getfield 10, 3) := by decide +kernel
theorem dX6_count_72 : decode cX6_count 72 = .ok (.iload_n 1, 1) := by decide +kernel
theorem dX6_count_73 : decode cX6_count 73 = .ok (.invokevirtual 191, 3) := by decide +kernel
theorem dX6_count_76 : decode cX6_count 76 = .ok (.ireturn, 1) := by decide +kernel
set_option maxRecDepth 20000 in
theorem ggX6_accept_X6_isError : GoodIn wsX6_accept wsX6_isError := goodIn_r _ [7, 8, 9, 10, 11, 6, 12] (by decide +kernel) (by decide +kernel)
set_option maxRecDepth 20000 in
theorem gX6_accept_X6_isError : GoodIn wsX6_accept (va_wsS RX6 217 yX6_isError wsX6_isError) := goodIn_app (goodIn_of _ (by decide +kernel)) ggX6_accept_X6_isError
set_option maxRecDepth 20000 in
theorem ggX6_accept_X2_record : GoodIn wsX6_accept wsX2_record := goodIn_r _ [17, 18, 19, 20, 21, 22, 16, 23, 24, 25, 26, 27, 28, 29, 30, 31, 32, 33, 34, 35, 36, 37, 38, 39, 40, 41, 42, 43, 44, 45, 46, 47, 48, 49, 50, 51, 52, 53, 54, 55, 56, 63, 64, 65, 66, 67, 68, 69, 70, 71, 72, 73, 74, 75, 76, 77, 78, 79, 80, 81, 82] (by decide +kernel) (by decide +kernel)
set_option maxRecDepth 20000 in
theorem gX6_accept_X2_record : GoodIn wsX6_accept (wsV RX6 220 RX2 yX2_record wsX2_record) := goodIn_app (goodIn_of _ (by decide +kernel)) ggX6_accept_X2_record
set_option maxRecDepth 20000 in
theorem ggX6_accept_X3_copyFrom : GoodIn wsX6_accept wsX3_copyFrom := goodIn_r _ [28, 29, 30, 31, 32, 33, 34, 35, 36, 37, 38, 39, 40, 41, 42, 43, 44, 45, 46, 47, 48, 49, 50, 51, 52, 53, 54, 55, 56, 65, 66, 67, 68, 69, 70, 71, 72, 73, 74, 75, 76, 77, 78, 79, 80, 81, 82] (by decide +kernel) (by decide +kernel)
set_option maxRecDepth 20000 in
theorem gX6_accept_X3_copyFrom : GoodIn wsX6_accept (wsV RX6 40 RX3 yX3_copyFrom wsX3_copyFrom) := goodIn_app (goodIn_of _ (by decide +kernel)) ggX6_accept_X3_copyFrom
theorem dX6_accept_0 : decode cX6_accept 0 = .ok (.iload_n 1, 1) := by decide +kernel
theorem dX6_accept_1 : decode cX6_accept 1 = .ok (.invokestatic 217, 3) := by decide +kernel
theorem dX6_accept_4 : decode cX6_accept 4 = .ok (.ifCond .ne 25, 3) := by decide +kernel
theorem dX6_accept_7 : decode cX6_accept 7 = .ok (.aload_n 0, 1) := by decide +kernel
theorem dX6_accept_8 : decode cX6_accept 8 = .ok (.getfield 22, 3) := by decide +kernel
theorem dX6_accept_11 : decode cX6_accept 11 = .ok (.aload_n 0, 1) := by decide +kernel
theorem dX6_accept_12 : decode cX6_accept 12 = .ok (.getfield 10, 3) := by decide +kernel
theorem dX6_accept_15 : decode cX6_accept 15 = .ok (.invokevirtual 220, 3) := by decide +kernel
theorem dX6_accept_18 : decode cX6_accept 18 = .ok (.aload_n 0, 1) := by decide +kernel
theorem dX6_accept_19 : decode cX6_accept 19 = .ok (.getfield 10, 3) := by decide +kernel
theorem dX6_accept_22 : decode cX6_accept 22 = .ok (.aload_n 0, 1) := by decide +kernel
theorem dX6_accept_23 : decode cX6_accept 23 = .ok (.getfield 16, 3) := by decide +kernel
theorem dX6_accept_26 : decode cX6_accept 26 = .ok (.invokevirtual 40, 3) := by decide +kernel
theorem dX6_accept_29 : decode cX6_accept 29 = .ok (.iload_n 1, 1) := by decide +kernel
theorem dX6_accept_30 : decode cX6_accept 30 = .ok (.ireturn, 1) := by decide +kernel
theorem dX6_isWithin_0 : decode cX6_isWithin 0 = .ok (.iload_n 0, 1) := by decide +kernel
theorem dX6_isWithin_1 : decode cX6_isWithin 1 = .ok (.iload_n 1, 1) := by decide +kernel
theorem dX6_isWithin_2 : decode cX6_isWithin 2 = .ok (.if_icmp .lt 12, 3) := by decide +kernel
theorem dX6_isWithin_5 : decode cX6_isWithin 5 = .ok (.iload_n 0, 1) := by decide +kernel
theorem dX6_isWithin_6 : decode cX6_isWithin 6 = .ok (.iload_n 2, 1) := by decide +kernel
theorem dX6_isWithin_7 : decode cX6_isWithin 7 = .ok (.if_icmp .gt 7, 3) := by decide +kernel
theorem dX6_isWithin_10 : decode cX6_isWithin 10 = .ok (.iconst 1, 1) := by decide +kernel
theorem dX6_isWithin_11 : decode cX6_isWithin 11 = .ok (.goto 4, 3) := by decide +kernel
theorem dX6_isWithin_14 : decode cX6_isWithin 14 = .ok (.iconst 0, 1) := by decide +kernel
theorem dX6_isWithin_15 : decode cX6_isWithin 15 = .ok (.ireturn, 1) := by decide +kernel
set_option maxRecDepth 20000 in
theorem ggX6_isError_X6_isWithin : GoodIn wsX6_isError wsX6_isWithin := goodIn_r _ [6] (by decide +kernel) (by decide +kernel)
set_option maxRecDepth 20000 in
theorem gX6_isError_X6_isWithin : GoodIn wsX6_isError (va_wsS RX6 122 yX6_isWithin wsX6_isWithin) := goodIn_app (goodIn_of _ (by decide +kernel)) ggX6_isError_X6_isWithin
theorem dX6_isError_0 : decode cX6_isError 0 = .ok (.iload_n 0, 1) := by decide +kernel
theorem dX6_isError_1 : decode cX6_isError 1 = .ok (.ldc 102, 2) := by decide +kernel
theorem dX6_isError_3 : decode cX6_isError 3 = .ok (.ldc 90, 2) := by decide +kernel
theorem dX6_isError_5 : decode cX6_isError 5 = .ok (.invokestatic 122, 3) := by decide +kernel
theorem dX6_isError_8 : decode cX6_isError 8 = .ok (.ireturn, 1) := by decide +kernel
theorem dX6_bandOf_0 : decode cX6_bandOf 0 = .ok (.iload_n 0, 1) := by decide +kernel
theorem dX6_bandOf_1 : decode cX6_bandOf 1 = .ok (.bipush 70, 2) := by decide +kernel
theorem dX6_bandOf_3 : decode cX6_bandOf 3 = .ok (.if_icmp .ge 5, 3) := by decide +kernel
theorem dX6_bandOf_6 : decode cX6_bandOf 6 = .ok (.iconst 0, 1) := by decide +kernel
theorem dX6_bandOf_7 : decode cX6_bandOf 7 = .ok (.ireturn, 1) := by decide +kernel
theorem dX6_bandOf_8 : decode cX6_bandOf 8 = .ok (.iload_n 0, 1) := by decide +kernel
theorem dX6_bandOf_9 : decode cX6_bandOf 9 = .ok (.bipush 80, 2) := by decide +kernel
theorem dX6_bandOf_11 : decode cX6_bandOf 11 = .ok (.if_icmp .ge 5, 3) := by decide +kernel
theorem dX6_bandOf_14 : decode cX6_bandOf 14 = .ok (.iconst 1, 1) := by decide +kernel
theorem dX6_bandOf_15 : decode cX6_bandOf 15 = .ok (.ireturn, 1) := by decide +kernel
theorem dX6_bandOf_16 : decode cX6_bandOf 16 = .ok (.iload_n 0, 1) := by decide +kernel
theorem dX6_bandOf_17 : decode cX6_bandOf 17 = .ok (.bipush 90, 2) := by decide +kernel
theorem dX6_bandOf_19 : decode cX6_bandOf 19 = .ok (.if_icmp .ge 7, 3) := by decide +kernel
theorem dX6_bandOf_22 : decode cX6_bandOf 22 = .ok (.iconst 2, 1) := by decide +kernel
theorem dX6_bandOf_23 : decode cX6_bandOf 23 = .ok (.goto 4, 3) := by decide +kernel
theorem dX6_bandOf_26 : decode cX6_bandOf 26 = .ok (.iconst 3, 1) := by decide +kernel
theorem dX6_bandOf_27 : decode cX6_bandOf 27 = .ok (.ireturn, 1) := by decide +kernel
