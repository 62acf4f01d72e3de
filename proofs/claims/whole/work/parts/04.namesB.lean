theorem dX5_init_0 : decode cX5_init 0 = .ok (.aload_n 0, 1) := by decide +kernel
theorem dX5_init_1 : decode cX5_init 1 = .ok (.invokespecial 3, 3) := by decide +kernel
theorem dX5_init_4 : decode cX5_init 4 = .ok (.aload_n 0, 1) := by decide +kernel
theorem dX5_init_5 : decode cX5_init 5 = .ok (.bipush 60, 2) := by decide +kernel
theorem dX5_init_7 : decode cX5_init 7 = .ok (.newarray .char, 2) := by decide +kernel
theorem dX5_init_9 : decode cX5_init 9 = .ok (.putfield 9, 3) := by decide +kernel
theorem dX5_init_12 : decode cX5_init 12 = .ok (.aload_n 0, 1) := by decide +kernel
theorem dX5_init_13 : decode cX5_init 13 = .ok (.iconst 4, 1) := by decide +kernel
theorem dX5_init_14 : decode cX5_init 14 = .ok (.newarray .int, 2) := by decide +kernel
theorem dX5_init_16 : decode cX5_init 16 = .ok (.putfield 15, 3) := by decide +kernel
theorem dX5_init_19 : decode cX5_init 19 = .ok (.return_, 1) := by decide +kernel
theorem dX5_append_0 : decode cX5_append 0 = .ok (.aload_n 0, 1) := by decide +kernel
theorem dX5_append_1 : decode cX5_append 1 = .ok (.getfield 19, 3) := by decide +kernel
theorem dX5_append_4 : decode cX5_append 4 = .ok (.bipush 60, 2) := by decide +kernel
theorem dX5_append_6 : decode cX5_append 6 = .ok (.if_icmp .lt 6, 3) := by decide +kernel
theorem dX5_append_9 : decode cX5_append 9 = .ok (.ldc 23, 2) := by decide +kernel
theorem dX5_append_11 : decode cX5_append 11 = .ok (.ireturn, 1) := by decide +kernel
theorem dX5_append_12 : decode cX5_append 12 = .ok (.aload_n 0, 1) := by decide +kernel
theorem dX5_append_13 : decode cX5_append 13 = .ok (.getfield 9, 3) := by decide +kernel
theorem dX5_append_16 : decode cX5_append 16 = .ok (.aload_n 0, 1) := by decide +kernel
theorem dX5_append_17 : decode cX5_append 17 = .ok (.getfield 19, 3) := by decide +kernel
theorem dX5_append_20 : decode cX5_append 20 = .ok (.iload_n 1, 1) := by decide +kernel
theorem dX5_append_21 : decode cX5_append 21 = .ok (.castore, 1) := by decide +kernel
theorem dX5_append_22 : decode cX5_append 22 = .ok (.aload_n 0, 1) := by decide +kernel
theorem dX5_append_23 : decode cX5_append 23 = .ok (.dup, 1) := by decide +kernel
theorem dX5_append_24 : decode cX5_append 24 = .ok (.getfield 19, 3) := by decide +kernel
theorem dX5_append_27 : decode cX5_append 27 = .ok (.iconst 1, 1) := by decide +kernel
theorem dX5_append_28 : decode cX5_append 28 = .ok (.iadd, 1) := by decide +kernel
theorem dX5_append_29 : decode cX5_append 29 = .ok (.putfield 19, 3) := by decide +kernel
theorem dX5_append_32 : decode cX5_append 32 = .ok (.aload_n 0, 1) := by decide +kernel
theorem dX5_append_33 : decode cX5_append 33 = .ok (.getfield 19, 3) := by decide +kernel
theorem dX5_append_36 : decode cX5_append 36 = .ok (.ireturn, 1) := by decide +kernel
set_option maxRecDepth 20000 in
theorem ggX5_runOn_X5_readOrder : GoodIn wsX5_runOn wsX5_readOrder := goodIn_r _ [11, 1, 6, 12, 13, 14, 10, 15, 5, 16, 17, 18, 19, 20, 21, 22, 23, 24, 25, 26, 27, 199, 200, 201, 202, 203, 204, 205, 206] (by decide +kernel) (by decide +kernel)
set_option maxRecDepth 20000 in
theorem gX5_runOn_X5_readOrder : GoodIn wsX5_runOn (wsV RX5 36 RX5 yX5_readOrder wsX5_readOrder) := goodIn_app (goodIn_of _ (by decide +kernel)) ggX5_runOn_X5_readOrder
set_option maxRecDepth 20000 in
theorem ggX5_runOn_X5_perform : GoodIn wsX5_runOn wsX5_perform := goodIn_r _ [31, 1, 24, 32, 12, 13, 14, 10, 15, 5, 16, 33, 34, 35, 36, 37, 38, 39, 40, 41, 42, 43, 44, 45, 46, 47, 48, 49, 50, 51, 52, 53, 54, 55, 56, 57, 58, 59, 60, 61, 62, 63, 64, 65, 66, 67, 68, 69, 70, 71, 72, 73, 74, 75, 76, 77, 78, 79, 80, 81, 82, 83, 84, 85, 86, 87, 88, 89, 90, 91, 92, 93, 94, 95, 96, 97, 98, 99, 100, 101, 102, 103, 104, 105, 106, 107, 108, 109, 110, 111, 112, 113, 114, 115, 116, 117, 118, 119, 120, 121, 122, 123, 124, 125, 126, 127, 128, 129, 130, 131, 132, 133, 134, 135, 136, 137, 138, 139, 140, 141, 142, 143, 144, 145, 146, 147, 148, 149, 150, 151, 152, 153, 154, 155, 156, 157, 158, 159, 160, 161, 162, 163, 164, 165, 166, 167, 168, 169, 170, 171, 172, 173, 174, 175, 176, 177, 178, 179, 180, 181, 182, 183, 184, 185, 186, 187, 188, 189, 199, 200, 201, 202, 203, 204, 205, 206, 207, 208, 209, 210, 211, 212, 213, 214, 215, 216, 217, 218, 219, 220, 221, 222, 223, 224, 225, 226, 227, 228, 229, 230, 231, 232, 233, 234, 235, 236] (by decide +kernel) (by decide +kernel)
set_option maxRecDepth 20000 in
theorem gX5_runOn_X5_perform : GoodIn wsX5_runOn (wsV RX5 40 RX5 yX5_perform wsX5_perform) := goodIn_app (goodIn_of _ (by decide +kernel)) ggX5_runOn_X5_perform
set_option maxRecDepth 20000 in
theorem ggX5_runOn_X5_settle : GoodIn wsX5_runOn wsX5_settle := goodIn_r _ [193, 2, 3, 4, 6, 1, 194, 42, 195, 196, 197, 198, 41, 43, 199, 200, 201, 202, 203, 204, 205, 206] (by decide +kernel) (by decide +kernel)
set_option maxRecDepth 20000 in
theorem gX5_runOn_X5_settle : GoodIn wsX5_runOn (wsV RX5 44 RX5 yX5_settle wsX5_settle) := goodIn_app (goodIn_of _ (by decide +kernel)) ggX5_runOn_X5_settle
theorem dX5_runOn_0 : decode cX5_runOn 0 = .ok (.aload_n 0, 1) := by decide +kernel
theorem dX5_runOn_1 : decode cX5_runOn 1 = .ok (.iconst 0, 1) := by decide +kernel
theorem dX5_runOn_2 : decode cX5_runOn 2 = .ok (.putfield 24, 3) := by decide +kernel
theorem dX5_runOn_5 : decode cX5_runOn 5 = .ok (.aload_n 0, 1) := by decide +kernel
theorem dX5_runOn_6 : decode cX5_runOn 6 = .ok (.iconst 0, 1) := by decide +kernel
theorem dX5_runOn_7 : decode cX5_runOn 7 = .ok (.putfield 27, 3) := by decide +kernel
theorem dX5_runOn_10 : decode cX5_runOn 10 = .ok (.aload_n 0, 1) := by decide +kernel
theorem dX5_runOn_11 : decode cX5_runOn 11 = .ok (.iconst 0, 1) := by decide +kernel
theorem dX5_runOn_12 : decode cX5_runOn 12 = .ok (.putfield 30, 3) := by decide +kernel
theorem dX5_runOn_15 : decode cX5_runOn 15 = .ok (.aload_n 0, 1) := by decide +kernel
theorem dX5_runOn_16 : decode cX5_runOn 16 = .ok (.iconst 0, 1) := by decide +kernel
theorem dX5_runOn_17 : decode cX5_runOn 17 = .ok (.putfield 33, 3) := by decide +kernel
theorem dX5_runOn_20 : decode cX5_runOn 20 = .ok (.iconst 0, 1) := by decide +kernel
theorem dX5_runOn_21 : decode cX5_runOn 21 = .ok (.istore_n 3, 1) := by decide +kernel
theorem dX5_runOn_22 : decode cX5_runOn 22 = .ok (.iload_n 3, 1) := by decide +kernel
theorem dX5_runOn_23 : decode cX5_runOn 23 = .ok (.bipush 60, 2) := by decide +kernel
theorem dX5_runOn_25 : decode cX5_runOn 25 = .ok (.if_icmp .ge 65, 3) := by decide +kernel
theorem dX5_runOn_28 : decode cX5_runOn 28 = .ok (.aload_n 0, 1) := by decide +kernel
theorem dX5_runOn_29 : decode cX5_runOn 29 = .ok (.getfield 24, 3) := by decide +kernel
theorem dX5_runOn_32 : decode cX5_runOn 32 = .ok (.aload_n 0, 1) := by decide +kernel
theorem dX5_runOn_33 : decode cX5_runOn 33 = .ok (.getfield 19, 3) := by decide +kernel
theorem dX5_runOn_36 : decode cX5_runOn 36 = .ok (.if_icmp .ge 54, 3) := by decide +kernel
theorem dX5_runOn_39 : decode cX5_runOn 39 = .ok (.aload_n 0, 1) := by decide +kernel
theorem dX5_runOn_40 : decode cX5_runOn 40 = .ok (.getfield 27, 3) := by decide +kernel
theorem dX5_runOn_43 : decode cX5_runOn 43 = .ok (.ifCond .ne 47, 3) := by decide +kernel
theorem dX5_runOn_46 : decode cX5_runOn 46 = .ok (.aload_n 0, 1) := by decide +kernel
theorem dX5_runOn_47 : decode cX5_runOn 47 = .ok (.invokevirtual 36, 3) := by decide +kernel
theorem dX5_runOn_50 : decode cX5_runOn 50 = .ok (.ifCond .eq 16, 3) := by decide +kernel
theorem dX5_runOn_53 : decode cX5_runOn 53 = .ok (.aload_n 0, 1) := by decide +kernel
theorem dX5_runOn_54 : decode cX5_runOn 54 = .ok (.aload_n 0, 1) := by decide +kernel
theorem dX5_runOn_55 : decode cX5_runOn 55 = .ok (.aload_n 1, 1) := by decide +kernel
theorem dX5_runOn_56 : decode cX5_runOn 56 = .ok (.aload_n 2, 1) := by decide +kernel
theorem dX5_runOn_57 : decode cX5_runOn 57 = .ok (.invokevirtual 40, 3) := by decide +kernel
theorem dX5_runOn_60 : decode cX5_runOn 60 = .ok (.invokevirtual 44, 3) := by decide +kernel
theorem dX5_runOn_63 : decode cX5_runOn 63 = .ok (.goto 21, 3) := by decide +kernel
theorem dX5_runOn_66 : decode cX5_runOn 66 = .ok (.aload_n 0, 1) := by decide +kernel
theorem dX5_runOn_67 : decode cX5_runOn 67 = .ok (.iconst 1, 1) := by decide +kernel
theorem dX5_runOn_68 : decode cX5_runOn 68 = .ok (.putfield 27, 3) := by decide +kernel
theorem dX5_runOn_71 : decode cX5_runOn 71 = .ok (.aload_n 0, 1) := by decide +kernel
theorem dX5_runOn_72 : decode cX5_runOn 72 = .ok (.aload_n 0, 1) := by decide +kernel
theorem dX5_runOn_73 : decode cX5_runOn 73 = .ok (.getfield 48, 3) := by decide +kernel
theorem dX5_runOn_76 : decode cX5_runOn 76 = .ok (.aload_n 0, 1) := by decide +kernel
theorem dX5_runOn_77 : decode cX5_runOn 77 = .ok (.getfield 24, 3) := by decide +kernel
theorem dX5_runOn_80 : decode cX5_runOn 80 = .ok (.isub, 1) := by decide +kernel
theorem dX5_runOn_81 : decode cX5_runOn 81 = .ok (.putfield 30, 3) := by decide +kernel
theorem dX5_runOn_84 : decode cX5_runOn 84 = .ok (.iinc 3 1, 3) := by decide +kernel
theorem dX5_runOn_87 : decode cX5_runOn 87 = .ok (.goto (-65), 3) := by decide +kernel
theorem dX5_runOn_90 : decode cX5_runOn 90 = .ok (.return_, 1) := by decide +kernel
set_option maxRecDepth 20000 in
theorem ggX5_settle_X6_isError : GoodIn wsX5_settle wsX6_isError := goodIn_r _ [8, 9, 10, 11, 12, 7, 13] (by decide +kernel) (by decide +kernel)
set_option maxRecDepth 20000 in
theorem gX5_settle_X6_isError_n51 : GoodIn wsX5_settle (wsX6_isError) := ggX5_settle_X6_isError
theorem dX5_settle_0 : decode cX5_settle 0 = .ok (.iload_n 1, 1) := by decide +kernel
theorem dX5_settle_1 : decode cX5_settle 1 = .ok (.invokestatic 51, 3) := by decide +kernel
theorem dX5_settle_4 : decode cX5_settle 4 = .ok (.ifCond .eq 16, 3) := by decide +kernel
theorem dX5_settle_7 : decode cX5_settle 7 = .ok (.aload_n 0, 1) := by decide +kernel
theorem dX5_settle_8 : decode cX5_settle 8 = .ok (.iconst 2, 1) := by decide +kernel
theorem dX5_settle_9 : decode cX5_settle 9 = .ok (.putfield 27, 3) := by decide +kernel
theorem dX5_settle_12 : decode cX5_settle 12 = .ok (.aload_n 0, 1) := by decide +kernel
theorem dX5_settle_13 : decode cX5_settle 13 = .ok (.iload_n 1, 1) := by decide +kernel
theorem dX5_settle_14 : decode cX5_settle 14 = .ok (.putfield 30, 3) := by decide +kernel
theorem dX5_settle_17 : decode cX5_settle 17 = .ok (.goto 21, 3) := by decide +kernel
theorem dX5_settle_20 : decode cX5_settle 20 = .ok (.aload_n 0, 1) := by decide +kernel
theorem dX5_settle_21 : decode cX5_settle 21 = .ok (.dup, 1) := by decide +kernel
theorem dX5_settle_22 : decode cX5_settle 22 = .ok (.getfield 33, 3) := by decide +kernel
theorem dX5_settle_25 : decode cX5_settle 25 = .ok (.iconst 1, 1) := by decide +kernel
theorem dX5_settle_26 : decode cX5_settle 26 = .ok (.iadd, 1) := by decide +kernel
theorem dX5_settle_27 : decode cX5_settle 27 = .ok (.putfield 33, 3) := by decide +kernel
theorem dX5_settle_30 : decode cX5_settle 30 = .ok (.aload_n 0, 1) := by decide +kernel
theorem dX5_settle_31 : decode cX5_settle 31 = .ok (.aload_n 0, 1) := by decide +kernel
theorem dX5_settle_32 : decode cX5_settle 32 = .ok (.getfield 48, 3) := by decide +kernel
theorem dX5_settle_35 : decode cX5_settle 35 = .ok (.putfield 24, 3) := by decide +kernel
theorem dX5_settle_38 : decode cX5_settle 38 = .ok (.return_, 1) := by decide +kernel
set_option maxRecDepth 20000 in
theorem ggX5_readOrder_X5_signAt : GoodIn wsX5_readOrder wsX5_signAt := goodIn_r _ [7, 8, 9, 21, 22, 23, 24, 25, 26, 27, 28] (by decide +kernel) (by decide +kernel)
set_option maxRecDepth 20000 in
theorem gX5_readOrder_X5_signAt : GoodIn wsX5_readOrder (wsV RX5 55 RX5 yX5_signAt wsX5_signAt) := goodIn_app (goodIn_of _ (by decide +kernel)) ggX5_readOrder_X5_signAt
set_option maxRecDepth 20000 in
theorem ggX5_readOrder_X5_numbersOf : GoodIn wsX5_readOrder wsX5_numbersOf := goodIn_r _ [12] (by decide +kernel) (by decide +kernel)
set_option maxRecDepth 20000 in
theorem gX5_readOrder_X5_numbersOf : GoodIn wsX5_readOrder (va_wsS RX5 59 yX5_numbersOf wsX5_numbersOf) := goodIn_app (goodIn_of _ (by decide +kernel)) ggX5_readOrder_X5_numbersOf
set_option maxRecDepth 20000 in
theorem ggX5_readOrder_X5_readNumber : GoodIn wsX5_readOrder wsX5_readNumber := goodIn_r _ [16, 2, 17, 3, 4, 5, 6, 7, 8, 9, 18, 19, 20, 21, 22, 23, 24, 25, 26, 27, 28] (by decide +kernel) (by decide +kernel)
set_option maxRecDepth 20000 in
theorem gX5_readOrder_X5_readNumber : GoodIn wsX5_readOrder (wsV RX5 63 RX5 yX5_readNumber wsX5_readNumber) := goodIn_app (goodIn_of _ (by decide +kernel)) ggX5_readOrder_X5_readNumber
theorem dX5_readOrder_0 : decode cX5_readOrder 0 = .ok (.aload_n 0, 1) := by decide +kernel
theorem dX5_readOrder_1 : decode cX5_readOrder 1 = .ok (.aload_n 0, 1) := by decide +kernel
theorem dX5_readOrder_2 : decode cX5_readOrder 2 = .ok (.getfield 24, 3) := by decide +kernel
theorem dX5_readOrder_5 : decode cX5_readOrder 5 = .ok (.putfield 48, 3) := by decide +kernel
theorem dX5_readOrder_8 : decode cX5_readOrder 8 = .ok (.aload_n 0, 1) := by decide +kernel
theorem dX5_readOrder_9 : decode cX5_readOrder 9 = .ok (.aload_n 0, 1) := by decide +kernel
theorem dX5_readOrder_10 : decode cX5_readOrder 10 = .ok (.getfield 48, 3) := by decide +kernel
theorem dX5_readOrder_13 : decode cX5_readOrder 13 = .ok (.invokevirtual 55, 3) := by decide +kernel
theorem dX5_readOrder_16 : decode cX5_readOrder 16 = .ok (.invokestatic 59, 3) := by decide +kernel
theorem dX5_readOrder_19 : decode cX5_readOrder 19 = .ok (.istore_n 1, 1) := by decide +kernel
theorem dX5_readOrder_20 : decode cX5_readOrder 20 = .ok (.iload_n 1, 1) := by decide +kernel
theorem dX5_readOrder_21 : decode cX5_readOrder 21 = .ok (.ifCond .ne 5, 3) := by decide +kernel
theorem dX5_readOrder_24 : decode cX5_readOrder 24 = .ok (.iconst 0, 1) := by decide +kernel
theorem dX5_readOrder_25 : decode cX5_readOrder 25 = .ok (.ireturn, 1) := by decide +kernel
theorem dX5_readOrder_26 : decode cX5_readOrder 26 = .ok (.aload_n 0, 1) := by decide +kernel
theorem dX5_readOrder_27 : decode cX5_readOrder 27 = .ok (.dup, 1) := by decide +kernel
theorem dX5_readOrder_28 : decode cX5_readOrder 28 = .ok (.getfield 48, 3) := by decide +kernel
theorem dX5_readOrder_31 : decode cX5_readOrder 31 = .ok (.iconst 1, 1) := by decide +kernel
theorem dX5_readOrder_32 : decode cX5_readOrder 32 = .ok (.iadd, 1) := by decide +kernel
theorem dX5_readOrder_33 : decode cX5_readOrder 33 = .ok (.putfield 48, 3) := by decide +kernel
theorem dX5_readOrder_36 : decode cX5_readOrder 36 = .ok (.iconst 0, 1) := by decide +kernel
theorem dX5_readOrder_37 : decode cX5_readOrder 37 = .ok (.istore_n 2, 1) := by decide +kernel
theorem dX5_readOrder_38 : decode cX5_readOrder 38 = .ok (.iload_n 2, 1) := by decide +kernel
theorem dX5_readOrder_39 : decode cX5_readOrder 39 = .ok (.iload_n 1, 1) := by decide +kernel
theorem dX5_readOrder_40 : decode cX5_readOrder 40 = .ok (.if_icmp .ge 54, 3) := by decide +kernel
theorem dX5_readOrder_43 : decode cX5_readOrder 43 = .ok (.aload_n 0, 1) := by decide +kernel
theorem dX5_readOrder_44 : decode cX5_readOrder 44 = .ok (.iload_n 2, 1) := by decide +kernel
theorem dX5_readOrder_45 : decode cX5_readOrder 45 = .ok (.invokevirtual 63, 3) := by decide +kernel
theorem dX5_readOrder_48 : decode cX5_readOrder 48 = .ok (.ifCond .eq 28, 3) := by decide +kernel
theorem dX5_readOrder_51 : decode cX5_readOrder 51 = .ok (.aload_n 0, 1) := by decide +kernel
theorem dX5_readOrder_52 : decode cX5_readOrder 52 = .ok (.aload_n 0, 1) := by decide +kernel
theorem dX5_readOrder_53 : decode cX5_readOrder 53 = .ok (.getfield 48, 3) := by decide +kernel
theorem dX5_readOrder_56 : decode cX5_readOrder 56 = .ok (.invokevirtual 55, 3) := by decide +kernel
theorem dX5_readOrder_59 : decode cX5_readOrder 59 = .ok (.iload_n 2, 1) := by decide +kernel
theorem dX5_readOrder_60 : decode cX5_readOrder 60 = .ok (.iload_n 1, 1) := by decide +kernel
theorem dX5_readOrder_61 : decode cX5_readOrder 61 = .ok (.iconst 1, 1) := by decide +kernel
theorem dX5_readOrder_62 : decode cX5_readOrder 62 = .ok (.isub, 1) := by decide +kernel
theorem dX5_readOrder_63 : decode cX5_readOrder 63 = .ok (.if_icmp .ne 8, 3) := by decide +kernel
theorem dX5_readOrder_66 : decode cX5_readOrder 66 = .ok (.bipush 59, 2) := by decide +kernel
theorem dX5_readOrder_68 : decode cX5_readOrder 68 = .ok (.goto 5, 3) := by decide +kernel
theorem dX5_readOrder_71 : decode cX5_readOrder 71 = .ok (.bipush 44, 2) := by decide +kernel
theorem dX5_readOrder_73 : decode cX5_readOrder 73 = .ok (.if_icmp .eq 5, 3) := by decide +kernel
theorem dX5_readOrder_76 : decode cX5_readOrder 76 = .ok (.iconst 0, 1) := by decide +kernel
theorem dX5_readOrder_77 : decode cX5_readOrder 77 = .ok (.ireturn, 1) := by decide +kernel
theorem dX5_readOrder_78 : decode cX5_readOrder 78 = .ok (.aload_n 0, 1) := by decide +kernel
theorem dX5_readOrder_79 : decode cX5_readOrder 79 = .ok (.dup, 1) := by decide +kernel
theorem dX5_readOrder_80 : decode cX5_readOrder 80 = .ok (.getfield 48, 3) := by decide +kernel
theorem dX5_readOrder_83 : decode cX5_readOrder 83 = .ok (.iconst 1, 1) := by decide +kernel
theorem dX5_readOrder_84 : decode cX5_readOrder 84 = .ok (.iadd, 1) := by decide +kernel
theorem dX5_readOrder_85 : decode cX5_readOrder 85 = .ok (.putfield 48, 3) := by decide +kernel
theorem dX5_readOrder_88 : decode cX5_readOrder 88 = .ok (.iinc 2 1, 3) := by decide +kernel
theorem dX5_readOrder_91 : decode cX5_readOrder 91 = .ok (.goto (-53), 3) := by decide +kernel
theorem dX5_readOrder_94 : decode cX5_readOrder 94 = .ok (.iconst 1, 1) := by decide +kernel
theorem dX5_readOrder_95 : decode cX5_readOrder 95 = .ok (.ireturn, 1) := by decide +kernel
set_option maxRecDepth 20000 in
theorem ggX5_readNumber_X5_signAt : GoodIn wsX5_readNumber wsX5_signAt := goodIn_r _ [7, 8, 9, 13, 14, 15, 16, 17, 18, 19, 20] (by decide +kernel) (by decide +kernel)
set_option maxRecDepth 20000 in
theorem gX5_readNumber_X5_signAt : GoodIn wsX5_readNumber (wsV RX5 55 RX5 yX5_signAt wsX5_signAt) := goodIn_app (goodIn_of _ (by decide +kernel)) ggX5_readNumber_X5_signAt
set_option maxRecDepth 20000 in
theorem ggX5_readNumber_X5_isDigit : GoodIn wsX5_readNumber wsX5_isDigit := goodIn_r _ [12] (by decide +kernel) (by decide +kernel)
set_option maxRecDepth 20000 in
theorem gX5_readNumber_X5_isDigit : GoodIn wsX5_readNumber (va_wsS RX5 66 yX5_isDigit wsX5_isDigit) := goodIn_app (goodIn_of _ (by decide +kernel)) ggX5_readNumber_X5_isDigit
theorem dX5_readNumber_0 : decode cX5_readNumber 0 = .ok (.iconst 0, 1) := by decide +kernel
theorem dX5_readNumber_1 : decode cX5_readNumber 1 = .ok (.istore_n 2, 1) := by decide +kernel
theorem dX5_readNumber_2 : decode cX5_readNumber 2 = .ok (.iconst 0, 1) := by decide +kernel
theorem dX5_readNumber_3 : decode cX5_readNumber 3 = .ok (.istore_n 3, 1) := by decide +kernel
theorem dX5_readNumber_4 : decode cX5_readNumber 4 = .ok (.iload_n 3, 1) := by decide +kernel
theorem dX5_readNumber_5 : decode cX5_readNumber 5 = .ok (.iconst 4, 1) := by decide +kernel
theorem dX5_readNumber_6 : decode cX5_readNumber 6 = .ok (.if_icmp .ge 50, 3) := by decide +kernel
theorem dX5_readNumber_9 : decode cX5_readNumber 9 = .ok (.aload_n 0, 1) := by decide +kernel
theorem dX5_readNumber_10 : decode cX5_readNumber 10 = .ok (.aload_n 0, 1) := by decide +kernel
theorem dX5_readNumber_11 : decode cX5_readNumber 11 = .ok (.getfield 48, 3) := by decide +kernel
theorem dX5_readNumber_14 : decode cX5_readNumber 14 = .ok (.invokevirtual 55, 3) := by decide +kernel
theorem dX5_readNumber_17 : decode cX5_readNumber 17 = .ok (.invokestatic 66, 3) := by decide +kernel
theorem dX5_readNumber_20 : decode cX5_readNumber 20 = .ok (.ifCond .eq 36, 3) := by decide +kernel
theorem dX5_readNumber_23 : decode cX5_readNumber 23 = .ok (.bipush 10, 2) := by decide +kernel
theorem dX5_readNumber_25 : decode cX5_readNumber 25 = .ok (.iload_n 2, 1) := by decide +kernel
theorem dX5_readNumber_26 : decode cX5_readNumber 26 = .ok (.imul, 1) := by decide +kernel
theorem dX5_readNumber_27 : decode cX5_readNumber 27 = .ok (.aload_n 0, 1) := by decide +kernel
theorem dX5_readNumber_28 : decode cX5_readNumber 28 = .ok (.aload_n 0, 1) := by decide +kernel
theorem dX5_readNumber_29 : decode cX5_readNumber 29 = .ok (.getfield 48, 3) := by decide +kernel
theorem dX5_readNumber_32 : decode cX5_readNumber 32 = .ok (.invokevirtual 55, 3) := by decide +kernel
theorem dX5_readNumber_35 : decode cX5_readNumber 35 = .ok (.iadd, 1) := by decide +kernel
theorem dX5_readNumber_36 : decode cX5_readNumber 36 = .ok (.bipush 48, 2) := by decide +kernel
theorem dX5_readNumber_38 : decode cX5_readNumber 38 = .ok (.isub, 1) := by decide +kernel
theorem dX5_readNumber_39 : decode cX5_readNumber 39 = .ok (.istore_n 2, 1) := by decide +kernel
theorem dX5_readNumber_40 : decode cX5_readNumber 40 = .ok (.iinc 3 1, 3) := by decide +kernel
theorem dX5_readNumber_43 : decode cX5_readNumber 43 = .ok (.aload_n 0, 1) := by decide +kernel
theorem dX5_readNumber_44 : decode cX5_readNumber 44 = .ok (.dup, 1) := by decide +kernel
theorem dX5_readNumber_45 : decode cX5_readNumber 45 = .ok (.getfield 48, 3) := by decide +kernel
theorem dX5_readNumber_48 : decode cX5_readNumber 48 = .ok (.iconst 1, 1) := by decide +kernel
theorem dX5_readNumber_49 : decode cX5_readNumber 49 = .ok (.iadd, 1) := by decide +kernel
theorem dX5_readNumber_50 : decode cX5_readNumber 50 = .ok (.putfield 48, 3) := by decide +kernel
theorem dX5_readNumber_53 : decode cX5_readNumber 53 = .ok (.goto (-49), 3) := by decide +kernel
theorem dX5_readNumber_56 : decode cX5_readNumber 56 = .ok (.iload_n 3, 1) := by decide +kernel
theorem dX5_readNumber_57 : decode cX5_readNumber 57 = .ok (.ifCond .eq 8, 3) := by decide +kernel
theorem dX5_readNumber_60 : decode cX5_readNumber 60 = .ok (.iload_n 1, 1) := by decide +kernel
theorem dX5_readNumber_61 : decode cX5_readNumber 61 = .ok (.iconst 4, 1) := by decide +kernel
theorem dX5_readNumber_62 : decode cX5_readNumber 62 = .ok (.if_icmp .lt 5, 3) := by decide +kernel
theorem dX5_readNumber_65 : decode cX5_readNumber 65 = .ok (.iconst 0, 1) := by decide +kernel
theorem dX5_readNumber_66 : decode cX5_readNumber 66 = .ok (.ireturn, 1) := by decide +kernel
theorem dX5_readNumber_67 : decode cX5_readNumber 67 = .ok (.aload_n 0, 1) := by decide +kernel
theorem dX5_readNumber_68 : decode cX5_readNumber 68 = .ok (.getfield 15, 3) := by decide +kernel
theorem dX5_readNumber_71 : decode cX5_readNumber 71 = .ok (.iload_n 1, 1) := by decide +kernel
theorem dX5_readNumber_72 : decode cX5_readNumber 72 = .ok (.iload_n 2, 1) := by decide +kernel
theorem dX5_readNumber_73 : decode cX5_readNumber 73 = .ok (.iastore, 1) := by decide +kernel
theorem dX5_readNumber_74 : decode cX5_readNumber 74 = .ok (.iconst 1, 1) := by decide +kernel
theorem dX5_readNumber_75 : decode cX5_readNumber 75 = .ok (.ireturn, 1) := by decide +kernel
theorem dX5_signAt_0 : decode cX5_signAt 0 = .ok (.iload_n 1, 1) := by decide +kernel
theorem dX5_signAt_1 : decode cX5_signAt 1 = .ok (.ifCond .lt 26, 3) := by decide +kernel
theorem dX5_signAt_4 : decode cX5_signAt 4 = .ok (.iload_n 1, 1) := by decide +kernel
theorem dX5_signAt_5 : decode cX5_signAt 5 = .ok (.aload_n 0, 1) := by decide +kernel
theorem dX5_signAt_6 : decode cX5_signAt 6 = .ok (.getfield 19, 3) := by decide +kernel
theorem dX5_signAt_9 : decode cX5_signAt 9 = .ok (.if_icmp .ge 18, 3) := by decide +kernel
theorem dX5_signAt_12 : decode cX5_signAt 12 = .ok (.iload_n 1, 1) := by decide +kernel
theorem dX5_signAt_13 : decode cX5_signAt 13 = .ok (.bipush 60, 2) := by decide +kernel
theorem dX5_signAt_15 : decode cX5_signAt 15 = .ok (.if_icmp .ge 12, 3) := by decide +kernel
theorem dX5_signAt_18 : decode cX5_signAt 18 = .ok (.aload_n 0, 1) := by decide +kernel
theorem dX5_signAt_19 : decode cX5_signAt 19 = .ok (.getfield 9, 3) := by decide +kernel
theorem dX5_signAt_22 : decode cX5_signAt 22 = .ok (.iload_n 1, 1) := by decide +kernel
theorem dX5_signAt_23 : decode cX5_signAt 23 = .ok (.caload, 1) := by decide +kernel
theorem dX5_signAt_24 : decode cX5_signAt 24 = .ok (.goto 4, 3) := by decide +kernel
theorem dX5_signAt_27 : decode cX5_signAt 27 = .ok (.iconst 0, 1) := by decide +kernel
theorem dX5_signAt_28 : decode cX5_signAt 28 = .ok (.ireturn, 1) := by decide +kernel
theorem dX5_isDigit_0 : decode cX5_isDigit 0 = .ok (.iload_n 0, 1) := by decide +kernel
theorem dX5_isDigit_1 : decode cX5_isDigit 1 = .ok (.bipush 48, 2) := by decide +kernel
theorem dX5_isDigit_3 : decode cX5_isDigit 3 = .ok (.if_icmp .lt 13, 3) := by decide +kernel
theorem dX5_isDigit_6 : decode cX5_isDigit 6 = .ok (.iload_n 0, 1) := by decide +kernel
theorem dX5_isDigit_7 : decode cX5_isDigit 7 = .ok (.bipush 57, 2) := by decide +kernel
theorem dX5_isDigit_9 : decode cX5_isDigit 9 = .ok (.if_icmp .gt 7, 3) := by decide +kernel
theorem dX5_isDigit_12 : decode cX5_isDigit 12 = .ok (.iconst 1, 1) := by decide +kernel
theorem dX5_isDigit_13 : decode cX5_isDigit 13 = .ok (.goto 4, 3) := by decide +kernel
theorem dX5_isDigit_16 : decode cX5_isDigit 16 = .ok (.iconst 0, 1) := by decide +kernel
theorem dX5_isDigit_17 : decode cX5_isDigit 17 = .ok (.ireturn, 1) := by decide +kernel
theorem dX5_numbersOf_0 : decode cX5_numbersOf 0 = .ok (.iload_n 0, 1) := by decide +kernel
theorem dX5_numbersOf_1 : decode cX5_numbersOf 1 = .ok (.tableswitch 93 98 115 #[89, 91, 91, 93, 93, 93, 93, 93, 93, 93, 87, 91, 93, 93, 93, 93, 93, 87], 87) := by decide +kernel
theorem dX5_numbersOf_88 : decode cX5_numbersOf 88 = .ok (.iconst 2, 1) := by decide +kernel
theorem dX5_numbersOf_89 : decode cX5_numbersOf 89 = .ok (.ireturn, 1) := by decide +kernel
theorem dX5_numbersOf_90 : decode cX5_numbersOf 90 = .ok (.iconst 4, 1) := by decide +kernel
theorem dX5_numbersOf_91 : decode cX5_numbersOf 91 = .ok (.ireturn, 1) := by decide +kernel
theorem dX5_numbersOf_92 : decode cX5_numbersOf 92 = .ok (.iconst 1, 1) := by decide +kernel
theorem dX5_numbersOf_93 : decode cX5_numbersOf 93 = .ok (.ireturn, 1) := by decide +kernel
theorem dX5_numbersOf_94 : decode cX5_numbersOf 94 = .ok (.iconst 0, 1) := by decide +kernel
theorem dX5_numbersOf_95 : decode cX5_numbersOf 95 = .ok (.ireturn, 1) := by decide +kernel
set_option maxRecDepth 20000 in
theorem ggX5_perform_X5_signAt : GoodIn wsX5_perform wsX5_signAt := goodIn_r _ [8, 9, 10, 168, 169, 170, 171, 172, 173, 174, 175] (by decide +kernel) (by decide +kernel)
set_option maxRecDepth 20000 in
theorem gX5_perform_X5_signAt : GoodIn wsX5_perform (wsV RX5 55 RX5 yX5_signAt wsX5_signAt) := goodIn_app (goodIn_of _ (by decide +kernel)) ggX5_perform_X5_signAt
set_option maxRecDepth 20000 in
theorem ggX5_perform_X3_bringLot : GoodIn wsX5_perform wsX3_bringLot := goodIn_r _ [15, 16, 17, 18, 19, 20, 21, 22, 23, 24, 25, 26, 27, 28, 29, 30, 31, 32, 33, 34, 35, 36, 37, 176, 177, 178, 179, 180, 181, 182, 183, 184, 185, 186, 187, 188, 189, 190] (by decide +kernel) (by decide +kernel)
set_option maxRecDepth 20000 in
theorem gX5_perform_X3_bringLot : GoodIn wsX5_perform (wsV RX5 70 RX3 yX3_bringLot wsX3_bringLot) := goodIn_app (goodIn_of _ (by decide +kernel)) ggX5_perform_X3_bringLot
set_option maxRecDepth 20000 in
theorem ggX5_perform_X3_blendLots : GoodIn wsX5_perform wsX3_blendLots := goodIn_r _ [41, 17, 16, 42, 43, 44, 18, 45, 46, 47, 25, 48, 29, 28, 49, 35, 36, 37, 50, 51, 52, 53, 32, 33, 54, 55, 56, 57, 31, 22, 23, 24, 26, 27, 30, 34, 176, 177, 178, 179, 180, 181, 182, 183, 184, 185, 186, 187, 188, 189, 190] (by decide +kernel) (by decide +kernel)
set_option maxRecDepth 20000 in
theorem gX5_perform_X3_blendLots : GoodIn wsX5_perform (wsV RX5 76 RX3 yX3_blendLots wsX3_blendLots) := goodIn_app (goodIn_of _ (by decide +kernel)) ggX5_perform_X3_blendLots
set_option maxRecDepth 20000 in
theorem ggX5_perform_X3_cupAnew : GoodIn wsX5_perform wsX3_cupAnew := goodIn_r _ [61, 17, 16, 42, 43, 62, 18, 63, 45, 46, 47, 25, 48, 29, 28, 50, 51, 52, 53, 32, 33, 176, 177, 178, 179, 180, 181, 182, 183, 184, 185, 186, 187, 188, 189, 190] (by decide +kernel) (by decide +kernel)
set_option maxRecDepth 20000 in
theorem gX5_perform_X3_cupAnew : GoodIn wsX5_perform (wsV RX5 80 RX3 yX3_cupAnew wsX3_cupAnew) := goodIn_app (goodIn_of _ (by decide +kernel)) ggX5_perform_X3_cupAnew
set_option maxRecDepth 20000 in
theorem ggX5_perform_X3_sellContract : GoodIn wsX5_perform wsX3_sellContract := goodIn_r _ [67, 16, 18, 43, 68, 19, 20, 21, 69, 70, 71, 14, 72, 73, 74, 75, 76, 77, 78, 79, 80, 81, 82, 83, 84, 85, 86, 176, 177, 178, 179, 180, 181, 182, 183, 184, 191, 192, 193] (by decide +kernel) (by decide +kernel)
set_option maxRecDepth 20000 in
theorem gX5_perform_X3_sellContract : GoodIn wsX5_perform (wsV RX5 84 RX3 yX3_sellContract wsX3_sellContract) := goodIn_app (goodIn_of _ (by decide +kernel)) ggX5_perform_X3_sellContract
set_option maxRecDepth 20000 in
theorem ggX5_perform_X3_meetContract : GoodIn wsX5_perform wsX3_meetContract := goodIn_r _ [90, 68, 16, 91, 18, 43, 92, 93, 94, 17, 42, 95, 96, 97, 98, 99, 100, 73, 101, 102, 103, 81, 104, 83, 105, 106, 107, 108, 109, 110, 111, 112, 113, 114, 115, 116, 117, 118, 119, 120, 121, 122, 123, 124, 125, 126, 127, 128, 129, 51, 52, 25, 53, 32, 33, 130, 131, 132, 133, 134, 135, 136, 14, 137, 138, 20, 139, 140, 141, 142, 143, 144, 145, 146, 147, 148, 149, 150, 151, 152, 153, 54, 55, 56, 57, 29, 31, 28, 154, 155, 156, 157, 85, 86, 158, 176, 177, 178, 179, 180, 181, 182, 183, 184, 191, 192, 193, 194, 195, 196, 197, 198, 199, 200, 201, 202, 203, 204, 205, 185, 186, 187, 188, 189, 190] (by decide +kernel) (by decide +kernel)
set_option maxRecDepth 20000 in
theorem gX5_perform_X3_meetContract : GoodIn wsX5_perform (wsV RX5 87 RX3 yX3_meetContract wsX3_meetContract) := goodIn_app (goodIn_of _ (by decide +kernel)) ggX5_perform_X3_meetContract
set_option maxRecDepth 20000 in
theorem ggX5_perform_X3_passMonths : GoodIn wsX5_perform wsX3_passMonths := goodIn_r _ [162, 16, 18, 44, 68, 163, 97, 73, 19, 20, 21, 164, 165, 166, 81, 167, 83, 85, 86, 176, 177, 178, 179, 180, 181, 182, 183, 184, 191, 192, 193] (by decide +kernel) (by decide +kernel)
set_option maxRecDepth 20000 in
theorem gX5_perform_X3_passMonths : GoodIn wsX5_perform (wsV RX5 91 RX3 yX3_passMonths wsX3_passMonths) := goodIn_app (goodIn_of _ (by decide +kernel)) ggX5_perform_X3_passMonths
theorem dX5_perform_0 : decode cX5_perform 0 = .ok (.aload_n 0, 1) := by decide +kernel
theorem dX5_perform_1 : decode cX5_perform 1 = .ok (.aload_n 0, 1) := by decide +kernel
theorem dX5_perform_2 : decode cX5_perform 2 = .ok (.getfield 24, 3) := by decide +kernel
theorem dX5_perform_5 : decode cX5_perform 5 = .ok (.invokevirtual 55, 3) := by decide +kernel
theorem dX5_perform_8 : decode cX5_perform 8 = .ok (.tableswitch 185 98 115 #[105, 134, 162, 185, 185, 185, 185, 185, 185, 185, 88, 174, 185, 185, 185, 185, 185, 145], 88) := by decide +kernel
theorem dX5_perform_96 : decode cX5_perform 96 = .ok (.aload_n 1, 1) := by decide +kernel
theorem dX5_perform_97 : decode cX5_perform 97 = .ok (.aload_n 0, 1) := by decide +kernel
theorem dX5_perform_98 : decode cX5_perform 98 = .ok (.getfield 15, 3) := by decide +kernel
theorem dX5_perform_101 : decode cX5_perform 101 = .ok (.iconst 0, 1) := by decide +kernel
theorem dX5_perform_102 : decode cX5_perform 102 = .ok (.iaload, 1) := by decide +kernel
theorem dX5_perform_103 : decode cX5_perform 103 = .ok (.aload_n 0, 1) := by decide +kernel
theorem dX5_perform_104 : decode cX5_perform 104 = .ok (.getfield 15, 3) := by decide +kernel
theorem dX5_perform_107 : decode cX5_perform 107 = .ok (.iconst 1, 1) := by decide +kernel
theorem dX5_perform_108 : decode cX5_perform 108 = .ok (.iaload, 1) := by decide +kernel
theorem dX5_perform_109 : decode cX5_perform 109 = .ok (.invokevirtual 70, 3) := by decide +kernel
theorem dX5_perform_112 : decode cX5_perform 112 = .ok (.ireturn, 1) := by decide +kernel
theorem dX5_perform_113 : decode cX5_perform 113 = .ok (.aload_n 1, 1) := by decide +kernel
theorem dX5_perform_114 : decode cX5_perform 114 = .ok (.aload_n 0, 1) := by decide +kernel
theorem dX5_perform_115 : decode cX5_perform 115 = .ok (.getfield 15, 3) := by decide +kernel
theorem dX5_perform_118 : decode cX5_perform 118 = .ok (.iconst 0, 1) := by decide +kernel
theorem dX5_perform_119 : decode cX5_perform 119 = .ok (.iaload, 1) := by decide +kernel
theorem dX5_perform_120 : decode cX5_perform 120 = .ok (.aload_n 0, 1) := by decide +kernel
theorem dX5_perform_121 : decode cX5_perform 121 = .ok (.getfield 15, 3) := by decide +kernel
theorem dX5_perform_124 : decode cX5_perform 124 = .ok (.iconst 1, 1) := by decide +kernel
theorem dX5_perform_125 : decode cX5_perform 125 = .ok (.iaload, 1) := by decide +kernel
theorem dX5_perform_126 : decode cX5_perform 126 = .ok (.aload_n 0, 1) := by decide +kernel
theorem dX5_perform_127 : decode cX5_perform 127 = .ok (.getfield 15, 3) := by decide +kernel
theorem dX5_perform_130 : decode cX5_perform 130 = .ok (.iconst 2, 1) := by decide +kernel
theorem dX5_perform_131 : decode cX5_perform 131 = .ok (.iaload, 1) := by decide +kernel
theorem dX5_perform_132 : decode cX5_perform 132 = .ok (.aload_n 0, 1) := by decide +kernel
theorem dX5_perform_133 : decode cX5_perform 133 = .ok (.getfield 15, 3) := by decide +kernel
theorem dX5_perform_136 : decode cX5_perform 136 = .ok (.iconst 3, 1) := by decide +kernel
theorem dX5_perform_137 : decode cX5_perform 137 = .ok (.iaload, 1) := by decide +kernel
theorem dX5_perform_138 : decode cX5_perform 138 = .ok (.invokevirtual 76, 3) := by decide +kernel
theorem dX5_perform_141 : decode cX5_perform 141 = .ok (.ireturn, 1) := by decide +kernel
theorem dX5_perform_142 : decode cX5_perform 142 = .ok (.aload_n 1, 1) := by decide +kernel
theorem dX5_perform_143 : decode cX5_perform 143 = .ok (.aload_n 0, 1) := by decide +kernel
theorem dX5_perform_144 : decode cX5_perform 144 = .ok (.getfield 15, 3) := by decide +kernel
theorem dX5_perform_147 : decode cX5_perform 147 = .ok (.iconst 0, 1) := by decide +kernel
theorem dX5_perform_148 : decode cX5_perform 148 = .ok (.iaload, 1) := by decide +kernel
theorem dX5_perform_149 : decode cX5_perform 149 = .ok (.invokevirtual 80, 3) := by decide +kernel
theorem dX5_perform_152 : decode cX5_perform 152 = .ok (.ireturn, 1) := by decide +kernel
theorem dX5_perform_153 : decode cX5_perform 153 = .ok (.aload_n 1, 1) := by decide +kernel
theorem dX5_perform_154 : decode cX5_perform 154 = .ok (.aload_n 0, 1) := by decide +kernel
theorem dX5_perform_155 : decode cX5_perform 155 = .ok (.getfield 15, 3) := by decide +kernel
theorem dX5_perform_158 : decode cX5_perform 158 = .ok (.iconst 0, 1) := by decide +kernel
theorem dX5_perform_159 : decode cX5_perform 159 = .ok (.iaload, 1) := by decide +kernel
theorem dX5_perform_160 : decode cX5_perform 160 = .ok (.aload_n 0, 1) := by decide +kernel
theorem dX5_perform_161 : decode cX5_perform 161 = .ok (.getfield 15, 3) := by decide +kernel
theorem dX5_perform_164 : decode cX5_perform 164 = .ok (.iconst 1, 1) := by decide +kernel
theorem dX5_perform_165 : decode cX5_perform 165 = .ok (.iaload, 1) := by decide +kernel
theorem dX5_perform_166 : decode cX5_perform 166 = .ok (.invokevirtual 84, 3) := by decide +kernel
theorem dX5_perform_169 : decode cX5_perform 169 = .ok (.ireturn, 1) := by decide +kernel
theorem dX5_perform_170 : decode cX5_perform 170 = .ok (.aload_n 1, 1) := by decide +kernel
theorem dX5_perform_171 : decode cX5_perform 171 = .ok (.aload_n 0, 1) := by decide +kernel
theorem dX5_perform_172 : decode cX5_perform 172 = .ok (.getfield 15, 3) := by decide +kernel
theorem dX5_perform_175 : decode cX5_perform 175 = .ok (.iconst 0, 1) := by decide +kernel
theorem dX5_perform_176 : decode cX5_perform 176 = .ok (.iaload, 1) := by decide +kernel
theorem dX5_perform_177 : decode cX5_perform 177 = .ok (.aload_n 2, 1) := by decide +kernel
theorem dX5_perform_178 : decode cX5_perform 178 = .ok (.invokevirtual 87, 3) := by decide +kernel
theorem dX5_perform_181 : decode cX5_perform 181 = .ok (.ireturn, 1) := by decide +kernel
theorem dX5_perform_182 : decode cX5_perform 182 = .ok (.aload_n 1, 1) := by decide +kernel
theorem dX5_perform_183 : decode cX5_perform 183 = .ok (.aload_n 0, 1) := by decide +kernel
theorem dX5_perform_184 : decode cX5_perform 184 = .ok (.getfield 15, 3) := by decide +kernel
theorem dX5_perform_187 : decode cX5_perform 187 = .ok (.iconst 0, 1) := by decide +kernel
theorem dX5_perform_188 : decode cX5_perform 188 = .ok (.iaload, 1) := by decide +kernel
theorem dX5_perform_189 : decode cX5_perform 189 = .ok (.invokevirtual 91, 3) := by decide +kernel
theorem dX5_perform_192 : decode cX5_perform 192 = .ok (.ireturn, 1) := by decide +kernel
theorem dX5_perform_193 : decode cX5_perform 193 = .ok (.ldc 94, 2) := by decide +kernel
theorem dX5_perform_195 : decode cX5_perform 195 = .ok (.ireturn, 1) := by decide +kernel
set_option maxRecDepth 20000 in
theorem ggX6_init_X3_init : GoodIn wsX6_init wsX3_init := goodIn_r _ [22, 23, 2, 3, 24, 25, 26, 27, 28, 29, 30, 31, 32, 33, 34, 35, 36, 37, 38, 39, 40, 41, 42, 43, 44, 45, 46, 47, 48, 49, 50, 51, 52, 111, 112, 113, 114, 115, 116, 75, 76, 77, 78, 79, 80, 81, 82, 83, 117, 118, 119] (by decide +kernel) (by decide +kernel)
set_option maxRecDepth 20000 in
theorem gX6_init_X3_init_n9 : GoodIn wsX6_init (wsX3_init) := ggX6_init_X3_init
set_option maxRecDepth 20000 in
theorem ggX6_init_X2_init : GoodIn wsX6_init wsX2_init := goodIn_r _ [55, 56, 2, 3, 57, 58, 5, 6, 21, 22, 23, 24, 25, 26, 27, 28, 29, 30, 31, 32, 33, 34, 35, 36, 37, 38, 39, 40, 41, 42, 43, 44, 45, 46, 47, 48, 49, 50, 51, 52, 89, 90, 75, 76, 77, 78, 79, 80, 81, 82, 83, 111, 112, 113, 114, 115, 116, 117, 118, 119] (by decide +kernel) (by decide +kernel)
set_option maxRecDepth 20000 in
theorem gX6_init_X2_init : GoodIn wsX6_init (wsX2_init) := ggX6_init_X2_init
set_option maxRecDepth 20000 in
theorem ggX6_init_X1_init : GoodIn wsX6_init wsX1_init := goodIn_r _ [60, 61, 2, 3, 43, 62, 63, 64, 65, 66, 67, 68, 91, 92, 93, 94, 95, 96, 97, 98, 99, 100, 101, 102] (by decide +kernel) (by decide +kernel)
set_option maxRecDepth 20000 in
theorem gX6_init_X1_init_n28 : GoodIn wsX6_init (wsX1_init) := ggX6_init_X1_init
set_option maxRecDepth 20000 in
theorem ggX6_init_X5_init : GoodIn wsX6_init wsX5_init := goodIn_r _ [70, 71, 2, 3, 72, 73, 43, 74, 103, 104, 105, 106, 107, 108, 109, 110] (by decide +kernel) (by decide +kernel)
set_option maxRecDepth 20000 in
theorem gX6_init_X5_init_n35 : GoodIn wsX6_init (wsX5_init) := ggX6_init_X5_init
theorem dX6_init_0 : decode cX6_init 0 = .ok (.aload_n 0, 1) := by decide +kernel
theorem dX6_init_1 : decode cX6_init 1 = .ok (.invokespecial 1, 3) := by decide +kernel
theorem dX6_init_4 : decode cX6_init 4 = .ok (.aload_n 0, 1) := by decide +kernel
theorem dX6_init_5 : decode cX6_init 5 = .ok (.new 7, 3) := by decide +kernel
theorem dX6_init_8 : decode cX6_init 8 = .ok (.dup, 1) := by decide +kernel
theorem dX6_init_9 : decode cX6_init 9 = .ok (.invokespecial 9, 3) := by decide +kernel
theorem dX6_init_12 : decode cX6_init 12 = .ok (.putfield 10, 3) := by decide +kernel
theorem dX6_init_15 : decode cX6_init 15 = .ok (.aload_n 0, 1) := by decide +kernel
theorem dX6_init_16 : decode cX6_init 16 = .ok (.new 7, 3) := by decide +kernel
theorem dX6_init_19 : decode cX6_init 19 = .ok (.dup, 1) := by decide +kernel
theorem dX6_init_20 : decode cX6_init 20 = .ok (.invokespecial 9, 3) := by decide +kernel
theorem dX6_init_23 : decode cX6_init 23 = .ok (.putfield 16, 3) := by decide +kernel
theorem dX6_init_26 : decode cX6_init 26 = .ok (.aload_n 0, 1) := by decide +kernel
theorem dX6_init_27 : decode cX6_init 27 = .ok (.new 19, 3) := by decide +kernel
theorem dX6_init_30 : decode cX6_init 30 = .ok (.dup, 1) := by decide +kernel
theorem dX6_init_31 : decode cX6_init 31 = .ok (.invokespecial 21, 3) := by decide +kernel
theorem dX6_init_34 : decode cX6_init 34 = .ok (.putfield 22, 3) := by decide +kernel
theorem dX6_init_37 : decode cX6_init 37 = .ok (.aload_n 0, 1) := by decide +kernel
theorem dX6_init_38 : decode cX6_init 38 = .ok (.new 26, 3) := by decide +kernel
theorem dX6_init_41 : decode cX6_init 41 = .ok (.dup, 1) := by decide +kernel
theorem dX6_init_42 : decode cX6_init 42 = .ok (.invokespecial 28, 3) := by decide +kernel
theorem dX6_init_45 : decode cX6_init 45 = .ok (.putfield 29, 3) := by decide +kernel
theorem dX6_init_48 : decode cX6_init 48 = .ok (.aload_n 0, 1) := by decide +kernel
theorem dX6_init_49 : decode cX6_init 49 = .ok (.new 33, 3) := by decide +kernel
theorem dX6_init_52 : decode cX6_init 52 = .ok (.dup, 1) := by decide +kernel
theorem dX6_init_53 : decode cX6_init 53 = .ok (.invokespecial 35, 3) := by decide +kernel
theorem dX6_init_56 : decode cX6_init 56 = .ok (.putfield 36, 3) := by decide +kernel
theorem dX6_init_59 : decode cX6_init 59 = .ok (.return_, 1) := by decide +kernel
set_option maxRecDepth 20000 in
theorem ggX6_lot_X3_copyFrom : GoodIn wsX6_lot wsX3_copyFrom := goodIn_r _ [7, 8, 9, 10, 11, 12, 13, 14, 15, 16, 17, 18, 19, 20, 21, 22, 23, 24, 25, 26, 27, 28, 29, 30, 31, 32, 33, 34, 35, 81, 82, 83, 84, 85, 86, 87, 88, 89, 90, 91, 92, 93, 94, 95, 96, 97, 98] (by decide +kernel) (by decide +kernel)
set_option maxRecDepth 20000 in
theorem gX6_lot_X3_copyFrom : GoodIn wsX6_lot (wsV RX6 40 RX3 yX3_copyFrom wsX3_copyFrom) := goodIn_app (goodIn_of _ (by decide +kernel)) ggX6_lot_X3_copyFrom
set_option maxRecDepth 20000 in
theorem ggX6_lot_X3_bringLot : GoodIn wsX6_lot wsX3_bringLot := goodIn_r _ [39, 40, 8, 12, 41, 42, 43, 44, 45, 46, 20, 47, 48, 22, 26, 27, 23, 24, 25, 49, 50, 51, 52, 81, 82, 83, 84, 85, 86, 87, 88, 89, 90, 91, 92, 93, 94, 95] (by decide +kernel) (by decide +kernel)
set_option maxRecDepth 20000 in
theorem gX6_lot_X3_bringLot : GoodIn wsX6_lot (wsV RX6 44 RX3 yX3_bringLot wsX3_bringLot) := goodIn_app (goodIn_of _ (by decide +kernel)) ggX6_lot_X3_bringLot
set_option maxRecDepth 20000 in
theorem ggX6_lot_X6_accept : GoodIn wsX6_lot wsX6_accept := goodIn_r _ [56, 57, 2, 1, 58, 59, 42, 60, 61, 62, 63, 41, 43, 64, 65, 66, 67, 68, 69, 70, 71, 72, 73, 74, 75, 4, 5, 6, 7, 8, 9, 10, 11, 12, 13, 14, 15, 16, 17, 18, 19, 20, 21, 22, 23, 24, 25, 26, 27, 28, 29, 30, 31, 32, 33, 34, 35, 3, 76, 77, 78, 79, 80, 99, 100, 81, 82, 83, 84, 85, 86, 87, 88, 89, 90, 91, 92, 93, 94, 95, 96, 97, 98] (by decide +kernel) (by decide +kernel)
set_option maxRecDepth 20000 in
theorem gX6_lot_X6_accept : GoodIn wsX6_lot (wsV RX6 48 RX6 yX6_accept wsX6_accept) := goodIn_app (goodIn_of _ (by decide +kernel)) ggX6_lot_X6_accept
theorem dX6_lot_0 : decode cX6_lot 0 = .ok (.aload_n 0, 1) := by decide +kernel
theorem dX6_lot_1 : decode cX6_lot 1 = .ok (.getfield 16, 3) := by decide +kernel
theorem dX6_lot_4 : decode cX6_lot 4 = .ok (.aload_n 0, 1) := by decide +kernel
theorem dX6_lot_5 : decode cX6_lot 5 = .ok (.getfield 10, 3) := by decide +kernel
theorem dX6_lot_8 : decode cX6_lot 8 = .ok (.invokevirtual 40, 3) := by decide +kernel
theorem dX6_lot_11 : decode cX6_lot 11 = .ok (.aload_n 0, 1) := by decide +kernel
theorem dX6_lot_12 : decode cX6_lot 12 = .ok (.aload_n 0, 1) := by decide +kernel
theorem dX6_lot_13 : decode cX6_lot 13 = .ok (.getfield 16, 3) := by decide +kernel
theorem dX6_lot_16 : decode cX6_lot 16 = .ok (.iload_n 1, 1) := by decide +kernel
theorem dX6_lot_17 : decode cX6_lot 17 = .ok (.iload_n 2, 1) := by decide +kernel
theorem dX6_lot_18 : decode cX6_lot 18 = .ok (.invokevirtual 44, 3) := by decide +kernel
theorem dX6_lot_21 : decode cX6_lot 21 = .ok (.invokevirtual 48, 3) := by decide +kernel
theorem dX6_lot_24 : decode cX6_lot 24 = .ok (.ireturn, 1) := by decide +kernel
set_option maxRecDepth 20000 in
theorem ggX6_part_X3_copyFrom : GoodIn wsX6_part wsX3_copyFrom := goodIn_r _ [7, 8, 9, 10, 11, 12, 13, 14, 15, 16, 17, 18, 19, 20, 21, 22, 23, 24, 25, 26, 27, 28, 29, 30, 31, 32, 33, 34, 35, 91, 92, 93, 94, 95, 96, 97, 98, 99, 100, 101, 102, 103, 104, 105, 106, 107, 108] (by decide +kernel) (by decide +kernel)
set_option maxRecDepth 20000 in
theorem gX6_part_X3_copyFrom : GoodIn wsX6_part (wsV RX6 40 RX3 yX3_copyFrom wsX3_copyFrom) := goodIn_app (goodIn_of _ (by decide +kernel)) ggX6_part_X3_copyFrom
set_option maxRecDepth 20000 in
theorem ggX6_part_X3_partLot : GoodIn wsX6_part wsX3_partLot := goodIn_r _ [39, 8, 40, 41, 42, 43, 44, 45, 46, 47, 48, 20, 49, 26, 22, 50, 51, 52, 53, 54, 55, 56, 57, 58, 27, 23, 24, 25, 59, 91, 92, 93, 94, 95, 96, 97, 98, 99, 100, 101, 102, 103, 104, 105] (by decide +kernel) (by decide +kernel)
set_option maxRecDepth 20000 in
theorem gX6_part_X3_partLot : GoodIn wsX6_part (wsV RX6 52 RX3 yX3_partLot wsX3_partLot) := goodIn_app (goodIn_of _ (by decide +kernel)) ggX6_part_X3_partLot
set_option maxRecDepth 20000 in
theorem ggX6_part_X6_accept : GoodIn wsX6_part wsX6_accept := goodIn_r _ [64, 65, 2, 1, 66, 67, 63, 68, 69, 70, 71, 72, 73, 74, 75, 76, 77, 78, 79, 80, 81, 82, 83, 84, 85, 4, 5, 6, 7, 8, 9, 10, 11, 12, 13, 14, 15, 16, 17, 18, 19, 20, 21, 22, 23, 24, 25, 26, 27, 28, 29, 30, 31, 32, 33, 34, 35, 3, 86, 87, 88, 89, 90, 109, 110, 91, 92, 93, 94, 95, 96, 97, 98, 99, 100, 101, 102, 103, 104, 105, 106, 107, 108] (by decide +kernel) (by decide +kernel)
set_option maxRecDepth 20000 in
theorem gX6_part_X6_accept : GoodIn wsX6_part (wsV RX6 48 RX6 yX6_accept wsX6_accept) := goodIn_app (goodIn_of _ (by decide +kernel)) ggX6_part_X6_accept
theorem dX6_part_0 : decode cX6_part 0 = .ok (.aload_n 0, 1) := by decide +kernel
theorem dX6_part_1 : decode cX6_part 1 = .ok (.getfield 16, 3) := by decide +kernel
theorem dX6_part_4 : decode cX6_part 4 = .ok (.aload_n 0, 1) := by decide +kernel
theorem dX6_part_5 : decode cX6_part 5 = .ok (.getfield 10, 3) := by decide +kernel
theorem dX6_part_8 : decode cX6_part 8 = .ok (.invokevirtual 40, 3) := by decide +kernel
theorem dX6_part_11 : decode cX6_part 11 = .ok (.aload_n 0, 1) := by decide +kernel
theorem dX6_part_12 : decode cX6_part 12 = .ok (.aload_n 0, 1) := by decide +kernel
theorem dX6_part_13 : decode cX6_part 13 = .ok (.getfield 16, 3) := by decide +kernel
theorem dX6_part_16 : decode cX6_part 16 = .ok (.iload_n 1, 1) := by decide +kernel
theorem dX6_part_17 : decode cX6_part 17 = .ok (.iload_n 2, 1) := by decide +kernel
theorem dX6_part_18 : decode cX6_part 18 = .ok (.invokevirtual 52, 3) := by decide +kernel
theorem dX6_part_21 : decode cX6_part 21 = .ok (.invokevirtual 48, 3) := by decide +kernel
theorem dX6_part_24 : decode cX6_part 24 = .ok (.ireturn, 1) := by decide +kernel
set_option maxRecDepth 20000 in
theorem ggX6_blend_X3_copyFrom : GoodIn wsX6_blend wsX3_copyFrom := goodIn_r _ [7, 8, 9, 10, 11, 12, 13, 14, 15, 16, 17, 18, 19, 20, 21, 22, 23, 24, 25, 26, 27, 28, 29, 30, 31, 32, 33, 34, 35, 97, 98, 99, 100, 101, 102, 103, 104, 105, 106, 107, 108, 109, 110, 111, 112, 113, 114] (by decide +kernel) (by decide +kernel)
set_option maxRecDepth 20000 in
theorem gX6_blend_X3_copyFrom : GoodIn wsX6_blend (wsV RX6 40 RX3 yX3_copyFrom wsX3_copyFrom) := goodIn_app (goodIn_of _ (by decide +kernel)) ggX6_blend_X3_copyFrom
set_option maxRecDepth 20000 in
theorem ggX6_blend_X3_blendLots : GoodIn wsX6_blend wsX3_blendLots := goodIn_r _ [39, 8, 40, 41, 42, 43, 12, 44, 45, 46, 20, 47, 26, 22, 48, 49, 50, 51, 52, 53, 54, 55, 24, 25, 56, 57, 58, 59, 23, 60, 61, 62, 63, 64, 27, 65, 97, 98, 99, 100, 101, 102, 103, 104, 105, 106, 107, 108, 109, 110, 111] (by decide +kernel) (by decide +kernel)
set_option maxRecDepth 20000 in
theorem gX6_blend_X3_blendLots : GoodIn wsX6_blend (wsV RX6 55 RX3 yX3_blendLots wsX3_blendLots) := goodIn_app (goodIn_of _ (by decide +kernel)) ggX6_blend_X3_blendLots
set_option maxRecDepth 20000 in
theorem ggX6_blend_X6_accept : GoodIn wsX6_blend wsX6_accept := goodIn_r _ [70, 71, 2, 1, 72, 73, 69, 74, 75, 76, 77, 78, 79, 80, 81, 82, 83, 84, 85, 86, 87, 88, 89, 90, 91, 4, 5, 6, 7, 8, 9, 10, 11, 12, 13, 14, 15, 16, 17, 18, 19, 20, 21, 22, 23, 24, 25, 26, 27, 28, 29, 30, 31, 32, 33, 34, 35, 3, 92, 93, 94, 95, 96, 115, 116, 97, 98, 99, 100, 101, 102, 103, 104, 105, 106, 107, 108, 109, 110, 111, 112, 113, 114] (by decide +kernel) (by decide +kernel)
set_option maxRecDepth 20000 in
theorem gX6_blend_X6_accept : GoodIn wsX6_blend (wsV RX6 48 RX6 yX6_accept wsX6_accept) := goodIn_app (goodIn_of _ (by decide +kernel)) ggX6_blend_X6_accept
theorem dX6_blend_0 : decode cX6_blend 0 = .ok (.aload_n 0, 1) := by decide +kernel
theorem dX6_blend_1 : decode cX6_blend 1 = .ok (.getfield 16, 3) := by decide +kernel
theorem dX6_blend_4 : decode cX6_blend 4 = .ok (.aload_n 0, 1) := by decide +kernel
theorem dX6_blend_5 : decode cX6_blend 5 = .ok (.getfield 10, 3) := by decide +kernel
theorem dX6_blend_8 : decode cX6_blend 8 = .ok (.invokevirtual 40, 3) := by decide +kernel
theorem dX6_blend_11 : decode cX6_blend 11 = .ok (.aload_n 0, 1) := by decide +kernel
theorem dX6_blend_12 : decode cX6_blend 12 = .ok (.aload_n 0, 1) := by decide +kernel
theorem dX6_blend_13 : decode cX6_blend 13 = .ok (.getfield 16, 3) := by decide +kernel
theorem dX6_blend_16 : decode cX6_blend 16 = .ok (.iload_n 1, 1) := by decide +kernel
theorem dX6_blend_17 : decode cX6_blend 17 = .ok (.iload_n 2, 1) := by decide +kernel
theorem dX6_blend_18 : decode cX6_blend 18 = .ok (.iload_n 3, 1) := by decide +kernel
theorem dX6_blend_19 : decode cX6_blend 19 = .ok (.iload 4, 2) := by decide +kernel
theorem dX6_blend_21 : decode cX6_blend 21 = .ok (.invokevirtual 55, 3) := by decide +kernel
theorem dX6_blend_24 : decode cX6_blend 24 = .ok (.invokevirtual 48, 3) := by decide +kernel
theorem dX6_blend_27 : decode cX6_blend 27 = .ok (.ireturn, 1) := by decide +kernel
set_option maxRecDepth 20000 in
theorem ggX6_cup_X3_copyFrom : GoodIn wsX6_cup wsX3_copyFrom := goodIn_r _ [7, 8, 9, 10, 11, 12, 13, 14, 15, 16, 17, 18, 19, 20, 21, 22, 23, 24, 25, 26, 27, 28, 29, 30, 31, 32, 33, 34, 35, 84, 85, 86, 87, 88, 89, 90, 91, 92, 93, 94, 95, 96, 97, 98, 99, 100, 101] (by decide +kernel) (by decide +kernel)
set_option maxRecDepth 20000 in
theorem gX6_cup_X3_copyFrom : GoodIn wsX6_cup (wsV RX6 40 RX3 yX3_copyFrom wsX3_copyFrom) := goodIn_app (goodIn_of _ (by decide +kernel)) ggX6_cup_X3_copyFrom
set_option maxRecDepth 20000 in
theorem ggX6_cup_X3_cupAnew : GoodIn wsX6_cup wsX3_cupAnew := goodIn_r _ [39, 8, 40, 41, 42, 43, 12, 44, 45, 46, 47, 20, 48, 26, 22, 49, 50, 51, 52, 24, 25, 84, 85, 86, 87, 88, 89, 90, 91, 92, 93, 94, 95, 96, 97, 98] (by decide +kernel) (by decide +kernel)
set_option maxRecDepth 20000 in
theorem gX6_cup_X3_cupAnew : GoodIn wsX6_cup (wsV RX6 59 RX3 yX3_cupAnew wsX3_cupAnew) := goodIn_app (goodIn_of _ (by decide +kernel)) ggX6_cup_X3_cupAnew
set_option maxRecDepth 20000 in
theorem ggX6_cup_X6_accept : GoodIn wsX6_cup wsX6_accept := goodIn_r _ [57, 58, 2, 1, 59, 60, 56, 61, 62, 63, 64, 65, 66, 67, 68, 69, 70, 71, 72, 73, 74, 75, 76, 77, 78, 4, 5, 6, 7, 8, 9, 10, 11, 12, 13, 14, 15, 16, 17, 18, 19, 20, 21, 22, 23, 24, 25, 26, 27, 28, 29, 30, 31, 32, 33, 34, 35, 3, 79, 80, 81, 82, 83, 102, 103, 84, 85, 86, 87, 88, 89, 90, 91, 92, 93, 94, 95, 96, 97, 98, 99, 100, 101] (by decide +kernel) (by decide +kernel)
set_option maxRecDepth 20000 in
theorem gX6_cup_X6_accept : GoodIn wsX6_cup (wsV RX6 48 RX6 yX6_accept wsX6_accept) := goodIn_app (goodIn_of _ (by decide +kernel)) ggX6_cup_X6_accept
theorem dX6_cup_0 : decode cX6_cup 0 = .ok (.aload_n 0, 1) := by decide +kernel
theorem dX6_cup_1 : decode cX6_cup 1 = .ok (.getfield 16, 3) := by decide +kernel
theorem dX6_cup_4 : decode cX6_cup 4 = .ok (.aload_n 0, 1) := by decide +kernel
theorem dX6_cup_5 : decode cX6_cup 5 = .ok (.getfield 10, 3) := by decide +kernel
theorem dX6_cup_8 : decode cX6_cup 8 = .ok (.invokevirtual 40, 3) := by decide +kernel
theorem dX6_cup_11 : decode cX6_cup 11 = .ok (.aload_n 0, 1) := by decide +kernel
theorem dX6_cup_12 : decode cX6_cup 12 = .ok (.aload_n 0, 1) := by decide +kernel
theorem dX6_cup_13 : decode cX6_cup 13 = .ok (.getfield 16, 3) := by decide +kernel
theorem dX6_cup_16 : decode cX6_cup 16 = .ok (.iload_n 1, 1) := by decide +kernel
theorem dX6_cup_17 : decode cX6_cup 17 = .ok (.invokevirtual 59, 3) := by decide +kernel
theorem dX6_cup_20 : decode cX6_cup 20 = .ok (.invokevirtual 48, 3) := by decide +kernel
theorem dX6_cup_23 : decode cX6_cup 23 = .ok (.ireturn, 1) := by decide +kernel
set_option maxRecDepth 20000 in
theorem ggX6_worth_X3_copyFrom : GoodIn wsX6_worth wsX3_copyFrom := goodIn_r _ [7, 8, 9, 10, 11, 12, 13, 14, 15, 16, 17, 18, 19, 20, 21, 22, 23, 24, 25, 26, 27, 28, 29, 30, 31, 32, 33, 34, 35, 72, 73, 74, 75, 76, 77, 78, 79, 80, 81, 82, 83, 84, 85, 86, 87, 88, 89] (by decide +kernel) (by decide +kernel)
set_option maxRecDepth 20000 in
theorem gX6_worth_X3_copyFrom : GoodIn wsX6_worth (wsV RX6 40 RX3 yX3_copyFrom wsX3_copyFrom) := goodIn_app (goodIn_of _ (by decide +kernel)) ggX6_worth_X3_copyFrom
set_option maxRecDepth 20000 in
theorem ggX6_worth_X3_changeWorth : GoodIn wsX6_worth wsX3_changeWorth := goodIn_r _ [39, 40, 10, 41, 42, 43, 72, 73, 74, 75, 76, 77, 78, 79, 80] (by decide +kernel) (by decide +kernel)
set_option maxRecDepth 20000 in
theorem gX6_worth_X3_changeWorth : GoodIn wsX6_worth (wsV RX6 62 RX3 yX3_changeWorth wsX3_changeWorth) := goodIn_app (goodIn_of _ (by decide +kernel)) ggX6_worth_X3_changeWorth
set_option maxRecDepth 20000 in
theorem ggX6_worth_X6_accept : GoodIn wsX6_worth wsX6_accept := goodIn_r _ [47, 48, 2, 1, 49, 50, 42, 51, 52, 53, 54, 41, 43, 55, 56, 57, 58, 59, 60, 61, 62, 63, 64, 65, 66, 4, 5, 6, 7, 8, 9, 10, 11, 12, 13, 14, 15, 16, 17, 18, 19, 20, 21, 22, 23, 24, 25, 26, 27, 28, 29, 30, 31, 32, 33, 34, 35, 3, 67, 68, 69, 70, 71, 90, 91, 72, 73, 74, 75, 76, 77, 78, 79, 80, 81, 82, 83, 84, 85, 86, 87, 88, 89] (by decide +kernel) (by decide +kernel)
set_option maxRecDepth 20000 in
theorem gX6_worth_X6_accept : GoodIn wsX6_worth (wsV RX6 48 RX6 yX6_accept wsX6_accept) := goodIn_app (goodIn_of _ (by decide +kernel)) ggX6_worth_X6_accept
theorem dX6_worth_0 : decode cX6_worth 0 = .ok (.aload_n 0, 1) := by decide +kernel
theorem dX6_worth_1 : decode cX6_worth 1 = .ok (.getfield 16, 3) := by decide +kernel
theorem dX6_worth_4 : decode cX6_worth 4 = .ok (.aload_n 0, 1) := by decide +kernel
theorem dX6_worth_5 : decode cX6_worth 5 = .ok (.getfield 10, 3) := by decide +kernel
theorem dX6_worth_8 : decode cX6_worth 8 = .ok (.invokevirtual 40, 3) := by decide +kernel
theorem dX6_worth_11 : decode cX6_worth 11 = .ok (.aload_n 0, 1) := by decide +kernel
theorem dX6_worth_12 : decode cX6_worth 12 = .ok (.aload_n 0, 1) := by decide +kernel
theorem dX6_worth_13 : decode cX6_worth 13 = .ok (.getfield 16, 3) := by decide +kernel
theorem dX6_worth_16 : decode cX6_worth 16 = .ok (.iload_n 1, 1) := by decide +kernel
theorem dX6_worth_17 : decode cX6_worth 17 = .ok (.iload_n 2, 1) := by decide +kernel
theorem dX6_worth_18 : decode cX6_worth 18 = .ok (.invokevirtual 62, 3) := by decide +kernel
theorem dX6_worth_21 : decode cX6_worth 21 = .ok (.invokevirtual 48, 3) := by decide +kernel
theorem dX6_worth_24 : decode cX6_worth 24 = .ok (.ireturn, 1) := by decide +kernel
set_option maxRecDepth 20000 in
theorem ggX6_sell_X3_copyFrom : GoodIn wsX6_sell wsX3_copyFrom := goodIn_r _ [7, 8, 9, 10, 11, 12, 13, 14, 15, 16, 17, 18, 19, 20, 21, 22, 23, 24, 25, 26, 27, 28, 29, 30, 31, 32, 33, 34, 35, 86, 87, 88, 89, 90, 91, 92, 93, 94, 95, 96, 97, 98, 99, 100, 101, 102, 103] (by decide +kernel) (by decide +kernel)
set_option maxRecDepth 20000 in
theorem gX6_sell_X3_copyFrom : GoodIn wsX6_sell (wsV RX6 40 RX3 yX3_copyFrom wsX3_copyFrom) := goodIn_app (goodIn_of _ (by decide +kernel)) ggX6_sell_X3_copyFrom
set_option maxRecDepth 20000 in
theorem ggX6_sell_X3_sellContract : GoodIn wsX6_sell wsX3_sellContract := goodIn_r _ [39, 40, 12, 41, 9, 42, 43, 44, 45, 46, 47, 6, 48, 11, 49, 50, 51, 52, 53, 54, 55, 31, 56, 35, 57, 33, 34, 86, 87, 88, 89, 90, 91, 92, 93, 94, 101, 102, 103] (by decide +kernel) (by decide +kernel)
set_option maxRecDepth 20000 in
theorem gX6_sell_X3_sellContract : GoodIn wsX6_sell (wsV RX6 65 RX3 yX3_sellContract wsX3_sellContract) := goodIn_app (goodIn_of _ (by decide +kernel)) ggX6_sell_X3_sellContract
set_option maxRecDepth 20000 in
theorem ggX6_sell_X6_accept : GoodIn wsX6_sell wsX6_accept := goodIn_r _ [61, 62, 2, 1, 63, 64, 43, 65, 66, 67, 68, 42, 44, 69, 70, 71, 72, 73, 74, 75, 76, 77, 78, 79, 80, 4, 5, 6, 7, 8, 9, 10, 11, 12, 13, 14, 15, 16, 17, 18, 19, 20, 21, 22, 23, 24, 25, 26, 27, 28, 29, 30, 31, 32, 33, 34, 35, 3, 81, 82, 83, 84, 85, 104, 105, 86, 87, 88, 89, 90, 91, 92, 93, 94, 95, 96, 97, 98, 99, 100, 101, 102, 103] (by decide +kernel) (by decide +kernel)
set_option maxRecDepth 20000 in
theorem gX6_sell_X6_accept : GoodIn wsX6_sell (wsV RX6 48 RX6 yX6_accept wsX6_accept) := goodIn_app (goodIn_of _ (by decide +kernel)) ggX6_sell_X6_accept
theorem dX6_sell_0 : decode cX6_sell 0 = .ok (.aload_n 0, 1) := by decide +kernel
theorem dX6_sell_1 : decode cX6_sell 1 = .ok (.getfield 16, 3) := by decide +kernel
theorem dX6_sell_4 : decode cX6_sell 4 = .ok (.aload_n 0, 1) := by decide +kernel
theorem dX6_sell_5 : decode cX6_sell 5 = .ok (.getfield 10, 3) := by decide +kernel
theorem dX6_sell_8 : decode cX6_sell 8 = .ok (.invokevirtual 40, 3) := by decide +kernel
theorem dX6_sell_11 : decode cX6_sell 11 = .ok (.aload_n 0, 1) := by decide +kernel
theorem dX6_sell_12 : decode cX6_sell 12 = .ok (.aload_n 0, 1) := by decide +kernel
theorem dX6_sell_13 : decode cX6_sell 13 = .ok (.getfield 16, 3) := by decide +kernel
theorem dX6_sell_16 : decode cX6_sell 16 = .ok (.iload_n 1, 1) := by decide +kernel
theorem dX6_sell_17 : decode cX6_sell 17 = .ok (.iload_n 2, 1) := by decide +kernel
theorem dX6_sell_18 : decode cX6_sell 18 = .ok (.invokevirtual 65, 3) := by decide +kernel
theorem dX6_sell_21 : decode cX6_sell 21 = .ok (.invokevirtual 48, 3) := by decide +kernel
theorem dX6_sell_24 : decode cX6_sell 24 = .ok (.ireturn, 1) := by decide +kernel
set_option maxRecDepth 20000 in
theorem ggX6_buyBack_X3_copyFrom : GoodIn wsX6_buyBack wsX3_copyFrom := goodIn_r _ [7, 8, 9, 10, 11, 12, 13, 14, 15, 16, 17, 18, 19, 20, 21, 22, 23, 24, 25, 26, 27, 28, 29, 30, 31, 32, 33, 34, 35, 82, 83, 84, 85, 86, 87, 88, 89, 90, 91, 92, 93, 94, 95, 96, 97, 98, 99] (by decide +kernel) (by decide +kernel)
set_option maxRecDepth 20000 in
theorem gX6_buyBack_X3_copyFrom : GoodIn wsX6_buyBack (wsV RX6 40 RX3 yX3_copyFrom wsX3_copyFrom) := goodIn_app (goodIn_of _ (by decide +kernel)) ggX6_buyBack_X3_copyFrom
set_option maxRecDepth 20000 in
theorem ggX6_buyBack_X3_buyContractBack : GoodIn wsX6_buyBack wsX3_buyContractBack := goodIn_r _ [39, 9, 40, 11, 41, 13, 42, 43, 44, 31, 45, 35, 46, 47, 48, 49, 50, 51, 52, 33, 34, 53, 82, 83, 84, 85, 86, 87, 88, 89, 90, 97, 98, 99] (by decide +kernel) (by decide +kernel)
set_option maxRecDepth 20000 in
theorem gX6_buyBack_X3_buyContractBack : GoodIn wsX6_buyBack (wsV RX6 68 RX3 yX3_buyContractBack wsX3_buyContractBack) := goodIn_app (goodIn_of _ (by decide +kernel)) ggX6_buyBack_X3_buyContractBack
set_option maxRecDepth 20000 in
theorem ggX6_buyBack_X6_accept : GoodIn wsX6_buyBack wsX6_accept := goodIn_r _ [57, 58, 2, 1, 59, 60, 47, 61, 62, 63, 64, 46, 48, 65, 66, 67, 68, 69, 70, 71, 72, 73, 74, 75, 76, 4, 5, 6, 7, 8, 9, 10, 11, 12, 13, 14, 15, 16, 17, 18, 19, 20, 21, 22, 23, 24, 25, 26, 27, 28, 29, 30, 31, 32, 33, 34, 35, 3, 77, 78, 79, 80, 81, 100, 101, 82, 83, 84, 85, 86, 87, 88, 89, 90, 91, 92, 93, 94, 95, 96, 97, 98, 99] (by decide +kernel) (by decide +kernel)
set_option maxRecDepth 20000 in
theorem gX6_buyBack_X6_accept : GoodIn wsX6_buyBack (wsV RX6 48 RX6 yX6_accept wsX6_accept) := goodIn_app (goodIn_of _ (by decide +kernel)) ggX6_buyBack_X6_accept
theorem dX6_buyBack_0 : decode cX6_buyBack 0 = .ok (.aload_n 0, 1) := by decide +kernel
theorem dX6_buyBack_1 : decode cX6_buyBack 1 = .ok (.getfield 16, 3) := by decide +kernel
theorem dX6_buyBack_4 : decode cX6_buyBack 4 = .ok (.aload_n 0, 1) := by decide +kernel
theorem dX6_buyBack_5 : decode cX6_buyBack 5 = .ok (.getfield 10, 3) := by decide +kernel
theorem dX6_buyBack_8 : decode cX6_buyBack 8 = .ok (.invokevirtual 40, 3) := by decide +kernel
theorem dX6_buyBack_11 : decode cX6_buyBack 11 = .ok (.aload_n 0, 1) := by decide +kernel
theorem dX6_buyBack_12 : decode cX6_buyBack 12 = .ok (.aload_n 0, 1) := by decide +kernel
theorem dX6_buyBack_13 : decode cX6_buyBack 13 = .ok (.getfield 16, 3) := by decide +kernel
theorem dX6_buyBack_16 : decode cX6_buyBack 16 = .ok (.iload_n 1, 1) := by decide +kernel
theorem dX6_buyBack_17 : decode cX6_buyBack 17 = .ok (.iload_n 2, 1) := by decide +kernel
theorem dX6_buyBack_18 : decode cX6_buyBack 18 = .ok (.invokevirtual 68, 3) := by decide +kernel
theorem dX6_buyBack_21 : decode cX6_buyBack 21 = .ok (.invokevirtual 48, 3) := by decide +kernel
theorem dX6_buyBack_24 : decode cX6_buyBack 24 = .ok (.ireturn, 1) := by decide +kernel
set_option maxRecDepth 20000 in
theorem ggX6_meet_X3_copyFrom : GoodIn wsX6_meet wsX3_copyFrom := goodIn_r _ [8, 9, 10, 11, 12, 13, 14, 15, 16, 17, 18, 19, 20, 21, 22, 23, 24, 25, 26, 27, 28, 29, 30, 31, 32, 33, 34, 35, 36, 147, 148, 149, 150, 151, 152, 153, 154, 155, 156, 157, 158, 159, 160, 161, 162, 163, 164] (by decide +kernel) (by decide +kernel)
set_option maxRecDepth 20000 in
theorem gX6_meet_X3_copyFrom : GoodIn wsX6_meet (wsV RX6 40 RX3 yX3_copyFrom wsX3_copyFrom) := goodIn_app (goodIn_of _ (by decide +kernel)) ggX6_meet_X3_copyFrom
set_option maxRecDepth 20000 in
theorem ggX6_meet_X3_meetContract : GoodIn wsX6_meet wsX3_meetContract := goodIn_r _ [40, 10, 41, 42, 13, 43, 44, 45, 46, 9, 47, 48, 49, 14, 50, 15, 17, 12, 51, 52, 53, 32, 54, 36, 55, 56, 57, 58, 59, 60, 61, 62, 63, 64, 65, 66, 67, 68, 69, 70, 71, 72, 73, 74, 75, 76, 77, 78, 79, 80, 81, 21, 82, 25, 26, 83, 84, 85, 86, 87, 88, 89, 7, 90, 91, 92, 93, 94, 95, 96, 97, 98, 99, 100, 101, 102, 103, 104, 105, 106, 107, 108, 109, 110, 111, 27, 24, 23, 112, 113, 114, 115, 34, 35, 116, 147, 148, 149, 150, 151, 152, 153, 154, 155, 162, 163, 164, 165, 166, 167, 168, 169, 170, 171, 172, 173, 174, 175, 176, 156, 157, 158, 159, 160, 161] (by decide +kernel) (by decide +kernel)
set_option maxRecDepth 20000 in
theorem gX6_meet_X3_meetContract : GoodIn wsX6_meet (wsV RX6 71 RX3 yX3_meetContract wsX3_meetContract) := goodIn_app (goodIn_of _ (by decide +kernel)) ggX6_meet_X3_meetContract
set_option maxRecDepth 20000 in
theorem ggX6_meet_X6_accept : GoodIn wsX6_meet wsX6_accept := goodIn_r _ [120, 121, 2, 1, 122, 123, 92, 124, 125, 126, 127, 128, 129, 130, 131, 132, 133, 134, 135, 136, 137, 138, 139, 140, 141, 5, 6, 7, 8, 9, 10, 11, 12, 13, 14, 15, 16, 17, 18, 19, 20, 21, 22, 23, 24, 25, 26, 27, 28, 29, 30, 31, 32, 33, 34, 35, 36, 4, 142, 143, 144, 145, 146, 177, 178, 147, 148, 149, 150, 151, 152, 153, 154, 155, 156, 157, 158, 159, 160, 161, 162, 163, 164] (by decide +kernel) (by decide +kernel)
set_option maxRecDepth 20000 in
theorem gX6_meet_X6_accept : GoodIn wsX6_meet (wsV RX6 48 RX6 yX6_accept wsX6_accept) := goodIn_app (goodIn_of _ (by decide +kernel)) ggX6_meet_X6_accept
theorem dX6_meet_0 : decode cX6_meet 0 = .ok (.aload_n 0, 1) := by decide +kernel
theorem dX6_meet_1 : decode cX6_meet 1 = .ok (.getfield 16, 3) := by decide +kernel
theorem dX6_meet_4 : decode cX6_meet 4 = .ok (.aload_n 0, 1) := by decide +kernel
theorem dX6_meet_5 : decode cX6_meet 5 = .ok (.getfield 10, 3) := by decide +kernel
theorem dX6_meet_8 : decode cX6_meet 8 = .ok (.invokevirtual 40, 3) := by decide +kernel
theorem dX6_meet_11 : decode cX6_meet 11 = .ok (.aload_n 0, 1) := by decide +kernel
theorem dX6_meet_12 : decode cX6_meet 12 = .ok (.aload_n 0, 1) := by decide +kernel
theorem dX6_meet_13 : decode cX6_meet 13 = .ok (.getfield 16, 3) := by decide +kernel
theorem dX6_meet_16 : decode cX6_meet 16 = .ok (.iload_n 1, 1) := by decide +kernel
theorem dX6_meet_17 : decode cX6_meet 17 = .ok (.aload_n 0, 1) := by decide +kernel
theorem dX6_meet_18 : decode cX6_meet 18 = .ok (.getfield 29, 3) := by decide +kernel
theorem dX6_meet_21 : decode cX6_meet 21 = .ok (.invokevirtual 71, 3) := by decide +kernel
theorem dX6_meet_24 : decode cX6_meet 24 = .ok (.invokevirtual 48, 3) := by decide +kernel
theorem dX6_meet_27 : decode cX6_meet 27 = .ok (.ireturn, 1) := by decide +kernel
set_option maxRecDepth 20000 in
theorem ggX6_pass_X3_copyFrom : GoodIn wsX6_pass wsX3_copyFrom := goodIn_r _ [7, 8, 9, 10, 11, 12, 13, 14, 15, 16, 17, 18, 19, 20, 21, 22, 23, 24, 25, 26, 27, 28, 29, 30, 31, 32, 33, 34, 35, 77, 78, 79, 80, 81, 82, 83, 84, 85, 86, 87, 88, 89, 90, 91, 92, 93, 94] (by decide +kernel) (by decide +kernel)
set_option maxRecDepth 20000 in
theorem gX6_pass_X3_copyFrom : GoodIn wsX6_pass (wsV RX6 40 RX3 yX3_copyFrom wsX3_copyFrom) := goodIn_app (goodIn_of _ (by decide +kernel)) ggX6_pass_X3_copyFrom
set_option maxRecDepth 20000 in
theorem ggX6_pass_X3_passMonths : GoodIn wsX6_pass wsX3_passMonths := goodIn_r _ [39, 40, 12, 41, 9, 15, 13, 11, 42, 43, 44, 45, 46, 47, 31, 48, 35, 33, 34, 77, 78, 79, 80, 81, 82, 83, 84, 85, 92, 93, 94] (by decide +kernel) (by decide +kernel)
set_option maxRecDepth 20000 in
theorem gX6_pass_X3_passMonths : GoodIn wsX6_pass (wsV RX6 75 RX3 yX3_passMonths wsX3_passMonths) := goodIn_app (goodIn_of _ (by decide +kernel)) ggX6_pass_X3_passMonths
set_option maxRecDepth 20000 in
theorem ggX6_pass_X6_accept : GoodIn wsX6_pass wsX6_accept := goodIn_r _ [52, 53, 2, 1, 54, 55, 43, 56, 57, 58, 59, 42, 44, 60, 61, 62, 63, 64, 65, 66, 67, 68, 69, 70, 71, 4, 5, 6, 7, 8, 9, 10, 11, 12, 13, 14, 15, 16, 17, 18, 19, 20, 21, 22, 23, 24, 25, 26, 27, 28, 29, 30, 31, 32, 33, 34, 35, 3, 72, 73, 74, 75, 76, 95, 96, 77, 78, 79, 80, 81, 82, 83, 84, 85, 86, 87, 88, 89, 90, 91, 92, 93, 94] (by decide +kernel) (by decide +kernel)
set_option maxRecDepth 20000 in
theorem gX6_pass_X6_accept : GoodIn wsX6_pass (wsV RX6 48 RX6 yX6_accept wsX6_accept) := goodIn_app (goodIn_of _ (by decide +kernel)) ggX6_pass_X6_accept
theorem dX6_pass_0 : decode cX6_pass 0 = .ok (.aload_n 0, 1) := by decide +kernel
theorem dX6_pass_1 : decode cX6_pass 1 = .ok (.getfield 16, 3) := by decide +kernel
theorem dX6_pass_4 : decode cX6_pass 4 = .ok (.aload_n 0, 1) := by decide +kernel
theorem dX6_pass_5 : decode cX6_pass 5 = .ok (.getfield 10, 3) := by decide +kernel
theorem dX6_pass_8 : decode cX6_pass 8 = .ok (.invokevirtual 40, 3) := by decide +kernel
theorem dX6_pass_11 : decode cX6_pass 11 = .ok (.aload_n 0, 1) := by decide +kernel
theorem dX6_pass_12 : decode cX6_pass 12 = .ok (.aload_n 0, 1) := by decide +kernel
theorem dX6_pass_13 : decode cX6_pass 13 = .ok (.getfield 16, 3) := by decide +kernel
theorem dX6_pass_16 : decode cX6_pass 16 = .ok (.iload_n 1, 1) := by decide +kernel
theorem dX6_pass_17 : decode cX6_pass 17 = .ok (.invokevirtual 75, 3) := by decide +kernel
theorem dX6_pass_20 : decode cX6_pass 20 = .ok (.invokevirtual 48, 3) := by decide +kernel
theorem dX6_pass_23 : decode cX6_pass 23 = .ok (.ireturn, 1) := by decide +kernel
set_option maxRecDepth 20000 in
theorem ggX6_set_X3_copyFrom : GoodIn wsX6_set wsX3_copyFrom := goodIn_r _ [7, 8, 9, 10, 11, 12, 13, 14, 15, 16, 17, 18, 19, 20, 21, 22, 23, 24, 25, 26, 27, 28, 29, 30, 31, 32, 33, 34, 35, 74, 75, 76, 77, 78, 79, 80, 81, 82, 83, 84, 85, 86, 87, 88, 89, 90, 91] (by decide +kernel) (by decide +kernel)
set_option maxRecDepth 20000 in
theorem gX6_set_X3_copyFrom : GoodIn wsX6_set (wsV RX6 40 RX3 yX3_copyFrom wsX3_copyFrom) := goodIn_app (goodIn_of _ (by decide +kernel)) ggX6_set_X3_copyFrom
set_option maxRecDepth 20000 in
theorem ggX6_set_X3_changeSetting : GoodIn wsX6_set wsX3_changeSetting := goodIn_r _ [39, 40, 9, 41, 42, 11, 43, 44, 45, 74, 75, 76, 77, 78, 79, 80, 81, 82, 89, 90, 91] (by decide +kernel) (by decide +kernel)
set_option maxRecDepth 20000 in
theorem gX6_set_X3_changeSetting : GoodIn wsX6_set (wsV RX6 78 RX3 yX3_changeSetting wsX3_changeSetting) := goodIn_app (goodIn_of _ (by decide +kernel)) ggX6_set_X3_changeSetting
set_option maxRecDepth 20000 in
theorem ggX6_set_X6_accept : GoodIn wsX6_set wsX6_accept := goodIn_r _ [49, 50, 2, 1, 51, 52, 44, 53, 54, 55, 56, 43, 45, 57, 58, 59, 60, 61, 62, 63, 64, 65, 66, 67, 68, 4, 5, 6, 7, 8, 9, 10, 11, 12, 13, 14, 15, 16, 17, 18, 19, 20, 21, 22, 23, 24, 25, 26, 27, 28, 29, 30, 31, 32, 33, 34, 35, 3, 69, 70, 71, 72, 73, 92, 93, 74, 75, 76, 77, 78, 79, 80, 81, 82, 83, 84, 85, 86, 87, 88, 89, 90, 91] (by decide +kernel) (by decide +kernel)
set_option maxRecDepth 20000 in
theorem gX6_set_X6_accept : GoodIn wsX6_set (wsV RX6 48 RX6 yX6_accept wsX6_accept) := goodIn_app (goodIn_of _ (by decide +kernel)) ggX6_set_X6_accept
theorem dX6_set_0 : decode cX6_set 0 = .ok (.aload_n 0, 1) := by decide +kernel
theorem dX6_set_1 : decode cX6_set 1 = .ok (.getfield 16, 3) := by decide +kernel
theorem dX6_set_4 : decode cX6_set 4 = .ok (.aload_n 0, 1) := by decide +kernel
theorem dX6_set_5 : decode cX6_set 5 = .ok (.getfield 10, 3) := by decide +kernel
theorem dX6_set_8 : decode cX6_set 8 = .ok (.invokevirtual 40, 3) := by decide +kernel
theorem dX6_set_11 : decode cX6_set 11 = .ok (.aload_n 0, 1) := by decide +kernel
theorem dX6_set_12 : decode cX6_set 12 = .ok (.aload_n 0, 1) := by decide +kernel
theorem dX6_set_13 : decode cX6_set 13 = .ok (.getfield 16, 3) := by decide +kernel
theorem dX6_set_16 : decode cX6_set 16 = .ok (.iload_n 1, 1) := by decide +kernel
theorem dX6_set_17 : decode cX6_set 17 = .ok (.iload_n 2, 1) := by decide +kernel
theorem dX6_set_18 : decode cX6_set 18 = .ok (.invokevirtual 78, 3) := by decide +kernel
theorem dX6_set_21 : decode cX6_set 21 = .ok (.invokevirtual 48, 3) := by decide +kernel
theorem dX6_set_24 : decode cX6_set 24 = .ok (.ireturn, 1) := by decide +kernel
set_option maxRecDepth 20000 in
theorem ggX6_lotOf_X4_rowOf : GoodIn wsX6_lotOf wsX4_rowOf := goodIn_r _ [8, 9, 10, 50, 51, 52, 53, 54, 55] (by decide +kernel) (by decide +kernel)
set_option maxRecDepth 20000 in
theorem gX6_lotOf_X4_rowOf : GoodIn wsX6_lotOf (wsV RX6 85 RX4 yX4_rowOf wsX4_rowOf) := goodIn_app (goodIn_of _ (by decide +kernel)) ggX6_lotOf_X4_rowOf
set_option maxRecDepth 20000 in
theorem ggX6_lotOf_X3_tellOfLot : GoodIn wsX6_lotOf wsX3_tellOfLot := goodIn_r _ [15, 16, 17, 18, 19, 20, 21, 22, 23, 24, 25, 7, 26, 27, 28, 29, 30, 31, 32, 33, 34, 35, 41, 42, 43, 44, 45, 46, 47, 48, 49, 50, 51, 52, 53, 54, 55] (by decide +kernel) (by decide +kernel)
set_option maxRecDepth 20000 in
theorem gX6_lotOf_X3_tellOfLot : GoodIn wsX6_lotOf (wsV RX6 91 RX3 yX3_tellOfLot wsX3_tellOfLot) := goodIn_app (goodIn_of _ (by decide +kernel)) ggX6_lotOf_X3_tellOfLot
theorem dX6_lotOf_0 : decode cX6_lotOf 0 = .ok (.aload_n 0, 1) := by decide +kernel
theorem dX6_lotOf_1 : decode cX6_lotOf 1 = .ok (.getfield 10, 3) := by decide +kernel
theorem dX6_lotOf_4 : decode cX6_lotOf 4 = .ok (.getfield 81, 3) := by decide +kernel
theorem dX6_lotOf_7 : decode cX6_lotOf 7 = .ok (.iload_n 1, 1) := by decide +kernel
theorem dX6_lotOf_8 : decode cX6_lotOf 8 = .ok (.invokevirtual 85, 3) := by decide +kernel
theorem dX6_lotOf_11 : decode cX6_lotOf 11 = .ok (.istore_n 3, 1) := by decide +kernel
theorem dX6_lotOf_12 : decode cX6_lotOf 12 = .ok (.iload_n 3, 1) := by decide +kernel
theorem dX6_lotOf_13 : decode cX6_lotOf 13 = .ok (.ifCond .ge 8, 3) := by decide +kernel
theorem dX6_lotOf_16 : decode cX6_lotOf 16 = .ok (.ldc 90, 2) := by decide +kernel
theorem dX6_lotOf_18 : decode cX6_lotOf 18 = .ok (.goto 12, 3) := by decide +kernel
theorem dX6_lotOf_21 : decode cX6_lotOf 21 = .ok (.aload_n 0, 1) := by decide +kernel
theorem dX6_lotOf_22 : decode cX6_lotOf 22 = .ok (.getfield 10, 3) := by decide +kernel
theorem dX6_lotOf_25 : decode cX6_lotOf 25 = .ok (.iload_n 3, 1) := by decide +kernel
theorem dX6_lotOf_26 : decode cX6_lotOf 26 = .ok (.iload_n 2, 1) := by decide +kernel
theorem dX6_lotOf_27 : decode cX6_lotOf 27 = .ok (.invokevirtual 91, 3) := by decide +kernel
theorem dX6_lotOf_30 : decode cX6_lotOf 30 = .ok (.ireturn, 1) := by decide +kernel
theorem dX6_numberOf_0 : decode cX6_numberOf 0 = .ok (.iload_n 1, 1) := by decide +kernel
theorem dX6_numberOf_1 : decode cX6_numberOf 1 = .ok (.ifCond .ge 6, 3) := by decide +kernel
theorem dX6_numberOf_4 : decode cX6_numberOf 4 = .ok (.ldc 90, 2) := by decide +kernel
theorem dX6_numberOf_6 : decode cX6_numberOf 6 = .ok (.ireturn, 1) := by decide +kernel
theorem dX6_numberOf_7 : decode cX6_numberOf 7 = .ok (.iload_n 1, 1) := by decide +kernel
theorem dX6_numberOf_8 : decode cX6_numberOf 8 = .ok (.aload_n 0, 1) := by decide +kernel
theorem dX6_numberOf_9 : decode cX6_numberOf 9 = .ok (.getfield 10, 3) := by decide +kernel
theorem dX6_numberOf_12 : decode cX6_numberOf 12 = .ok (.getfield 81, 3) := by decide +kernel
theorem dX6_numberOf_15 : decode cX6_numberOf 15 = .ok (.getfield 94, 3) := by decide +kernel
theorem dX6_numberOf_18 : decode cX6_numberOf 18 = .ok (.if_icmp .ge 18, 3) := by decide +kernel
theorem dX6_numberOf_21 : decode cX6_numberOf 21 = .ok (.aload_n 0, 1) := by decide +kernel
theorem dX6_numberOf_22 : decode cX6_numberOf 22 = .ok (.getfield 10, 3) := by decide +kernel
theorem dX6_numberOf_25 : decode cX6_numberOf 25 = .ok (.getfield 81, 3) := by decide +kernel
theorem dX6_numberOf_28 : decode cX6_numberOf 28 = .ok (.getfield 98, 3) := by decide +kernel
theorem dX6_numberOf_31 : decode cX6_numberOf 31 = .ok (.iload_n 1, 1) := by decide +kernel
theorem dX6_numberOf_32 : decode cX6_numberOf 32 = .ok (.iaload, 1) := by decide +kernel
theorem dX6_numberOf_33 : decode cX6_numberOf 33 = .ok (.goto 5, 3) := by decide +kernel
theorem dX6_numberOf_36 : decode cX6_numberOf 36 = .ok (.ldc 102, 2) := by decide +kernel
theorem dX6_numberOf_38 : decode cX6_numberOf 38 = .ok (.ireturn, 1) := by decide +kernel
set_option maxRecDepth 20000 in
theorem ggX6_contractOf_X0_isOpen : GoodIn wsX6_contractOf wsX0_isOpen := goodIn_r _ [11, 12, 27, 28, 29] (by decide +kernel) (by decide +kernel)
set_option maxRecDepth 20000 in
theorem gX6_contractOf_X0_isOpen : GoodIn wsX6_contractOf (wsV RX6 107 RX0 yX0_isOpen wsX0_isOpen) := goodIn_app (goodIn_of _ (by decide +kernel)) ggX6_contractOf_X0_isOpen
theorem dX6_contractOf_0 : decode cX6_contractOf 0 = .ok (.aload_n 0, 1) := by decide +kernel
theorem dX6_contractOf_1 : decode cX6_contractOf 1 = .ok (.getfield 10, 3) := by decide +kernel
theorem dX6_contractOf_4 : decode cX6_contractOf 4 = .ok (.getfield 103, 3) := by decide +kernel
theorem dX6_contractOf_7 : decode cX6_contractOf 7 = .ok (.iload_n 1, 1) := by decide +kernel
theorem dX6_contractOf_8 : decode cX6_contractOf 8 = .ok (.invokevirtual 107, 3) := by decide +kernel
theorem dX6_contractOf_11 : decode cX6_contractOf 11 = .ok (.ifCond .ne 6, 3) := by decide +kernel
theorem dX6_contractOf_14 : decode cX6_contractOf 14 = .ok (.ldc 90, 2) := by decide +kernel
theorem dX6_contractOf_16 : decode cX6_contractOf 16 = .ok (.ireturn, 1) := by decide +kernel
theorem dX6_contractOf_17 : decode cX6_contractOf 17 = .ok (.iload_n 2, 1) := by decide +kernel
theorem dX6_contractOf_18 : decode cX6_contractOf 18 = .ok (.tableswitch 73 0 2 #[26, 39, 52], 26) := by decide +kernel
theorem dX6_contractOf_44 : decode cX6_contractOf 44 = .ok (.aload_n 0, 1) := by decide +kernel
theorem dX6_contractOf_45 : decode cX6_contractOf 45 = .ok (.getfield 10, 3) := by decide +kernel
theorem dX6_contractOf_48 : decode cX6_contractOf 48 = .ok (.getfield 103, 3) := by decide +kernel
theorem dX6_contractOf_51 : decode cX6_contractOf 51 = .ok (.getfield 113, 3) := by decide +kernel
theorem dX6_contractOf_54 : decode cX6_contractOf 54 = .ok (.iload_n 1, 1) := by decide +kernel
theorem dX6_contractOf_55 : decode cX6_contractOf 55 = .ok (.iaload, 1) := by decide +kernel
theorem dX6_contractOf_56 : decode cX6_contractOf 56 = .ok (.ireturn, 1) := by decide +kernel
theorem dX6_contractOf_57 : decode cX6_contractOf 57 = .ok (.aload_n 0, 1) := by decide +kernel
theorem dX6_contractOf_58 : decode cX6_contractOf 58 = .ok (.getfield 10, 3) := by decide +kernel
theorem dX6_contractOf_61 : decode cX6_contractOf 61 = .ok (.getfield 103, 3) := by decide +kernel
theorem dX6_contractOf_64 : decode cX6_contractOf 64 = .ok (.getfield 116, 3) := by decide +kernel
theorem dX6_contractOf_67 : decode cX6_contractOf 67 = .ok (.iload_n 1, 1) := by decide +kernel
theorem dX6_contractOf_68 : decode cX6_contractOf 68 = .ok (.iaload, 1) := by decide +kernel
theorem dX6_contractOf_69 : decode cX6_contractOf 69 = .ok (.ireturn, 1) := by decide +kernel
theorem dX6_contractOf_70 : decode cX6_contractOf 70 = .ok (.aload_n 0, 1) := by decide +kernel
theorem dX6_contractOf_71 : decode cX6_contractOf 71 = .ok (.getfield 10, 3) := by decide +kernel
theorem dX6_contractOf_74 : decode cX6_contractOf 74 = .ok (.getfield 103, 3) := by decide +kernel
theorem dX6_contractOf_77 : decode cX6_contractOf 77 = .ok (.getfield 113, 3) := by decide +kernel
theorem dX6_contractOf_80 : decode cX6_contractOf 80 = .ok (.iload_n 1, 1) := by decide +kernel
theorem dX6_contractOf_81 : decode cX6_contractOf 81 = .ok (.iaload, 1) := by decide +kernel
theorem dX6_contractOf_82 : decode cX6_contractOf 82 = .ok (.aload_n 0, 1) := by decide +kernel
theorem dX6_contractOf_83 : decode cX6_contractOf 83 = .ok (.getfield 10, 3) := by decide +kernel
theorem dX6_contractOf_86 : decode cX6_contractOf 86 = .ok (.getfield 119, 3) := by decide +kernel
theorem dX6_contractOf_89 : decode cX6_contractOf 89 = .ok (.isub, 1) := by decide +kernel
theorem dX6_contractOf_90 : decode cX6_contractOf 90 = .ok (.ireturn, 1) := by decide +kernel
theorem dX6_contractOf_91 : decode cX6_contractOf 91 = .ok (.ldc 90, 2) := by decide +kernel
theorem dX6_contractOf_93 : decode cX6_contractOf 93 = .ok (.ireturn, 1) := by decide +kernel
set_option maxRecDepth 20000 in
theorem ggX6_paid_X4_rowOf : GoodIn wsX6_paid wsX4_rowOf := goodIn_r _ [11, 12, 13, 51, 52, 53, 54, 55, 56] (by decide +kernel) (by decide +kernel)
set_option maxRecDepth 20000 in
theorem gX6_paid_X4_rowOf : GoodIn wsX6_paid (wsV RX6 85 RX4 yX4_rowOf wsX4_rowOf) := goodIn_app (goodIn_of _ (by decide +kernel)) ggX6_paid_X4_rowOf
set_option maxRecDepth 20000 in
theorem ggX6_paid_X6_isWithin : GoodIn wsX6_paid wsX6_isWithin := goodIn_r _ [17] (by decide +kernel) (by decide +kernel)
set_option maxRecDepth 20000 in
theorem gX6_paid_X6_isWithin : GoodIn wsX6_paid (va_wsS RX6 122 yX6_isWithin wsX6_isWithin) := goodIn_app (goodIn_of _ (by decide +kernel)) ggX6_paid_X6_isWithin
set_option maxRecDepth 20000 in
theorem ggX6_paid_X4_cupAt : GoodIn wsX6_paid wsX4_cupAt := goodIn_r _ [21, 22, 23, 51, 52, 53, 54, 55, 56] (by decide +kernel) (by decide +kernel)
set_option maxRecDepth 20000 in
theorem gX6_paid_X4_cupAt : GoodIn wsX6_paid (wsV RX6 126 RX4 yX4_cupAt wsX4_cupAt) := goodIn_app (goodIn_of _ (by decide +kernel)) ggX6_paid_X4_cupAt
set_option maxRecDepth 20000 in
theorem ggX6_paid_X4_monthsTooOld : GoodIn wsX6_paid wsX4_monthsTooOld := goodIn_r _ [27, 23, 51, 52, 53, 54, 55, 56] (by decide +kernel) (by decide +kernel)
set_option maxRecDepth 20000 in
theorem gX6_paid_X4_monthsTooOld : GoodIn wsX6_paid (wsV RX6 129 RX4 yX4_monthsTooOld wsX4_monthsTooOld) := goodIn_app (goodIn_of _ (by decide +kernel)) ggX6_paid_X4_monthsTooOld
set_option maxRecDepth 20000 in
theorem ggX6_paid_X3_payForBag : GoodIn wsX6_paid wsX3_payForBag := goodIn_r _ [32, 33, 42, 43, 44, 45, 46, 47, 48, 49, 50] (by decide +kernel) (by decide +kernel)
set_option maxRecDepth 20000 in
theorem gX6_paid_X3_payForBag : GoodIn wsX6_paid (wsV RX6 132 RX3 yX3_payForBag wsX3_payForBag) := goodIn_app (goodIn_of _ (by decide +kernel)) ggX6_paid_X3_payForBag
set_option maxRecDepth 20000 in
theorem ggX6_paid_X6_bandOf : GoodIn wsX6_paid wsX6_bandOf := goodIn_r _ [36] (by decide +kernel) (by decide +kernel)
set_option maxRecDepth 20000 in
theorem gX6_paid_X6_bandOf : GoodIn wsX6_paid (va_wsS RX6 139 yX6_bandOf wsX6_bandOf) := goodIn_app (goodIn_of _ (by decide +kernel)) ggX6_paid_X6_bandOf
theorem dX6_paid_0 : decode cX6_paid 0 = .ok (.aload_n 0, 1) := by decide +kernel
theorem dX6_paid_1 : decode cX6_paid 1 = .ok (.getfield 10, 3) := by decide +kernel
theorem dX6_paid_4 : decode cX6_paid 4 = .ok (.getfield 81, 3) := by decide +kernel
theorem dX6_paid_7 : decode cX6_paid 7 = .ok (.iload_n 1, 1) := by decide +kernel
theorem dX6_paid_8 : decode cX6_paid 8 = .ok (.invokevirtual 85, 3) := by decide +kernel
theorem dX6_paid_11 : decode cX6_paid 11 = .ok (.istore 4, 2) := by decide +kernel
theorem dX6_paid_13 : decode cX6_paid 13 = .ok (.iload 4, 2) := by decide +kernel
theorem dX6_paid_15 : decode cX6_paid 15 = .ok (.ifCond .lt 23, 3) := by decide +kernel
theorem dX6_paid_18 : decode cX6_paid 18 = .ok (.iload_n 2, 1) := by decide +kernel
theorem dX6_paid_19 : decode cX6_paid 19 = .ok (.iconst 1, 1) := by decide +kernel
theorem dX6_paid_20 : decode cX6_paid 20 = .ok (.sipush 999, 3) := by decide +kernel
theorem dX6_paid_23 : decode cX6_paid 23 = .ok (.invokestatic 122, 3) := by decide +kernel
theorem dX6_paid_26 : decode cX6_paid 26 = .ok (.ifCond .eq 12, 3) := by decide +kernel
theorem dX6_paid_29 : decode cX6_paid 29 = .ok (.iload_n 3, 1) := by decide +kernel
theorem dX6_paid_30 : decode cX6_paid 30 = .ok (.iconst 0, 1) := by decide +kernel
theorem dX6_paid_31 : decode cX6_paid 31 = .ok (.iconst 1, 1) := by decide +kernel
theorem dX6_paid_32 : decode cX6_paid 32 = .ok (.invokestatic 122, 3) := by decide +kernel
theorem dX6_paid_35 : decode cX6_paid 35 = .ok (.ifCond .ne 6, 3) := by decide +kernel
theorem dX6_paid_38 : decode cX6_paid 38 = .ok (.ldc 90, 2) := by decide +kernel
theorem dX6_paid_40 : decode cX6_paid 40 = .ok (.ireturn, 1) := by decide +kernel
theorem dX6_paid_41 : decode cX6_paid 41 = .ok (.aload_n 0, 1) := by decide +kernel
theorem dX6_paid_42 : decode cX6_paid 42 = .ok (.getfield 10, 3) := by decide +kernel
theorem dX6_paid_45 : decode cX6_paid 45 = .ok (.getfield 81, 3) := by decide +kernel
theorem dX6_paid_48 : decode cX6_paid 48 = .ok (.iload 4, 2) := by decide +kernel
theorem dX6_paid_50 : decode cX6_paid 50 = .ok (.aload_n 0, 1) := by decide +kernel
theorem dX6_paid_51 : decode cX6_paid 51 = .ok (.getfield 10, 3) := by decide +kernel
theorem dX6_paid_54 : decode cX6_paid 54 = .ok (.getfield 119, 3) := by decide +kernel
theorem dX6_paid_57 : decode cX6_paid 57 = .ok (.invokevirtual 126, 3) := by decide +kernel
theorem dX6_paid_60 : decode cX6_paid 60 = .ok (.istore 5, 2) := by decide +kernel
theorem dX6_paid_62 : decode cX6_paid 62 = .ok (.iload 5, 2) := by decide +kernel
theorem dX6_paid_64 : decode cX6_paid 64 = .ok (.bipush 70, 2) := by decide +kernel
theorem dX6_paid_66 : decode cX6_paid 66 = .ok (.if_icmp .ge 6, 3) := by decide +kernel
theorem dX6_paid_69 : decode cX6_paid 69 = .ok (.ldc 102, 2) := by decide +kernel
theorem dX6_paid_71 : decode cX6_paid 71 = .ok (.ireturn, 1) := by decide +kernel
theorem dX6_paid_72 : decode cX6_paid 72 = .ok (.aload_n 0, 1) := by decide +kernel
theorem dX6_paid_73 : decode cX6_paid 73 = .ok (.getfield 10, 3) := by decide +kernel
theorem dX6_paid_76 : decode cX6_paid 76 = .ok (.iload_n 2, 1) := by decide +kernel
theorem dX6_paid_77 : decode cX6_paid 77 = .ok (.iload 5, 2) := by decide +kernel
theorem dX6_paid_79 : decode cX6_paid 79 = .ok (.aload_n 0, 1) := by decide +kernel
theorem dX6_paid_80 : decode cX6_paid 80 = .ok (.getfield 10, 3) := by decide +kernel
theorem dX6_paid_83 : decode cX6_paid 83 = .ok (.getfield 81, 3) := by decide +kernel
theorem dX6_paid_86 : decode cX6_paid 86 = .ok (.iload 4, 2) := by decide +kernel
theorem dX6_paid_88 : decode cX6_paid 88 = .ok (.aload_n 0, 1) := by decide +kernel
theorem dX6_paid_89 : decode cX6_paid 89 = .ok (.getfield 10, 3) := by decide +kernel
theorem dX6_paid_92 : decode cX6_paid 92 = .ok (.getfield 119, 3) := by decide +kernel
theorem dX6_paid_95 : decode cX6_paid 95 = .ok (.invokevirtual 129, 3) := by decide +kernel
theorem dX6_paid_98 : decode cX6_paid 98 = .ok (.invokevirtual 132, 3) := by decide +kernel
theorem dX6_paid_101 : decode cX6_paid 101 = .ok (.istore 6, 2) := by decide +kernel
theorem dX6_paid_103 : decode cX6_paid 103 = .ok (.iload_n 3, 1) := by decide +kernel
theorem dX6_paid_104 : decode cX6_paid 104 = .ok (.ifCond .ne 8, 3) := by decide +kernel
theorem dX6_paid_107 : decode cX6_paid 107 = .ok (.iload 6, 2) := by decide +kernel
theorem dX6_paid_109 : decode cX6_paid 109 = .ok (.goto 23, 3) := by decide +kernel
theorem dX6_paid_112 : decode cX6_paid 112 = .ok (.iload 6, 2) := by decide +kernel
theorem dX6_paid_114 : decode cX6_paid 114 = .ok (.aload_n 0, 1) := by decide +kernel
theorem dX6_paid_115 : decode cX6_paid 115 = .ok (.getfield 10, 3) := by decide +kernel
theorem dX6_paid_118 : decode cX6_paid 118 = .ok (.getfield 136, 3) := by decide +kernel
theorem dX6_paid_121 : decode cX6_paid 121 = .ok (.iload 5, 2) := by decide +kernel
theorem dX6_paid_123 : decode cX6_paid 123 = .ok (.invokestatic 139, 3) := by decide +kernel
theorem dX6_paid_126 : decode cX6_paid 126 = .ok (.iaload, 1) := by decide +kernel
theorem dX6_paid_127 : decode cX6_paid 127 = .ok (.isub, 1) := by decide +kernel
theorem dX6_paid_128 : decode cX6_paid 128 = .ok (.sipush 10000, 3) := by decide +kernel
theorem dX6_paid_131 : decode cX6_paid 131 = .ok (.iadd, 1) := by decide +kernel
theorem dX6_paid_132 : decode cX6_paid 132 = .ok (.ireturn, 1) := by decide +kernel
set_option maxRecDepth 20000 in
theorem ggX6_given_X0_isOpen : GoodIn wsX6_given wsX0_isOpen := goodIn_r _ [17, 18, 94, 95, 96] (by decide +kernel) (by decide +kernel)
set_option maxRecDepth 20000 in
theorem gX6_given_X0_isOpen : GoodIn wsX6_given (wsV RX6 107 RX0 yX0_isOpen wsX0_isOpen) := goodIn_app (goodIn_of _ (by decide +kernel)) ggX6_given_X0_isOpen
set_option maxRecDepth 20000 in
theorem ggX6_given_X6_isWithin : GoodIn wsX6_given wsX6_isWithin := goodIn_r _ [22] (by decide +kernel) (by decide +kernel)
set_option maxRecDepth 20000 in
theorem gX6_given_X6_isWithin : GoodIn wsX6_given (va_wsS RX6 122 yX6_isWithin wsX6_isWithin) := goodIn_app (goodIn_of _ (by decide +kernel)) ggX6_given_X6_isWithin
set_option maxRecDepth 20000 in
theorem ggX6_given_X1_plan : GoodIn wsX6_given wsX1_plan := goodIn_r _ [27, 28, 29, 30, 31, 32, 33, 34, 35, 36, 37, 38, 39, 40, 26, 41, 42, 43, 44, 45, 46, 47, 48, 49, 50, 51, 52, 53, 54, 55, 56, 57, 58, 59, 60, 61, 62, 63, 64, 21, 65, 66, 67, 68, 69, 70, 71, 72, 73, 74, 75, 76, 77, 78, 79, 97, 98, 99, 100, 101, 102, 103, 104, 105, 106, 107, 108, 85, 86, 87, 88, 89, 90, 91, 92, 93, 109, 110, 111, 112, 113, 114] (by decide +kernel) (by decide +kernel)
set_option maxRecDepth 20000 in
theorem gX6_given_X1_plan : GoodIn wsX6_given (wsV RX6 142 RX1 yX1_plan wsX1_plan) := goodIn_app (goodIn_of _ (by decide +kernel)) ggX6_given_X1_plan
theorem dX6_given_0 : decode cX6_given 0 = .ok (.aload_n 0, 1) := by decide +kernel
theorem dX6_given_1 : decode cX6_given 1 = .ok (.getfield 10, 3) := by decide +kernel
theorem dX6_given_4 : decode cX6_given 4 = .ok (.getfield 103, 3) := by decide +kernel
theorem dX6_given_7 : decode cX6_given 7 = .ok (.iload_n 1, 1) := by decide +kernel
theorem dX6_given_8 : decode cX6_given 8 = .ok (.invokevirtual 107, 3) := by decide +kernel
theorem dX6_given_11 : decode cX6_given 11 = .ok (.ifCond .eq 16, 3) := by decide +kernel
theorem dX6_given_14 : decode cX6_given 14 = .ok (.iload_n 2, 1) := by decide +kernel
theorem dX6_given_15 : decode cX6_given 15 = .ok (.ifCond .lt 12, 3) := by decide +kernel
theorem dX6_given_18 : decode cX6_given 18 = .ok (.iload_n 3, 1) := by decide +kernel
theorem dX6_given_19 : decode cX6_given 19 = .ok (.iconst 0, 1) := by decide +kernel
theorem dX6_given_20 : decode cX6_given 20 = .ok (.iconst 1, 1) := by decide +kernel
theorem dX6_given_21 : decode cX6_given 21 = .ok (.invokestatic 122, 3) := by decide +kernel
theorem dX6_given_24 : decode cX6_given 24 = .ok (.ifCond .ne 6, 3) := by decide +kernel
theorem dX6_given_27 : decode cX6_given 27 = .ok (.ldc 90, 2) := by decide +kernel
theorem dX6_given_29 : decode cX6_given 29 = .ok (.ireturn, 1) := by decide +kernel
theorem dX6_given_30 : decode cX6_given 30 = .ok (.aload_n 0, 1) := by decide +kernel
theorem dX6_given_31 : decode cX6_given 31 = .ok (.getfield 29, 3) := by decide +kernel
theorem dX6_given_34 : decode cX6_given 34 = .ok (.aload_n 0, 1) := by decide +kernel
theorem dX6_given_35 : decode cX6_given 35 = .ok (.getfield 10, 3) := by decide +kernel
theorem dX6_given_38 : decode cX6_given 38 = .ok (.aload_n 0, 1) := by decide +kernel
theorem dX6_given_39 : decode cX6_given 39 = .ok (.getfield 10, 3) := by decide +kernel
theorem dX6_given_42 : decode cX6_given 42 = .ok (.getfield 103, 3) := by decide +kernel
theorem dX6_given_45 : decode cX6_given 45 = .ok (.getfield 116, 3) := by decide +kernel
theorem dX6_given_48 : decode cX6_given 48 = .ok (.iload_n 1, 1) := by decide +kernel
theorem dX6_given_49 : decode cX6_given 49 = .ok (.iaload, 1) := by decide +kernel
theorem dX6_given_50 : decode cX6_given 50 = .ok (.aload_n 0, 1) := by decide +kernel
theorem dX6_given_51 : decode cX6_given 51 = .ok (.getfield 10, 3) := by decide +kernel
theorem dX6_given_54 : decode cX6_given 54 = .ok (.getfield 119, 3) := by decide +kernel
theorem dX6_given_57 : decode cX6_given 57 = .ok (.invokevirtual 142, 3) := by decide +kernel
theorem dX6_given_60 : decode cX6_given 60 = .ok (.iload_n 2, 1) := by decide +kernel
theorem dX6_given_61 : decode cX6_given 61 = .ok (.aload_n 0, 1) := by decide +kernel
theorem dX6_given_62 : decode cX6_given 62 = .ok (.getfield 29, 3) := by decide +kernel
theorem dX6_given_65 : decode cX6_given 65 = .ok (.getfield 146, 3) := by decide +kernel
theorem dX6_given_68 : decode cX6_given 68 = .ok (.if_icmp .lt 6, 3) := by decide +kernel
theorem dX6_given_71 : decode cX6_given 71 = .ok (.ldc 102, 2) := by decide +kernel
theorem dX6_given_73 : decode cX6_given 73 = .ok (.ireturn, 1) := by decide +kernel
theorem dX6_given_74 : decode cX6_given 74 = .ok (.iload_n 3, 1) := by decide +kernel
theorem dX6_given_75 : decode cX6_given 75 = .ok (.ifCond .ne 26, 3) := by decide +kernel
theorem dX6_given_78 : decode cX6_given 78 = .ok (.aload_n 0, 1) := by decide +kernel
theorem dX6_given_79 : decode cX6_given 79 = .ok (.getfield 10, 3) := by decide +kernel
theorem dX6_given_82 : decode cX6_given 82 = .ok (.getfield 81, 3) := by decide +kernel
theorem dX6_given_85 : decode cX6_given 85 = .ok (.getfield 98, 3) := by decide +kernel
theorem dX6_given_88 : decode cX6_given 88 = .ok (.aload_n 0, 1) := by decide +kernel
theorem dX6_given_89 : decode cX6_given 89 = .ok (.getfield 29, 3) := by decide +kernel
theorem dX6_given_92 : decode cX6_given 92 = .ok (.getfield 149, 3) := by decide +kernel
theorem dX6_given_95 : decode cX6_given 95 = .ok (.iload_n 2, 1) := by decide +kernel
theorem dX6_given_96 : decode cX6_given 96 = .ok (.iaload, 1) := by decide +kernel
theorem dX6_given_97 : decode cX6_given 97 = .ok (.iaload, 1) := by decide +kernel
theorem dX6_given_98 : decode cX6_given 98 = .ok (.goto 12, 3) := by decide +kernel
theorem dX6_given_101 : decode cX6_given 101 = .ok (.aload_n 0, 1) := by decide +kernel
theorem dX6_given_102 : decode cX6_given 102 = .ok (.getfield 29, 3) := by decide +kernel
theorem dX6_given_105 : decode cX6_given 105 = .ok (.getfield 152, 3) := by decide +kernel
theorem dX6_given_108 : decode cX6_given 108 = .ok (.iload_n 2, 1) := by decide +kernel
theorem dX6_given_109 : decode cX6_given 109 = .ok (.iaload, 1) := by decide +kernel
theorem dX6_given_110 : decode cX6_given 110 = .ok (.ireturn, 1) := by decide +kernel
set_option maxRecDepth 20000 in
theorem ggX6_would_X0_isOpen : GoodIn wsX6_would wsX0_isOpen := goodIn_r _ [19, 20, 102, 103, 104] (by decide +kernel) (by decide +kernel)
set_option maxRecDepth 20000 in
theorem gX6_would_X0_isOpen : GoodIn wsX6_would (wsV RX6 107 RX0 yX0_isOpen wsX0_isOpen) := goodIn_app (goodIn_of _ (by decide +kernel)) ggX6_would_X0_isOpen
set_option maxRecDepth 20000 in
theorem ggX6_would_X6_isWithin : GoodIn wsX6_would wsX6_isWithin := goodIn_r _ [24] (by decide +kernel) (by decide +kernel)
set_option maxRecDepth 20000 in
theorem gX6_would_X6_isWithin : GoodIn wsX6_would (va_wsS RX6 122 yX6_isWithin wsX6_isWithin) := goodIn_app (goodIn_of _ (by decide +kernel)) ggX6_would_X6_isWithin
set_option maxRecDepth 20000 in
theorem ggX6_would_X1_plan : GoodIn wsX6_would wsX1_plan := goodIn_r _ [29, 30, 31, 32, 33, 34, 35, 36, 37, 38, 39, 40, 41, 42, 28, 43, 44, 45, 46, 47, 48, 49, 50, 51, 52, 53, 54, 55, 56, 57, 58, 59, 60, 61, 62, 63, 64, 65, 66, 23, 67, 68, 69, 70, 71, 72, 73, 74, 75, 76, 77, 78, 79, 80, 81, 105, 106, 107, 108, 109, 110, 111, 112, 113, 114, 115, 116, 93, 94, 95, 96, 97, 98, 99, 100, 101, 117, 118, 119, 120, 121, 122] (by decide +kernel) (by decide +kernel)
set_option maxRecDepth 20000 in
theorem gX6_would_X1_plan : GoodIn wsX6_would (wsV RX6 142 RX1 yX1_plan wsX1_plan) := goodIn_app (goodIn_of _ (by decide +kernel)) ggX6_would_X1_plan
set_option maxRecDepth 20000 in
theorem ggX6_would_X6_bitsOfMeanCup : GoodIn wsX6_would wsX6_bitsOfMeanCup := goodIn_r _ [84, 8, 85, 86, 87] (by decide +kernel) (by decide +kernel)
set_option maxRecDepth 20000 in
theorem gX6_would_X6_bitsOfMeanCup : GoodIn wsX6_would (va_wsS RX6 175 yX6_bitsOfMeanCup wsX6_bitsOfMeanCup) := goodIn_app (goodIn_of _ (by decide +kernel)) ggX6_would_X6_bitsOfMeanCup
theorem dX6_would_0 : decode cX6_would 0 = .ok (.aload_n 0, 1) := by decide +kernel
theorem dX6_would_1 : decode cX6_would 1 = .ok (.getfield 10, 3) := by decide +kernel
theorem dX6_would_4 : decode cX6_would 4 = .ok (.getfield 103, 3) := by decide +kernel
theorem dX6_would_7 : decode cX6_would 7 = .ok (.iload_n 1, 1) := by decide +kernel
theorem dX6_would_8 : decode cX6_would 8 = .ok (.invokevirtual 107, 3) := by decide +kernel
theorem dX6_would_11 : decode cX6_would 11 = .ok (.ifCond .eq 12, 3) := by decide +kernel
theorem dX6_would_14 : decode cX6_would 14 = .ok (.iload_n 2, 1) := by decide +kernel
theorem dX6_would_15 : decode cX6_would 15 = .ok (.iconst 0, 1) := by decide +kernel
theorem dX6_would_16 : decode cX6_would 16 = .ok (.iconst 3, 1) := by decide +kernel
theorem dX6_would_17 : decode cX6_would 17 = .ok (.invokestatic 122, 3) := by decide +kernel
theorem dX6_would_20 : decode cX6_would 20 = .ok (.ifCond .ne 6, 3) := by decide +kernel
theorem dX6_would_23 : decode cX6_would 23 = .ok (.ldc 90, 2) := by decide +kernel
theorem dX6_would_25 : decode cX6_would 25 = .ok (.ireturn, 1) := by decide +kernel
theorem dX6_would_26 : decode cX6_would 26 = .ok (.aload_n 0, 1) := by decide +kernel
theorem dX6_would_27 : decode cX6_would 27 = .ok (.getfield 29, 3) := by decide +kernel
theorem dX6_would_30 : decode cX6_would 30 = .ok (.aload_n 0, 1) := by decide +kernel
theorem dX6_would_31 : decode cX6_would 31 = .ok (.getfield 10, 3) := by decide +kernel
theorem dX6_would_34 : decode cX6_would 34 = .ok (.aload_n 0, 1) := by decide +kernel
theorem dX6_would_35 : decode cX6_would 35 = .ok (.getfield 10, 3) := by decide +kernel
theorem dX6_would_38 : decode cX6_would 38 = .ok (.getfield 103, 3) := by decide +kernel
theorem dX6_would_41 : decode cX6_would 41 = .ok (.getfield 116, 3) := by decide +kernel
theorem dX6_would_44 : decode cX6_would 44 = .ok (.iload_n 1, 1) := by decide +kernel
theorem dX6_would_45 : decode cX6_would 45 = .ok (.iaload, 1) := by decide +kernel
theorem dX6_would_46 : decode cX6_would 46 = .ok (.aload_n 0, 1) := by decide +kernel
theorem dX6_would_47 : decode cX6_would 47 = .ok (.getfield 10, 3) := by decide +kernel
theorem dX6_would_50 : decode cX6_would 50 = .ok (.getfield 119, 3) := by decide +kernel
theorem dX6_would_53 : decode cX6_would 53 = .ok (.invokevirtual 142, 3) := by decide +kernel
theorem dX6_would_56 : decode cX6_would 56 = .ok (.aload_n 0, 1) := by decide +kernel
theorem dX6_would_57 : decode cX6_would 57 = .ok (.getfield 29, 3) := by decide +kernel
theorem dX6_would_60 : decode cX6_would 60 = .ok (.getfield 155, 3) := by decide +kernel
theorem dX6_would_63 : decode cX6_would 63 = .ok (.ifCond .le 6, 3) := by decide +kernel
theorem dX6_would_66 : decode cX6_would 66 = .ok (.ldc 158, 2) := by decide +kernel
theorem dX6_would_68 : decode cX6_would 68 = .ok (.ireturn, 1) := by decide +kernel
theorem dX6_would_69 : decode cX6_would 69 = .ok (.iload_n 2, 1) := by decide +kernel
theorem dX6_would_70 : decode cX6_would 70 = .ok (.tableswitch 53 0 2 #[26, 34, 45], 26) := by decide +kernel
theorem dX6_would_96 : decode cX6_would 96 = .ok (.aload_n 0, 1) := by decide +kernel
theorem dX6_would_97 : decode cX6_would 97 = .ok (.getfield 29, 3) := by decide +kernel
theorem dX6_would_100 : decode cX6_would 100 = .ok (.getfield 159, 3) := by decide +kernel
theorem dX6_would_103 : decode cX6_would 103 = .ok (.ireturn, 1) := by decide +kernel
theorem dX6_would_104 : decode cX6_would 104 = .ok (.aload_n 0, 1) := by decide +kernel
theorem dX6_would_105 : decode cX6_would 105 = .ok (.getfield 29, 3) := by decide +kernel
theorem dX6_would_108 : decode cX6_would 108 = .ok (.getfield 162, 3) := by decide +kernel
theorem dX6_would_111 : decode cX6_would 111 = .ok (.ldc 165, 2) := by decide +kernel
theorem dX6_would_113 : decode cX6_would 113 = .ok (.iadd, 1) := by decide +kernel
theorem dX6_would_114 : decode cX6_would 114 = .ok (.ireturn, 1) := by decide +kernel
theorem dX6_would_115 : decode cX6_would 115 = .ok (.aload_n 0, 1) := by decide +kernel
theorem dX6_would_116 : decode cX6_would 116 = .ok (.getfield 29, 3) := by decide +kernel
theorem dX6_would_119 : decode cX6_would 119 = .ok (.getfield 166, 3) := by decide +kernel
theorem dX6_would_122 : decode cX6_would 122 = .ok (.ireturn, 1) := by decide +kernel
theorem dX6_would_123 : decode cX6_would 123 = .ok (.aload_n 0, 1) := by decide +kernel
theorem dX6_would_124 : decode cX6_would 124 = .ok (.getfield 29, 3) := by decide +kernel
theorem dX6_would_127 : decode cX6_would 127 = .ok (.getfield 169, 3) := by decide +kernel
theorem dX6_would_130 : decode cX6_would 130 = .ok (.aload_n 0, 1) := by decide +kernel
theorem dX6_would_131 : decode cX6_would 131 = .ok (.getfield 10, 3) := by decide +kernel
theorem dX6_would_134 : decode cX6_would 134 = .ok (.getfield 172, 3) := by decide +kernel
theorem dX6_would_137 : decode cX6_would 137 = .ok (.iconst 0, 1) := by decide +kernel
theorem dX6_would_138 : decode cX6_would 138 = .ok (.iaload, 1) := by decide +kernel
theorem dX6_would_139 : decode cX6_would 139 = .ok (.invokestatic 175, 3) := by decide +kernel
theorem dX6_would_142 : decode cX6_would 142 = .ok (.ireturn, 1) := by decide +kernel
set_option maxRecDepth 20000 in
theorem ggX6_lift_X4_rowOf : GoodIn wsX6_lift wsX4_rowOf := goodIn_r _ [11, 12, 13, 41, 42, 43, 44, 45, 46] (by decide +kernel) (by decide +kernel)
set_option maxRecDepth 20000 in
theorem gX6_lift_X4_rowOf : GoodIn wsX6_lift (wsV RX6 85 RX4 yX4_rowOf wsX4_rowOf) := goodIn_app (goodIn_of _ (by decide +kernel)) ggX6_lift_X4_rowOf
set_option maxRecDepth 20000 in
theorem ggX6_lift_X6_isWithin : GoodIn wsX6_lift wsX6_isWithin := goodIn_r _ [17] (by decide +kernel) (by decide +kernel)
set_option maxRecDepth 20000 in
theorem gX6_lift_X6_isWithin : GoodIn wsX6_lift (va_wsS RX6 122 yX6_isWithin wsX6_isWithin) := goodIn_app (goodIn_of _ (by decide +kernel)) ggX6_lift_X6_isWithin
set_option maxRecDepth 20000 in
theorem ggX6_lift_X4_cupAt : GoodIn wsX6_lift wsX4_cupAt := goodIn_r _ [21, 22, 23, 41, 42, 43, 44, 45, 46] (by decide +kernel) (by decide +kernel)
set_option maxRecDepth 20000 in
theorem gX6_lift_X4_cupAt : GoodIn wsX6_lift (wsV RX6 126 RX4 yX4_cupAt wsX4_cupAt) := goodIn_app (goodIn_of _ (by decide +kernel)) ggX6_lift_X4_cupAt
set_option maxRecDepth 20000 in
theorem ggX6_lift_X6_leastStepsTo : GoodIn wsX6_lift wsX6_leastStepsTo := goodIn_r _ [26] (by decide +kernel) (by decide +kernel)
set_option maxRecDepth 20000 in
theorem gX6_lift_X6_leastStepsTo : GoodIn wsX6_lift (va_wsS RX6 179 yX6_leastStepsTo wsX6_leastStepsTo) := goodIn_app (goodIn_of _ (by decide +kernel)) ggX6_lift_X6_leastStepsTo
theorem dX6_lift_0 : decode cX6_lift 0 = .ok (.aload_n 0, 1) := by decide +kernel
theorem dX6_lift_1 : decode cX6_lift 1 = .ok (.getfield 10, 3) := by decide +kernel
theorem dX6_lift_4 : decode cX6_lift 4 = .ok (.getfield 81, 3) := by decide +kernel
theorem dX6_lift_7 : decode cX6_lift 7 = .ok (.iload_n 1, 1) := by decide +kernel
theorem dX6_lift_8 : decode cX6_lift 8 = .ok (.invokevirtual 85, 3) := by decide +kernel
theorem dX6_lift_11 : decode cX6_lift 11 = .ok (.istore 4, 2) := by decide +kernel
theorem dX6_lift_13 : decode cX6_lift 13 = .ok (.aload_n 0, 1) := by decide +kernel
theorem dX6_lift_14 : decode cX6_lift 14 = .ok (.getfield 10, 3) := by decide +kernel
theorem dX6_lift_17 : decode cX6_lift 17 = .ok (.getfield 81, 3) := by decide +kernel
theorem dX6_lift_20 : decode cX6_lift 20 = .ok (.iload_n 2, 1) := by decide +kernel
theorem dX6_lift_21 : decode cX6_lift 21 = .ok (.invokevirtual 85, 3) := by decide +kernel
theorem dX6_lift_24 : decode cX6_lift 24 = .ok (.istore 5, 2) := by decide +kernel
theorem dX6_lift_26 : decode cX6_lift 26 = .ok (.iload 4, 2) := by decide +kernel
theorem dX6_lift_28 : decode cX6_lift 28 = .ok (.ifCond .lt 26, 3) := by decide +kernel
theorem dX6_lift_31 : decode cX6_lift 31 = .ok (.iload 5, 2) := by decide +kernel
theorem dX6_lift_33 : decode cX6_lift 33 = .ok (.ifCond .lt 21, 3) := by decide +kernel
theorem dX6_lift_36 : decode cX6_lift 36 = .ok (.iload 4, 2) := by decide +kernel
theorem dX6_lift_38 : decode cX6_lift 38 = .ok (.iload 5, 2) := by decide +kernel
theorem dX6_lift_40 : decode cX6_lift 40 = .ok (.if_icmp .eq 14, 3) := by decide +kernel
theorem dX6_lift_43 : decode cX6_lift 43 = .ok (.iload_n 3, 1) := by decide +kernel
theorem dX6_lift_44 : decode cX6_lift 44 = .ok (.bipush 60, 2) := by decide +kernel
theorem dX6_lift_46 : decode cX6_lift 46 = .ok (.bipush 100, 2) := by decide +kernel
theorem dX6_lift_48 : decode cX6_lift 48 = .ok (.invokestatic 122, 3) := by decide +kernel
theorem dX6_lift_51 : decode cX6_lift 51 = .ok (.ifCond .ne 6, 3) := by decide +kernel
theorem dX6_lift_54 : decode cX6_lift 54 = .ok (.ldc 90, 2) := by decide +kernel
theorem dX6_lift_56 : decode cX6_lift 56 = .ok (.ireturn, 1) := by decide +kernel
theorem dX6_lift_57 : decode cX6_lift 57 = .ok (.iload_n 3, 1) := by decide +kernel
theorem dX6_lift_58 : decode cX6_lift 58 = .ok (.aload_n 0, 1) := by decide +kernel
theorem dX6_lift_59 : decode cX6_lift 59 = .ok (.getfield 10, 3) := by decide +kernel
theorem dX6_lift_62 : decode cX6_lift 62 = .ok (.getfield 81, 3) := by decide +kernel
theorem dX6_lift_65 : decode cX6_lift 65 = .ok (.iload 4, 2) := by decide +kernel
theorem dX6_lift_67 : decode cX6_lift 67 = .ok (.aload_n 0, 1) := by decide +kernel
theorem dX6_lift_68 : decode cX6_lift 68 = .ok (.getfield 10, 3) := by decide +kernel
theorem dX6_lift_71 : decode cX6_lift 71 = .ok (.getfield 119, 3) := by decide +kernel
theorem dX6_lift_74 : decode cX6_lift 74 = .ok (.invokevirtual 126, 3) := by decide +kernel
theorem dX6_lift_77 : decode cX6_lift 77 = .ok (.isub, 1) := by decide +kernel
theorem dX6_lift_78 : decode cX6_lift 78 = .ok (.aload_n 0, 1) := by decide +kernel
theorem dX6_lift_79 : decode cX6_lift 79 = .ok (.getfield 10, 3) := by decide +kernel
theorem dX6_lift_82 : decode cX6_lift 82 = .ok (.getfield 81, 3) := by decide +kernel
theorem dX6_lift_85 : decode cX6_lift 85 = .ok (.getfield 178, 3) := by decide +kernel
theorem dX6_lift_88 : decode cX6_lift 88 = .ok (.iload 4, 2) := by decide +kernel
theorem dX6_lift_90 : decode cX6_lift 90 = .ok (.iaload, 1) := by decide +kernel
theorem dX6_lift_91 : decode cX6_lift 91 = .ok (.imul, 1) := by decide +kernel
theorem dX6_lift_92 : decode cX6_lift 92 = .ok (.istore 6, 2) := by decide +kernel
theorem dX6_lift_94 : decode cX6_lift 94 = .ok (.aload_n 0, 1) := by decide +kernel
theorem dX6_lift_95 : decode cX6_lift 95 = .ok (.getfield 10, 3) := by decide +kernel
theorem dX6_lift_98 : decode cX6_lift 98 = .ok (.getfield 81, 3) := by decide +kernel
theorem dX6_lift_101 : decode cX6_lift 101 = .ok (.iload 5, 2) := by decide +kernel
theorem dX6_lift_103 : decode cX6_lift 103 = .ok (.aload_n 0, 1) := by decide +kernel
theorem dX6_lift_104 : decode cX6_lift 104 = .ok (.getfield 10, 3) := by decide +kernel
theorem dX6_lift_107 : decode cX6_lift 107 = .ok (.getfield 119, 3) := by decide +kernel
theorem dX6_lift_110 : decode cX6_lift 110 = .ok (.invokevirtual 126, 3) := by decide +kernel
theorem dX6_lift_113 : decode cX6_lift 113 = .ok (.iload_n 3, 1) := by decide +kernel
theorem dX6_lift_114 : decode cX6_lift 114 = .ok (.isub, 1) := by decide +kernel
theorem dX6_lift_115 : decode cX6_lift 115 = .ok (.istore 7, 2) := by decide +kernel
theorem dX6_lift_117 : decode cX6_lift 117 = .ok (.iload 6, 2) := by decide +kernel
theorem dX6_lift_119 : decode cX6_lift 119 = .ok (.iload 7, 2) := by decide +kernel
theorem dX6_lift_121 : decode cX6_lift 121 = .ok (.invokestatic 179, 3) := by decide +kernel
theorem dX6_lift_124 : decode cX6_lift 124 = .ok (.istore 8, 2) := by decide +kernel
theorem dX6_lift_126 : decode cX6_lift 126 = .ok (.iload 8, 2) := by decide +kernel
theorem dX6_lift_128 : decode cX6_lift 128 = .ok (.iconst 1, 1) := by decide +kernel
theorem dX6_lift_129 : decode cX6_lift 129 = .ok (.if_icmp .lt 21, 3) := by decide +kernel
theorem dX6_lift_132 : decode cX6_lift 132 = .ok (.iload 8, 2) := by decide +kernel
theorem dX6_lift_134 : decode cX6_lift 134 = .ok (.aload_n 0, 1) := by decide +kernel
theorem dX6_lift_135 : decode cX6_lift 135 = .ok (.getfield 10, 3) := by decide +kernel
theorem dX6_lift_138 : decode cX6_lift 138 = .ok (.getfield 81, 3) := by decide +kernel
theorem dX6_lift_141 : decode cX6_lift 141 = .ok (.getfield 178, 3) := by decide +kernel
theorem dX6_lift_144 : decode cX6_lift 144 = .ok (.iload 5, 2) := by decide +kernel
theorem dX6_lift_146 : decode cX6_lift 146 = .ok (.iaload, 1) := by decide +kernel
theorem dX6_lift_147 : decode cX6_lift 147 = .ok (.if_icmp .le 8, 3) := by decide +kernel
theorem dX6_lift_150 : decode cX6_lift 150 = .ok (.ldc 102, 2) := by decide +kernel
theorem dX6_lift_152 : decode cX6_lift 152 = .ok (.goto 5, 3) := by decide +kernel
theorem dX6_lift_155 : decode cX6_lift 155 = .ok (.iload 8, 2) := by decide +kernel
theorem dX6_lift_157 : decode cX6_lift 157 = .ok (.ireturn, 1) := by decide +kernel
set_option maxRecDepth 20000 in
theorem ggX6_bestMonth_X6_isWithin : GoodIn wsX6_bestMonth wsX6_isWithin := goodIn_r _ [12] (by decide +kernel) (by decide +kernel)
set_option maxRecDepth 20000 in
theorem gX6_bestMonth_X6_isWithin : GoodIn wsX6_bestMonth (va_wsS RX6 122 yX6_isWithin wsX6_isWithin) := goodIn_app (goodIn_of _ (by decide +kernel)) ggX6_bestMonth_X6_isWithin
set_option maxRecDepth 20000 in
theorem ggX6_bestMonth_X3_isDeliveryMonth : GoodIn wsX6_bestMonth wsX3_isDeliveryMonth := goodIn_r _ [17, 18, 19, 20, 21, 22, 83, 84, 85, 86, 87, 88, 89, 90, 91] (by decide +kernel) (by decide +kernel)
set_option maxRecDepth 20000 in
theorem gX6_bestMonth_X3_isDeliveryMonth : GoodIn wsX6_bestMonth (wsV RX6 182 RX3 yX3_isDeliveryMonth wsX3_isDeliveryMonth) := goodIn_app (goodIn_of _ (by decide +kernel)) ggX6_bestMonth_X3_isDeliveryMonth
set_option maxRecDepth 20000 in
theorem ggX6_bestMonth_X1_plan : GoodIn wsX6_bestMonth wsX1_plan := goodIn_r _ [27, 28, 29, 30, 31, 32, 33, 34, 35, 36, 37, 38, 39, 40, 26, 41, 42, 43, 44, 45, 46, 47, 48, 49, 50, 51, 52, 53, 54, 55, 56, 57, 58, 59, 60, 16, 61, 18, 62, 11, 63, 64, 65, 66, 67, 68, 69, 70, 71, 72, 73, 74, 75, 76, 77, 92, 93, 94, 95, 96, 97, 98, 99, 100, 101, 102, 103, 83, 84, 85, 86, 87, 88, 89, 90, 91, 104, 105, 106, 107, 108, 109] (by decide +kernel) (by decide +kernel)
set_option maxRecDepth 20000 in
theorem gX6_bestMonth_X1_plan : GoodIn wsX6_bestMonth (wsV RX6 142 RX1 yX1_plan wsX1_plan) := goodIn_app (goodIn_of _ (by decide +kernel)) ggX6_bestMonth_X1_plan
theorem dX6_bestMonth_0 : decode cX6_bestMonth 0 = .ok (.iload_n 1, 1) := by decide +kernel
theorem dX6_bestMonth_1 : decode cX6_bestMonth 1 = .ok (.iconst 1, 1) := by decide +kernel
theorem dX6_bestMonth_2 : decode cX6_bestMonth 2 = .ok (.sipush 999, 3) := by decide +kernel
theorem dX6_bestMonth_5 : decode cX6_bestMonth 5 = .ok (.invokestatic 122, 3) := by decide +kernel
theorem dX6_bestMonth_8 : decode cX6_bestMonth 8 = .ok (.ifCond .eq 12, 3) := by decide +kernel
theorem dX6_bestMonth_11 : decode cX6_bestMonth 11 = .ok (.iload_n 2, 1) := by decide +kernel
theorem dX6_bestMonth_12 : decode cX6_bestMonth 12 = .ok (.iconst 0, 1) := by decide +kernel
theorem dX6_bestMonth_13 : decode cX6_bestMonth 13 = .ok (.iconst 1, 1) := by decide +kernel
theorem dX6_bestMonth_14 : decode cX6_bestMonth 14 = .ok (.invokestatic 122, 3) := by decide +kernel
theorem dX6_bestMonth_17 : decode cX6_bestMonth 17 = .ok (.ifCond .ne 6, 3) := by decide +kernel
theorem dX6_bestMonth_20 : decode cX6_bestMonth 20 = .ok (.ldc 90, 2) := by decide +kernel
theorem dX6_bestMonth_22 : decode cX6_bestMonth 22 = .ok (.ireturn, 1) := by decide +kernel
theorem dX6_bestMonth_23 : decode cX6_bestMonth 23 = .ok (.ldc 102, 2) := by decide +kernel
theorem dX6_bestMonth_25 : decode cX6_bestMonth 25 = .ok (.istore_n 3, 1) := by decide +kernel
theorem dX6_bestMonth_26 : decode cX6_bestMonth 26 = .ok (.iconst 0, 1) := by decide +kernel
theorem dX6_bestMonth_27 : decode cX6_bestMonth 27 = .ok (.istore 4, 2) := by decide +kernel
theorem dX6_bestMonth_29 : decode cX6_bestMonth 29 = .ok (.iconst 0, 1) := by decide +kernel
theorem dX6_bestMonth_30 : decode cX6_bestMonth 30 = .ok (.istore 5, 2) := by decide +kernel
theorem dX6_bestMonth_32 : decode cX6_bestMonth 32 = .ok (.iload 5, 2) := by decide +kernel
theorem dX6_bestMonth_34 : decode cX6_bestMonth 34 = .ok (.bipush 24, 2) := by decide +kernel
theorem dX6_bestMonth_36 : decode cX6_bestMonth 36 = .ok (.if_icmp .ge 91, 3) := by decide +kernel
theorem dX6_bestMonth_39 : decode cX6_bestMonth 39 = .ok (.aload_n 0, 1) := by decide +kernel
theorem dX6_bestMonth_40 : decode cX6_bestMonth 40 = .ok (.getfield 10, 3) := by decide +kernel
theorem dX6_bestMonth_43 : decode cX6_bestMonth 43 = .ok (.aload_n 0, 1) := by decide +kernel
theorem dX6_bestMonth_44 : decode cX6_bestMonth 44 = .ok (.getfield 10, 3) := by decide +kernel
theorem dX6_bestMonth_47 : decode cX6_bestMonth 47 = .ok (.getfield 119, 3) := by decide +kernel
theorem dX6_bestMonth_50 : decode cX6_bestMonth 50 = .ok (.iload 5, 2) := by decide +kernel
theorem dX6_bestMonth_52 : decode cX6_bestMonth 52 = .ok (.iadd, 1) := by decide +kernel
theorem dX6_bestMonth_53 : decode cX6_bestMonth 53 = .ok (.invokevirtual 182, 3) := by decide +kernel
theorem dX6_bestMonth_56 : decode cX6_bestMonth 56 = .ok (.ifCond .eq 65, 3) := by decide +kernel
theorem dX6_bestMonth_59 : decode cX6_bestMonth 59 = .ok (.aload_n 0, 1) := by decide +kernel
theorem dX6_bestMonth_60 : decode cX6_bestMonth 60 = .ok (.getfield 29, 3) := by decide +kernel
theorem dX6_bestMonth_63 : decode cX6_bestMonth 63 = .ok (.aload_n 0, 1) := by decide +kernel
theorem dX6_bestMonth_64 : decode cX6_bestMonth 64 = .ok (.getfield 10, 3) := by decide +kernel
theorem dX6_bestMonth_67 : decode cX6_bestMonth 67 = .ok (.iload_n 1, 1) := by decide +kernel
theorem dX6_bestMonth_68 : decode cX6_bestMonth 68 = .ok (.aload_n 0, 1) := by decide +kernel
theorem dX6_bestMonth_69 : decode cX6_bestMonth 69 = .ok (.getfield 10, 3) := by decide +kernel
theorem dX6_bestMonth_72 : decode cX6_bestMonth 72 = .ok (.getfield 119, 3) := by decide +kernel
theorem dX6_bestMonth_75 : decode cX6_bestMonth 75 = .ok (.iload 5, 2) := by decide +kernel
theorem dX6_bestMonth_77 : decode cX6_bestMonth 77 = .ok (.iadd, 1) := by decide +kernel
theorem dX6_bestMonth_78 : decode cX6_bestMonth 78 = .ok (.invokevirtual 142, 3) := by decide +kernel
theorem dX6_bestMonth_81 : decode cX6_bestMonth 81 = .ok (.aload_n 0, 1) := by decide +kernel
theorem dX6_bestMonth_82 : decode cX6_bestMonth 82 = .ok (.getfield 29, 3) := by decide +kernel
theorem dX6_bestMonth_85 : decode cX6_bestMonth 85 = .ok (.getfield 155, 3) := by decide +kernel
theorem dX6_bestMonth_88 : decode cX6_bestMonth 88 = .ok (.ifCond .ne 33, 3) := by decide +kernel
theorem dX6_bestMonth_91 : decode cX6_bestMonth 91 = .ok (.iload_n 3, 1) := by decide +kernel
theorem dX6_bestMonth_92 : decode cX6_bestMonth 92 = .ok (.ldc 102, 2) := by decide +kernel
theorem dX6_bestMonth_94 : decode cX6_bestMonth 94 = .ok (.if_icmp .eq 15, 3) := by decide +kernel
theorem dX6_bestMonth_97 : decode cX6_bestMonth 97 = .ok (.aload_n 0, 1) := by decide +kernel
theorem dX6_bestMonth_98 : decode cX6_bestMonth 98 = .ok (.getfield 29, 3) := by decide +kernel
theorem dX6_bestMonth_101 : decode cX6_bestMonth 101 = .ok (.getfield 162, 3) := by decide +kernel
theorem dX6_bestMonth_104 : decode cX6_bestMonth 104 = .ok (.iload 4, 2) := by decide +kernel
theorem dX6_bestMonth_106 : decode cX6_bestMonth 106 = .ok (.if_icmp .le 15, 3) := by decide +kernel
theorem dX6_bestMonth_109 : decode cX6_bestMonth 109 = .ok (.iload 5, 2) := by decide +kernel
theorem dX6_bestMonth_111 : decode cX6_bestMonth 111 = .ok (.istore_n 3, 1) := by decide +kernel
theorem dX6_bestMonth_112 : decode cX6_bestMonth 112 = .ok (.aload_n 0, 1) := by decide +kernel
theorem dX6_bestMonth_113 : decode cX6_bestMonth 113 = .ok (.getfield 29, 3) := by decide +kernel
theorem dX6_bestMonth_116 : decode cX6_bestMonth 116 = .ok (.getfield 162, 3) := by decide +kernel
theorem dX6_bestMonth_119 : decode cX6_bestMonth 119 = .ok (.istore 4, 2) := by decide +kernel
theorem dX6_bestMonth_121 : decode cX6_bestMonth 121 = .ok (.iinc 5 1, 3) := by decide +kernel
theorem dX6_bestMonth_124 : decode cX6_bestMonth 124 = .ok (.goto (-92), 3) := by decide +kernel
theorem dX6_bestMonth_127 : decode cX6_bestMonth 127 = .ok (.iload_n 2, 1) := by decide +kernel
theorem dX6_bestMonth_128 : decode cX6_bestMonth 128 = .ok (.ifCond .eq 9, 3) := by decide +kernel
theorem dX6_bestMonth_131 : decode cX6_bestMonth 131 = .ok (.iload_n 3, 1) := by decide +kernel
theorem dX6_bestMonth_132 : decode cX6_bestMonth 132 = .ok (.ldc 102, 2) := by decide +kernel
theorem dX6_bestMonth_134 : decode cX6_bestMonth 134 = .ok (.if_icmp .ne 7, 3) := by decide +kernel
theorem dX6_bestMonth_137 : decode cX6_bestMonth 137 = .ok (.iload_n 3, 1) := by decide +kernel
theorem dX6_bestMonth_138 : decode cX6_bestMonth 138 = .ok (.goto 8, 3) := by decide +kernel
theorem dX6_bestMonth_141 : decode cX6_bestMonth 141 = .ok (.iload 4, 2) := by decide +kernel
theorem dX6_bestMonth_143 : decode cX6_bestMonth 143 = .ok (.ldc 165, 2) := by decide +kernel
theorem dX6_bestMonth_145 : decode cX6_bestMonth 145 = .ok (.iadd, 1) := by decide +kernel
theorem dX6_bestMonth_146 : decode cX6_bestMonth 146 = .ok (.ireturn, 1) := by decide +kernel
set_option maxRecDepth 20000 in
theorem ggX6_count_X6_isWithin : GoodIn wsX6_count wsX6_isWithin := goodIn_r _ [10] (by decide +kernel) (by decide +kernel)
set_option maxRecDepth 20000 in
theorem gX6_count_X6_isWithin : GoodIn wsX6_count (va_wsS RX6 122 yX6_isWithin wsX6_isWithin) := goodIn_app (goodIn_of _ (by decide +kernel)) ggX6_count_X6_isWithin
set_option maxRecDepth 20000 in
theorem ggX6_count_X3_tellCount : GoodIn wsX6_count wsX3_tellCount := goodIn_r _ [15, 16, 17, 18, 19, 20, 21, 22, 23, 24, 25, 26, 27, 28, 29, 30, 31, 32, 33, 34, 35, 36, 37, 38, 39, 40, 41, 42, 43, 49, 50, 51, 52, 53, 54, 55, 56, 57, 68, 69, 70, 71, 72, 73, 74, 75, 76] (by decide +kernel) (by decide +kernel)
set_option maxRecDepth 20000 in
theorem gX6_count_X3_tellCount : GoodIn wsX6_count (wsV RX6 191 RX3 yX3_tellCount wsX3_tellCount) := goodIn_app (goodIn_of _ (by decide +kernel)) ggX6_count_X3_tellCount
theorem dX6_count_0 : decode cX6_count 0 = .ok (.iload_n 1, 1) := by decide +kernel
theorem dX6_count_1 : decode cX6_count 1 = .ok (.bipush 20, 2) := by decide +kernel
theorem dX6_count_3 : decode cX6_count 3 = .ok (.bipush 24, 2) := by decide +kernel
theorem dX6_count_5 : decode cX6_count 5 = .ok (.invokestatic 122, 3) := by decide +kernel
theorem dX6_count_8 : decode cX6_count 8 = .ok (.ifCond .eq 16, 3) := by decide +kernel
theorem dX6_count_11 : decode cX6_count 11 = .ok (.aload_n 0, 1) := by decide +kernel
theorem dX6_count_12 : decode cX6_count 12 = .ok (.getfield 10, 3) := by decide +kernel
theorem dX6_count_15 : decode cX6_count 15 = .ok (.getfield 172, 3) := by decide +kernel
theorem dX6_count_18 : decode cX6_count 18 = .ok (.iload_n 1, 1) := by decide +kernel
theorem dX6_count_19 : decode cX6_count 19 = .ok (.bipush 20, 2) := by decide +kernel
theorem dX6_count_21 : decode cX6_count 21 = .ok (.isub, 1) := by decide +kernel
theorem dX6_count_22 : decode cX6_count 22 = .ok (.iaload, 1) := by decide +kernel
theorem dX6_count_23 : decode cX6_count 23 = .ok (.ireturn, 1) := by decide +kernel
theorem dX6_count_24 : decode cX6_count 24 = .ok (.iload_n 1, 1) := by decide +kernel
theorem dX6_count_25 : decode cX6_count 25 = .ok (.lookupswitch 43 #[(10, 27), (11, 35)], 27) := by decide +kernel
theorem dX6_count_52 : decode cX6_count 52 = .ok (.aload_n 0, 1) := by decide +kernel
theorem dX6_count_53 : decode cX6_count 53 = .ok (.getfield 22, 3) := by decide +kernel
theorem dX6_count_56 : decode cX6_count 56 = .ok (.getfield 185, 3) := by decide +kernel
theorem dX6_count_59 : decode cX6_count 59 = .ok (.ireturn, 1) := by decide +kernel
theorem dX6_count_60 : decode cX6_count 60 = .ok (.aload_n 0, 1) := by decide +kernel
theorem dX6_count_61 : decode cX6_count 61 = .ok (.getfield 36, 3) := by decide +kernel
theorem dX6_count_64 : decode cX6_count 64 = .ok (.getfield 188, 3) := by decide +kernel
theorem dX6_count_67 : decode cX6_count 67 = .ok (.ireturn, 1) := by decide +kernel
theorem dX6_count_68 : decode cX6_count 68 = .ok (.aload_n 0, 1) := by decide +kernel
theorem dX6_count_69 : decode cX6_count 69 = .ok (.getfield 10, 3) := by decide +kernel
theorem dX6_count_72 : decode cX6_count 72 = .ok (.iload_n 1, 1) := by decide +kernel
theorem dX6_count_73 : decode cX6_count 73 = .ok (.invokevirtual 191, 3) := by decide +kernel
theorem dX6_count_76 : decode cX6_count 76 = .ok (.ireturn, 1) := by decide +kernel
set_option maxRecDepth 20000 in
theorem ggX6_undo_X2_restoreLatest : GoodIn wsX6_undo wsX2_restoreLatest := goodIn_r _ [9, 10, 11, 12, 13, 14, 15, 16, 17, 18, 19, 20, 21, 22, 23, 24, 25, 26, 27, 28, 29, 30, 31, 32, 33, 34, 35, 36, 37, 38, 39, 40, 41, 42, 43, 44, 50, 51, 52, 53, 54, 55, 56, 57, 58, 59, 60, 61, 62, 63, 64, 65, 66, 67, 68, 69] (by decide +kernel) (by decide +kernel)
set_option maxRecDepth 20000 in
theorem gX6_undo_X2_restoreLatest : GoodIn wsX6_undo (wsV RX6 194 RX2 yX2_restoreLatest wsX2_restoreLatest) := goodIn_app (goodIn_of _ (by decide +kernel)) ggX6_undo_X2_restoreLatest
theorem dX6_undo_0 : decode cX6_undo 0 = .ok (.aload_n 0, 1) := by decide +kernel
theorem dX6_undo_1 : decode cX6_undo 1 = .ok (.getfield 22, 3) := by decide +kernel
theorem dX6_undo_4 : decode cX6_undo 4 = .ok (.getfield 185, 3) := by decide +kernel
theorem dX6_undo_7 : decode cX6_undo 7 = .ok (.ifCond .ne 6, 3) := by decide +kernel
theorem dX6_undo_10 : decode cX6_undo 10 = .ok (.ldc 158, 2) := by decide +kernel
theorem dX6_undo_12 : decode cX6_undo 12 = .ok (.ireturn, 1) := by decide +kernel
theorem dX6_undo_13 : decode cX6_undo 13 = .ok (.aload_n 0, 1) := by decide +kernel
theorem dX6_undo_14 : decode cX6_undo 14 = .ok (.getfield 22, 3) := by decide +kernel
theorem dX6_undo_17 : decode cX6_undo 17 = .ok (.aload_n 0, 1) := by decide +kernel
theorem dX6_undo_18 : decode cX6_undo 18 = .ok (.getfield 10, 3) := by decide +kernel
theorem dX6_undo_21 : decode cX6_undo 21 = .ok (.invokevirtual 194, 3) := by decide +kernel
theorem dX6_undo_24 : decode cX6_undo 24 = .ok (.aload_n 0, 1) := by decide +kernel
theorem dX6_undo_25 : decode cX6_undo 25 = .ok (.getfield 22, 3) := by decide +kernel
theorem dX6_undo_28 : decode cX6_undo 28 = .ok (.getfield 185, 3) := by decide +kernel
theorem dX6_undo_31 : decode cX6_undo 31 = .ok (.ireturn, 1) := by decide +kernel
set_option maxRecDepth 20000 in
theorem ggX6_type_X6_isWithin : GoodIn wsX6_type wsX6_isWithin := goodIn_r _ [6] (by decide +kernel) (by decide +kernel)
set_option maxRecDepth 20000 in
theorem gX6_type_X6_isWithin : GoodIn wsX6_type (va_wsS RX6 122 yX6_isWithin wsX6_isWithin) := goodIn_app (goodIn_of _ (by decide +kernel)) ggX6_type_X6_isWithin
set_option maxRecDepth 20000 in
theorem ggX6_type_X5_append : GoodIn wsX6_type wsX5_append := goodIn_r _ [11, 12, 13, 14, 20, 21, 22, 23, 24, 25, 26, 27] (by decide +kernel) (by decide +kernel)
set_option maxRecDepth 20000 in
theorem gX6_type_X5_append : GoodIn wsX6_type (wsV RX6 197 RX5 yX5_append wsX5_append) := goodIn_app (goodIn_of _ (by decide +kernel)) ggX6_type_X5_append
theorem dX6_type_0 : decode cX6_type 0 = .ok (.iload_n 1, 1) := by decide +kernel
theorem dX6_type_1 : decode cX6_type 1 = .ok (.bipush 32, 2) := by decide +kernel
theorem dX6_type_3 : decode cX6_type 3 = .ok (.bipush 126, 2) := by decide +kernel
theorem dX6_type_5 : decode cX6_type 5 = .ok (.invokestatic 122, 3) := by decide +kernel
theorem dX6_type_8 : decode cX6_type 8 = .ok (.ifCond .eq 15, 3) := by decide +kernel
theorem dX6_type_11 : decode cX6_type 11 = .ok (.aload_n 0, 1) := by decide +kernel
theorem dX6_type_12 : decode cX6_type 12 = .ok (.getfield 36, 3) := by decide +kernel
theorem dX6_type_15 : decode cX6_type 15 = .ok (.iload_n 1, 1) := by decide +kernel
theorem dX6_type_16 : decode cX6_type 16 = .ok (.i2c, 1) := by decide +kernel
theorem dX6_type_17 : decode cX6_type 17 = .ok (.invokevirtual 197, 3) := by decide +kernel
theorem dX6_type_20 : decode cX6_type 20 = .ok (.goto 5, 3) := by decide +kernel
theorem dX6_type_23 : decode cX6_type 23 = .ok (.ldc 90, 2) := by decide +kernel
theorem dX6_type_25 : decode cX6_type 25 = .ok (.ireturn, 1) := by decide +kernel
theorem dX6_clearText_0 : decode cX6_clearText 0 = .ok (.aload_n 0, 1) := by decide +kernel
theorem dX6_clearText_1 : decode cX6_clearText 1 = .ok (.getfield 36, 3) := by decide +kernel
theorem dX6_clearText_4 : decode cX6_clearText 4 = .ok (.getfield 188, 3) := by decide +kernel
theorem dX6_clearText_7 : decode cX6_clearText 7 = .ok (.istore_n 1, 1) := by decide +kernel
theorem dX6_clearText_8 : decode cX6_clearText 8 = .ok (.aload_n 0, 1) := by decide +kernel
theorem dX6_clearText_9 : decode cX6_clearText 9 = .ok (.getfield 36, 3) := by decide +kernel
theorem dX6_clearText_12 : decode cX6_clearText 12 = .ok (.iconst 0, 1) := by decide +kernel
theorem dX6_clearText_13 : decode cX6_clearText 13 = .ok (.putfield 188, 3) := by decide +kernel
theorem dX6_clearText_16 : decode cX6_clearText 16 = .ok (.iload_n 1, 1) := by decide +kernel
theorem dX6_clearText_17 : decode cX6_clearText 17 = .ok (.ireturn, 1) := by decide +kernel
set_option maxRecDepth 20000 in
theorem ggX6_fault_X6_isWithin : GoodIn wsX6_fault wsX6_isWithin := goodIn_r _ [13] (by decide +kernel) (by decide +kernel)
set_option maxRecDepth 20000 in
theorem gX6_fault_X6_isWithin : GoodIn wsX6_fault (va_wsS RX6 122 yX6_isWithin wsX6_isWithin) := goodIn_app (goodIn_of _ (by decide +kernel)) ggX6_fault_X6_isWithin
set_option maxRecDepth 20000 in
theorem ggX6_fault_X3_copyFrom : GoodIn wsX6_fault wsX3_copyFrom := goodIn_r _ [18, 19, 20, 21, 22, 23, 24, 25, 26, 27, 28, 29, 30, 31, 32, 33, 34, 35, 36, 37, 38, 39, 40, 41, 42, 43, 44, 45, 46, 236, 237, 238, 239, 240, 241, 242, 243, 244, 245, 246, 247, 248, 249, 250, 251, 252, 253] (by decide +kernel) (by decide +kernel)
set_option maxRecDepth 20000 in
theorem gX6_fault_X3_copyFrom : GoodIn wsX6_fault (wsV RX6 40 RX3 yX3_copyFrom wsX3_copyFrom) := goodIn_app (goodIn_of _ (by decide +kernel)) ggX6_fault_X3_copyFrom
set_option maxRecDepth 20000 in
theorem ggX6_fault_X5_runOn : GoodIn wsX6_fault wsX5_runOn := goodIn_r _ [51, 52, 53, 54, 55, 56, 57, 58, 59, 60, 50, 61, 62, 63, 64, 65, 66, 67, 68, 69, 70, 71, 72, 73, 74, 75, 76, 77, 78, 79, 80, 81, 82, 83, 84, 85, 17, 86, 87, 19, 23, 11, 12, 13, 88, 89, 90, 31, 91, 92, 33, 37, 38, 34, 35, 36, 93, 94, 95, 96, 97, 98, 99, 100, 101, 102, 103, 104, 105, 106, 107, 108, 109, 110, 111, 112, 113, 114, 115, 116, 117, 118, 119, 120, 121, 122, 123, 124, 125, 126, 20, 127, 128, 129, 130, 22, 131, 132, 133, 134, 135, 136, 137, 42, 138, 46, 139, 44, 45, 140, 141, 142, 143, 144, 145, 146, 147, 148, 149, 24, 150, 25, 27, 151, 152, 153, 154, 155, 156, 157, 158, 159, 160, 161, 162, 163, 164, 165, 166, 167, 168, 169, 170, 171, 172, 173, 174, 175, 176, 177, 178, 179, 180, 181, 182, 183, 184, 185, 186, 187, 188, 189, 190, 191, 192, 193, 194, 195, 196, 197, 198, 199, 200, 201, 202, 203, 204, 205, 206, 207, 208, 209, 210, 211, 212, 26, 213, 214, 215, 216, 217, 218, 219, 220, 221, 222, 7, 1, 10, 228, 229, 230, 231, 232, 233, 234, 235, 236, 237, 238, 239, 240, 241, 242, 243, 244, 245, 246, 247, 248, 249, 250, 251, 252, 253, 254, 255, 256, 257, 258, 259, 260, 261, 262, 263, 264, 265] (by decide +kernel) (by decide +kernel)
set_option maxRecDepth 20000 in
theorem gX6_fault_X5_runOn : GoodIn wsX6_fault (wsV RX6 201 RX5 yX5_runOn wsX5_runOn) := goodIn_app (goodIn_of _ (by decide +kernel)) ggX6_fault_X5_runOn
theorem dX6_fault_0 : decode cX6_fault 0 = .ok (.iload_n 1, 1) := by decide +kernel
theorem dX6_fault_1 : decode cX6_fault 1 = .ok (.iconst 0, 1) := by decide +kernel
theorem dX6_fault_2 : decode cX6_fault 2 = .ok (.iconst 2, 1) := by decide +kernel
theorem dX6_fault_3 : decode cX6_fault 3 = .ok (.invokestatic 122, 3) := by decide +kernel
theorem dX6_fault_6 : decode cX6_fault 6 = .ok (.ifCond .ne 6, 3) := by decide +kernel
theorem dX6_fault_9 : decode cX6_fault 9 = .ok (.ldc 90, 2) := by decide +kernel
theorem dX6_fault_11 : decode cX6_fault 11 = .ok (.ireturn, 1) := by decide +kernel
theorem dX6_fault_12 : decode cX6_fault 12 = .ok (.aload_n 0, 1) := by decide +kernel
theorem dX6_fault_13 : decode cX6_fault 13 = .ok (.getfield 16, 3) := by decide +kernel
theorem dX6_fault_16 : decode cX6_fault 16 = .ok (.aload_n 0, 1) := by decide +kernel
theorem dX6_fault_17 : decode cX6_fault 17 = .ok (.getfield 10, 3) := by decide +kernel
theorem dX6_fault_20 : decode cX6_fault 20 = .ok (.invokevirtual 40, 3) := by decide +kernel
theorem dX6_fault_23 : decode cX6_fault 23 = .ok (.aload_n 0, 1) := by decide +kernel
theorem dX6_fault_24 : decode cX6_fault 24 = .ok (.getfield 36, 3) := by decide +kernel
theorem dX6_fault_27 : decode cX6_fault 27 = .ok (.aload_n 0, 1) := by decide +kernel
theorem dX6_fault_28 : decode cX6_fault 28 = .ok (.getfield 16, 3) := by decide +kernel
theorem dX6_fault_31 : decode cX6_fault 31 = .ok (.aload_n 0, 1) := by decide +kernel
theorem dX6_fault_32 : decode cX6_fault 32 = .ok (.getfield 29, 3) := by decide +kernel
theorem dX6_fault_35 : decode cX6_fault 35 = .ok (.invokevirtual 201, 3) := by decide +kernel
theorem dX6_fault_38 : decode cX6_fault 38 = .ok (.aload_n 0, 1) := by decide +kernel
theorem dX6_fault_39 : decode cX6_fault 39 = .ok (.getfield 36, 3) := by decide +kernel
theorem dX6_fault_42 : decode cX6_fault 42 = .ok (.getfield 205, 3) := by decide +kernel
theorem dX6_fault_45 : decode cX6_fault 45 = .ok (.ifCond .ne 6, 3) := by decide +kernel
theorem dX6_fault_48 : decode cX6_fault 48 = .ok (.ldc 102, 2) := by decide +kernel
theorem dX6_fault_50 : decode cX6_fault 50 = .ok (.ireturn, 1) := by decide +kernel
theorem dX6_fault_51 : decode cX6_fault 51 = .ok (.iload_n 1, 1) := by decide +kernel
theorem dX6_fault_52 : decode cX6_fault 52 = .ok (.lookupswitch 44 #[(0, 28), (1, 36)], 28) := by decide +kernel
theorem dX6_fault_80 : decode cX6_fault 80 = .ok (.aload_n 0, 1) := by decide +kernel
theorem dX6_fault_81 : decode cX6_fault 81 = .ok (.getfield 36, 3) := by decide +kernel
theorem dX6_fault_84 : decode cX6_fault 84 = .ok (.getfield 208, 3) := by decide +kernel
theorem dX6_fault_87 : decode cX6_fault 87 = .ok (.ireturn, 1) := by decide +kernel
theorem dX6_fault_88 : decode cX6_fault 88 = .ok (.aload_n 0, 1) := by decide +kernel
theorem dX6_fault_89 : decode cX6_fault 89 = .ok (.getfield 36, 3) := by decide +kernel
theorem dX6_fault_92 : decode cX6_fault 92 = .ok (.getfield 205, 3) := by decide +kernel
theorem dX6_fault_95 : decode cX6_fault 95 = .ok (.ireturn, 1) := by decide +kernel
theorem dX6_fault_96 : decode cX6_fault 96 = .ok (.aload_n 0, 1) := by decide +kernel
theorem dX6_fault_97 : decode cX6_fault 97 = .ok (.getfield 36, 3) := by decide +kernel
theorem dX6_fault_100 : decode cX6_fault 100 = .ok (.getfield 211, 3) := by decide +kernel
theorem dX6_fault_103 : decode cX6_fault 103 = .ok (.ireturn, 1) := by decide +kernel
set_option maxRecDepth 20000 in
theorem ggX6_play_X3_copyFrom : GoodIn wsX6_play wsX3_copyFrom := goodIn_r _ [12, 13, 14, 15, 16, 17, 18, 19, 20, 21, 22, 23, 24, 25, 26, 27, 28, 29, 30, 31, 32, 33, 34, 35, 36, 37, 38, 39, 40, 254, 255, 256, 257, 258, 259, 260, 261, 262, 263, 264, 265, 266, 267, 268, 269, 270, 271] (by decide +kernel) (by decide +kernel)
set_option maxRecDepth 20000 in
theorem gX6_play_X3_copyFrom : GoodIn wsX6_play (wsV RX6 40 RX3 yX3_copyFrom wsX3_copyFrom) := goodIn_app (goodIn_of _ (by decide +kernel)) ggX6_play_X3_copyFrom
set_option maxRecDepth 20000 in
theorem ggX6_play_X5_runOn : GoodIn wsX6_play wsX5_runOn := goodIn_r _ [45, 46, 47, 48, 49, 50, 51, 52, 53, 54, 44, 55, 56, 57, 58, 59, 60, 61, 62, 63, 64, 65, 66, 67, 68, 69, 70, 71, 72, 73, 74, 75, 76, 77, 78, 79, 11, 80, 81, 13, 17, 82, 83, 84, 85, 86, 87, 25, 88, 89, 27, 31, 32, 28, 29, 30, 90, 91, 92, 93, 94, 95, 96, 97, 98, 99, 100, 101, 102, 103, 104, 105, 106, 107, 108, 109, 110, 111, 112, 113, 114, 115, 116, 117, 118, 119, 120, 121, 122, 123, 14, 124, 125, 126, 127, 16, 128, 129, 130, 131, 132, 133, 134, 36, 135, 40, 136, 38, 39, 137, 138, 139, 140, 141, 142, 143, 144, 145, 146, 18, 147, 19, 21, 148, 149, 150, 151, 152, 153, 154, 155, 156, 157, 158, 159, 160, 161, 162, 163, 164, 165, 166, 167, 168, 169, 170, 171, 172, 173, 174, 175, 176, 177, 178, 179, 180, 181, 182, 183, 184, 185, 186, 187, 188, 189, 190, 191, 192, 193, 194, 195, 196, 197, 198, 199, 200, 201, 202, 203, 204, 205, 206, 207, 208, 209, 20, 210, 211, 212, 213, 214, 215, 216, 217, 218, 219, 220, 221, 222, 246, 247, 248, 249, 250, 251, 252, 253, 254, 255, 256, 257, 258, 259, 260, 261, 262, 263, 264, 265, 266, 267, 268, 269, 270, 271, 272, 273, 274, 275, 276, 277, 278, 279, 280, 281, 282, 283] (by decide +kernel) (by decide +kernel)
set_option maxRecDepth 20000 in
theorem gX6_play_X5_runOn : GoodIn wsX6_play (wsV RX6 201 RX5 yX5_runOn wsX5_runOn) := goodIn_app (goodIn_of _ (by decide +kernel)) ggX6_play_X5_runOn
set_option maxRecDepth 20000 in
theorem ggX6_play_X6_accept : GoodIn wsX6_play wsX6_accept := goodIn_r _ [226, 227, 2, 1, 228, 218, 83, 219, 220, 221, 222, 82, 84, 229, 230, 231, 232, 233, 234, 235, 236, 237, 238, 239, 240, 9, 10, 11, 12, 13, 14, 15, 16, 17, 18, 19, 20, 21, 22, 23, 24, 25, 26, 27, 28, 29, 30, 31, 32, 33, 34, 35, 36, 37, 38, 39, 40, 8, 241, 242, 243, 244, 245, 284, 285, 254, 255, 256, 257, 258, 259, 260, 261, 262, 263, 264, 265, 266, 267, 268, 269, 270, 271] (by decide +kernel) (by decide +kernel)
set_option maxRecDepth 20000 in
theorem gX6_play_X6_accept : GoodIn wsX6_play (wsV RX6 48 RX6 yX6_accept wsX6_accept) := goodIn_app (goodIn_of _ (by decide +kernel)) ggX6_play_X6_accept
theorem dX6_play_0 : decode cX6_play 0 = .ok (.aload_n 0, 1) := by decide +kernel
theorem dX6_play_1 : decode cX6_play 1 = .ok (.getfield 16, 3) := by decide +kernel
theorem dX6_play_4 : decode cX6_play 4 = .ok (.aload_n 0, 1) := by decide +kernel
theorem dX6_play_5 : decode cX6_play 5 = .ok (.getfield 10, 3) := by decide +kernel
theorem dX6_play_8 : decode cX6_play 8 = .ok (.invokevirtual 40, 3) := by decide +kernel
theorem dX6_play_11 : decode cX6_play 11 = .ok (.aload_n 0, 1) := by decide +kernel
theorem dX6_play_12 : decode cX6_play 12 = .ok (.getfield 36, 3) := by decide +kernel
theorem dX6_play_15 : decode cX6_play 15 = .ok (.aload_n 0, 1) := by decide +kernel
theorem dX6_play_16 : decode cX6_play 16 = .ok (.getfield 16, 3) := by decide +kernel
theorem dX6_play_19 : decode cX6_play 19 = .ok (.aload_n 0, 1) := by decide +kernel
theorem dX6_play_20 : decode cX6_play 20 = .ok (.getfield 29, 3) := by decide +kernel
theorem dX6_play_23 : decode cX6_play 23 = .ok (.invokevirtual 201, 3) := by decide +kernel
theorem dX6_play_26 : decode cX6_play 26 = .ok (.aload_n 0, 1) := by decide +kernel
theorem dX6_play_27 : decode cX6_play 27 = .ok (.aload_n 0, 1) := by decide +kernel
theorem dX6_play_28 : decode cX6_play 28 = .ok (.getfield 36, 3) := by decide +kernel
theorem dX6_play_31 : decode cX6_play 31 = .ok (.getfield 205, 3) := by decide +kernel
theorem dX6_play_34 : decode cX6_play 34 = .ok (.ifCond .ne 13, 3) := by decide +kernel
theorem dX6_play_37 : decode cX6_play 37 = .ok (.aload_n 0, 1) := by decide +kernel
theorem dX6_play_38 : decode cX6_play 38 = .ok (.getfield 36, 3) := by decide +kernel
theorem dX6_play_41 : decode cX6_play 41 = .ok (.getfield 214, 3) := by decide +kernel
theorem dX6_play_44 : decode cX6_play 44 = .ok (.goto 5, 3) := by decide +kernel
theorem dX6_play_47 : decode cX6_play 47 = .ok (.ldc 158, 2) := by decide +kernel
theorem dX6_play_49 : decode cX6_play 49 = .ok (.invokevirtual 48, 3) := by decide +kernel
theorem dX6_play_52 : decode cX6_play 52 = .ok (.ireturn, 1) := by decide +kernel
set_option maxRecDepth 20000 in
theorem ggX6_accept_X6_isError : GoodIn wsX6_accept wsX6_isError := goodIn_r _ [7, 8, 9, 10, 11, 6, 12] (by decide +kernel) (by decide +kernel)
set_option maxRecDepth 20000 in
theorem gX6_accept_X6_isError : GoodIn wsX6_accept (va_wsS RX6 217 yX6_isError wsX6_isError) := goodIn_app (goodIn_of _ (by decide +kernel)) ggX6_accept_X6_isError
set_option maxRecDepth 20000 in
theorem ggX6_accept_X2_record : GoodIn wsX6_accept wsX2_record := goodIn_r _ [17, 18, 19, 20, 21, 22, 16, 23, 24, 25, 26, 27, 28, 29, 30, 31, 32, 33, 34, 35, 36, 37, 38, 39, 40, 41, 42, 43, 44, 45, 46, 47, 48, 49, 50, 51, 52, 53, 54, 55, 56, 63, 64, 65, 66, 67, 68, 69, 70, 71, 72, 73, 74, 75, 76, 77, 78, 79, 80, 81, 82] (by decide +kernel) (by decide +kernel)
set_option maxRecDepth 20000 in
theorem gX6_accept_X2_record : GoodIn wsX6_accept (wsV RX6 220 RX2 yX2_record wsX2_record) := goodIn_app (goodIn_of _ (by decide +kernel)) ggX6_accept_X2_record
set_option maxRecDepth 20000 in
theorem ggX6_accept_X3_copyFrom : GoodIn wsX6_accept wsX3_copyFrom := goodIn_r _ [28, 29, 30, 31, 32, 33, 34, 35, 36, 37, 38, 39, 40, 41, 42, 43, 44, 45, 46, 47, 48, 49, 50, 51, 52, 53, 54, 55, 56, 65, 66, 67, 68, 69, 70, 71, 72, 73, 74, 75, 76, 77, 78, 79, 80, 81, 82] (by decide +kernel) (by decide +kernel)
set_option maxRecDepth 20000 in
theorem gX6_accept_X3_copyFrom : GoodIn wsX6_accept (wsV RX6 40 RX3 yX3_copyFrom wsX3_copyFrom) := goodIn_app (goodIn_of _ (by decide +kernel)) ggX6_accept_X3_copyFrom
theorem dX6_accept_0 : decode cX6_accept 0 = .ok (.iload_n 1, 1) := by decide +kernel
theorem dX6_accept_1 : decode cX6_accept 1 = .ok (.invokestatic 217, 3) := by decide +kernel
theorem dX6_accept_4 : decode cX6_accept 4 = .ok (.ifCond .ne 25, 3) := by decide +kernel
theorem dX6_accept_7 : decode cX6_accept 7 = .ok (.aload_n 0, 1) := by decide +kernel
theorem dX6_accept_8 : decode cX6_accept 8 = .ok (.getfield 22, 3) := by decide +kernel
theorem dX6_accept_11 : decode cX6_accept 11 = .ok (.aload_n 0, 1) := by decide +kernel
theorem dX6_accept_12 : decode cX6_accept 12 = .ok (.getfield 10, 3) := by decide +kernel
theorem dX6_accept_15 : decode cX6_accept 15 = .ok (.invokevirtual 220, 3) := by decide +kernel
theorem dX6_accept_18 : decode cX6_accept 18 = .ok (.aload_n 0, 1) := by decide +kernel
theorem dX6_accept_19 : decode cX6_accept 19 = .ok (.getfield 10, 3) := by decide +kernel
theorem dX6_accept_22 : decode cX6_accept 22 = .ok (.aload_n 0, 1) := by decide +kernel
theorem dX6_accept_23 : decode cX6_accept 23 = .ok (.getfield 16, 3) := by decide +kernel
theorem dX6_accept_26 : decode cX6_accept 26 = .ok (.invokevirtual 40, 3) := by decide +kernel
theorem dX6_accept_29 : decode cX6_accept 29 = .ok (.iload_n 1, 1) := by decide +kernel
theorem dX6_accept_30 : decode cX6_accept 30 = .ok (.ireturn, 1) := by decide +kernel
theorem dX6_isWithin_0 : decode cX6_isWithin 0 = .ok (.iload_n 0, 1) := by decide +kernel
theorem dX6_isWithin_1 : decode cX6_isWithin 1 = .ok (.iload_n 1, 1) := by decide +kernel
theorem dX6_isWithin_2 : decode cX6_isWithin 2 = .ok (.if_icmp .lt 12, 3) := by decide +kernel
theorem dX6_isWithin_5 : decode cX6_isWithin 5 = .ok (.iload_n 0, 1) := by decide +kernel
theorem dX6_isWithin_6 : decode cX6_isWithin 6 = .ok (.iload_n 2, 1) := by decide +kernel
theorem dX6_isWithin_7 : decode cX6_isWithin 7 = .ok (.if_icmp .gt 7, 3) := by decide +kernel
theorem dX6_isWithin_10 : decode cX6_isWithin 10 = .ok (.iconst 1, 1) := by decide +kernel
theorem dX6_isWithin_11 : decode cX6_isWithin 11 = .ok (.goto 4, 3) := by decide +kernel
theorem dX6_isWithin_14 : decode cX6_isWithin 14 = .ok (.iconst 0, 1) := by decide +kernel
theorem dX6_isWithin_15 : decode cX6_isWithin 15 = .ok (.ireturn, 1) := by decide +kernel
set_option maxRecDepth 20000 in
theorem ggX6_isError_X6_isWithin : GoodIn wsX6_isError wsX6_isWithin := goodIn_r _ [6] (by decide +kernel) (by decide +kernel)
set_option maxRecDepth 20000 in
theorem gX6_isError_X6_isWithin : GoodIn wsX6_isError (va_wsS RX6 122 yX6_isWithin wsX6_isWithin) := goodIn_app (goodIn_of _ (by decide +kernel)) ggX6_isError_X6_isWithin
theorem dX6_isError_0 : decode cX6_isError 0 = .ok (.iload_n 0, 1) := by decide +kernel
theorem dX6_isError_1 : decode cX6_isError 1 = .ok (.ldc 102, 2) := by decide +kernel
theorem dX6_isError_3 : decode cX6_isError 3 = .ok (.ldc 90, 2) := by decide +kernel
theorem dX6_isError_5 : decode cX6_isError 5 = .ok (.invokestatic 122, 3) := by decide +kernel
theorem dX6_isError_8 : decode cX6_isError 8 = .ok (.ireturn, 1) := by decide +kernel
theorem dX6_bandOf_0 : decode cX6_bandOf 0 = .ok (.iload_n 0, 1) := by decide +kernel
theorem dX6_bandOf_1 : decode cX6_bandOf 1 = .ok (.bipush 70, 2) := by decide +kernel
theorem dX6_bandOf_3 : decode cX6_bandOf 3 = .ok (.if_icmp .ge 5, 3) := by decide +kernel
theorem dX6_bandOf_6 : decode cX6_bandOf 6 = .ok (.iconst 0, 1) := by decide +kernel
theorem dX6_bandOf_7 : decode cX6_bandOf 7 = .ok (.ireturn, 1) := by decide +kernel
theorem dX6_bandOf_8 : decode cX6_bandOf 8 = .ok (.iload_n 0, 1) := by decide +kernel
theorem dX6_bandOf_9 : decode cX6_bandOf 9 = .ok (.bipush 80, 2) := by decide +kernel
theorem dX6_bandOf_11 : decode cX6_bandOf 11 = .ok (.if_icmp .ge 5, 3) := by decide +kernel
theorem dX6_bandOf_14 : decode cX6_bandOf 14 = .ok (.iconst 1, 1) := by decide +kernel
theorem dX6_bandOf_15 : decode cX6_bandOf 15 = .ok (.ireturn, 1) := by decide +kernel
theorem dX6_bandOf_16 : decode cX6_bandOf 16 = .ok (.iload_n 0, 1) := by decide +kernel
theorem dX6_bandOf_17 : decode cX6_bandOf 17 = .ok (.bipush 90, 2) := by decide +kernel
theorem dX6_bandOf_19 : decode cX6_bandOf 19 = .ok (.if_icmp .ge 7, 3) := by decide +kernel
theorem dX6_bandOf_22 : decode cX6_bandOf 22 = .ok (.iconst 2, 1) := by decide +kernel
theorem dX6_bandOf_23 : decode cX6_bandOf 23 = .ok (.goto 4, 3) := by decide +kernel
theorem dX6_bandOf_26 : decode cX6_bandOf 26 = .ok (.iconst 3, 1) := by decide +kernel
theorem dX6_bandOf_27 : decode cX6_bandOf 27 = .ok (.ireturn, 1) := by decide +kernel
theorem dX6_leastStepsTo_0 : decode cX6_leastStepsTo 0 = .ok (.iload_n 1, 1) := by decide +kernel
theorem dX6_leastStepsTo_1 : decode cX6_leastStepsTo 1 = .ok (.iload_n 0, 1) := by decide +kernel
theorem dX6_leastStepsTo_2 : decode cX6_leastStepsTo 2 = .ok (.if_icmp .lt 5, 3) := by decide +kernel
theorem dX6_leastStepsTo_5 : decode cX6_leastStepsTo 5 = .ok (.iconst 1, 1) := by decide +kernel
theorem dX6_leastStepsTo_6 : decode cX6_leastStepsTo 6 = .ok (.ireturn, 1) := by decide +kernel
theorem dX6_leastStepsTo_7 : decode cX6_leastStepsTo 7 = .ok (.iload_n 1, 1) := by decide +kernel
theorem dX6_leastStepsTo_8 : decode cX6_leastStepsTo 8 = .ok (.ifCond .gt 7, 3) := by decide +kernel
theorem dX6_leastStepsTo_11 : decode cX6_leastStepsTo 11 = .ok (.iconst 0, 1) := by decide +kernel
theorem dX6_leastStepsTo_12 : decode cX6_leastStepsTo 12 = .ok (.goto 10, 3) := by decide +kernel
theorem dX6_leastStepsTo_15 : decode cX6_leastStepsTo 15 = .ok (.iload_n 0, 1) := by decide +kernel
theorem dX6_leastStepsTo_16 : decode cX6_leastStepsTo 16 = .ok (.iload_n 1, 1) := by decide +kernel
theorem dX6_leastStepsTo_17 : decode cX6_leastStepsTo 17 = .ok (.iadd, 1) := by decide +kernel
theorem dX6_leastStepsTo_18 : decode cX6_leastStepsTo 18 = .ok (.iconst 1, 1) := by decide +kernel
theorem dX6_leastStepsTo_19 : decode cX6_leastStepsTo 19 = .ok (.isub, 1) := by decide +kernel
theorem dX6_leastStepsTo_20 : decode cX6_leastStepsTo 20 = .ok (.iload_n 1, 1) := by decide +kernel
theorem dX6_leastStepsTo_21 : decode cX6_leastStepsTo 21 = .ok (.idiv, 1) := by decide +kernel
theorem dX6_leastStepsTo_22 : decode cX6_leastStepsTo 22 = .ok (.ireturn, 1) := by decide +kernel
theorem dX6_bitsOfMeanCup_0 : decode cX6_bitsOfMeanCup 0 = .ok (.iload_n 1, 1) := by decide +kernel
theorem dX6_bitsOfMeanCup_1 : decode cX6_bitsOfMeanCup 1 = .ok (.iconst 1, 1) := by decide +kernel
theorem dX6_bitsOfMeanCup_2 : decode cX6_bitsOfMeanCup 2 = .ok (.if_icmp .ge 6, 3) := by decide +kernel
theorem dX6_bitsOfMeanCup_5 : decode cX6_bitsOfMeanCup 5 = .ok (.ldc 158, 2) := by decide +kernel
theorem dX6_bitsOfMeanCup_7 : decode cX6_bitsOfMeanCup 7 = .ok (.ireturn, 1) := by decide +kernel
theorem dX6_bitsOfMeanCup_8 : decode cX6_bitsOfMeanCup 8 = .ok (.iload_n 0, 1) := by decide +kernel
theorem dX6_bitsOfMeanCup_9 : decode cX6_bitsOfMeanCup 9 = .ok (.i2f, 1) := by decide +kernel
theorem dX6_bitsOfMeanCup_10 : decode cX6_bitsOfMeanCup 10 = .ok (.iload_n 1, 1) := by decide +kernel
theorem dX6_bitsOfMeanCup_11 : decode cX6_bitsOfMeanCup 11 = .ok (.i2f, 1) := by decide +kernel
theorem dX6_bitsOfMeanCup_12 : decode cX6_bitsOfMeanCup 12 = .ok (.fdiv, 1) := by decide +kernel
theorem dX6_bitsOfMeanCup_13 : decode cX6_bitsOfMeanCup 13 = .ok (.fstore_n 2, 1) := by decide +kernel
theorem dX6_bitsOfMeanCup_14 : decode cX6_bitsOfMeanCup 14 = .ok (.fload_n 2, 1) := by decide +kernel
theorem dX6_bitsOfMeanCup_15 : decode cX6_bitsOfMeanCup 15 = .ok (.ldc 223, 2) := by decide +kernel
theorem dX6_bitsOfMeanCup_17 : decode cX6_bitsOfMeanCup 17 = .ok (.fmul, 1) := by decide +kernel
theorem dX6_bitsOfMeanCup_18 : decode cX6_bitsOfMeanCup 18 = .ok (.f2i, 1) := by decide +kernel
theorem dX6_bitsOfMeanCup_19 : decode cX6_bitsOfMeanCup 19 = .ok (.istore_n 3, 1) := by decide +kernel
theorem dX6_bitsOfMeanCup_20 : decode cX6_bitsOfMeanCup 20 = .ok (.ldc 224, 2) := by decide +kernel
theorem dX6_bitsOfMeanCup_22 : decode cX6_bitsOfMeanCup 22 = .ok (.iload_n 3, 1) := by decide +kernel
theorem dX6_bitsOfMeanCup_23 : decode cX6_bitsOfMeanCup 23 = .ok (.iadd, 1) := by decide +kernel
theorem dX6_bitsOfMeanCup_24 : decode cX6_bitsOfMeanCup 24 = .ok (.ldc 225, 2) := by decide +kernel
theorem dX6_bitsOfMeanCup_26 : decode cX6_bitsOfMeanCup 26 = .ok (.isub, 1) := by decide +kernel
theorem dX6_bitsOfMeanCup_27 : decode cX6_bitsOfMeanCup 27 = .ok (.ireturn, 1) := by decide +kernel
