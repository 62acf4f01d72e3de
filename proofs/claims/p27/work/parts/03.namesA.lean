theorem dX0_init_0 : decode cX0_init 0 = .ok (.aload_n 0, 1) := by decide +kernel
theorem dX0_init_1 : decode cX0_init 1 = .ok (.invokespecial 3, 3) := by decide +kernel
theorem dX0_init_4 : decode cX0_init 4 = .ok (.aload_n 0, 1) := by decide +kernel
theorem dX0_init_5 : decode cX0_init 5 = .ok (.bipush 6, 2) := by decide +kernel
theorem dX0_init_7 : decode cX0_init 7 = .ok (.newarray .int, 2) := by decide +kernel
theorem dX0_init_9 : decode cX0_init 9 = .ok (.putfield 9, 3) := by decide +kernel
theorem dX0_init_12 : decode cX0_init 12 = .ok (.aload_n 0, 1) := by decide +kernel
theorem dX0_init_13 : decode cX0_init 13 = .ok (.bipush 6, 2) := by decide +kernel
theorem dX0_init_15 : decode cX0_init 15 = .ok (.newarray .int, 2) := by decide +kernel
theorem dX0_init_17 : decode cX0_init 17 = .ok (.putfield 15, 3) := by decide +kernel
theorem dX0_init_20 : decode cX0_init 20 = .ok (.return_, 1) := by decide +kernel
theorem dX0_copyFrom_0 : decode cX0_copyFrom 0 = .ok (.iconst 0, 1) := by decide +kernel
theorem dX0_copyFrom_1 : decode cX0_copyFrom 1 = .ok (.istore_n 2, 1) := by decide +kernel
theorem dX0_copyFrom_2 : decode cX0_copyFrom 2 = .ok (.iload_n 2, 1) := by decide +kernel
theorem dX0_copyFrom_3 : decode cX0_copyFrom 3 = .ok (.bipush 6, 2) := by decide +kernel
theorem dX0_copyFrom_5 : decode cX0_copyFrom 5 = .ok (.if_icmp .ge 33, 3) := by decide +kernel
theorem dX0_copyFrom_8 : decode cX0_copyFrom 8 = .ok (.aload_n 0, 1) := by decide +kernel
theorem dX0_copyFrom_9 : decode cX0_copyFrom 9 = .ok (.getfield 9, 3) := by decide +kernel
theorem dX0_copyFrom_12 : decode cX0_copyFrom 12 = .ok (.iload_n 2, 1) := by decide +kernel
theorem dX0_copyFrom_13 : decode cX0_copyFrom 13 = .ok (.aload_n 1, 1) := by decide +kernel
theorem dX0_copyFrom_14 : decode cX0_copyFrom 14 = .ok (.getfield 9, 3) := by decide +kernel
theorem dX0_copyFrom_17 : decode cX0_copyFrom 17 = .ok (.iload_n 2, 1) := by decide +kernel
theorem dX0_copyFrom_18 : decode cX0_copyFrom 18 = .ok (.iaload, 1) := by decide +kernel
theorem dX0_copyFrom_19 : decode cX0_copyFrom 19 = .ok (.iastore, 1) := by decide +kernel
theorem dX0_copyFrom_20 : decode cX0_copyFrom 20 = .ok (.aload_n 0, 1) := by decide +kernel
theorem dX0_copyFrom_21 : decode cX0_copyFrom 21 = .ok (.getfield 15, 3) := by decide +kernel
theorem dX0_copyFrom_24 : decode cX0_copyFrom 24 = .ok (.iload_n 2, 1) := by decide +kernel
theorem dX0_copyFrom_25 : decode cX0_copyFrom 25 = .ok (.aload_n 1, 1) := by decide +kernel
theorem dX0_copyFrom_26 : decode cX0_copyFrom 26 = .ok (.getfield 15, 3) := by decide +kernel
theorem dX0_copyFrom_29 : decode cX0_copyFrom 29 = .ok (.iload_n 2, 1) := by decide +kernel
theorem dX0_copyFrom_30 : decode cX0_copyFrom 30 = .ok (.iaload, 1) := by decide +kernel
theorem dX0_copyFrom_31 : decode cX0_copyFrom 31 = .ok (.iastore, 1) := by decide +kernel
theorem dX0_copyFrom_32 : decode cX0_copyFrom 32 = .ok (.iinc 2 1, 3) := by decide +kernel
theorem dX0_copyFrom_35 : decode cX0_copyFrom 35 = .ok (.goto (-33), 3) := by decide +kernel
theorem dX0_copyFrom_38 : decode cX0_copyFrom 38 = .ok (.aload_n 0, 1) := by decide +kernel
theorem dX0_copyFrom_39 : decode cX0_copyFrom 39 = .ok (.aload_n 1, 1) := by decide +kernel
theorem dX0_copyFrom_40 : decode cX0_copyFrom 40 = .ok (.getfield 18, 3) := by decide +kernel
theorem dX0_copyFrom_43 : decode cX0_copyFrom 43 = .ok (.putfield 18, 3) := by decide +kernel
theorem dX0_copyFrom_46 : decode cX0_copyFrom 46 = .ok (.return_, 1) := by decide +kernel
theorem dX0_isOpen_0 : decode cX0_isOpen 0 = .ok (.iload_n 1, 1) := by decide +kernel
theorem dX0_isOpen_1 : decode cX0_isOpen 1 = .ok (.ifCond .lt 15, 3) := by decide +kernel
theorem dX0_isOpen_4 : decode cX0_isOpen 4 = .ok (.iload_n 1, 1) := by decide +kernel
theorem dX0_isOpen_5 : decode cX0_isOpen 5 = .ok (.aload_n 0, 1) := by decide +kernel
theorem dX0_isOpen_6 : decode cX0_isOpen 6 = .ok (.getfield 18, 3) := by decide +kernel
theorem dX0_isOpen_9 : decode cX0_isOpen 9 = .ok (.if_icmp .ge 7, 3) := by decide +kernel
theorem dX0_isOpen_12 : decode cX0_isOpen 12 = .ok (.iconst 1, 1) := by decide +kernel
theorem dX0_isOpen_13 : decode cX0_isOpen 13 = .ok (.goto 4, 3) := by decide +kernel
theorem dX0_isOpen_16 : decode cX0_isOpen 16 = .ok (.iconst 0, 1) := by decide +kernel
theorem dX0_isOpen_17 : decode cX0_isOpen 17 = .ok (.ireturn, 1) := by decide +kernel
theorem dX0_add_0 : decode cX0_add 0 = .ok (.aload_n 0, 1) := by decide +kernel
theorem dX0_add_1 : decode cX0_add 1 = .ok (.getfield 18, 3) := by decide +kernel
theorem dX0_add_4 : decode cX0_add 4 = .ok (.bipush 6, 2) := by decide +kernel
theorem dX0_add_6 : decode cX0_add 6 = .ok (.if_icmp .lt 6, 3) := by decide +kernel
theorem dX0_add_9 : decode cX0_add 9 = .ok (.ldc 22, 2) := by decide +kernel
theorem dX0_add_11 : decode cX0_add 11 = .ok (.ireturn, 1) := by decide +kernel
theorem dX0_add_12 : decode cX0_add 12 = .ok (.aload_n 0, 1) := by decide +kernel
theorem dX0_add_13 : decode cX0_add 13 = .ok (.getfield 9, 3) := by decide +kernel
theorem dX0_add_16 : decode cX0_add 16 = .ok (.aload_n 0, 1) := by decide +kernel
theorem dX0_add_17 : decode cX0_add 17 = .ok (.getfield 18, 3) := by decide +kernel
theorem dX0_add_20 : decode cX0_add 20 = .ok (.iload_n 1, 1) := by decide +kernel
theorem dX0_add_21 : decode cX0_add 21 = .ok (.iastore, 1) := by decide +kernel
theorem dX0_add_22 : decode cX0_add 22 = .ok (.aload_n 0, 1) := by decide +kernel
theorem dX0_add_23 : decode cX0_add 23 = .ok (.getfield 15, 3) := by decide +kernel
theorem dX0_add_26 : decode cX0_add 26 = .ok (.aload_n 0, 1) := by decide +kernel
theorem dX0_add_27 : decode cX0_add 27 = .ok (.getfield 18, 3) := by decide +kernel
theorem dX0_add_30 : decode cX0_add 30 = .ok (.iload_n 2, 1) := by decide +kernel
theorem dX0_add_31 : decode cX0_add 31 = .ok (.iastore, 1) := by decide +kernel
theorem dX0_add_32 : decode cX0_add 32 = .ok (.aload_n 0, 1) := by decide +kernel
theorem dX0_add_33 : decode cX0_add 33 = .ok (.dup, 1) := by decide +kernel
theorem dX0_add_34 : decode cX0_add 34 = .ok (.getfield 18, 3) := by decide +kernel
theorem dX0_add_37 : decode cX0_add 37 = .ok (.iconst 1, 1) := by decide +kernel
theorem dX0_add_38 : decode cX0_add 38 = .ok (.iadd, 1) := by decide +kernel
theorem dX0_add_39 : decode cX0_add 39 = .ok (.putfield 18, 3) := by decide +kernel
theorem dX0_add_42 : decode cX0_add 42 = .ok (.aload_n 0, 1) := by decide +kernel
theorem dX0_add_43 : decode cX0_add 43 = .ok (.getfield 18, 3) := by decide +kernel
theorem dX0_add_46 : decode cX0_add 46 = .ok (.iconst 1, 1) := by decide +kernel
theorem dX0_add_47 : decode cX0_add 47 = .ok (.isub, 1) := by decide +kernel
theorem dX0_add_48 : decode cX0_add 48 = .ok (.ireturn, 1) := by decide +kernel
set_option maxRecDepth 20000 in
theorem ggX0_drop_X0_isOpen : GoodIn wsX0_drop wsX0_isOpen := goodIn_r _ [8, 1, 9, 10, 11] (by decide +kernel) (by decide +kernel)
set_option maxRecDepth 20000 in
theorem gX0_drop_X0_isOpen : GoodIn wsX0_drop (wsV RX0 23 RX0 yX0_isOpen wsX0_isOpen) := goodIn_app (goodIn_of _ (by decide +kernel)) ggX0_drop_X0_isOpen
theorem dX0_drop_0 : decode cX0_drop 0 = .ok (.aload_n 0, 1) := by decide +kernel
theorem dX0_drop_1 : decode cX0_drop 1 = .ok (.iload_n 1, 1) := by decide +kernel
theorem dX0_drop_2 : decode cX0_drop 2 = .ok (.invokevirtual 23, 3) := by decide +kernel
theorem dX0_drop_5 : decode cX0_drop 5 = .ok (.ifCond .ne 4, 3) := by decide +kernel
theorem dX0_drop_8 : decode cX0_drop 8 = .ok (.return_, 1) := by decide +kernel
theorem dX0_drop_9 : decode cX0_drop 9 = .ok (.iload_n 1, 1) := by decide +kernel
theorem dX0_drop_10 : decode cX0_drop 10 = .ok (.iconst 1, 1) := by decide +kernel
theorem dX0_drop_11 : decode cX0_drop 11 = .ok (.iadd, 1) := by decide +kernel
theorem dX0_drop_12 : decode cX0_drop 12 = .ok (.istore_n 2, 1) := by decide +kernel
theorem dX0_drop_13 : decode cX0_drop 13 = .ok (.iload_n 2, 1) := by decide +kernel
theorem dX0_drop_14 : decode cX0_drop 14 = .ok (.aload_n 0, 1) := by decide +kernel
theorem dX0_drop_15 : decode cX0_drop 15 = .ok (.getfield 18, 3) := by decide +kernel
theorem dX0_drop_18 : decode cX0_drop 18 = .ok (.if_icmp .ge 37, 3) := by decide +kernel
theorem dX0_drop_21 : decode cX0_drop 21 = .ok (.aload_n 0, 1) := by decide +kernel
theorem dX0_drop_22 : decode cX0_drop 22 = .ok (.getfield 9, 3) := by decide +kernel
theorem dX0_drop_25 : decode cX0_drop 25 = .ok (.iload_n 2, 1) := by decide +kernel
theorem dX0_drop_26 : decode cX0_drop 26 = .ok (.iconst 1, 1) := by decide +kernel
theorem dX0_drop_27 : decode cX0_drop 27 = .ok (.isub, 1) := by decide +kernel
theorem dX0_drop_28 : decode cX0_drop 28 = .ok (.aload_n 0, 1) := by decide +kernel
theorem dX0_drop_29 : decode cX0_drop 29 = .ok (.getfield 9, 3) := by decide +kernel
theorem dX0_drop_32 : decode cX0_drop 32 = .ok (.iload_n 2, 1) := by decide +kernel
theorem dX0_drop_33 : decode cX0_drop 33 = .ok (.iaload, 1) := by decide +kernel
theorem dX0_drop_34 : decode cX0_drop 34 = .ok (.iastore, 1) := by decide +kernel
theorem dX0_drop_35 : decode cX0_drop 35 = .ok (.aload_n 0, 1) := by decide +kernel
theorem dX0_drop_36 : decode cX0_drop 36 = .ok (.getfield 15, 3) := by decide +kernel
theorem dX0_drop_39 : decode cX0_drop 39 = .ok (.iload_n 2, 1) := by decide +kernel
theorem dX0_drop_40 : decode cX0_drop 40 = .ok (.iconst 1, 1) := by decide +kernel
theorem dX0_drop_41 : decode cX0_drop 41 = .ok (.isub, 1) := by decide +kernel
theorem dX0_drop_42 : decode cX0_drop 42 = .ok (.aload_n 0, 1) := by decide +kernel
theorem dX0_drop_43 : decode cX0_drop 43 = .ok (.getfield 15, 3) := by decide +kernel
theorem dX0_drop_46 : decode cX0_drop 46 = .ok (.iload_n 2, 1) := by decide +kernel
theorem dX0_drop_47 : decode cX0_drop 47 = .ok (.iaload, 1) := by decide +kernel
theorem dX0_drop_48 : decode cX0_drop 48 = .ok (.iastore, 1) := by decide +kernel
theorem dX0_drop_49 : decode cX0_drop 49 = .ok (.iinc 2 1, 3) := by decide +kernel
theorem dX0_drop_52 : decode cX0_drop 52 = .ok (.goto (-39), 3) := by decide +kernel
theorem dX0_drop_55 : decode cX0_drop 55 = .ok (.aload_n 0, 1) := by decide +kernel
theorem dX0_drop_56 : decode cX0_drop 56 = .ok (.dup, 1) := by decide +kernel
theorem dX0_drop_57 : decode cX0_drop 57 = .ok (.getfield 18, 3) := by decide +kernel
theorem dX0_drop_60 : decode cX0_drop 60 = .ok (.iconst 1, 1) := by decide +kernel
theorem dX0_drop_61 : decode cX0_drop 61 = .ok (.isub, 1) := by decide +kernel
theorem dX0_drop_62 : decode cX0_drop 62 = .ok (.putfield 18, 3) := by decide +kernel
theorem dX0_drop_65 : decode cX0_drop 65 = .ok (.return_, 1) := by decide +kernel
theorem dX0_dropBefore_0 : decode cX0_dropBefore 0 = .ok (.iconst 0, 1) := by decide +kernel
theorem dX0_dropBefore_1 : decode cX0_dropBefore 1 = .ok (.istore_n 2, 1) := by decide +kernel
theorem dX0_dropBefore_2 : decode cX0_dropBefore 2 = .ok (.iconst 0, 1) := by decide +kernel
theorem dX0_dropBefore_3 : decode cX0_dropBefore 3 = .ok (.istore_n 3, 1) := by decide +kernel
theorem dX0_dropBefore_4 : decode cX0_dropBefore 4 = .ok (.iload_n 3, 1) := by decide +kernel
theorem dX0_dropBefore_5 : decode cX0_dropBefore 5 = .ok (.aload_n 0, 1) := by decide +kernel
theorem dX0_dropBefore_6 : decode cX0_dropBefore 6 = .ok (.getfield 18, 3) := by decide +kernel
theorem dX0_dropBefore_9 : decode cX0_dropBefore 9 = .ok (.if_icmp .ge 46, 3) := by decide +kernel
theorem dX0_dropBefore_12 : decode cX0_dropBefore 12 = .ok (.aload_n 0, 1) := by decide +kernel
theorem dX0_dropBefore_13 : decode cX0_dropBefore 13 = .ok (.getfield 9, 3) := by decide +kernel
theorem dX0_dropBefore_16 : decode cX0_dropBefore 16 = .ok (.iload_n 3, 1) := by decide +kernel
theorem dX0_dropBefore_17 : decode cX0_dropBefore 17 = .ok (.iaload, 1) := by decide +kernel
theorem dX0_dropBefore_18 : decode cX0_dropBefore 18 = .ok (.iload_n 1, 1) := by decide +kernel
theorem dX0_dropBefore_19 : decode cX0_dropBefore 19 = .ok (.if_icmp .lt 30, 3) := by decide +kernel
theorem dX0_dropBefore_22 : decode cX0_dropBefore 22 = .ok (.aload_n 0, 1) := by decide +kernel
theorem dX0_dropBefore_23 : decode cX0_dropBefore 23 = .ok (.getfield 9, 3) := by decide +kernel
theorem dX0_dropBefore_26 : decode cX0_dropBefore 26 = .ok (.iload_n 2, 1) := by decide +kernel
theorem dX0_dropBefore_27 : decode cX0_dropBefore 27 = .ok (.aload_n 0, 1) := by decide +kernel
theorem dX0_dropBefore_28 : decode cX0_dropBefore 28 = .ok (.getfield 9, 3) := by decide +kernel
theorem dX0_dropBefore_31 : decode cX0_dropBefore 31 = .ok (.iload_n 3, 1) := by decide +kernel
theorem dX0_dropBefore_32 : decode cX0_dropBefore 32 = .ok (.iaload, 1) := by decide +kernel
theorem dX0_dropBefore_33 : decode cX0_dropBefore 33 = .ok (.iastore, 1) := by decide +kernel
theorem dX0_dropBefore_34 : decode cX0_dropBefore 34 = .ok (.aload_n 0, 1) := by decide +kernel
theorem dX0_dropBefore_35 : decode cX0_dropBefore 35 = .ok (.getfield 15, 3) := by decide +kernel
theorem dX0_dropBefore_38 : decode cX0_dropBefore 38 = .ok (.iload_n 2, 1) := by decide +kernel
theorem dX0_dropBefore_39 : decode cX0_dropBefore 39 = .ok (.aload_n 0, 1) := by decide +kernel
theorem dX0_dropBefore_40 : decode cX0_dropBefore 40 = .ok (.getfield 15, 3) := by decide +kernel
theorem dX0_dropBefore_43 : decode cX0_dropBefore 43 = .ok (.iload_n 3, 1) := by decide +kernel
theorem dX0_dropBefore_44 : decode cX0_dropBefore 44 = .ok (.iaload, 1) := by decide +kernel
theorem dX0_dropBefore_45 : decode cX0_dropBefore 45 = .ok (.iastore, 1) := by decide +kernel
theorem dX0_dropBefore_46 : decode cX0_dropBefore 46 = .ok (.iinc 2 1, 3) := by decide +kernel
theorem dX0_dropBefore_49 : decode cX0_dropBefore 49 = .ok (.iinc 3 1, 3) := by decide +kernel
theorem dX0_dropBefore_52 : decode cX0_dropBefore 52 = .ok (.goto (-48), 3) := by decide +kernel
theorem dX0_dropBefore_55 : decode cX0_dropBefore 55 = .ok (.aload_n 0, 1) := by decide +kernel
theorem dX0_dropBefore_56 : decode cX0_dropBefore 56 = .ok (.getfield 18, 3) := by decide +kernel
theorem dX0_dropBefore_59 : decode cX0_dropBefore 59 = .ok (.iload_n 2, 1) := by decide +kernel
theorem dX0_dropBefore_60 : decode cX0_dropBefore 60 = .ok (.isub, 1) := by decide +kernel
theorem dX0_dropBefore_61 : decode cX0_dropBefore 61 = .ok (.istore_n 3, 1) := by decide +kernel
theorem dX0_dropBefore_62 : decode cX0_dropBefore 62 = .ok (.aload_n 0, 1) := by decide +kernel
theorem dX0_dropBefore_63 : decode cX0_dropBefore 63 = .ok (.iload_n 2, 1) := by decide +kernel
theorem dX0_dropBefore_64 : decode cX0_dropBefore 64 = .ok (.putfield 18, 3) := by decide +kernel
theorem dX0_dropBefore_67 : decode cX0_dropBefore 67 = .ok (.iload_n 3, 1) := by decide +kernel
theorem dX0_dropBefore_68 : decode cX0_dropBefore 68 = .ok (.ireturn, 1) := by decide +kernel
theorem dX1_init_0 : decode cX1_init 0 = .ok (.aload_n 0, 1) := by decide +kernel
theorem dX1_init_1 : decode cX1_init 1 = .ok (.invokespecial 3, 3) := by decide +kernel
theorem dX1_init_4 : decode cX1_init 4 = .ok (.aload_n 0, 1) := by decide +kernel
theorem dX1_init_5 : decode cX1_init 5 = .ok (.bipush 12, 2) := by decide +kernel
theorem dX1_init_7 : decode cX1_init 7 = .ok (.newarray .int, 2) := by decide +kernel
theorem dX1_init_9 : decode cX1_init 9 = .ok (.putfield 9, 3) := by decide +kernel
theorem dX1_init_12 : decode cX1_init 12 = .ok (.aload_n 0, 1) := by decide +kernel
theorem dX1_init_13 : decode cX1_init 13 = .ok (.bipush 12, 2) := by decide +kernel
theorem dX1_init_15 : decode cX1_init 15 = .ok (.newarray .int, 2) := by decide +kernel
theorem dX1_init_17 : decode cX1_init 17 = .ok (.putfield 15, 3) := by decide +kernel
theorem dX1_init_20 : decode cX1_init 20 = .ok (.aload_n 0, 1) := by decide +kernel
theorem dX1_init_21 : decode cX1_init 21 = .ok (.bipush 12, 2) := by decide +kernel
theorem dX1_init_23 : decode cX1_init 23 = .ok (.newarray .boolean, 2) := by decide +kernel
theorem dX1_init_25 : decode cX1_init 25 = .ok (.putfield 18, 3) := by decide +kernel
theorem dX1_init_28 : decode cX1_init 28 = .ok (.aload_n 0, 1) := by decide +kernel
theorem dX1_init_29 : decode cX1_init 29 = .ok (.bipush 12, 2) := by decide +kernel
theorem dX1_init_31 : decode cX1_init 31 = .ok (.newarray .int, 2) := by decide +kernel
theorem dX1_init_33 : decode cX1_init 33 = .ok (.putfield 22, 3) := by decide +kernel
theorem dX1_init_36 : decode cX1_init 36 = .ok (.aload_n 0, 1) := by decide +kernel
theorem dX1_init_37 : decode cX1_init 37 = .ok (.bipush 12, 2) := by decide +kernel
theorem dX1_init_39 : decode cX1_init 39 = .ok (.newarray .int, 2) := by decide +kernel
theorem dX1_init_41 : decode cX1_init 41 = .ok (.putfield 25, 3) := by decide +kernel
theorem dX1_init_44 : decode cX1_init 44 = .ok (.aload_n 0, 1) := by decide +kernel
theorem dX1_init_45 : decode cX1_init 45 = .ok (.bipush 12, 2) := by decide +kernel
theorem dX1_init_47 : decode cX1_init 47 = .ok (.newarray .int, 2) := by decide +kernel
theorem dX1_init_49 : decode cX1_init 49 = .ok (.putfield 28, 3) := by decide +kernel
theorem dX1_init_52 : decode cX1_init 52 = .ok (.return_, 1) := by decide +kernel
set_option maxRecDepth 20000 in
theorem ggX1_plan_X1_rate : GoodIn wsX1_plan wsX1_rate := goodIn_r _ [15, 8, 9, 16, 17, 18, 19, 20, 21, 22, 23, 24, 25, 26, 27, 28, 29, 30, 31, 32, 33, 34, 35, 36, 37, 38, 39, 40, 67, 68, 69, 70, 71, 72, 73, 74, 75, 76, 77, 78, 79, 80, 81, 55, 56, 57, 58, 59, 60, 61, 62, 63, 64, 65, 66] (by decide +kernel) (by decide +kernel)
set_option maxRecDepth 20000 in
theorem gX1_plan_X1_rate : GoodIn wsX1_plan (wsV RX1 31 RX1 yX1_rate wsX1_rate) := goodIn_app (goodIn_of _ (by decide +kernel)) ggX1_plan_X1_rate
set_option maxRecDepth 20000 in
theorem ggX1_plan_X1_rowOfGreatestGain : GoodIn wsX1_plan wsX1_rowOfGreatestGain := goodIn_r _ [44, 16, 19, 55, 56, 57, 58, 59, 60, 61, 62, 63, 64, 65, 66] (by decide +kernel) (by decide +kernel)
set_option maxRecDepth 20000 in
theorem gX1_plan_X1_rowOfGreatestGain : GoodIn wsX1_plan (wsV RX1 68 RX1 yX1_rowOfGreatestGain wsX1_rowOfGreatestGain) := goodIn_app (goodIn_of _ (by decide +kernel)) ggX1_plan_X1_rowOfGreatestGain
set_option maxRecDepth 20000 in
theorem ggX1_plan_X1_take : GoodIn wsX1_plan wsX1_take := goodIn_r _ [48, 1, 3, 49, 50, 51, 52, 53, 54, 4, 18, 5, 19, 6, 17, 7, 16, 55, 56, 57, 58, 59, 60, 61, 62, 63, 64, 65, 66] (by decide +kernel) (by decide +kernel)
set_option maxRecDepth 20000 in
theorem gX1_plan_X1_take : GoodIn wsX1_plan (wsV RX1 73 RX1 yX1_take wsX1_take) := goodIn_app (goodIn_of _ (by decide +kernel)) ggX1_plan_X1_take
theorem dX1_plan_0 : decode cX1_plan 0 = .ok (.aload_n 0, 1) := by decide +kernel
theorem dX1_plan_1 : decode cX1_plan 1 = .ok (.aload_n 1, 1) := by decide +kernel
theorem dX1_plan_2 : decode cX1_plan 2 = .ok (.iload_n 2, 1) := by decide +kernel
theorem dX1_plan_3 : decode cX1_plan 3 = .ok (.iload_n 3, 1) := by decide +kernel
theorem dX1_plan_4 : decode cX1_plan 4 = .ok (.invokevirtual 31, 3) := by decide +kernel
theorem dX1_plan_7 : decode cX1_plan 7 = .ok (.aload_n 0, 1) := by decide +kernel
theorem dX1_plan_8 : decode cX1_plan 8 = .ok (.iconst 0, 1) := by decide +kernel
theorem dX1_plan_9 : decode cX1_plan 9 = .ok (.putfield 35, 3) := by decide +kernel
theorem dX1_plan_12 : decode cX1_plan 12 = .ok (.aload_n 0, 1) := by decide +kernel
theorem dX1_plan_13 : decode cX1_plan 13 = .ok (.aload_n 1, 1) := by decide +kernel
theorem dX1_plan_14 : decode cX1_plan 14 = .ok (.getfield 39, 3) := by decide +kernel
theorem dX1_plan_17 : decode cX1_plan 17 = .ok (.iconst 0, 1) := by decide +kernel
theorem dX1_plan_18 : decode cX1_plan 18 = .ok (.iaload, 1) := by decide +kernel
theorem dX1_plan_19 : decode cX1_plan 19 = .ok (.putfield 44, 3) := by decide +kernel
theorem dX1_plan_22 : decode cX1_plan 22 = .ok (.aload_n 0, 1) := by decide +kernel
theorem dX1_plan_23 : decode cX1_plan 23 = .ok (.iconst 0, 1) := by decide +kernel
theorem dX1_plan_24 : decode cX1_plan 24 = .ok (.putfield 47, 3) := by decide +kernel
theorem dX1_plan_27 : decode cX1_plan 27 = .ok (.aload_n 0, 1) := by decide +kernel
theorem dX1_plan_28 : decode cX1_plan 28 = .ok (.iconst 0, 1) := by decide +kernel
theorem dX1_plan_29 : decode cX1_plan 29 = .ok (.putfield 50, 3) := by decide +kernel
theorem dX1_plan_32 : decode cX1_plan 32 = .ok (.aload_n 0, 1) := by decide +kernel
theorem dX1_plan_33 : decode cX1_plan 33 = .ok (.iconst 0, 1) := by decide +kernel
theorem dX1_plan_34 : decode cX1_plan 34 = .ok (.putfield 53, 3) := by decide +kernel
theorem dX1_plan_37 : decode cX1_plan 37 = .ok (.aload_n 0, 1) := by decide +kernel
theorem dX1_plan_38 : decode cX1_plan 38 = .ok (.iconst 0, 1) := by decide +kernel
theorem dX1_plan_39 : decode cX1_plan 39 = .ok (.putfield 56, 3) := by decide +kernel
theorem dX1_plan_42 : decode cX1_plan 42 = .ok (.iconst 0, 1) := by decide +kernel
theorem dX1_plan_43 : decode cX1_plan 43 = .ok (.istore 4, 2) := by decide +kernel
theorem dX1_plan_45 : decode cX1_plan 45 = .ok (.iload 4, 2) := by decide +kernel
theorem dX1_plan_47 : decode cX1_plan 47 = .ok (.bipush 12, 2) := by decide +kernel
theorem dX1_plan_49 : decode cX1_plan 49 = .ok (.if_icmp .ge 50, 3) := by decide +kernel
theorem dX1_plan_52 : decode cX1_plan 52 = .ok (.aload_n 0, 1) := by decide +kernel
theorem dX1_plan_53 : decode cX1_plan 53 = .ok (.getfield 44, 3) := by decide +kernel
theorem dX1_plan_56 : decode cX1_plan 56 = .ok (.ifCond .le 43, 3) := by decide +kernel
theorem dX1_plan_59 : decode cX1_plan 59 = .ok (.aload_n 0, 1) := by decide +kernel
theorem dX1_plan_60 : decode cX1_plan 60 = .ok (.aload_n 1, 1) := by decide +kernel
theorem dX1_plan_61 : decode cX1_plan 61 = .ok (.getfield 59, 3) := by decide +kernel
theorem dX1_plan_64 : decode cX1_plan 64 = .ok (.getfield 63, 3) := by decide +kernel
theorem dX1_plan_67 : decode cX1_plan 67 = .ok (.invokevirtual 68, 3) := by decide +kernel
theorem dX1_plan_70 : decode cX1_plan 70 = .ok (.istore 5, 2) := by decide +kernel
theorem dX1_plan_72 : decode cX1_plan 72 = .ok (.iload 5, 2) := by decide +kernel
theorem dX1_plan_74 : decode cX1_plan 74 = .ok (.ifCond .lt 19, 3) := by decide +kernel
theorem dX1_plan_77 : decode cX1_plan 77 = .ok (.aload_n 0, 1) := by decide +kernel
theorem dX1_plan_78 : decode cX1_plan 78 = .ok (.iload 5, 2) := by decide +kernel
theorem dX1_plan_80 : decode cX1_plan 80 = .ok (.aload_n 1, 1) := by decide +kernel
theorem dX1_plan_81 : decode cX1_plan 81 = .ok (.getfield 59, 3) := by decide +kernel
theorem dX1_plan_84 : decode cX1_plan 84 = .ok (.getfield 72, 3) := by decide +kernel
theorem dX1_plan_87 : decode cX1_plan 87 = .ok (.iload 5, 2) := by decide +kernel
theorem dX1_plan_89 : decode cX1_plan 89 = .ok (.iaload, 1) := by decide +kernel
theorem dX1_plan_90 : decode cX1_plan 90 = .ok (.invokevirtual 73, 3) := by decide +kernel
theorem dX1_plan_93 : decode cX1_plan 93 = .ok (.iinc 4 1, 3) := by decide +kernel
theorem dX1_plan_96 : decode cX1_plan 96 = .ok (.goto (-51), 3) := by decide +kernel
theorem dX1_plan_99 : decode cX1_plan 99 = .ok (.return_, 1) := by decide +kernel
set_option maxRecDepth 20000 in
theorem ggX1_rate_X4_cupAt : GoodIn wsX1_rate wsX4_cupAt := goodIn_r _ [12, 13, 14, 37, 38, 39, 40, 41, 42] (by decide +kernel) (by decide +kernel)
set_option maxRecDepth 20000 in
theorem gX1_rate_X4_cupAt : GoodIn wsX1_rate (wsV RX1 77 RX4 yX4_cupAt wsX4_cupAt) := goodIn_app (goodIn_of _ (by decide +kernel)) ggX1_rate_X4_cupAt
set_option maxRecDepth 20000 in
theorem ggX1_rate_X4_monthsTooOld : GoodIn wsX1_rate wsX4_monthsTooOld := goodIn_r _ [18, 14, 37, 38, 39, 40, 41, 42] (by decide +kernel) (by decide +kernel)
set_option maxRecDepth 20000 in
theorem gX1_rate_X4_monthsTooOld : GoodIn wsX1_rate (wsV RX1 81 RX4 yX4_monthsTooOld wsX4_monthsTooOld) := goodIn_app (goodIn_of _ (by decide +kernel)) ggX1_rate_X4_monthsTooOld
set_option maxRecDepth 20000 in
theorem ggX1_rate_X3_payForBag : GoodIn wsX1_rate wsX3_payForBag := goodIn_r _ [23, 24, 28, 29, 30, 31, 32, 33, 34, 35, 36] (by decide +kernel) (by decide +kernel)
set_option maxRecDepth 20000 in
theorem gX1_rate_X3_payForBag : GoodIn wsX1_rate (wsV RX1 84 RX3 yX3_payForBag wsX3_payForBag) := goodIn_app (goodIn_of _ (by decide +kernel)) ggX1_rate_X3_payForBag
set_option maxRecDepth 20000 in
theorem ggX1_rate_X6_bandOf : GoodIn wsX1_rate wsX6_bandOf := goodIn_r _ [27] (by decide +kernel) (by decide +kernel)
set_option maxRecDepth 20000 in
theorem gX1_rate_X6_bandOf_n91 : GoodIn wsX1_rate (wsX6_bandOf) := ggX1_rate_X6_bandOf
theorem dX1_rate_0 : decode cX1_rate 0 = .ok (.iconst 0, 1) := by decide +kernel
theorem dX1_rate_1 : decode cX1_rate 1 = .ok (.istore 4, 2) := by decide +kernel
theorem dX1_rate_3 : decode cX1_rate 3 = .ok (.iload 4, 2) := by decide +kernel
theorem dX1_rate_5 : decode cX1_rate 5 = .ok (.aload_n 1, 1) := by decide +kernel
theorem dX1_rate_6 : decode cX1_rate 6 = .ok (.getfield 59, 3) := by decide +kernel
theorem dX1_rate_9 : decode cX1_rate 9 = .ok (.getfield 63, 3) := by decide +kernel
theorem dX1_rate_12 : decode cX1_rate 12 = .ok (.if_icmp .ge 98, 3) := by decide +kernel
theorem dX1_rate_15 : decode cX1_rate 15 = .ok (.aload_n 1, 1) := by decide +kernel
theorem dX1_rate_16 : decode cX1_rate 16 = .ok (.getfield 59, 3) := by decide +kernel
theorem dX1_rate_19 : decode cX1_rate 19 = .ok (.iload 4, 2) := by decide +kernel
theorem dX1_rate_21 : decode cX1_rate 21 = .ok (.iload_n 3, 1) := by decide +kernel
theorem dX1_rate_22 : decode cX1_rate 22 = .ok (.invokevirtual 77, 3) := by decide +kernel
theorem dX1_rate_25 : decode cX1_rate 25 = .ok (.istore 5, 2) := by decide +kernel
theorem dX1_rate_27 : decode cX1_rate 27 = .ok (.aload_n 0, 1) := by decide +kernel
theorem dX1_rate_28 : decode cX1_rate 28 = .ok (.getfield 18, 3) := by decide +kernel
theorem dX1_rate_31 : decode cX1_rate 31 = .ok (.iload 4, 2) := by decide +kernel
theorem dX1_rate_33 : decode cX1_rate 33 = .ok (.iload 5, 2) := by decide +kernel
theorem dX1_rate_35 : decode cX1_rate 35 = .ok (.bipush 70, 2) := by decide +kernel
theorem dX1_rate_37 : decode cX1_rate 37 = .ok (.if_icmp .lt 7, 3) := by decide +kernel
theorem dX1_rate_40 : decode cX1_rate 40 = .ok (.iconst 1, 1) := by decide +kernel
theorem dX1_rate_41 : decode cX1_rate 41 = .ok (.goto 4, 3) := by decide +kernel
theorem dX1_rate_44 : decode cX1_rate 44 = .ok (.iconst 0, 1) := by decide +kernel
theorem dX1_rate_45 : decode cX1_rate 45 = .ok (.bastore, 1) := by decide +kernel
theorem dX1_rate_46 : decode cX1_rate 46 = .ok (.aload_n 0, 1) := by decide +kernel
theorem dX1_rate_47 : decode cX1_rate 47 = .ok (.getfield 22, 3) := by decide +kernel
theorem dX1_rate_50 : decode cX1_rate 50 = .ok (.iload 4, 2) := by decide +kernel
theorem dX1_rate_52 : decode cX1_rate 52 = .ok (.iload 5, 2) := by decide +kernel
theorem dX1_rate_54 : decode cX1_rate 54 = .ok (.iastore, 1) := by decide +kernel
theorem dX1_rate_55 : decode cX1_rate 55 = .ok (.aload_n 0, 1) := by decide +kernel
theorem dX1_rate_56 : decode cX1_rate 56 = .ok (.getfield 25, 3) := by decide +kernel
theorem dX1_rate_59 : decode cX1_rate 59 = .ok (.iload 4, 2) := by decide +kernel
theorem dX1_rate_61 : decode cX1_rate 61 = .ok (.aload_n 1, 1) := by decide +kernel
theorem dX1_rate_62 : decode cX1_rate 62 = .ok (.iload_n 2, 1) := by decide +kernel
theorem dX1_rate_63 : decode cX1_rate 63 = .ok (.iload 5, 2) := by decide +kernel
theorem dX1_rate_65 : decode cX1_rate 65 = .ok (.aload_n 1, 1) := by decide +kernel
theorem dX1_rate_66 : decode cX1_rate 66 = .ok (.getfield 59, 3) := by decide +kernel
theorem dX1_rate_69 : decode cX1_rate 69 = .ok (.iload 4, 2) := by decide +kernel
theorem dX1_rate_71 : decode cX1_rate 71 = .ok (.iload_n 3, 1) := by decide +kernel
theorem dX1_rate_72 : decode cX1_rate 72 = .ok (.invokevirtual 81, 3) := by decide +kernel
theorem dX1_rate_75 : decode cX1_rate 75 = .ok (.invokevirtual 84, 3) := by decide +kernel
theorem dX1_rate_78 : decode cX1_rate 78 = .ok (.iastore, 1) := by decide +kernel
theorem dX1_rate_79 : decode cX1_rate 79 = .ok (.aload_n 0, 1) := by decide +kernel
theorem dX1_rate_80 : decode cX1_rate 80 = .ok (.getfield 28, 3) := by decide +kernel
theorem dX1_rate_83 : decode cX1_rate 83 = .ok (.iload 4, 2) := by decide +kernel
theorem dX1_rate_85 : decode cX1_rate 85 = .ok (.aload_n 0, 1) := by decide +kernel
theorem dX1_rate_86 : decode cX1_rate 86 = .ok (.getfield 25, 3) := by decide +kernel
theorem dX1_rate_89 : decode cX1_rate 89 = .ok (.iload 4, 2) := by decide +kernel
theorem dX1_rate_91 : decode cX1_rate 91 = .ok (.iaload, 1) := by decide +kernel
theorem dX1_rate_92 : decode cX1_rate 92 = .ok (.aload_n 1, 1) := by decide +kernel
theorem dX1_rate_93 : decode cX1_rate 93 = .ok (.getfield 88, 3) := by decide +kernel
theorem dX1_rate_96 : decode cX1_rate 96 = .ok (.iload 5, 2) := by decide +kernel
theorem dX1_rate_98 : decode cX1_rate 98 = .ok (.invokestatic 91, 3) := by decide +kernel
theorem dX1_rate_101 : decode cX1_rate 101 = .ok (.iaload, 1) := by decide +kernel
theorem dX1_rate_102 : decode cX1_rate 102 = .ok (.isub, 1) := by decide +kernel
theorem dX1_rate_103 : decode cX1_rate 103 = .ok (.iastore, 1) := by decide +kernel
theorem dX1_rate_104 : decode cX1_rate 104 = .ok (.iinc 4 1, 3) := by decide +kernel
theorem dX1_rate_107 : decode cX1_rate 107 = .ok (.goto (-104), 3) := by decide +kernel
theorem dX1_rate_110 : decode cX1_rate 110 = .ok (.return_, 1) := by decide +kernel
theorem dX1_rowOfGreatestGain_0 : decode cX1_rowOfGreatestGain 0 = .ok (.iconst (-1), 1) := by decide +kernel
theorem dX1_rowOfGreatestGain_1 : decode cX1_rowOfGreatestGain 1 = .ok (.istore_n 2, 1) := by decide +kernel
theorem dX1_rowOfGreatestGain_2 : decode cX1_rowOfGreatestGain 2 = .ok (.iconst 0, 1) := by decide +kernel
theorem dX1_rowOfGreatestGain_3 : decode cX1_rowOfGreatestGain 3 = .ok (.istore_n 3, 1) := by decide +kernel
theorem dX1_rowOfGreatestGain_4 : decode cX1_rowOfGreatestGain 4 = .ok (.iload_n 3, 1) := by decide +kernel
theorem dX1_rowOfGreatestGain_5 : decode cX1_rowOfGreatestGain 5 = .ok (.iload_n 1, 1) := by decide +kernel
theorem dX1_rowOfGreatestGain_6 : decode cX1_rowOfGreatestGain 6 = .ok (.if_icmp .ge 39, 3) := by decide +kernel
theorem dX1_rowOfGreatestGain_9 : decode cX1_rowOfGreatestGain 9 = .ok (.aload_n 0, 1) := by decide +kernel
theorem dX1_rowOfGreatestGain_10 : decode cX1_rowOfGreatestGain 10 = .ok (.getfield 18, 3) := by decide +kernel
theorem dX1_rowOfGreatestGain_13 : decode cX1_rowOfGreatestGain 13 = .ok (.iload_n 3, 1) := by decide +kernel
theorem dX1_rowOfGreatestGain_14 : decode cX1_rowOfGreatestGain 14 = .ok (.baload, 1) := by decide +kernel
theorem dX1_rowOfGreatestGain_15 : decode cX1_rowOfGreatestGain 15 = .ok (.ifCond .eq 24, 3) := by decide +kernel
theorem dX1_rowOfGreatestGain_18 : decode cX1_rowOfGreatestGain 18 = .ok (.iload_n 2, 1) := by decide +kernel
theorem dX1_rowOfGreatestGain_19 : decode cX1_rowOfGreatestGain 19 = .ok (.ifCond .lt 18, 3) := by decide +kernel
theorem dX1_rowOfGreatestGain_22 : decode cX1_rowOfGreatestGain 22 = .ok (.aload_n 0, 1) := by decide +kernel
theorem dX1_rowOfGreatestGain_23 : decode cX1_rowOfGreatestGain 23 = .ok (.getfield 28, 3) := by decide +kernel
theorem dX1_rowOfGreatestGain_26 : decode cX1_rowOfGreatestGain 26 = .ok (.iload_n 3, 1) := by decide +kernel
theorem dX1_rowOfGreatestGain_27 : decode cX1_rowOfGreatestGain 27 = .ok (.iaload, 1) := by decide +kernel
theorem dX1_rowOfGreatestGain_28 : decode cX1_rowOfGreatestGain 28 = .ok (.aload_n 0, 1) := by decide +kernel
theorem dX1_rowOfGreatestGain_29 : decode cX1_rowOfGreatestGain 29 = .ok (.getfield 28, 3) := by decide +kernel
theorem dX1_rowOfGreatestGain_32 : decode cX1_rowOfGreatestGain 32 = .ok (.iload_n 2, 1) := by decide +kernel
theorem dX1_rowOfGreatestGain_33 : decode cX1_rowOfGreatestGain 33 = .ok (.iaload, 1) := by decide +kernel
theorem dX1_rowOfGreatestGain_34 : decode cX1_rowOfGreatestGain 34 = .ok (.if_icmp .le 5, 3) := by decide +kernel
theorem dX1_rowOfGreatestGain_37 : decode cX1_rowOfGreatestGain 37 = .ok (.iload_n 3, 1) := by decide +kernel
theorem dX1_rowOfGreatestGain_38 : decode cX1_rowOfGreatestGain 38 = .ok (.istore_n 2, 1) := by decide +kernel
theorem dX1_rowOfGreatestGain_39 : decode cX1_rowOfGreatestGain 39 = .ok (.iinc 3 1, 3) := by decide +kernel
theorem dX1_rowOfGreatestGain_42 : decode cX1_rowOfGreatestGain 42 = .ok (.goto (-38), 3) := by decide +kernel
theorem dX1_rowOfGreatestGain_45 : decode cX1_rowOfGreatestGain 45 = .ok (.iload_n 2, 1) := by decide +kernel
theorem dX1_rowOfGreatestGain_46 : decode cX1_rowOfGreatestGain 46 = .ok (.ireturn, 1) := by decide +kernel
theorem dX1_take_0 : decode cX1_take 0 = .ok (.aload_n 0, 1) := by decide +kernel
theorem dX1_take_1 : decode cX1_take 1 = .ok (.getfield 35, 3) := by decide +kernel
theorem dX1_take_4 : decode cX1_take 4 = .ok (.bipush 12, 2) := by decide +kernel
theorem dX1_take_6 : decode cX1_take 6 = .ok (.if_icmp .lt 4, 3) := by decide +kernel
theorem dX1_take_9 : decode cX1_take 9 = .ok (.return_, 1) := by decide +kernel
theorem dX1_take_10 : decode cX1_take 10 = .ok (.aload_n 0, 1) := by decide +kernel
theorem dX1_take_11 : decode cX1_take 11 = .ok (.getfield 44, 3) := by decide +kernel
theorem dX1_take_14 : decode cX1_take 14 = .ok (.iload_n 2, 1) := by decide +kernel
theorem dX1_take_15 : decode cX1_take 15 = .ok (.invokestatic 94, 3) := by decide +kernel
theorem dX1_take_18 : decode cX1_take 18 = .ok (.istore_n 3, 1) := by decide +kernel
theorem dX1_take_19 : decode cX1_take 19 = .ok (.aload_n 0, 1) := by decide +kernel
theorem dX1_take_20 : decode cX1_take 20 = .ok (.getfield 9, 3) := by decide +kernel
theorem dX1_take_23 : decode cX1_take 23 = .ok (.aload_n 0, 1) := by decide +kernel
theorem dX1_take_24 : decode cX1_take 24 = .ok (.getfield 35, 3) := by decide +kernel
theorem dX1_take_27 : decode cX1_take 27 = .ok (.iload_n 1, 1) := by decide +kernel
theorem dX1_take_28 : decode cX1_take 28 = .ok (.iastore, 1) := by decide +kernel
theorem dX1_take_29 : decode cX1_take 29 = .ok (.aload_n 0, 1) := by decide +kernel
theorem dX1_take_30 : decode cX1_take 30 = .ok (.getfield 15, 3) := by decide +kernel
theorem dX1_take_33 : decode cX1_take 33 = .ok (.aload_n 0, 1) := by decide +kernel
theorem dX1_take_34 : decode cX1_take 34 = .ok (.getfield 35, 3) := by decide +kernel
theorem dX1_take_37 : decode cX1_take 37 = .ok (.iload_n 3, 1) := by decide +kernel
theorem dX1_take_38 : decode cX1_take 38 = .ok (.iastore, 1) := by decide +kernel
theorem dX1_take_39 : decode cX1_take 39 = .ok (.aload_n 0, 1) := by decide +kernel
theorem dX1_take_40 : decode cX1_take 40 = .ok (.dup, 1) := by decide +kernel
theorem dX1_take_41 : decode cX1_take 41 = .ok (.getfield 35, 3) := by decide +kernel
theorem dX1_take_44 : decode cX1_take 44 = .ok (.iconst 1, 1) := by decide +kernel
theorem dX1_take_45 : decode cX1_take 45 = .ok (.iadd, 1) := by decide +kernel
theorem dX1_take_46 : decode cX1_take 46 = .ok (.putfield 35, 3) := by decide +kernel
theorem dX1_take_49 : decode cX1_take 49 = .ok (.aload_n 0, 1) := by decide +kernel
theorem dX1_take_50 : decode cX1_take 50 = .ok (.dup, 1) := by decide +kernel
theorem dX1_take_51 : decode cX1_take 51 = .ok (.getfield 44, 3) := by decide +kernel
theorem dX1_take_54 : decode cX1_take 54 = .ok (.iload_n 3, 1) := by decide +kernel
theorem dX1_take_55 : decode cX1_take 55 = .ok (.isub, 1) := by decide +kernel
theorem dX1_take_56 : decode cX1_take 56 = .ok (.putfield 44, 3) := by decide +kernel
theorem dX1_take_59 : decode cX1_take 59 = .ok (.aload_n 0, 1) := by decide +kernel
theorem dX1_take_60 : decode cX1_take 60 = .ok (.dup, 1) := by decide +kernel
theorem dX1_take_61 : decode cX1_take 61 = .ok (.getfield 47, 3) := by decide +kernel
theorem dX1_take_64 : decode cX1_take 64 = .ok (.iload_n 3, 1) := by decide +kernel
theorem dX1_take_65 : decode cX1_take 65 = .ok (.aload_n 0, 1) := by decide +kernel
theorem dX1_take_66 : decode cX1_take 66 = .ok (.getfield 25, 3) := by decide +kernel
theorem dX1_take_69 : decode cX1_take 69 = .ok (.iload_n 1, 1) := by decide +kernel
theorem dX1_take_70 : decode cX1_take 70 = .ok (.iaload, 1) := by decide +kernel
theorem dX1_take_71 : decode cX1_take 71 = .ok (.imul, 1) := by decide +kernel
theorem dX1_take_72 : decode cX1_take 72 = .ok (.iadd, 1) := by decide +kernel
theorem dX1_take_73 : decode cX1_take 73 = .ok (.putfield 47, 3) := by decide +kernel
theorem dX1_take_76 : decode cX1_take 76 = .ok (.aload_n 0, 1) := by decide +kernel
theorem dX1_take_77 : decode cX1_take 77 = .ok (.dup, 1) := by decide +kernel
theorem dX1_take_78 : decode cX1_take 78 = .ok (.getfield 50, 3) := by decide +kernel
theorem dX1_take_81 : decode cX1_take 81 = .ok (.iload_n 3, 1) := by decide +kernel
theorem dX1_take_82 : decode cX1_take 82 = .ok (.aload_n 0, 1) := by decide +kernel
theorem dX1_take_83 : decode cX1_take 83 = .ok (.getfield 28, 3) := by decide +kernel
theorem dX1_take_86 : decode cX1_take 86 = .ok (.iload_n 1, 1) := by decide +kernel
theorem dX1_take_87 : decode cX1_take 87 = .ok (.iaload, 1) := by decide +kernel
theorem dX1_take_88 : decode cX1_take 88 = .ok (.imul, 1) := by decide +kernel
theorem dX1_take_89 : decode cX1_take 89 = .ok (.iadd, 1) := by decide +kernel
theorem dX1_take_90 : decode cX1_take 90 = .ok (.putfield 50, 3) := by decide +kernel
theorem dX1_take_93 : decode cX1_take 93 = .ok (.aload_n 0, 1) := by decide +kernel
theorem dX1_take_94 : decode cX1_take 94 = .ok (.dup, 1) := by decide +kernel
theorem dX1_take_95 : decode cX1_take 95 = .ok (.getfield 53, 3) := by decide +kernel
theorem dX1_take_98 : decode cX1_take 98 = .ok (.iload_n 3, 1) := by decide +kernel
theorem dX1_take_99 : decode cX1_take 99 = .ok (.aload_n 0, 1) := by decide +kernel
theorem dX1_take_100 : decode cX1_take 100 = .ok (.getfield 22, 3) := by decide +kernel
theorem dX1_take_103 : decode cX1_take 103 = .ok (.iload_n 1, 1) := by decide +kernel
theorem dX1_take_104 : decode cX1_take 104 = .ok (.iaload, 1) := by decide +kernel
theorem dX1_take_105 : decode cX1_take 105 = .ok (.imul, 1) := by decide +kernel
theorem dX1_take_106 : decode cX1_take 106 = .ok (.iadd, 1) := by decide +kernel
theorem dX1_take_107 : decode cX1_take 107 = .ok (.putfield 53, 3) := by decide +kernel
theorem dX1_take_110 : decode cX1_take 110 = .ok (.iload_n 3, 1) := by decide +kernel
theorem dX1_take_111 : decode cX1_take 111 = .ok (.iload_n 2, 1) := by decide +kernel
theorem dX1_take_112 : decode cX1_take 112 = .ok (.if_icmp .ne 13, 3) := by decide +kernel
theorem dX1_take_115 : decode cX1_take 115 = .ok (.aload_n 0, 1) := by decide +kernel
theorem dX1_take_116 : decode cX1_take 116 = .ok (.dup, 1) := by decide +kernel
theorem dX1_take_117 : decode cX1_take 117 = .ok (.getfield 56, 3) := by decide +kernel
theorem dX1_take_120 : decode cX1_take 120 = .ok (.iconst 1, 1) := by decide +kernel
theorem dX1_take_121 : decode cX1_take 121 = .ok (.iadd, 1) := by decide +kernel
theorem dX1_take_122 : decode cX1_take 122 = .ok (.putfield 56, 3) := by decide +kernel
theorem dX1_take_125 : decode cX1_take 125 = .ok (.aload_n 0, 1) := by decide +kernel
theorem dX1_take_126 : decode cX1_take 126 = .ok (.getfield 18, 3) := by decide +kernel
theorem dX1_take_129 : decode cX1_take 129 = .ok (.iload_n 1, 1) := by decide +kernel
theorem dX1_take_130 : decode cX1_take 130 = .ok (.iconst 0, 1) := by decide +kernel
theorem dX1_take_131 : decode cX1_take 131 = .ok (.bastore, 1) := by decide +kernel
theorem dX1_take_132 : decode cX1_take 132 = .ok (.return_, 1) := by decide +kernel
set_option maxRecDepth 20000 in
theorem ggX2_init_X3_init : GoodIn wsX2_init wsX3_init := goodIn_r _ [9, 10, 2, 3, 11, 12, 13, 14, 15, 16, 17, 18, 19, 20, 21, 22, 23, 24, 25, 26, 27, 28, 29, 30, 31, 32, 33, 34, 35, 36, 37, 38, 39, 51, 52, 53, 54, 55, 56, 42, 43, 44, 45, 46, 47, 48, 49, 50, 57, 58, 59] (by decide +kernel) (by decide +kernel)
set_option maxRecDepth 20000 in
theorem gX2_init_X3_init_n17 : GoodIn wsX2_init (wsX3_init) := ggX2_init_X3_init
theorem dX2_init_0 : decode cX2_init 0 = .ok (.aload_n 0, 1) := by decide +kernel
theorem dX2_init_1 : decode cX2_init 1 = .ok (.invokespecial 3, 3) := by decide +kernel
theorem dX2_init_4 : decode cX2_init 4 = .ok (.aload_n 0, 1) := by decide +kernel
theorem dX2_init_5 : decode cX2_init 5 = .ok (.iconst 4, 1) := by decide +kernel
theorem dX2_init_6 : decode cX2_init 6 = .ok (.anewarray 9, 3) := by decide +kernel
theorem dX2_init_9 : decode cX2_init 9 = .ok (.putfield 11, 3) := by decide +kernel
theorem dX2_init_12 : decode cX2_init 12 = .ok (.iconst 0, 1) := by decide +kernel
theorem dX2_init_13 : decode cX2_init 13 = .ok (.istore_n 1, 1) := by decide +kernel
theorem dX2_init_14 : decode cX2_init 14 = .ok (.iload_n 1, 1) := by decide +kernel
theorem dX2_init_15 : decode cX2_init 15 = .ok (.iconst 4, 1) := by decide +kernel
theorem dX2_init_16 : decode cX2_init 16 = .ok (.if_icmp .ge 22, 3) := by decide +kernel
theorem dX2_init_19 : decode cX2_init 19 = .ok (.aload_n 0, 1) := by decide +kernel
theorem dX2_init_20 : decode cX2_init 20 = .ok (.getfield 11, 3) := by decide +kernel
theorem dX2_init_23 : decode cX2_init 23 = .ok (.iload_n 1, 1) := by decide +kernel
theorem dX2_init_24 : decode cX2_init 24 = .ok (.new 9, 3) := by decide +kernel
theorem dX2_init_27 : decode cX2_init 27 = .ok (.dup, 1) := by decide +kernel
theorem dX2_init_28 : decode cX2_init 28 = .ok (.invokespecial 17, 3) := by decide +kernel
theorem dX2_init_31 : decode cX2_init 31 = .ok (.aastore, 1) := by decide +kernel
theorem dX2_init_32 : decode cX2_init 32 = .ok (.iinc 1 1, 3) := by decide +kernel
theorem dX2_init_35 : decode cX2_init 35 = .ok (.goto (-21), 3) := by decide +kernel
theorem dX2_init_38 : decode cX2_init 38 = .ok (.return_, 1) := by decide +kernel
set_option maxRecDepth 20000 in
theorem ggX2_record_X2_dropOldest : GoodIn wsX2_record wsX2_dropOldest := goodIn_r _ [7, 2, 1, 41, 42] (by decide +kernel) (by decide +kernel)
set_option maxRecDepth 20000 in
theorem gX2_record_X2_dropOldest : GoodIn wsX2_record (wsV RX2 22 RX2 yX2_dropOldest wsX2_dropOldest) := goodIn_app (goodIn_of _ (by decide +kernel)) ggX2_record_X2_dropOldest
set_option maxRecDepth 20000 in
theorem ggX2_record_X3_copyFrom : GoodIn wsX2_record wsX3_copyFrom := goodIn_r _ [12, 13, 14, 15, 16, 17, 18, 19, 20, 21, 22, 23, 24, 25, 26, 27, 28, 29, 30, 31, 32, 33, 34, 35, 36, 37, 38, 39, 40, 43, 44, 45, 46, 47, 48, 49, 50, 51, 52, 53, 54, 55, 56, 57, 58, 59, 60] (by decide +kernel) (by decide +kernel)
set_option maxRecDepth 20000 in
theorem gX2_record_X3_copyFrom : GoodIn wsX2_record (wsV RX2 25 RX3 yX3_copyFrom wsX3_copyFrom) := goodIn_app (goodIn_of _ (by decide +kernel)) ggX2_record_X3_copyFrom
theorem dX2_record_0 : decode cX2_record 0 = .ok (.aload_n 0, 1) := by decide +kernel
theorem dX2_record_1 : decode cX2_record 1 = .ok (.getfield 18, 3) := by decide +kernel
theorem dX2_record_4 : decode cX2_record 4 = .ok (.iconst 4, 1) := by decide +kernel
theorem dX2_record_5 : decode cX2_record 5 = .ok (.if_icmp .lt 7, 3) := by decide +kernel
theorem dX2_record_8 : decode cX2_record 8 = .ok (.aload_n 0, 1) := by decide +kernel
theorem dX2_record_9 : decode cX2_record 9 = .ok (.invokevirtual 22, 3) := by decide +kernel
theorem dX2_record_12 : decode cX2_record 12 = .ok (.aload_n 0, 1) := by decide +kernel
theorem dX2_record_13 : decode cX2_record 13 = .ok (.getfield 11, 3) := by decide +kernel
theorem dX2_record_16 : decode cX2_record 16 = .ok (.aload_n 0, 1) := by decide +kernel
theorem dX2_record_17 : decode cX2_record 17 = .ok (.getfield 18, 3) := by decide +kernel
theorem dX2_record_20 : decode cX2_record 20 = .ok (.aaload, 1) := by decide +kernel
theorem dX2_record_21 : decode cX2_record 21 = .ok (.aload_n 1, 1) := by decide +kernel
theorem dX2_record_22 : decode cX2_record 22 = .ok (.invokevirtual 25, 3) := by decide +kernel
theorem dX2_record_25 : decode cX2_record 25 = .ok (.aload_n 0, 1) := by decide +kernel
theorem dX2_record_26 : decode cX2_record 26 = .ok (.dup, 1) := by decide +kernel
theorem dX2_record_27 : decode cX2_record 27 = .ok (.getfield 18, 3) := by decide +kernel
theorem dX2_record_30 : decode cX2_record 30 = .ok (.iconst 1, 1) := by decide +kernel
theorem dX2_record_31 : decode cX2_record 31 = .ok (.iadd, 1) := by decide +kernel
theorem dX2_record_32 : decode cX2_record 32 = .ok (.putfield 18, 3) := by decide +kernel
theorem dX2_record_35 : decode cX2_record 35 = .ok (.return_, 1) := by decide +kernel
theorem dX2_dropOldest_0 : decode cX2_dropOldest 0 = .ok (.aload_n 0, 1) := by decide +kernel
theorem dX2_dropOldest_1 : decode cX2_dropOldest 1 = .ok (.getfield 11, 3) := by decide +kernel
theorem dX2_dropOldest_4 : decode cX2_dropOldest 4 = .ok (.iconst 0, 1) := by decide +kernel
theorem dX2_dropOldest_5 : decode cX2_dropOldest 5 = .ok (.aaload, 1) := by decide +kernel
theorem dX2_dropOldest_6 : decode cX2_dropOldest 6 = .ok (.astore_n 1, 1) := by decide +kernel
theorem dX2_dropOldest_7 : decode cX2_dropOldest 7 = .ok (.iconst 1, 1) := by decide +kernel
theorem dX2_dropOldest_8 : decode cX2_dropOldest 8 = .ok (.istore_n 2, 1) := by decide +kernel
theorem dX2_dropOldest_9 : decode cX2_dropOldest 9 = .ok (.iload_n 2, 1) := by decide +kernel
theorem dX2_dropOldest_10 : decode cX2_dropOldest 10 = .ok (.iconst 4, 1) := by decide +kernel
theorem dX2_dropOldest_11 : decode cX2_dropOldest 11 = .ok (.if_icmp .ge 23, 3) := by decide +kernel
theorem dX2_dropOldest_14 : decode cX2_dropOldest 14 = .ok (.aload_n 0, 1) := by decide +kernel
theorem dX2_dropOldest_15 : decode cX2_dropOldest 15 = .ok (.getfield 11, 3) := by decide +kernel
theorem dX2_dropOldest_18 : decode cX2_dropOldest 18 = .ok (.iload_n 2, 1) := by decide +kernel
theorem dX2_dropOldest_19 : decode cX2_dropOldest 19 = .ok (.iconst 1, 1) := by decide +kernel
theorem dX2_dropOldest_20 : decode cX2_dropOldest 20 = .ok (.isub, 1) := by decide +kernel
theorem dX2_dropOldest_21 : decode cX2_dropOldest 21 = .ok (.aload_n 0, 1) := by decide +kernel
theorem dX2_dropOldest_22 : decode cX2_dropOldest 22 = .ok (.getfield 11, 3) := by decide +kernel
theorem dX2_dropOldest_25 : decode cX2_dropOldest 25 = .ok (.iload_n 2, 1) := by decide +kernel
theorem dX2_dropOldest_26 : decode cX2_dropOldest 26 = .ok (.aaload, 1) := by decide +kernel
theorem dX2_dropOldest_27 : decode cX2_dropOldest 27 = .ok (.aastore, 1) := by decide +kernel
theorem dX2_dropOldest_28 : decode cX2_dropOldest 28 = .ok (.iinc 2 1, 3) := by decide +kernel
theorem dX2_dropOldest_31 : decode cX2_dropOldest 31 = .ok (.goto (-22), 3) := by decide +kernel
theorem dX2_dropOldest_34 : decode cX2_dropOldest 34 = .ok (.aload_n 0, 1) := by decide +kernel
theorem dX2_dropOldest_35 : decode cX2_dropOldest 35 = .ok (.getfield 11, 3) := by decide +kernel
theorem dX2_dropOldest_38 : decode cX2_dropOldest 38 = .ok (.iconst 3, 1) := by decide +kernel
theorem dX2_dropOldest_39 : decode cX2_dropOldest 39 = .ok (.aload_n 1, 1) := by decide +kernel
theorem dX2_dropOldest_40 : decode cX2_dropOldest 40 = .ok (.aastore, 1) := by decide +kernel
theorem dX2_dropOldest_41 : decode cX2_dropOldest 41 = .ok (.aload_n 0, 1) := by decide +kernel
theorem dX2_dropOldest_42 : decode cX2_dropOldest 42 = .ok (.iconst 3, 1) := by decide +kernel
theorem dX2_dropOldest_43 : decode cX2_dropOldest 43 = .ok (.putfield 18, 3) := by decide +kernel
theorem dX2_dropOldest_46 : decode cX2_dropOldest 46 = .ok (.return_, 1) := by decide +kernel
set_option maxRecDepth 20000 in
theorem ggX3_init_X4_init : GoodIn wsX3_init wsX4_init := goodIn_r _ [21, 22, 2, 3, 23, 24, 25, 26, 27, 33, 34, 35, 36, 37, 38] (by decide +kernel) (by decide +kernel)
set_option maxRecDepth 20000 in
theorem gX3_init_X4_init_n11 : GoodIn wsX3_init (wsX4_init) := ggX3_init_X4_init
set_option maxRecDepth 20000 in
theorem ggX3_init_X0_init : GoodIn wsX3_init wsX0_init := goodIn_r _ [29, 30, 2, 3, 23, 31, 32, 48, 49, 50] (by decide +kernel) (by decide +kernel)
set_option maxRecDepth 20000 in
theorem gX3_init_X0_init_n20 : GoodIn wsX3_init (wsX0_init) := ggX3_init_X0_init
theorem dX3_init_0 : decode cX3_init 0 = .ok (.aload_n 0, 1) := by decide +kernel
theorem dX3_init_1 : decode cX3_init 1 = .ok (.invokespecial 3, 3) := by decide +kernel
theorem dX3_init_4 : decode cX3_init 4 = .ok (.aload_n 0, 1) := by decide +kernel
theorem dX3_init_5 : decode cX3_init 5 = .ok (.new 9, 3) := by decide +kernel
theorem dX3_init_8 : decode cX3_init 8 = .ok (.dup, 1) := by decide +kernel
theorem dX3_init_9 : decode cX3_init 9 = .ok (.invokespecial 11, 3) := by decide +kernel
theorem dX3_init_12 : decode cX3_init 12 = .ok (.putfield 12, 3) := by decide +kernel
theorem dX3_init_15 : decode cX3_init 15 = .ok (.aload_n 0, 1) := by decide +kernel
theorem dX3_init_16 : decode cX3_init 16 = .ok (.new 18, 3) := by decide +kernel
theorem dX3_init_19 : decode cX3_init 19 = .ok (.dup, 1) := by decide +kernel
theorem dX3_init_20 : decode cX3_init 20 = .ok (.invokespecial 20, 3) := by decide +kernel
theorem dX3_init_23 : decode cX3_init 23 = .ok (.putfield 21, 3) := by decide +kernel
theorem dX3_init_26 : decode cX3_init 26 = .ok (.aload_n 0, 1) := by decide +kernel
theorem dX3_init_27 : decode cX3_init 27 = .ok (.getstatic 25, 3) := by decide +kernel
theorem dX3_init_30 : decode cX3_init 30 = .ok (.invokevirtual 29, 3) := by decide +kernel
theorem dX3_init_33 : decode cX3_init 33 = .ok (.checkcast 30, 3) := by decide +kernel
theorem dX3_init_36 : decode cX3_init 36 = .ok (.putfield 34, 3) := by decide +kernel
theorem dX3_init_39 : decode cX3_init 39 = .ok (.aload_n 0, 1) := by decide +kernel
theorem dX3_init_40 : decode cX3_init 40 = .ok (.getstatic 37, 3) := by decide +kernel
theorem dX3_init_43 : decode cX3_init 43 = .ok (.invokevirtual 29, 3) := by decide +kernel
theorem dX3_init_46 : decode cX3_init 46 = .ok (.checkcast 30, 3) := by decide +kernel
theorem dX3_init_49 : decode cX3_init 49 = .ok (.putfield 40, 3) := by decide +kernel
theorem dX3_init_52 : decode cX3_init 52 = .ok (.return_, 1) := by decide +kernel
set_option maxRecDepth 20000 in
theorem ggX3_copyFrom_X4_copyFrom : GoodIn wsX3_copyFrom wsX4_copyFrom := goodIn_r _ [14, 15, 16, 17, 18, 19, 20, 38, 39, 40, 41, 42, 43] (by decide +kernel) (by decide +kernel)
set_option maxRecDepth 20000 in
theorem gX3_copyFrom_X4_copyFrom : GoodIn wsX3_copyFrom (wsV RX3 43 RX4 yX4_copyFrom wsX4_copyFrom) := goodIn_app (goodIn_of _ (by decide +kernel)) ggX3_copyFrom_X4_copyFrom
set_option maxRecDepth 20000 in
theorem ggX3_copyFrom_X0_copyFrom : GoodIn wsX3_copyFrom wsX0_copyFrom := goodIn_r _ [25, 26, 27, 28, 44, 45, 46] (by decide +kernel) (by decide +kernel)
set_option maxRecDepth 20000 in
theorem gX3_copyFrom_X0_copyFrom : GoodIn wsX3_copyFrom (wsV RX3 47 RX0 yX0_copyFrom wsX0_copyFrom) := goodIn_app (goodIn_of _ (by decide +kernel)) ggX3_copyFrom_X0_copyFrom
theorem dX3_copyFrom_0 : decode cX3_copyFrom 0 = .ok (.aload_n 0, 1) := by decide +kernel
theorem dX3_copyFrom_1 : decode cX3_copyFrom 1 = .ok (.getfield 12, 3) := by decide +kernel
theorem dX3_copyFrom_4 : decode cX3_copyFrom 4 = .ok (.aload_n 1, 1) := by decide +kernel
theorem dX3_copyFrom_5 : decode cX3_copyFrom 5 = .ok (.getfield 12, 3) := by decide +kernel
theorem dX3_copyFrom_8 : decode cX3_copyFrom 8 = .ok (.invokevirtual 43, 3) := by decide +kernel
theorem dX3_copyFrom_11 : decode cX3_copyFrom 11 = .ok (.aload_n 0, 1) := by decide +kernel
theorem dX3_copyFrom_12 : decode cX3_copyFrom 12 = .ok (.getfield 21, 3) := by decide +kernel
theorem dX3_copyFrom_15 : decode cX3_copyFrom 15 = .ok (.aload_n 1, 1) := by decide +kernel
theorem dX3_copyFrom_16 : decode cX3_copyFrom 16 = .ok (.getfield 21, 3) := by decide +kernel
theorem dX3_copyFrom_19 : decode cX3_copyFrom 19 = .ok (.invokevirtual 47, 3) := by decide +kernel
theorem dX3_copyFrom_22 : decode cX3_copyFrom 22 = .ok (.iconst 0, 1) := by decide +kernel
theorem dX3_copyFrom_23 : decode cX3_copyFrom 23 = .ok (.istore_n 2, 1) := by decide +kernel
theorem dX3_copyFrom_24 : decode cX3_copyFrom 24 = .ok (.iload_n 2, 1) := by decide +kernel
theorem dX3_copyFrom_25 : decode cX3_copyFrom 25 = .ok (.iconst 4, 1) := by decide +kernel
theorem dX3_copyFrom_26 : decode cX3_copyFrom 26 = .ok (.if_icmp .ge 21, 3) := by decide +kernel
theorem dX3_copyFrom_29 : decode cX3_copyFrom 29 = .ok (.aload_n 0, 1) := by decide +kernel
theorem dX3_copyFrom_30 : decode cX3_copyFrom 30 = .ok (.getfield 34, 3) := by decide +kernel
theorem dX3_copyFrom_33 : decode cX3_copyFrom 33 = .ok (.iload_n 2, 1) := by decide +kernel
theorem dX3_copyFrom_34 : decode cX3_copyFrom 34 = .ok (.aload_n 1, 1) := by decide +kernel
theorem dX3_copyFrom_35 : decode cX3_copyFrom 35 = .ok (.getfield 34, 3) := by decide +kernel
theorem dX3_copyFrom_38 : decode cX3_copyFrom 38 = .ok (.iload_n 2, 1) := by decide +kernel
theorem dX3_copyFrom_39 : decode cX3_copyFrom 39 = .ok (.iaload, 1) := by decide +kernel
theorem dX3_copyFrom_40 : decode cX3_copyFrom 40 = .ok (.iastore, 1) := by decide +kernel
theorem dX3_copyFrom_41 : decode cX3_copyFrom 41 = .ok (.iinc 2 1, 3) := by decide +kernel
theorem dX3_copyFrom_44 : decode cX3_copyFrom 44 = .ok (.goto (-20), 3) := by decide +kernel
theorem dX3_copyFrom_47 : decode cX3_copyFrom 47 = .ok (.iconst 0, 1) := by decide +kernel
theorem dX3_copyFrom_48 : decode cX3_copyFrom 48 = .ok (.istore_n 2, 1) := by decide +kernel
theorem dX3_copyFrom_49 : decode cX3_copyFrom 49 = .ok (.iload_n 2, 1) := by decide +kernel
theorem dX3_copyFrom_50 : decode cX3_copyFrom 50 = .ok (.iconst 5, 1) := by decide +kernel
theorem dX3_copyFrom_51 : decode cX3_copyFrom 51 = .ok (.if_icmp .ge 21, 3) := by decide +kernel
theorem dX3_copyFrom_54 : decode cX3_copyFrom 54 = .ok (.aload_n 0, 1) := by decide +kernel
theorem dX3_copyFrom_55 : decode cX3_copyFrom 55 = .ok (.getfield 40, 3) := by decide +kernel
theorem dX3_copyFrom_58 : decode cX3_copyFrom 58 = .ok (.iload_n 2, 1) := by decide +kernel
theorem dX3_copyFrom_59 : decode cX3_copyFrom 59 = .ok (.aload_n 1, 1) := by decide +kernel
theorem dX3_copyFrom_60 : decode cX3_copyFrom 60 = .ok (.getfield 40, 3) := by decide +kernel
theorem dX3_copyFrom_63 : decode cX3_copyFrom 63 = .ok (.iload_n 2, 1) := by decide +kernel
theorem dX3_copyFrom_64 : decode cX3_copyFrom 64 = .ok (.iaload, 1) := by decide +kernel
theorem dX3_copyFrom_65 : decode cX3_copyFrom 65 = .ok (.iastore, 1) := by decide +kernel
theorem dX3_copyFrom_66 : decode cX3_copyFrom 66 = .ok (.iinc 2 1, 3) := by decide +kernel
theorem dX3_copyFrom_69 : decode cX3_copyFrom 69 = .ok (.goto (-20), 3) := by decide +kernel
theorem dX3_copyFrom_72 : decode cX3_copyFrom 72 = .ok (.aload_n 0, 1) := by decide +kernel
theorem dX3_copyFrom_73 : decode cX3_copyFrom 73 = .ok (.aload_n 1, 1) := by decide +kernel
theorem dX3_copyFrom_74 : decode cX3_copyFrom 74 = .ok (.getfield 50, 3) := by decide +kernel
theorem dX3_copyFrom_77 : decode cX3_copyFrom 77 = .ok (.putfield 50, 3) := by decide +kernel
theorem dX3_copyFrom_80 : decode cX3_copyFrom 80 = .ok (.aload_n 0, 1) := by decide +kernel
theorem dX3_copyFrom_81 : decode cX3_copyFrom 81 = .ok (.aload_n 1, 1) := by decide +kernel
theorem dX3_copyFrom_82 : decode cX3_copyFrom 82 = .ok (.getfield 54, 3) := by decide +kernel
theorem dX3_copyFrom_85 : decode cX3_copyFrom 85 = .ok (.putfield 54, 3) := by decide +kernel
theorem dX3_copyFrom_88 : decode cX3_copyFrom 88 = .ok (.aload_n 0, 1) := by decide +kernel
theorem dX3_copyFrom_89 : decode cX3_copyFrom 89 = .ok (.aload_n 1, 1) := by decide +kernel
theorem dX3_copyFrom_90 : decode cX3_copyFrom 90 = .ok (.getfield 57, 3) := by decide +kernel
theorem dX3_copyFrom_93 : decode cX3_copyFrom 93 = .ok (.putfield 57, 3) := by decide +kernel
theorem dX3_copyFrom_96 : decode cX3_copyFrom 96 = .ok (.aload_n 0, 1) := by decide +kernel
theorem dX3_copyFrom_97 : decode cX3_copyFrom 97 = .ok (.aload_n 1, 1) := by decide +kernel
theorem dX3_copyFrom_98 : decode cX3_copyFrom 98 = .ok (.getfield 60, 3) := by decide +kernel
theorem dX3_copyFrom_101 : decode cX3_copyFrom 101 = .ok (.putfield 60, 3) := by decide +kernel
theorem dX3_copyFrom_104 : decode cX3_copyFrom 104 = .ok (.aload_n 0, 1) := by decide +kernel
theorem dX3_copyFrom_105 : decode cX3_copyFrom 105 = .ok (.aload_n 1, 1) := by decide +kernel
theorem dX3_copyFrom_106 : decode cX3_copyFrom 106 = .ok (.getfield 63, 3) := by decide +kernel
theorem dX3_copyFrom_109 : decode cX3_copyFrom 109 = .ok (.putfield 63, 3) := by decide +kernel
theorem dX3_copyFrom_112 : decode cX3_copyFrom 112 = .ok (.return_, 1) := by decide +kernel
set_option maxRecDepth 20000 in
theorem ggX3_bringLot_X6_isWithin : GoodIn wsX3_bringLot wsX6_isWithin := goodIn_r _ [6] (by decide +kernel) (by decide +kernel)
set_option maxRecDepth 20000 in
theorem gX3_bringLot_X6_isWithin_n66 : GoodIn wsX3_bringLot (wsX6_isWithin) := ggX3_bringLot_X6_isWithin
set_option maxRecDepth 20000 in
theorem ggX3_bringLot_X4_add : GoodIn wsX3_bringLot wsX4_add := goodIn_r _ [11, 12, 13, 14, 15, 16, 17, 18, 19, 20, 21, 10, 22, 32, 33, 34, 35, 36, 37] (by decide +kernel) (by decide +kernel)
set_option maxRecDepth 20000 in
theorem gX3_bringLot_X4_add : GoodIn wsX3_bringLot (wsV RX3 71 RX4 yX4_add wsX4_add) := goodIn_app (goodIn_of _ (by decide +kernel)) ggX3_bringLot_X4_add
theorem dX3_bringLot_0 : decode cX3_bringLot 0 = .ok (.iload_n 1, 1) := by decide +kernel
theorem dX3_bringLot_1 : decode cX3_bringLot 1 = .ok (.iconst 1, 1) := by decide +kernel
theorem dX3_bringLot_2 : decode cX3_bringLot 2 = .ok (.sipush 999, 3) := by decide +kernel
theorem dX3_bringLot_5 : decode cX3_bringLot 5 = .ok (.invokestatic 66, 3) := by decide +kernel
theorem dX3_bringLot_8 : decode cX3_bringLot 8 = .ok (.ifCond .eq 14, 3) := by decide +kernel
theorem dX3_bringLot_11 : decode cX3_bringLot 11 = .ok (.iload_n 2, 1) := by decide +kernel
theorem dX3_bringLot_12 : decode cX3_bringLot 12 = .ok (.bipush 60, 2) := by decide +kernel
theorem dX3_bringLot_14 : decode cX3_bringLot 14 = .ok (.bipush 100, 2) := by decide +kernel
theorem dX3_bringLot_16 : decode cX3_bringLot 16 = .ok (.invokestatic 66, 3) := by decide +kernel
theorem dX3_bringLot_19 : decode cX3_bringLot 19 = .ok (.ifCond .ne 6, 3) := by decide +kernel
theorem dX3_bringLot_22 : decode cX3_bringLot 22 = .ok (.ldc 70, 2) := by decide +kernel
theorem dX3_bringLot_24 : decode cX3_bringLot 24 = .ok (.ireturn, 1) := by decide +kernel
theorem dX3_bringLot_25 : decode cX3_bringLot 25 = .ok (.aload_n 0, 1) := by decide +kernel
theorem dX3_bringLot_26 : decode cX3_bringLot 26 = .ok (.getfield 12, 3) := by decide +kernel
theorem dX3_bringLot_29 : decode cX3_bringLot 29 = .ok (.iload_n 1, 1) := by decide +kernel
theorem dX3_bringLot_30 : decode cX3_bringLot 30 = .ok (.iload_n 2, 1) := by decide +kernel
theorem dX3_bringLot_31 : decode cX3_bringLot 31 = .ok (.aload_n 0, 1) := by decide +kernel
theorem dX3_bringLot_32 : decode cX3_bringLot 32 = .ok (.getfield 50, 3) := by decide +kernel
theorem dX3_bringLot_35 : decode cX3_bringLot 35 = .ok (.invokevirtual 71, 3) := by decide +kernel
theorem dX3_bringLot_38 : decode cX3_bringLot 38 = .ok (.ireturn, 1) := by decide +kernel
set_option maxRecDepth 20000 in
theorem ggX3_partLot_X4_rowOf : GoodIn wsX3_partLot wsX4_rowOf := goodIn_r _ [12, 13, 14, 38, 39, 40, 41, 42, 43] (by decide +kernel) (by decide +kernel)
set_option maxRecDepth 20000 in
theorem gX3_partLot_X4_rowOf : GoodIn wsX3_partLot (wsV RX3 75 RX4 yX4_rowOf wsX4_rowOf) := goodIn_app (goodIn_of _ (by decide +kernel)) ggX3_partLot_X4_rowOf
set_option maxRecDepth 20000 in
theorem ggX3_partLot_X4_isFull : GoodIn wsX3_partLot wsX4_isFull := goodIn_r _ [18, 13, 38, 39, 40, 41, 42, 43] (by decide +kernel) (by decide +kernel)
set_option maxRecDepth 20000 in
theorem gX3_partLot_X4_isFull : GoodIn wsX3_partLot (wsV RX3 83 RX4 yX4_isFull wsX4_isFull) := goodIn_app (goodIn_of _ (by decide +kernel)) ggX3_partLot_X4_isFull
set_option maxRecDepth 20000 in
theorem ggX3_partLot_X4_add : GoodIn wsX3_partLot wsX4_add := goodIn_r _ [22, 23, 14, 13, 24, 25, 26, 27, 28, 16, 17, 11, 18, 38, 39, 40, 41, 42, 43] (by decide +kernel) (by decide +kernel)
set_option maxRecDepth 20000 in
theorem gX3_partLot_X4_add : GoodIn wsX3_partLot (wsV RX3 71 RX4 yX4_add wsX4_add) := goodIn_app (goodIn_of _ (by decide +kernel)) ggX3_partLot_X4_add
theorem dX3_partLot_0 : decode cX3_partLot 0 = .ok (.aload_n 0, 1) := by decide +kernel
theorem dX3_partLot_1 : decode cX3_partLot 1 = .ok (.getfield 12, 3) := by decide +kernel
theorem dX3_partLot_4 : decode cX3_partLot 4 = .ok (.iload_n 1, 1) := by decide +kernel
theorem dX3_partLot_5 : decode cX3_partLot 5 = .ok (.invokevirtual 75, 3) := by decide +kernel
theorem dX3_partLot_8 : decode cX3_partLot 8 = .ok (.istore_n 3, 1) := by decide +kernel
theorem dX3_partLot_9 : decode cX3_partLot 9 = .ok (.iload_n 3, 1) := by decide +kernel
theorem dX3_partLot_10 : decode cX3_partLot 10 = .ok (.ifCond .lt 8, 3) := by decide +kernel
theorem dX3_partLot_13 : decode cX3_partLot 13 = .ok (.iload_n 2, 1) := by decide +kernel
theorem dX3_partLot_14 : decode cX3_partLot 14 = .ok (.iconst 1, 1) := by decide +kernel
theorem dX3_partLot_15 : decode cX3_partLot 15 = .ok (.if_icmp .ge 6, 3) := by decide +kernel
theorem dX3_partLot_18 : decode cX3_partLot 18 = .ok (.ldc 70, 2) := by decide +kernel
theorem dX3_partLot_20 : decode cX3_partLot 20 = .ok (.ireturn, 1) := by decide +kernel
theorem dX3_partLot_21 : decode cX3_partLot 21 = .ok (.aload_n 0, 1) := by decide +kernel
theorem dX3_partLot_22 : decode cX3_partLot 22 = .ok (.getfield 12, 3) := by decide +kernel
theorem dX3_partLot_25 : decode cX3_partLot 25 = .ok (.getfield 79, 3) := by decide +kernel
theorem dX3_partLot_28 : decode cX3_partLot 28 = .ok (.iload_n 3, 1) := by decide +kernel
theorem dX3_partLot_29 : decode cX3_partLot 29 = .ok (.iaload, 1) := by decide +kernel
theorem dX3_partLot_30 : decode cX3_partLot 30 = .ok (.iload_n 2, 1) := by decide +kernel
theorem dX3_partLot_31 : decode cX3_partLot 31 = .ok (.if_icmp .gt 6, 3) := by decide +kernel
theorem dX3_partLot_34 : decode cX3_partLot 34 = .ok (.ldc 82, 2) := by decide +kernel
theorem dX3_partLot_36 : decode cX3_partLot 36 = .ok (.ireturn, 1) := by decide +kernel
theorem dX3_partLot_37 : decode cX3_partLot 37 = .ok (.aload_n 0, 1) := by decide +kernel
theorem dX3_partLot_38 : decode cX3_partLot 38 = .ok (.getfield 12, 3) := by decide +kernel
theorem dX3_partLot_41 : decode cX3_partLot 41 = .ok (.invokevirtual 83, 3) := by decide +kernel
theorem dX3_partLot_44 : decode cX3_partLot 44 = .ok (.ifCond .eq 6, 3) := by decide +kernel
theorem dX3_partLot_47 : decode cX3_partLot 47 = .ok (.ldc 87, 2) := by decide +kernel
theorem dX3_partLot_49 : decode cX3_partLot 49 = .ok (.ireturn, 1) := by decide +kernel
theorem dX3_partLot_50 : decode cX3_partLot 50 = .ok (.aload_n 0, 1) := by decide +kernel
theorem dX3_partLot_51 : decode cX3_partLot 51 = .ok (.getfield 12, 3) := by decide +kernel
theorem dX3_partLot_54 : decode cX3_partLot 54 = .ok (.getfield 79, 3) := by decide +kernel
theorem dX3_partLot_57 : decode cX3_partLot 57 = .ok (.iload_n 3, 1) := by decide +kernel
theorem dX3_partLot_58 : decode cX3_partLot 58 = .ok (.dup2, 1) := by decide +kernel
theorem dX3_partLot_59 : decode cX3_partLot 59 = .ok (.iaload, 1) := by decide +kernel
theorem dX3_partLot_60 : decode cX3_partLot 60 = .ok (.iload_n 2, 1) := by decide +kernel
theorem dX3_partLot_61 : decode cX3_partLot 61 = .ok (.isub, 1) := by decide +kernel
theorem dX3_partLot_62 : decode cX3_partLot 62 = .ok (.iastore, 1) := by decide +kernel
theorem dX3_partLot_63 : decode cX3_partLot 63 = .ok (.aload_n 0, 1) := by decide +kernel
theorem dX3_partLot_64 : decode cX3_partLot 64 = .ok (.getfield 12, 3) := by decide +kernel
theorem dX3_partLot_67 : decode cX3_partLot 67 = .ok (.iload_n 2, 1) := by decide +kernel
theorem dX3_partLot_68 : decode cX3_partLot 68 = .ok (.aload_n 0, 1) := by decide +kernel
theorem dX3_partLot_69 : decode cX3_partLot 69 = .ok (.getfield 12, 3) := by decide +kernel
theorem dX3_partLot_72 : decode cX3_partLot 72 = .ok (.getfield 88, 3) := by decide +kernel
theorem dX3_partLot_75 : decode cX3_partLot 75 = .ok (.iload_n 3, 1) := by decide +kernel
theorem dX3_partLot_76 : decode cX3_partLot 76 = .ok (.iaload, 1) := by decide +kernel
theorem dX3_partLot_77 : decode cX3_partLot 77 = .ok (.aload_n 0, 1) := by decide +kernel
theorem dX3_partLot_78 : decode cX3_partLot 78 = .ok (.getfield 12, 3) := by decide +kernel
theorem dX3_partLot_81 : decode cX3_partLot 81 = .ok (.getfield 91, 3) := by decide +kernel
theorem dX3_partLot_84 : decode cX3_partLot 84 = .ok (.iload_n 3, 1) := by decide +kernel
theorem dX3_partLot_85 : decode cX3_partLot 85 = .ok (.iaload, 1) := by decide +kernel
theorem dX3_partLot_86 : decode cX3_partLot 86 = .ok (.invokevirtual 71, 3) := by decide +kernel
theorem dX3_partLot_89 : decode cX3_partLot 89 = .ok (.ireturn, 1) := by decide +kernel
set_option maxRecDepth 20000 in
theorem ggX3_blendLots_X4_rowOf : GoodIn wsX3_blendLots wsX4_rowOf := goodIn_r _ [11, 12, 13, 45, 46, 47, 48, 49, 50] (by decide +kernel) (by decide +kernel)
set_option maxRecDepth 20000 in
theorem gX3_blendLots_X4_rowOf : GoodIn wsX3_blendLots (wsV RX3 75 RX4 yX4_rowOf wsX4_rowOf) := goodIn_app (goodIn_of _ (by decide +kernel)) ggX3_blendLots_X4_rowOf
set_option maxRecDepth 20000 in
theorem ggX3_blendLots_X4_isFull : GoodIn wsX3_blendLots wsX4_isFull := goodIn_r _ [17, 12, 45, 46, 47, 48, 49, 50] (by decide +kernel) (by decide +kernel)
set_option maxRecDepth 20000 in
theorem gX3_blendLots_X4_isFull : GoodIn wsX3_blendLots (wsV RX3 83 RX4 yX4_isFull wsX4_isFull) := goodIn_app (goodIn_of _ (by decide +kernel)) ggX3_blendLots_X4_isFull
set_option maxRecDepth 20000 in
theorem ggX3_blendLots_X4_cupAt : GoodIn wsX3_blendLots wsX4_cupAt := goodIn_r _ [21, 22, 23, 45, 46, 47, 48, 49, 50] (by decide +kernel) (by decide +kernel)
set_option maxRecDepth 20000 in
theorem gX3_blendLots_X4_cupAt : GoodIn wsX3_blendLots (wsV RX3 94 RX4 yX4_cupAt wsX4_cupAt) := goodIn_app (goodIn_of _ (by decide +kernel)) ggX3_blendLots_X4_cupAt
set_option maxRecDepth 20000 in
theorem ggX3_blendLots_X4_dropEmpty : GoodIn wsX3_blendLots wsX4_dropEmpty := goodIn_r _ [27, 12, 28, 13, 22, 23, 45, 46, 47, 48, 49, 50] (by decide +kernel) (by decide +kernel)
set_option maxRecDepth 20000 in
theorem gX3_blendLots_X4_dropEmpty : GoodIn wsX3_blendLots (wsV RX3 98 RX4 yX4_dropEmpty wsX4_dropEmpty) := goodIn_app (goodIn_of _ (by decide +kernel)) ggX3_blendLots_X4_dropEmpty
set_option maxRecDepth 20000 in
theorem ggX3_blendLots_X4_add : GoodIn wsX3_blendLots wsX4_add := goodIn_r _ [32, 33, 13, 12, 34, 28, 22, 23, 35, 15, 16, 10, 17, 45, 46, 47, 48, 49, 50] (by decide +kernel) (by decide +kernel)
set_option maxRecDepth 20000 in
theorem gX3_blendLots_X4_add : GoodIn wsX3_blendLots (wsV RX3 71 RX4 yX4_add wsX4_add) := goodIn_app (goodIn_of _ (by decide +kernel)) ggX3_blendLots_X4_add
theorem dX3_blendLots_0 : decode cX3_blendLots 0 = .ok (.aload_n 0, 1) := by decide +kernel
theorem dX3_blendLots_1 : decode cX3_blendLots 1 = .ok (.getfield 12, 3) := by decide +kernel
theorem dX3_blendLots_4 : decode cX3_blendLots 4 = .ok (.iload_n 1, 1) := by decide +kernel
theorem dX3_blendLots_5 : decode cX3_blendLots 5 = .ok (.invokevirtual 75, 3) := by decide +kernel
theorem dX3_blendLots_8 : decode cX3_blendLots 8 = .ok (.istore 5, 2) := by decide +kernel
theorem dX3_blendLots_10 : decode cX3_blendLots 10 = .ok (.aload_n 0, 1) := by decide +kernel
theorem dX3_blendLots_11 : decode cX3_blendLots 11 = .ok (.getfield 12, 3) := by decide +kernel
theorem dX3_blendLots_14 : decode cX3_blendLots 14 = .ok (.iload_n 3, 1) := by decide +kernel
theorem dX3_blendLots_15 : decode cX3_blendLots 15 = .ok (.invokevirtual 75, 3) := by decide +kernel
theorem dX3_blendLots_18 : decode cX3_blendLots 18 = .ok (.istore 6, 2) := by decide +kernel
theorem dX3_blendLots_20 : decode cX3_blendLots 20 = .ok (.iload 5, 2) := by decide +kernel
theorem dX3_blendLots_22 : decode cX3_blendLots 22 = .ok (.ifCond .lt 26, 3) := by decide +kernel
theorem dX3_blendLots_25 : decode cX3_blendLots 25 = .ok (.iload 6, 2) := by decide +kernel
theorem dX3_blendLots_27 : decode cX3_blendLots 27 = .ok (.ifCond .lt 21, 3) := by decide +kernel
theorem dX3_blendLots_30 : decode cX3_blendLots 30 = .ok (.iload 5, 2) := by decide +kernel
theorem dX3_blendLots_32 : decode cX3_blendLots 32 = .ok (.iload 6, 2) := by decide +kernel
theorem dX3_blendLots_34 : decode cX3_blendLots 34 = .ok (.if_icmp .eq 14, 3) := by decide +kernel
theorem dX3_blendLots_37 : decode cX3_blendLots 37 = .ok (.iload_n 2, 1) := by decide +kernel
theorem dX3_blendLots_38 : decode cX3_blendLots 38 = .ok (.iconst 1, 1) := by decide +kernel
theorem dX3_blendLots_39 : decode cX3_blendLots 39 = .ok (.if_icmp .lt 9, 3) := by decide +kernel
theorem dX3_blendLots_42 : decode cX3_blendLots 42 = .ok (.iload 4, 2) := by decide +kernel
theorem dX3_blendLots_44 : decode cX3_blendLots 44 = .ok (.iconst 1, 1) := by decide +kernel
theorem dX3_blendLots_45 : decode cX3_blendLots 45 = .ok (.if_icmp .ge 6, 3) := by decide +kernel
theorem dX3_blendLots_48 : decode cX3_blendLots 48 = .ok (.ldc 70, 2) := by decide +kernel
theorem dX3_blendLots_50 : decode cX3_blendLots 50 = .ok (.ireturn, 1) := by decide +kernel
theorem dX3_blendLots_51 : decode cX3_blendLots 51 = .ok (.iload_n 2, 1) := by decide +kernel
theorem dX3_blendLots_52 : decode cX3_blendLots 52 = .ok (.aload_n 0, 1) := by decide +kernel
theorem dX3_blendLots_53 : decode cX3_blendLots 53 = .ok (.getfield 12, 3) := by decide +kernel
theorem dX3_blendLots_56 : decode cX3_blendLots 56 = .ok (.getfield 79, 3) := by decide +kernel
theorem dX3_blendLots_59 : decode cX3_blendLots 59 = .ok (.iload 5, 2) := by decide +kernel
theorem dX3_blendLots_61 : decode cX3_blendLots 61 = .ok (.iaload, 1) := by decide +kernel
theorem dX3_blendLots_62 : decode cX3_blendLots 62 = .ok (.if_icmp .gt 18, 3) := by decide +kernel
theorem dX3_blendLots_65 : decode cX3_blendLots 65 = .ok (.iload 4, 2) := by decide +kernel
theorem dX3_blendLots_67 : decode cX3_blendLots 67 = .ok (.aload_n 0, 1) := by decide +kernel
theorem dX3_blendLots_68 : decode cX3_blendLots 68 = .ok (.getfield 12, 3) := by decide +kernel
theorem dX3_blendLots_71 : decode cX3_blendLots 71 = .ok (.getfield 79, 3) := by decide +kernel
theorem dX3_blendLots_74 : decode cX3_blendLots 74 = .ok (.iload 6, 2) := by decide +kernel
theorem dX3_blendLots_76 : decode cX3_blendLots 76 = .ok (.iaload, 1) := by decide +kernel
theorem dX3_blendLots_77 : decode cX3_blendLots 77 = .ok (.if_icmp .le 6, 3) := by decide +kernel
theorem dX3_blendLots_80 : decode cX3_blendLots 80 = .ok (.ldc 82, 2) := by decide +kernel
theorem dX3_blendLots_82 : decode cX3_blendLots 82 = .ok (.ireturn, 1) := by decide +kernel
theorem dX3_blendLots_83 : decode cX3_blendLots 83 = .ok (.iload_n 2, 1) := by decide +kernel
theorem dX3_blendLots_84 : decode cX3_blendLots 84 = .ok (.iload 4, 2) := by decide +kernel
theorem dX3_blendLots_86 : decode cX3_blendLots 86 = .ok (.iadd, 1) := by decide +kernel
theorem dX3_blendLots_87 : decode cX3_blendLots 87 = .ok (.istore 7, 2) := by decide +kernel
theorem dX3_blendLots_89 : decode cX3_blendLots 89 = .ok (.iload_n 2, 1) := by decide +kernel
theorem dX3_blendLots_90 : decode cX3_blendLots 90 = .ok (.aload_n 0, 1) := by decide +kernel
theorem dX3_blendLots_91 : decode cX3_blendLots 91 = .ok (.getfield 12, 3) := by decide +kernel
theorem dX3_blendLots_94 : decode cX3_blendLots 94 = .ok (.getfield 79, 3) := by decide +kernel
theorem dX3_blendLots_97 : decode cX3_blendLots 97 = .ok (.iload 5, 2) := by decide +kernel
theorem dX3_blendLots_99 : decode cX3_blendLots 99 = .ok (.iaload, 1) := by decide +kernel
theorem dX3_blendLots_100 : decode cX3_blendLots 100 = .ok (.if_icmp .ne 7, 3) := by decide +kernel
theorem dX3_blendLots_103 : decode cX3_blendLots 103 = .ok (.iconst 1, 1) := by decide +kernel
theorem dX3_blendLots_104 : decode cX3_blendLots 104 = .ok (.goto 4, 3) := by decide +kernel
theorem dX3_blendLots_107 : decode cX3_blendLots 107 = .ok (.iconst 0, 1) := by decide +kernel
theorem dX3_blendLots_108 : decode cX3_blendLots 108 = .ok (.istore 8, 2) := by decide +kernel
theorem dX3_blendLots_110 : decode cX3_blendLots 110 = .ok (.iload 4, 2) := by decide +kernel
theorem dX3_blendLots_112 : decode cX3_blendLots 112 = .ok (.aload_n 0, 1) := by decide +kernel
theorem dX3_blendLots_113 : decode cX3_blendLots 113 = .ok (.getfield 12, 3) := by decide +kernel
theorem dX3_blendLots_116 : decode cX3_blendLots 116 = .ok (.getfield 79, 3) := by decide +kernel
theorem dX3_blendLots_119 : decode cX3_blendLots 119 = .ok (.iload 6, 2) := by decide +kernel
theorem dX3_blendLots_121 : decode cX3_blendLots 121 = .ok (.iaload, 1) := by decide +kernel
theorem dX3_blendLots_122 : decode cX3_blendLots 122 = .ok (.if_icmp .ne 7, 3) := by decide +kernel
theorem dX3_blendLots_125 : decode cX3_blendLots 125 = .ok (.iconst 1, 1) := by decide +kernel
theorem dX3_blendLots_126 : decode cX3_blendLots 126 = .ok (.goto 4, 3) := by decide +kernel
theorem dX3_blendLots_129 : decode cX3_blendLots 129 = .ok (.iconst 0, 1) := by decide +kernel
theorem dX3_blendLots_130 : decode cX3_blendLots 130 = .ok (.istore 9, 2) := by decide +kernel
theorem dX3_blendLots_132 : decode cX3_blendLots 132 = .ok (.iload 7, 2) := by decide +kernel
theorem dX3_blendLots_134 : decode cX3_blendLots 134 = .ok (.sipush 9999, 3) := by decide +kernel
theorem dX3_blendLots_137 : decode cX3_blendLots 137 = .ok (.if_icmp .gt 23, 3) := by decide +kernel
theorem dX3_blendLots_140 : decode cX3_blendLots 140 = .ok (.aload_n 0, 1) := by decide +kernel
theorem dX3_blendLots_141 : decode cX3_blendLots 141 = .ok (.getfield 12, 3) := by decide +kernel
theorem dX3_blendLots_144 : decode cX3_blendLots 144 = .ok (.invokevirtual 83, 3) := by decide +kernel
theorem dX3_blendLots_147 : decode cX3_blendLots 147 = .ok (.ifCond .eq 16, 3) := by decide +kernel
theorem dX3_blendLots_150 : decode cX3_blendLots 150 = .ok (.iload 8, 2) := by decide +kernel
theorem dX3_blendLots_152 : decode cX3_blendLots 152 = .ok (.ifCond .ne 11, 3) := by decide +kernel
theorem dX3_blendLots_155 : decode cX3_blendLots 155 = .ok (.iload 9, 2) := by decide +kernel
theorem dX3_blendLots_157 : decode cX3_blendLots 157 = .ok (.ifCond .ne 6, 3) := by decide +kernel
theorem dX3_blendLots_160 : decode cX3_blendLots 160 = .ok (.ldc 87, 2) := by decide +kernel
theorem dX3_blendLots_162 : decode cX3_blendLots 162 = .ok (.ireturn, 1) := by decide +kernel
theorem dX3_blendLots_163 : decode cX3_blendLots 163 = .ok (.iload_n 2, 1) := by decide +kernel
theorem dX3_blendLots_164 : decode cX3_blendLots 164 = .ok (.aload_n 0, 1) := by decide +kernel
theorem dX3_blendLots_165 : decode cX3_blendLots 165 = .ok (.getfield 12, 3) := by decide +kernel
theorem dX3_blendLots_168 : decode cX3_blendLots 168 = .ok (.iload 5, 2) := by decide +kernel
theorem dX3_blendLots_170 : decode cX3_blendLots 170 = .ok (.aload_n 0, 1) := by decide +kernel
theorem dX3_blendLots_171 : decode cX3_blendLots 171 = .ok (.getfield 50, 3) := by decide +kernel
theorem dX3_blendLots_174 : decode cX3_blendLots 174 = .ok (.invokevirtual 94, 3) := by decide +kernel
theorem dX3_blendLots_177 : decode cX3_blendLots 177 = .ok (.imul, 1) := by decide +kernel
theorem dX3_blendLots_178 : decode cX3_blendLots 178 = .ok (.iload 4, 2) := by decide +kernel
theorem dX3_blendLots_180 : decode cX3_blendLots 180 = .ok (.aload_n 0, 1) := by decide +kernel
theorem dX3_blendLots_181 : decode cX3_blendLots 181 = .ok (.getfield 12, 3) := by decide +kernel
theorem dX3_blendLots_184 : decode cX3_blendLots 184 = .ok (.iload 6, 2) := by decide +kernel
theorem dX3_blendLots_186 : decode cX3_blendLots 186 = .ok (.aload_n 0, 1) := by decide +kernel
theorem dX3_blendLots_187 : decode cX3_blendLots 187 = .ok (.getfield 50, 3) := by decide +kernel
theorem dX3_blendLots_190 : decode cX3_blendLots 190 = .ok (.invokevirtual 94, 3) := by decide +kernel
theorem dX3_blendLots_193 : decode cX3_blendLots 193 = .ok (.imul, 1) := by decide +kernel
theorem dX3_blendLots_194 : decode cX3_blendLots 194 = .ok (.iadd, 1) := by decide +kernel
theorem dX3_blendLots_195 : decode cX3_blendLots 195 = .ok (.istore 10, 2) := by decide +kernel
theorem dX3_blendLots_197 : decode cX3_blendLots 197 = .ok (.aload_n 0, 1) := by decide +kernel
theorem dX3_blendLots_198 : decode cX3_blendLots 198 = .ok (.getfield 12, 3) := by decide +kernel
theorem dX3_blendLots_201 : decode cX3_blendLots 201 = .ok (.getfield 79, 3) := by decide +kernel
theorem dX3_blendLots_204 : decode cX3_blendLots 204 = .ok (.iload 5, 2) := by decide +kernel
theorem dX3_blendLots_206 : decode cX3_blendLots 206 = .ok (.dup2, 1) := by decide +kernel
theorem dX3_blendLots_207 : decode cX3_blendLots 207 = .ok (.iaload, 1) := by decide +kernel
theorem dX3_blendLots_208 : decode cX3_blendLots 208 = .ok (.iload_n 2, 1) := by decide +kernel
theorem dX3_blendLots_209 : decode cX3_blendLots 209 = .ok (.isub, 1) := by decide +kernel
theorem dX3_blendLots_210 : decode cX3_blendLots 210 = .ok (.iastore, 1) := by decide +kernel
theorem dX3_blendLots_211 : decode cX3_blendLots 211 = .ok (.aload_n 0, 1) := by decide +kernel
theorem dX3_blendLots_212 : decode cX3_blendLots 212 = .ok (.getfield 12, 3) := by decide +kernel
theorem dX3_blendLots_215 : decode cX3_blendLots 215 = .ok (.getfield 79, 3) := by decide +kernel
theorem dX3_blendLots_218 : decode cX3_blendLots 218 = .ok (.iload 6, 2) := by decide +kernel
theorem dX3_blendLots_220 : decode cX3_blendLots 220 = .ok (.dup2, 1) := by decide +kernel
theorem dX3_blendLots_221 : decode cX3_blendLots 221 = .ok (.iaload, 1) := by decide +kernel
theorem dX3_blendLots_222 : decode cX3_blendLots 222 = .ok (.iload 4, 2) := by decide +kernel
theorem dX3_blendLots_224 : decode cX3_blendLots 224 = .ok (.isub, 1) := by decide +kernel
theorem dX3_blendLots_225 : decode cX3_blendLots 225 = .ok (.iastore, 1) := by decide +kernel
theorem dX3_blendLots_226 : decode cX3_blendLots 226 = .ok (.aload_n 0, 1) := by decide +kernel
theorem dX3_blendLots_227 : decode cX3_blendLots 227 = .ok (.getfield 12, 3) := by decide +kernel
theorem dX3_blendLots_230 : decode cX3_blendLots 230 = .ok (.invokevirtual 98, 3) := by decide +kernel
theorem dX3_blendLots_233 : decode cX3_blendLots 233 = .ok (.aload_n 0, 1) := by decide +kernel
theorem dX3_blendLots_234 : decode cX3_blendLots 234 = .ok (.getfield 12, 3) := by decide +kernel
theorem dX3_blendLots_237 : decode cX3_blendLots 237 = .ok (.iload 7, 2) := by decide +kernel
theorem dX3_blendLots_239 : decode cX3_blendLots 239 = .ok (.iload 10, 2) := by decide +kernel
theorem dX3_blendLots_241 : decode cX3_blendLots 241 = .ok (.iload 7, 2) := by decide +kernel
theorem dX3_blendLots_243 : decode cX3_blendLots 243 = .ok (.idiv, 1) := by decide +kernel
theorem dX3_blendLots_244 : decode cX3_blendLots 244 = .ok (.aload_n 0, 1) := by decide +kernel
theorem dX3_blendLots_245 : decode cX3_blendLots 245 = .ok (.getfield 50, 3) := by decide +kernel
theorem dX3_blendLots_248 : decode cX3_blendLots 248 = .ok (.invokevirtual 71, 3) := by decide +kernel
theorem dX3_blendLots_251 : decode cX3_blendLots 251 = .ok (.ireturn, 1) := by decide +kernel
set_option maxRecDepth 20000 in
theorem ggX3_cupAnew_X4_rowOf : GoodIn wsX3_cupAnew wsX4_rowOf := goodIn_r _ [12, 13, 14, 30, 31, 32, 33, 34, 35] (by decide +kernel) (by decide +kernel)
set_option maxRecDepth 20000 in
theorem gX3_cupAnew_X4_rowOf : GoodIn wsX3_cupAnew (wsV RX3 75 RX4 yX4_rowOf wsX4_rowOf) := goodIn_app (goodIn_of _ (by decide +kernel)) ggX3_cupAnew_X4_rowOf
set_option maxRecDepth 20000 in
theorem ggX3_cupAnew_X4_cupAt : GoodIn wsX3_cupAnew wsX4_cupAt := goodIn_r _ [18, 19, 20, 30, 31, 32, 33, 34, 35] (by decide +kernel) (by decide +kernel)
set_option maxRecDepth 20000 in
theorem gX3_cupAnew_X4_cupAt : GoodIn wsX3_cupAnew (wsV RX3 94 RX4 yX4_cupAt wsX4_cupAt) := goodIn_app (goodIn_of _ (by decide +kernel)) ggX3_cupAnew_X4_cupAt
theorem dX3_cupAnew_0 : decode cX3_cupAnew 0 = .ok (.aload_n 0, 1) := by decide +kernel
theorem dX3_cupAnew_1 : decode cX3_cupAnew 1 = .ok (.getfield 12, 3) := by decide +kernel
theorem dX3_cupAnew_4 : decode cX3_cupAnew 4 = .ok (.iload_n 1, 1) := by decide +kernel
theorem dX3_cupAnew_5 : decode cX3_cupAnew 5 = .ok (.invokevirtual 75, 3) := by decide +kernel
theorem dX3_cupAnew_8 : decode cX3_cupAnew 8 = .ok (.istore_n 2, 1) := by decide +kernel
theorem dX3_cupAnew_9 : decode cX3_cupAnew 9 = .ok (.iload_n 2, 1) := by decide +kernel
theorem dX3_cupAnew_10 : decode cX3_cupAnew 10 = .ok (.ifCond .ge 6, 3) := by decide +kernel
theorem dX3_cupAnew_13 : decode cX3_cupAnew 13 = .ok (.ldc 70, 2) := by decide +kernel
theorem dX3_cupAnew_15 : decode cX3_cupAnew 15 = .ok (.ireturn, 1) := by decide +kernel
theorem dX3_cupAnew_16 : decode cX3_cupAnew 16 = .ok (.aload_n 0, 1) := by decide +kernel
theorem dX3_cupAnew_17 : decode cX3_cupAnew 17 = .ok (.getfield 12, 3) := by decide +kernel
theorem dX3_cupAnew_20 : decode cX3_cupAnew 20 = .ok (.getfield 79, 3) := by decide +kernel
theorem dX3_cupAnew_23 : decode cX3_cupAnew 23 = .ok (.iload_n 2, 1) := by decide +kernel
theorem dX3_cupAnew_24 : decode cX3_cupAnew 24 = .ok (.iaload, 1) := by decide +kernel
theorem dX3_cupAnew_25 : decode cX3_cupAnew 25 = .ok (.iconst 1, 1) := by decide +kernel
theorem dX3_cupAnew_26 : decode cX3_cupAnew 26 = .ok (.if_icmp .gt 6, 3) := by decide +kernel
theorem dX3_cupAnew_29 : decode cX3_cupAnew 29 = .ok (.ldc 82, 2) := by decide +kernel
theorem dX3_cupAnew_31 : decode cX3_cupAnew 31 = .ok (.ireturn, 1) := by decide +kernel
theorem dX3_cupAnew_32 : decode cX3_cupAnew 32 = .ok (.aload_n 0, 1) := by decide +kernel
theorem dX3_cupAnew_33 : decode cX3_cupAnew 33 = .ok (.getfield 12, 3) := by decide +kernel
theorem dX3_cupAnew_36 : decode cX3_cupAnew 36 = .ok (.getfield 79, 3) := by decide +kernel
theorem dX3_cupAnew_39 : decode cX3_cupAnew 39 = .ok (.iload_n 2, 1) := by decide +kernel
theorem dX3_cupAnew_40 : decode cX3_cupAnew 40 = .ok (.dup2, 1) := by decide +kernel
theorem dX3_cupAnew_41 : decode cX3_cupAnew 41 = .ok (.iaload, 1) := by decide +kernel
theorem dX3_cupAnew_42 : decode cX3_cupAnew 42 = .ok (.iconst 1, 1) := by decide +kernel
theorem dX3_cupAnew_43 : decode cX3_cupAnew 43 = .ok (.isub, 1) := by decide +kernel
theorem dX3_cupAnew_44 : decode cX3_cupAnew 44 = .ok (.iastore, 1) := by decide +kernel
theorem dX3_cupAnew_45 : decode cX3_cupAnew 45 = .ok (.aload_n 0, 1) := by decide +kernel
theorem dX3_cupAnew_46 : decode cX3_cupAnew 46 = .ok (.getfield 12, 3) := by decide +kernel
theorem dX3_cupAnew_49 : decode cX3_cupAnew 49 = .ok (.getfield 88, 3) := by decide +kernel
theorem dX3_cupAnew_52 : decode cX3_cupAnew 52 = .ok (.iload_n 2, 1) := by decide +kernel
theorem dX3_cupAnew_53 : decode cX3_cupAnew 53 = .ok (.aload_n 0, 1) := by decide +kernel
theorem dX3_cupAnew_54 : decode cX3_cupAnew 54 = .ok (.getfield 12, 3) := by decide +kernel
theorem dX3_cupAnew_57 : decode cX3_cupAnew 57 = .ok (.iload_n 2, 1) := by decide +kernel
theorem dX3_cupAnew_58 : decode cX3_cupAnew 58 = .ok (.aload_n 0, 1) := by decide +kernel
theorem dX3_cupAnew_59 : decode cX3_cupAnew 59 = .ok (.getfield 50, 3) := by decide +kernel
theorem dX3_cupAnew_62 : decode cX3_cupAnew 62 = .ok (.invokevirtual 94, 3) := by decide +kernel
theorem dX3_cupAnew_65 : decode cX3_cupAnew 65 = .ok (.iastore, 1) := by decide +kernel
theorem dX3_cupAnew_66 : decode cX3_cupAnew 66 = .ok (.aload_n 0, 1) := by decide +kernel
theorem dX3_cupAnew_67 : decode cX3_cupAnew 67 = .ok (.getfield 12, 3) := by decide +kernel
theorem dX3_cupAnew_70 : decode cX3_cupAnew 70 = .ok (.getfield 91, 3) := by decide +kernel
theorem dX3_cupAnew_73 : decode cX3_cupAnew 73 = .ok (.iload_n 2, 1) := by decide +kernel
theorem dX3_cupAnew_74 : decode cX3_cupAnew 74 = .ok (.aload_n 0, 1) := by decide +kernel
theorem dX3_cupAnew_75 : decode cX3_cupAnew 75 = .ok (.getfield 50, 3) := by decide +kernel
theorem dX3_cupAnew_78 : decode cX3_cupAnew 78 = .ok (.iastore, 1) := by decide +kernel
theorem dX3_cupAnew_79 : decode cX3_cupAnew 79 = .ok (.aload_n 0, 1) := by decide +kernel
theorem dX3_cupAnew_80 : decode cX3_cupAnew 80 = .ok (.getfield 12, 3) := by decide +kernel
theorem dX3_cupAnew_83 : decode cX3_cupAnew 83 = .ok (.getfield 88, 3) := by decide +kernel
theorem dX3_cupAnew_86 : decode cX3_cupAnew 86 = .ok (.iload_n 2, 1) := by decide +kernel
theorem dX3_cupAnew_87 : decode cX3_cupAnew 87 = .ok (.iaload, 1) := by decide +kernel
theorem dX3_cupAnew_88 : decode cX3_cupAnew 88 = .ok (.ireturn, 1) := by decide +kernel
set_option maxRecDepth 20000 in
theorem ggX3_changeWorth_X6_isWithin : GoodIn wsX3_changeWorth wsX6_isWithin := goodIn_r _ [5] (by decide +kernel) (by decide +kernel)
set_option maxRecDepth 20000 in
theorem gX3_changeWorth_X6_isWithin_n66 : GoodIn wsX3_changeWorth (wsX6_isWithin) := ggX3_changeWorth_X6_isWithin
theorem dX3_changeWorth_0 : decode cX3_changeWorth 0 = .ok (.iload_n 1, 1) := by decide +kernel
theorem dX3_changeWorth_1 : decode cX3_changeWorth 1 = .ok (.iconst 0, 1) := by decide +kernel
theorem dX3_changeWorth_2 : decode cX3_changeWorth 2 = .ok (.iconst 3, 1) := by decide +kernel
theorem dX3_changeWorth_3 : decode cX3_changeWorth 3 = .ok (.invokestatic 66, 3) := by decide +kernel
theorem dX3_changeWorth_6 : decode cX3_changeWorth 6 = .ok (.ifCond .eq 14, 3) := by decide +kernel
theorem dX3_changeWorth_9 : decode cX3_changeWorth 9 = .ok (.iload_n 2, 1) := by decide +kernel
theorem dX3_changeWorth_10 : decode cX3_changeWorth 10 = .ok (.iconst 1, 1) := by decide +kernel
theorem dX3_changeWorth_11 : decode cX3_changeWorth 11 = .ok (.sipush 999, 3) := by decide +kernel
theorem dX3_changeWorth_14 : decode cX3_changeWorth 14 = .ok (.invokestatic 66, 3) := by decide +kernel
theorem dX3_changeWorth_17 : decode cX3_changeWorth 17 = .ok (.ifCond .ne 6, 3) := by decide +kernel
theorem dX3_changeWorth_20 : decode cX3_changeWorth 20 = .ok (.ldc 70, 2) := by decide +kernel
theorem dX3_changeWorth_22 : decode cX3_changeWorth 22 = .ok (.ireturn, 1) := by decide +kernel
theorem dX3_changeWorth_23 : decode cX3_changeWorth 23 = .ok (.aload_n 0, 1) := by decide +kernel
theorem dX3_changeWorth_24 : decode cX3_changeWorth 24 = .ok (.getfield 34, 3) := by decide +kernel
theorem dX3_changeWorth_27 : decode cX3_changeWorth 27 = .ok (.iload_n 1, 1) := by decide +kernel
theorem dX3_changeWorth_28 : decode cX3_changeWorth 28 = .ok (.iaload, 1) := by decide +kernel
theorem dX3_changeWorth_29 : decode cX3_changeWorth 29 = .ok (.istore_n 3, 1) := by decide +kernel
theorem dX3_changeWorth_30 : decode cX3_changeWorth 30 = .ok (.aload_n 0, 1) := by decide +kernel
theorem dX3_changeWorth_31 : decode cX3_changeWorth 31 = .ok (.getfield 34, 3) := by decide +kernel
theorem dX3_changeWorth_34 : decode cX3_changeWorth 34 = .ok (.iload_n 1, 1) := by decide +kernel
theorem dX3_changeWorth_35 : decode cX3_changeWorth 35 = .ok (.iload_n 2, 1) := by decide +kernel
theorem dX3_changeWorth_36 : decode cX3_changeWorth 36 = .ok (.iastore, 1) := by decide +kernel
theorem dX3_changeWorth_37 : decode cX3_changeWorth 37 = .ok (.iload_n 3, 1) := by decide +kernel
theorem dX3_changeWorth_38 : decode cX3_changeWorth 38 = .ok (.ireturn, 1) := by decide +kernel
set_option maxRecDepth 20000 in
theorem ggX3_sellContract_X6_isWithin : GoodIn wsX3_sellContract wsX6_isWithin := goodIn_r _ [7] (by decide +kernel) (by decide +kernel)
set_option maxRecDepth 20000 in
theorem gX3_sellContract_X6_isWithin_n66 : GoodIn wsX3_sellContract (wsX6_isWithin) := ggX3_sellContract_X6_isWithin
set_option maxRecDepth 20000 in
theorem ggX3_sellContract_X3_isDeliveryMonth : GoodIn wsX3_sellContract wsX3_isDeliveryMonth := goodIn_r _ [12, 13, 14, 15, 16, 17, 27, 28, 29, 30, 31, 32, 33, 34, 35] (by decide +kernel) (by decide +kernel)
set_option maxRecDepth 20000 in
theorem gX3_sellContract_X3_isDeliveryMonth : GoodIn wsX3_sellContract (wsV RX3 101 RX3 yX3_isDeliveryMonth wsX3_isDeliveryMonth) := goodIn_app (goodIn_of _ (by decide +kernel)) ggX3_sellContract_X3_isDeliveryMonth
set_option maxRecDepth 20000 in
theorem ggX3_sellContract_X0_add : GoodIn wsX3_sellContract wsX0_add := goodIn_r _ [22, 23, 24, 25, 26, 36, 37, 38] (by decide +kernel) (by decide +kernel)
set_option maxRecDepth 20000 in
theorem gX3_sellContract_X0_add : GoodIn wsX3_sellContract (wsV RX3 105 RX0 yX0_add wsX0_add) := goodIn_app (goodIn_of _ (by decide +kernel)) ggX3_sellContract_X0_add
theorem dX3_sellContract_0 : decode cX3_sellContract 0 = .ok (.iload_n 1, 1) := by decide +kernel
theorem dX3_sellContract_1 : decode cX3_sellContract 1 = .ok (.iconst 0, 1) := by decide +kernel
theorem dX3_sellContract_2 : decode cX3_sellContract 2 = .ok (.sipush 999, 3) := by decide +kernel
theorem dX3_sellContract_5 : decode cX3_sellContract 5 = .ok (.invokestatic 66, 3) := by decide +kernel
theorem dX3_sellContract_8 : decode cX3_sellContract 8 = .ok (.ifCond .eq 14, 3) := by decide +kernel
theorem dX3_sellContract_11 : decode cX3_sellContract 11 = .ok (.iload_n 2, 1) := by decide +kernel
theorem dX3_sellContract_12 : decode cX3_sellContract 12 = .ok (.iconst 1, 1) := by decide +kernel
theorem dX3_sellContract_13 : decode cX3_sellContract 13 = .ok (.sipush 999, 3) := by decide +kernel
theorem dX3_sellContract_16 : decode cX3_sellContract 16 = .ok (.invokestatic 66, 3) := by decide +kernel
theorem dX3_sellContract_19 : decode cX3_sellContract 19 = .ok (.ifCond .ne 6, 3) := by decide +kernel
theorem dX3_sellContract_22 : decode cX3_sellContract 22 = .ok (.ldc 70, 2) := by decide +kernel
theorem dX3_sellContract_24 : decode cX3_sellContract 24 = .ok (.ireturn, 1) := by decide +kernel
theorem dX3_sellContract_25 : decode cX3_sellContract 25 = .ok (.iload_n 1, 1) := by decide +kernel
theorem dX3_sellContract_26 : decode cX3_sellContract 26 = .ok (.aload_n 0, 1) := by decide +kernel
theorem dX3_sellContract_27 : decode cX3_sellContract 27 = .ok (.getfield 50, 3) := by decide +kernel
theorem dX3_sellContract_30 : decode cX3_sellContract 30 = .ok (.if_icmp .lt 11, 3) := by decide +kernel
theorem dX3_sellContract_33 : decode cX3_sellContract 33 = .ok (.aload_n 0, 1) := by decide +kernel
theorem dX3_sellContract_34 : decode cX3_sellContract 34 = .ok (.iload_n 1, 1) := by decide +kernel
theorem dX3_sellContract_35 : decode cX3_sellContract 35 = .ok (.invokevirtual 101, 3) := by decide +kernel
theorem dX3_sellContract_38 : decode cX3_sellContract 38 = .ok (.ifCond .ne 6, 3) := by decide +kernel
theorem dX3_sellContract_41 : decode cX3_sellContract 41 = .ok (.ldc 82, 2) := by decide +kernel
theorem dX3_sellContract_43 : decode cX3_sellContract 43 = .ok (.ireturn, 1) := by decide +kernel
theorem dX3_sellContract_44 : decode cX3_sellContract 44 = .ok (.aload_n 0, 1) := by decide +kernel
theorem dX3_sellContract_45 : decode cX3_sellContract 45 = .ok (.getfield 21, 3) := by decide +kernel
theorem dX3_sellContract_48 : decode cX3_sellContract 48 = .ok (.iload_n 1, 1) := by decide +kernel
theorem dX3_sellContract_49 : decode cX3_sellContract 49 = .ok (.iload_n 2, 1) := by decide +kernel
theorem dX3_sellContract_50 : decode cX3_sellContract 50 = .ok (.invokevirtual 105, 3) := by decide +kernel
theorem dX3_sellContract_53 : decode cX3_sellContract 53 = .ok (.ireturn, 1) := by decide +kernel
set_option maxRecDepth 20000 in
theorem ggX3_buyContractBack_X0_isOpen : GoodIn wsX3_buyContractBack wsX0_isOpen := goodIn_r _ [10, 11, 31, 32, 33] (by decide +kernel) (by decide +kernel)
set_option maxRecDepth 20000 in
theorem gX3_buyContractBack_X0_isOpen : GoodIn wsX3_buyContractBack (wsV RX3 107 RX0 yX0_isOpen wsX0_isOpen) := goodIn_app (goodIn_of _ (by decide +kernel)) ggX3_buyContractBack_X0_isOpen
set_option maxRecDepth 20000 in
theorem ggX3_buyContractBack_X6_isWithin : GoodIn wsX3_buyContractBack wsX6_isWithin := goodIn_r _ [14] (by decide +kernel) (by decide +kernel)
set_option maxRecDepth 20000 in
theorem gX3_buyContractBack_X6_isWithin_n66 : GoodIn wsX3_buyContractBack (wsX6_isWithin) := ggX3_buyContractBack_X6_isWithin
set_option maxRecDepth 20000 in
theorem ggX3_buyContractBack_X0_drop : GoodIn wsX3_buyContractBack wsX0_drop := goodIn_r _ [18, 11, 19, 20, 21, 7, 8, 9, 10, 31, 32, 33] (by decide +kernel) (by decide +kernel)
set_option maxRecDepth 20000 in
theorem gX3_buyContractBack_X0_drop : GoodIn wsX3_buyContractBack (wsV RX3 113 RX0 yX0_drop wsX0_drop) := goodIn_app (goodIn_of _ (by decide +kernel)) ggX3_buyContractBack_X0_drop
theorem dX3_buyContractBack_0 : decode cX3_buyContractBack 0 = .ok (.aload_n 0, 1) := by decide +kernel
theorem dX3_buyContractBack_1 : decode cX3_buyContractBack 1 = .ok (.getfield 21, 3) := by decide +kernel
theorem dX3_buyContractBack_4 : decode cX3_buyContractBack 4 = .ok (.iload_n 1, 1) := by decide +kernel
theorem dX3_buyContractBack_5 : decode cX3_buyContractBack 5 = .ok (.invokevirtual 107, 3) := by decide +kernel
theorem dX3_buyContractBack_8 : decode cX3_buyContractBack 8 = .ok (.ifCond .eq 14, 3) := by decide +kernel
theorem dX3_buyContractBack_11 : decode cX3_buyContractBack 11 = .ok (.iload_n 2, 1) := by decide +kernel
theorem dX3_buyContractBack_12 : decode cX3_buyContractBack 12 = .ok (.iconst 1, 1) := by decide +kernel
theorem dX3_buyContractBack_13 : decode cX3_buyContractBack 13 = .ok (.sipush 999, 3) := by decide +kernel
theorem dX3_buyContractBack_16 : decode cX3_buyContractBack 16 = .ok (.invokestatic 66, 3) := by decide +kernel
theorem dX3_buyContractBack_19 : decode cX3_buyContractBack 19 = .ok (.ifCond .ne 6, 3) := by decide +kernel
theorem dX3_buyContractBack_22 : decode cX3_buyContractBack 22 = .ok (.ldc 70, 2) := by decide +kernel
theorem dX3_buyContractBack_24 : decode cX3_buyContractBack 24 = .ok (.ireturn, 1) := by decide +kernel
theorem dX3_buyContractBack_25 : decode cX3_buyContractBack 25 = .ok (.aload_n 0, 1) := by decide +kernel
theorem dX3_buyContractBack_26 : decode cX3_buyContractBack 26 = .ok (.getfield 40, 3) := by decide +kernel
theorem dX3_buyContractBack_29 : decode cX3_buyContractBack 29 = .ok (.iconst 0, 1) := by decide +kernel
theorem dX3_buyContractBack_30 : decode cX3_buyContractBack 30 = .ok (.iaload, 1) := by decide +kernel
theorem dX3_buyContractBack_31 : decode cX3_buyContractBack 31 = .ok (.aload_n 0, 1) := by decide +kernel
theorem dX3_buyContractBack_32 : decode cX3_buyContractBack 32 = .ok (.getfield 21, 3) := by decide +kernel
theorem dX3_buyContractBack_35 : decode cX3_buyContractBack 35 = .ok (.getfield 110, 3) := by decide +kernel
theorem dX3_buyContractBack_38 : decode cX3_buyContractBack 38 = .ok (.iload_n 1, 1) := by decide +kernel
theorem dX3_buyContractBack_39 : decode cX3_buyContractBack 39 = .ok (.iaload, 1) := by decide +kernel
theorem dX3_buyContractBack_40 : decode cX3_buyContractBack 40 = .ok (.iload_n 2, 1) := by decide +kernel
theorem dX3_buyContractBack_41 : decode cX3_buyContractBack 41 = .ok (.isub, 1) := by decide +kernel
theorem dX3_buyContractBack_42 : decode cX3_buyContractBack 42 = .ok (.imul, 1) := by decide +kernel
theorem dX3_buyContractBack_43 : decode cX3_buyContractBack 43 = .ok (.istore_n 3, 1) := by decide +kernel
theorem dX3_buyContractBack_44 : decode cX3_buyContractBack 44 = .ok (.aload_n 0, 1) := by decide +kernel
theorem dX3_buyContractBack_45 : decode cX3_buyContractBack 45 = .ok (.dup, 1) := by decide +kernel
theorem dX3_buyContractBack_46 : decode cX3_buyContractBack 46 = .ok (.getfield 54, 3) := by decide +kernel
theorem dX3_buyContractBack_49 : decode cX3_buyContractBack 49 = .ok (.iload_n 3, 1) := by decide +kernel
theorem dX3_buyContractBack_50 : decode cX3_buyContractBack 50 = .ok (.iadd, 1) := by decide +kernel
theorem dX3_buyContractBack_51 : decode cX3_buyContractBack 51 = .ok (.putfield 54, 3) := by decide +kernel
theorem dX3_buyContractBack_54 : decode cX3_buyContractBack 54 = .ok (.aload_n 0, 1) := by decide +kernel
theorem dX3_buyContractBack_55 : decode cX3_buyContractBack 55 = .ok (.getfield 21, 3) := by decide +kernel
theorem dX3_buyContractBack_58 : decode cX3_buyContractBack 58 = .ok (.iload_n 1, 1) := by decide +kernel
theorem dX3_buyContractBack_59 : decode cX3_buyContractBack 59 = .ok (.invokevirtual 113, 3) := by decide +kernel
theorem dX3_buyContractBack_62 : decode cX3_buyContractBack 62 = .ok (.iload_n 3, 1) := by decide +kernel
theorem dX3_buyContractBack_63 : decode cX3_buyContractBack 63 = .ok (.ireturn, 1) := by decide +kernel
set_option maxRecDepth 20000 in
theorem ggX3_meetContract_X0_isOpen : GoodIn wsX3_meetContract wsX0_isOpen := goodIn_r _ [22, 23, 104, 105, 106] (by decide +kernel) (by decide +kernel)
set_option maxRecDepth 20000 in
theorem gX3_meetContract_X0_isOpen : GoodIn wsX3_meetContract (wsV RX3 107 RX0 yX0_isOpen wsX0_isOpen) := goodIn_app (goodIn_of _ (by decide +kernel)) ggX3_meetContract_X0_isOpen
set_option maxRecDepth 20000 in
theorem ggX3_meetContract_X1_plan : GoodIn wsX3_meetContract wsX1_plan := goodIn_r _ [28, 29, 30, 31, 32, 33, 34, 35, 36, 37, 38, 39, 40, 41, 27, 42, 43, 44, 45, 46, 47, 48, 49, 50, 51, 52, 53, 54, 55, 56, 57, 58, 59, 60, 61, 62, 63, 17, 64, 65, 66, 67, 68, 69, 70, 71, 72, 73, 74, 75, 76, 77, 78, 79, 80, 107, 108, 109, 110, 111, 112, 113, 114, 115, 116, 117, 118, 95, 96, 97, 98, 99, 100, 101, 102, 103, 119, 120, 121, 122, 123, 124] (by decide +kernel) (by decide +kernel)
set_option maxRecDepth 20000 in
theorem gX3_meetContract_X1_plan : GoodIn wsX3_meetContract (wsV RX3 118 RX1 yX1_plan wsX1_plan) := goodIn_app (goodIn_of _ (by decide +kernel)) ggX3_meetContract_X1_plan
set_option maxRecDepth 20000 in
theorem ggX3_meetContract_X4_dropEmpty : GoodIn wsX3_meetContract wsX4_dropEmpty := goodIn_r _ [84, 85, 86, 87, 53, 54, 119, 120, 121, 122, 123, 124] (by decide +kernel) (by decide +kernel)
set_option maxRecDepth 20000 in
theorem gX3_meetContract_X4_dropEmpty : GoodIn wsX3_meetContract (wsV RX3 98 RX4 yX4_dropEmpty wsX4_dropEmpty) := goodIn_app (goodIn_of _ (by decide +kernel)) ggX3_meetContract_X4_dropEmpty
set_option maxRecDepth 20000 in
theorem ggX3_meetContract_X0_drop : GoodIn wsX3_meetContract wsX0_drop := goodIn_r _ [91, 23, 92, 93, 94, 19, 20, 21, 22, 104, 105, 106] (by decide +kernel) (by decide +kernel)
set_option maxRecDepth 20000 in
theorem gX3_meetContract_X0_drop : GoodIn wsX3_meetContract (wsV RX3 113 RX0 yX0_drop wsX0_drop) := goodIn_app (goodIn_of _ (by decide +kernel)) ggX3_meetContract_X0_drop
theorem dX3_meetContract_0 : decode cX3_meetContract 0 = .ok (.aload_n 0, 1) := by decide +kernel
theorem dX3_meetContract_1 : decode cX3_meetContract 1 = .ok (.getfield 21, 3) := by decide +kernel
theorem dX3_meetContract_4 : decode cX3_meetContract 4 = .ok (.iload_n 1, 1) := by decide +kernel
theorem dX3_meetContract_5 : decode cX3_meetContract 5 = .ok (.invokevirtual 107, 3) := by decide +kernel
theorem dX3_meetContract_8 : decode cX3_meetContract 8 = .ok (.ifCond .ne 6, 3) := by decide +kernel
theorem dX3_meetContract_11 : decode cX3_meetContract 11 = .ok (.ldc 70, 2) := by decide +kernel
theorem dX3_meetContract_13 : decode cX3_meetContract 13 = .ok (.ireturn, 1) := by decide +kernel
theorem dX3_meetContract_14 : decode cX3_meetContract 14 = .ok (.aload_n 0, 1) := by decide +kernel
theorem dX3_meetContract_15 : decode cX3_meetContract 15 = .ok (.getfield 21, 3) := by decide +kernel
theorem dX3_meetContract_18 : decode cX3_meetContract 18 = .ok (.getfield 117, 3) := by decide +kernel
theorem dX3_meetContract_21 : decode cX3_meetContract 21 = .ok (.iload_n 1, 1) := by decide +kernel
theorem dX3_meetContract_22 : decode cX3_meetContract 22 = .ok (.iaload, 1) := by decide +kernel
theorem dX3_meetContract_23 : decode cX3_meetContract 23 = .ok (.aload_n 0, 1) := by decide +kernel
theorem dX3_meetContract_24 : decode cX3_meetContract 24 = .ok (.getfield 50, 3) := by decide +kernel
theorem dX3_meetContract_27 : decode cX3_meetContract 27 = .ok (.if_icmp .eq 6, 3) := by decide +kernel
theorem dX3_meetContract_30 : decode cX3_meetContract 30 = .ok (.ldc 82, 2) := by decide +kernel
theorem dX3_meetContract_32 : decode cX3_meetContract 32 = .ok (.ireturn, 1) := by decide +kernel
theorem dX3_meetContract_33 : decode cX3_meetContract 33 = .ok (.aload_n 2, 1) := by decide +kernel
theorem dX3_meetContract_34 : decode cX3_meetContract 34 = .ok (.aload_n 0, 1) := by decide +kernel
theorem dX3_meetContract_35 : decode cX3_meetContract 35 = .ok (.aload_n 0, 1) := by decide +kernel
theorem dX3_meetContract_36 : decode cX3_meetContract 36 = .ok (.getfield 21, 3) := by decide +kernel
theorem dX3_meetContract_39 : decode cX3_meetContract 39 = .ok (.getfield 110, 3) := by decide +kernel
theorem dX3_meetContract_42 : decode cX3_meetContract 42 = .ok (.iload_n 1, 1) := by decide +kernel
theorem dX3_meetContract_43 : decode cX3_meetContract 43 = .ok (.iaload, 1) := by decide +kernel
theorem dX3_meetContract_44 : decode cX3_meetContract 44 = .ok (.aload_n 0, 1) := by decide +kernel
theorem dX3_meetContract_45 : decode cX3_meetContract 45 = .ok (.getfield 50, 3) := by decide +kernel
theorem dX3_meetContract_48 : decode cX3_meetContract 48 = .ok (.invokevirtual 118, 3) := by decide +kernel
theorem dX3_meetContract_51 : decode cX3_meetContract 51 = .ok (.aload_n 2, 1) := by decide +kernel
theorem dX3_meetContract_52 : decode cX3_meetContract 52 = .ok (.getfield 124, 3) := by decide +kernel
theorem dX3_meetContract_55 : decode cX3_meetContract 55 = .ok (.ifCond .le 6, 3) := by decide +kernel
theorem dX3_meetContract_58 : decode cX3_meetContract 58 = .ok (.ldc 82, 2) := by decide +kernel
theorem dX3_meetContract_60 : decode cX3_meetContract 60 = .ok (.ireturn, 1) := by decide +kernel
theorem dX3_meetContract_61 : decode cX3_meetContract 61 = .ok (.iconst 0, 1) := by decide +kernel
theorem dX3_meetContract_62 : decode cX3_meetContract 62 = .ok (.istore_n 3, 1) := by decide +kernel
theorem dX3_meetContract_63 : decode cX3_meetContract 63 = .ok (.iload_n 3, 1) := by decide +kernel
theorem dX3_meetContract_64 : decode cX3_meetContract 64 = .ok (.aload_n 2, 1) := by decide +kernel
theorem dX3_meetContract_65 : decode cX3_meetContract 65 = .ok (.getfield 127, 3) := by decide +kernel
theorem dX3_meetContract_68 : decode cX3_meetContract 68 = .ok (.if_icmp .ge 32, 3) := by decide +kernel
theorem dX3_meetContract_71 : decode cX3_meetContract 71 = .ok (.aload_n 0, 1) := by decide +kernel
theorem dX3_meetContract_72 : decode cX3_meetContract 72 = .ok (.getfield 12, 3) := by decide +kernel
theorem dX3_meetContract_75 : decode cX3_meetContract 75 = .ok (.getfield 79, 3) := by decide +kernel
theorem dX3_meetContract_78 : decode cX3_meetContract 78 = .ok (.aload_n 2, 1) := by decide +kernel
theorem dX3_meetContract_79 : decode cX3_meetContract 79 = .ok (.getfield 130, 3) := by decide +kernel
theorem dX3_meetContract_82 : decode cX3_meetContract 82 = .ok (.iload_n 3, 1) := by decide +kernel
theorem dX3_meetContract_83 : decode cX3_meetContract 83 = .ok (.iaload, 1) := by decide +kernel
theorem dX3_meetContract_84 : decode cX3_meetContract 84 = .ok (.dup2, 1) := by decide +kernel
theorem dX3_meetContract_85 : decode cX3_meetContract 85 = .ok (.iaload, 1) := by decide +kernel
theorem dX3_meetContract_86 : decode cX3_meetContract 86 = .ok (.aload_n 2, 1) := by decide +kernel
theorem dX3_meetContract_87 : decode cX3_meetContract 87 = .ok (.getfield 133, 3) := by decide +kernel
theorem dX3_meetContract_90 : decode cX3_meetContract 90 = .ok (.iload_n 3, 1) := by decide +kernel
theorem dX3_meetContract_91 : decode cX3_meetContract 91 = .ok (.iaload, 1) := by decide +kernel
theorem dX3_meetContract_92 : decode cX3_meetContract 92 = .ok (.isub, 1) := by decide +kernel
theorem dX3_meetContract_93 : decode cX3_meetContract 93 = .ok (.iastore, 1) := by decide +kernel
theorem dX3_meetContract_94 : decode cX3_meetContract 94 = .ok (.iinc 3 1, 3) := by decide +kernel
theorem dX3_meetContract_97 : decode cX3_meetContract 97 = .ok (.goto (-34), 3) := by decide +kernel
theorem dX3_meetContract_100 : decode cX3_meetContract 100 = .ok (.aload_n 0, 1) := by decide +kernel
theorem dX3_meetContract_101 : decode cX3_meetContract 101 = .ok (.getfield 12, 3) := by decide +kernel
theorem dX3_meetContract_104 : decode cX3_meetContract 104 = .ok (.invokevirtual 98, 3) := by decide +kernel
theorem dX3_meetContract_107 : decode cX3_meetContract 107 = .ok (.aload_n 0, 1) := by decide +kernel
theorem dX3_meetContract_108 : decode cX3_meetContract 108 = .ok (.getfield 21, 3) := by decide +kernel
theorem dX3_meetContract_111 : decode cX3_meetContract 111 = .ok (.iload_n 1, 1) := by decide +kernel
theorem dX3_meetContract_112 : decode cX3_meetContract 112 = .ok (.invokevirtual 113, 3) := by decide +kernel
theorem dX3_meetContract_115 : decode cX3_meetContract 115 = .ok (.aload_n 0, 1) := by decide +kernel
theorem dX3_meetContract_116 : decode cX3_meetContract 116 = .ok (.dup, 1) := by decide +kernel
theorem dX3_meetContract_117 : decode cX3_meetContract 117 = .ok (.getfield 54, 3) := by decide +kernel
theorem dX3_meetContract_120 : decode cX3_meetContract 120 = .ok (.aload_n 2, 1) := by decide +kernel
theorem dX3_meetContract_121 : decode cX3_meetContract 121 = .ok (.getfield 134, 3) := by decide +kernel
theorem dX3_meetContract_124 : decode cX3_meetContract 124 = .ok (.iadd, 1) := by decide +kernel
theorem dX3_meetContract_125 : decode cX3_meetContract 125 = .ok (.putfield 54, 3) := by decide +kernel
theorem dX3_meetContract_128 : decode cX3_meetContract 128 = .ok (.aload_n 0, 1) := by decide +kernel
theorem dX3_meetContract_129 : decode cX3_meetContract 129 = .ok (.dup, 1) := by decide +kernel
theorem dX3_meetContract_130 : decode cX3_meetContract 130 = .ok (.getfield 57, 3) := by decide +kernel
theorem dX3_meetContract_133 : decode cX3_meetContract 133 = .ok (.iconst 1, 1) := by decide +kernel
theorem dX3_meetContract_134 : decode cX3_meetContract 134 = .ok (.iadd, 1) := by decide +kernel
theorem dX3_meetContract_135 : decode cX3_meetContract 135 = .ok (.putfield 57, 3) := by decide +kernel
theorem dX3_meetContract_138 : decode cX3_meetContract 138 = .ok (.aload_n 0, 1) := by decide +kernel
theorem dX3_meetContract_139 : decode cX3_meetContract 139 = .ok (.dup, 1) := by decide +kernel
theorem dX3_meetContract_140 : decode cX3_meetContract 140 = .ok (.getfield 63, 3) := by decide +kernel
theorem dX3_meetContract_143 : decode cX3_meetContract 143 = .ok (.aload_n 0, 1) := by decide +kernel
theorem dX3_meetContract_144 : decode cX3_meetContract 144 = .ok (.getfield 40, 3) := by decide +kernel
theorem dX3_meetContract_147 : decode cX3_meetContract 147 = .ok (.iconst 0, 1) := by decide +kernel
theorem dX3_meetContract_148 : decode cX3_meetContract 148 = .ok (.iaload, 1) := by decide +kernel
theorem dX3_meetContract_149 : decode cX3_meetContract 149 = .ok (.iadd, 1) := by decide +kernel
theorem dX3_meetContract_150 : decode cX3_meetContract 150 = .ok (.putfield 63, 3) := by decide +kernel
theorem dX3_meetContract_153 : decode cX3_meetContract 153 = .ok (.aload_n 2, 1) := by decide +kernel
theorem dX3_meetContract_154 : decode cX3_meetContract 154 = .ok (.getfield 134, 3) := by decide +kernel
theorem dX3_meetContract_157 : decode cX3_meetContract 157 = .ok (.ireturn, 1) := by decide +kernel
set_option maxRecDepth 20000 in
theorem ggX3_passMonths_X6_isWithin : GoodIn wsX3_passMonths wsX6_isWithin := goodIn_r _ [10] (by decide +kernel) (by decide +kernel)
set_option maxRecDepth 20000 in
theorem gX3_passMonths_X6_isWithin_n66 : GoodIn wsX3_passMonths (wsX6_isWithin) := ggX3_passMonths_X6_isWithin
set_option maxRecDepth 20000 in
theorem ggX3_passMonths_X0_dropBefore : GoodIn wsX3_passMonths wsX0_dropBefore := goodIn_r _ [15, 16, 17, 18, 28, 29, 30] (by decide +kernel) (by decide +kernel)
set_option maxRecDepth 20000 in
theorem gX3_passMonths_X0_dropBefore : GoodIn wsX3_passMonths (wsV RX3 137 RX0 yX0_dropBefore wsX0_dropBefore) := goodIn_app (goodIn_of _ (by decide +kernel)) ggX3_passMonths_X0_dropBefore
theorem dX3_passMonths_0 : decode cX3_passMonths 0 = .ok (.iload_n 1, 1) := by decide +kernel
theorem dX3_passMonths_1 : decode cX3_passMonths 1 = .ok (.iconst 1, 1) := by decide +kernel
theorem dX3_passMonths_2 : decode cX3_passMonths 2 = .ok (.bipush 24, 2) := by decide +kernel
theorem dX3_passMonths_4 : decode cX3_passMonths 4 = .ok (.invokestatic 66, 3) := by decide +kernel
theorem dX3_passMonths_7 : decode cX3_passMonths 7 = .ok (.ifCond .ne 6, 3) := by decide +kernel
theorem dX3_passMonths_10 : decode cX3_passMonths 10 = .ok (.ldc 70, 2) := by decide +kernel
theorem dX3_passMonths_12 : decode cX3_passMonths 12 = .ok (.ireturn, 1) := by decide +kernel
theorem dX3_passMonths_13 : decode cX3_passMonths 13 = .ok (.aload_n 0, 1) := by decide +kernel
theorem dX3_passMonths_14 : decode cX3_passMonths 14 = .ok (.getfield 50, 3) := by decide +kernel
theorem dX3_passMonths_17 : decode cX3_passMonths 17 = .ok (.iload_n 1, 1) := by decide +kernel
theorem dX3_passMonths_18 : decode cX3_passMonths 18 = .ok (.iadd, 1) := by decide +kernel
theorem dX3_passMonths_19 : decode cX3_passMonths 19 = .ok (.sipush 999, 3) := by decide +kernel
theorem dX3_passMonths_22 : decode cX3_passMonths 22 = .ok (.if_icmp .le 6, 3) := by decide +kernel
theorem dX3_passMonths_25 : decode cX3_passMonths 25 = .ok (.ldc 87, 2) := by decide +kernel
theorem dX3_passMonths_27 : decode cX3_passMonths 27 = .ok (.ireturn, 1) := by decide +kernel
theorem dX3_passMonths_28 : decode cX3_passMonths 28 = .ok (.aload_n 0, 1) := by decide +kernel
theorem dX3_passMonths_29 : decode cX3_passMonths 29 = .ok (.dup, 1) := by decide +kernel
theorem dX3_passMonths_30 : decode cX3_passMonths 30 = .ok (.getfield 50, 3) := by decide +kernel
theorem dX3_passMonths_33 : decode cX3_passMonths 33 = .ok (.iload_n 1, 1) := by decide +kernel
theorem dX3_passMonths_34 : decode cX3_passMonths 34 = .ok (.iadd, 1) := by decide +kernel
theorem dX3_passMonths_35 : decode cX3_passMonths 35 = .ok (.putfield 50, 3) := by decide +kernel
theorem dX3_passMonths_38 : decode cX3_passMonths 38 = .ok (.aload_n 0, 1) := by decide +kernel
theorem dX3_passMonths_39 : decode cX3_passMonths 39 = .ok (.getfield 21, 3) := by decide +kernel
theorem dX3_passMonths_42 : decode cX3_passMonths 42 = .ok (.aload_n 0, 1) := by decide +kernel
theorem dX3_passMonths_43 : decode cX3_passMonths 43 = .ok (.getfield 50, 3) := by decide +kernel
theorem dX3_passMonths_46 : decode cX3_passMonths 46 = .ok (.invokevirtual 137, 3) := by decide +kernel
theorem dX3_passMonths_49 : decode cX3_passMonths 49 = .ok (.istore_n 2, 1) := by decide +kernel
theorem dX3_passMonths_50 : decode cX3_passMonths 50 = .ok (.aload_n 0, 1) := by decide +kernel
theorem dX3_passMonths_51 : decode cX3_passMonths 51 = .ok (.dup, 1) := by decide +kernel
theorem dX3_passMonths_52 : decode cX3_passMonths 52 = .ok (.getfield 60, 3) := by decide +kernel
theorem dX3_passMonths_55 : decode cX3_passMonths 55 = .ok (.iload_n 2, 1) := by decide +kernel
theorem dX3_passMonths_56 : decode cX3_passMonths 56 = .ok (.iadd, 1) := by decide +kernel
theorem dX3_passMonths_57 : decode cX3_passMonths 57 = .ok (.putfield 60, 3) := by decide +kernel
theorem dX3_passMonths_60 : decode cX3_passMonths 60 = .ok (.aload_n 0, 1) := by decide +kernel
theorem dX3_passMonths_61 : decode cX3_passMonths 61 = .ok (.dup, 1) := by decide +kernel
theorem dX3_passMonths_62 : decode cX3_passMonths 62 = .ok (.getfield 54, 3) := by decide +kernel
theorem dX3_passMonths_65 : decode cX3_passMonths 65 = .ok (.iload_n 2, 1) := by decide +kernel
theorem dX3_passMonths_66 : decode cX3_passMonths 66 = .ok (.aload_n 0, 1) := by decide +kernel
theorem dX3_passMonths_67 : decode cX3_passMonths 67 = .ok (.getfield 40, 3) := by decide +kernel
theorem dX3_passMonths_70 : decode cX3_passMonths 70 = .ok (.iconst 0, 1) := by decide +kernel
theorem dX3_passMonths_71 : decode cX3_passMonths 71 = .ok (.iaload, 1) := by decide +kernel
theorem dX3_passMonths_72 : decode cX3_passMonths 72 = .ok (.imul, 1) := by decide +kernel
theorem dX3_passMonths_73 : decode cX3_passMonths 73 = .ok (.aload_n 0, 1) := by decide +kernel
theorem dX3_passMonths_74 : decode cX3_passMonths 74 = .ok (.getfield 40, 3) := by decide +kernel
theorem dX3_passMonths_77 : decode cX3_passMonths 77 = .ok (.iconst 4, 1) := by decide +kernel
theorem dX3_passMonths_78 : decode cX3_passMonths 78 = .ok (.iaload, 1) := by decide +kernel
theorem dX3_passMonths_79 : decode cX3_passMonths 79 = .ok (.imul, 1) := by decide +kernel
theorem dX3_passMonths_80 : decode cX3_passMonths 80 = .ok (.isub, 1) := by decide +kernel
theorem dX3_passMonths_81 : decode cX3_passMonths 81 = .ok (.putfield 54, 3) := by decide +kernel
theorem dX3_passMonths_84 : decode cX3_passMonths 84 = .ok (.iload_n 2, 1) := by decide +kernel
theorem dX3_passMonths_85 : decode cX3_passMonths 85 = .ok (.ireturn, 1) := by decide +kernel
set_option maxRecDepth 20000 in
theorem ggX3_changeSetting_X6_isWithin : GoodIn wsX3_changeSetting wsX6_isWithin := goodIn_r _ [8] (by decide +kernel) (by decide +kernel)
set_option maxRecDepth 20000 in
theorem gX3_changeSetting_X6_isWithin_n66 : GoodIn wsX3_changeSetting (wsX6_isWithin) := ggX3_changeSetting_X6_isWithin
theorem dX3_changeSetting_0 : decode cX3_changeSetting 0 = .ok (.iload_n 1, 1) := by decide +kernel
theorem dX3_changeSetting_1 : decode cX3_changeSetting 1 = .ok (.iconst 0, 1) := by decide +kernel
theorem dX3_changeSetting_2 : decode cX3_changeSetting 2 = .ok (.iconst 4, 1) := by decide +kernel
theorem dX3_changeSetting_3 : decode cX3_changeSetting 3 = .ok (.invokestatic 66, 3) := by decide +kernel
theorem dX3_changeSetting_6 : decode cX3_changeSetting 6 = .ok (.ifCond .eq 20, 3) := by decide +kernel
theorem dX3_changeSetting_9 : decode cX3_changeSetting 9 = .ok (.iload_n 2, 1) := by decide +kernel
theorem dX3_changeSetting_10 : decode cX3_changeSetting 10 = .ok (.getstatic 140, 3) := by decide +kernel
theorem dX3_changeSetting_13 : decode cX3_changeSetting 13 = .ok (.iload_n 1, 1) := by decide +kernel
theorem dX3_changeSetting_14 : decode cX3_changeSetting 14 = .ok (.iaload, 1) := by decide +kernel
theorem dX3_changeSetting_15 : decode cX3_changeSetting 15 = .ok (.getstatic 143, 3) := by decide +kernel
theorem dX3_changeSetting_18 : decode cX3_changeSetting 18 = .ok (.iload_n 1, 1) := by decide +kernel
theorem dX3_changeSetting_19 : decode cX3_changeSetting 19 = .ok (.iaload, 1) := by decide +kernel
theorem dX3_changeSetting_20 : decode cX3_changeSetting 20 = .ok (.invokestatic 66, 3) := by decide +kernel
theorem dX3_changeSetting_23 : decode cX3_changeSetting 23 = .ok (.ifCond .ne 6, 3) := by decide +kernel
theorem dX3_changeSetting_26 : decode cX3_changeSetting 26 = .ok (.ldc 70, 2) := by decide +kernel
theorem dX3_changeSetting_28 : decode cX3_changeSetting 28 = .ok (.ireturn, 1) := by decide +kernel
theorem dX3_changeSetting_29 : decode cX3_changeSetting 29 = .ok (.iload_n 1, 1) := by decide +kernel
theorem dX3_changeSetting_30 : decode cX3_changeSetting 30 = .ok (.ifCond .ne 16, 3) := by decide +kernel
theorem dX3_changeSetting_33 : decode cX3_changeSetting 33 = .ok (.aload_n 0, 1) := by decide +kernel
theorem dX3_changeSetting_34 : decode cX3_changeSetting 34 = .ok (.getfield 21, 3) := by decide +kernel
theorem dX3_changeSetting_37 : decode cX3_changeSetting 37 = .ok (.getfield 146, 3) := by decide +kernel
theorem dX3_changeSetting_40 : decode cX3_changeSetting 40 = .ok (.ifCond .le 6, 3) := by decide +kernel
theorem dX3_changeSetting_43 : decode cX3_changeSetting 43 = .ok (.ldc 82, 2) := by decide +kernel
theorem dX3_changeSetting_45 : decode cX3_changeSetting 45 = .ok (.ireturn, 1) := by decide +kernel
theorem dX3_changeSetting_46 : decode cX3_changeSetting 46 = .ok (.aload_n 0, 1) := by decide +kernel
theorem dX3_changeSetting_47 : decode cX3_changeSetting 47 = .ok (.getfield 40, 3) := by decide +kernel
theorem dX3_changeSetting_50 : decode cX3_changeSetting 50 = .ok (.iload_n 1, 1) := by decide +kernel
theorem dX3_changeSetting_51 : decode cX3_changeSetting 51 = .ok (.iaload, 1) := by decide +kernel
theorem dX3_changeSetting_52 : decode cX3_changeSetting 52 = .ok (.istore_n 3, 1) := by decide +kernel
theorem dX3_changeSetting_53 : decode cX3_changeSetting 53 = .ok (.aload_n 0, 1) := by decide +kernel
theorem dX3_changeSetting_54 : decode cX3_changeSetting 54 = .ok (.getfield 40, 3) := by decide +kernel
theorem dX3_changeSetting_57 : decode cX3_changeSetting 57 = .ok (.iload_n 1, 1) := by decide +kernel
theorem dX3_changeSetting_58 : decode cX3_changeSetting 58 = .ok (.iload_n 2, 1) := by decide +kernel
theorem dX3_changeSetting_59 : decode cX3_changeSetting 59 = .ok (.iastore, 1) := by decide +kernel
theorem dX3_changeSetting_60 : decode cX3_changeSetting 60 = .ok (.iload_n 3, 1) := by decide +kernel
theorem dX3_changeSetting_61 : decode cX3_changeSetting 61 = .ok (.ireturn, 1) := by decide +kernel
set_option maxRecDepth 20000 in
theorem ggX3_isDeliveryMonth_J9_floorMod_7cf53 : GoodIn wsX3_isDeliveryMonth wsJ9_floorMod_7cf53 := goodIn_r _ [5] (by decide +kernel) (by decide +kernel)
set_option maxRecDepth 20000 in
theorem gX3_isDeliveryMonth_J9_floorMod_7cf53 : GoodIn wsX3_isDeliveryMonth (va_wsS RX3 149 yJ9_floorMod_7cf53 wsJ9_floorMod_7cf53) := goodIn_app (goodIn_of _ (by decide +kernel)) ggX3_isDeliveryMonth_J9_floorMod_7cf53
theorem dX3_isDeliveryMonth_0 : decode cX3_isDeliveryMonth 0 = .ok (.aload_n 0, 1) := by decide +kernel
theorem dX3_isDeliveryMonth_1 : decode cX3_isDeliveryMonth 1 = .ok (.getfield 40, 3) := by decide +kernel
theorem dX3_isDeliveryMonth_4 : decode cX3_isDeliveryMonth 4 = .ok (.iconst 1, 1) := by decide +kernel
theorem dX3_isDeliveryMonth_5 : decode cX3_isDeliveryMonth 5 = .ok (.iaload, 1) := by decide +kernel
theorem dX3_isDeliveryMonth_6 : decode cX3_isDeliveryMonth 6 = .ok (.iload_n 1, 1) := by decide +kernel
theorem dX3_isDeliveryMonth_7 : decode cX3_isDeliveryMonth 7 = .ok (.bipush 12, 2) := by decide +kernel
theorem dX3_isDeliveryMonth_9 : decode cX3_isDeliveryMonth 9 = .ok (.invokestatic 149, 3) := by decide +kernel
theorem dX3_isDeliveryMonth_12 : decode cX3_isDeliveryMonth 12 = .ok (.ishr, 1) := by decide +kernel
theorem dX3_isDeliveryMonth_13 : decode cX3_isDeliveryMonth 13 = .ok (.iconst 1, 1) := by decide +kernel
theorem dX3_isDeliveryMonth_14 : decode cX3_isDeliveryMonth 14 = .ok (.iand, 1) := by decide +kernel
theorem dX3_isDeliveryMonth_15 : decode cX3_isDeliveryMonth 15 = .ok (.iconst 1, 1) := by decide +kernel
theorem dX3_isDeliveryMonth_16 : decode cX3_isDeliveryMonth 16 = .ok (.if_icmp .ne 7, 3) := by decide +kernel
theorem dX3_isDeliveryMonth_19 : decode cX3_isDeliveryMonth 19 = .ok (.iconst 1, 1) := by decide +kernel
theorem dX3_isDeliveryMonth_20 : decode cX3_isDeliveryMonth 20 = .ok (.goto 4, 3) := by decide +kernel
theorem dX3_isDeliveryMonth_23 : decode cX3_isDeliveryMonth 23 = .ok (.iconst 0, 1) := by decide +kernel
theorem dX3_isDeliveryMonth_24 : decode cX3_isDeliveryMonth 24 = .ok (.ireturn, 1) := by decide +kernel
theorem dX3_payForBag_0 : decode cX3_payForBag 0 = .ok (.iload_n 1, 1) := by decide +kernel
theorem dX3_payForBag_1 : decode cX3_payForBag 1 = .ok (.iload_n 2, 1) := by decide +kernel
theorem dX3_payForBag_2 : decode cX3_payForBag 2 = .ok (.bipush 80, 2) := by decide +kernel
theorem dX3_payForBag_4 : decode cX3_payForBag 4 = .ok (.isub, 1) := by decide +kernel
theorem dX3_payForBag_5 : decode cX3_payForBag 5 = .ok (.aload_n 0, 1) := by decide +kernel
theorem dX3_payForBag_6 : decode cX3_payForBag 6 = .ok (.getfield 40, 3) := by decide +kernel
theorem dX3_payForBag_9 : decode cX3_payForBag 9 = .ok (.iconst 2, 1) := by decide +kernel
theorem dX3_payForBag_10 : decode cX3_payForBag 10 = .ok (.iaload, 1) := by decide +kernel
theorem dX3_payForBag_11 : decode cX3_payForBag 11 = .ok (.imul, 1) := by decide +kernel
theorem dX3_payForBag_12 : decode cX3_payForBag 12 = .ok (.iadd, 1) := by decide +kernel
theorem dX3_payForBag_13 : decode cX3_payForBag 13 = .ok (.aload_n 0, 1) := by decide +kernel
theorem dX3_payForBag_14 : decode cX3_payForBag 14 = .ok (.getfield 40, 3) := by decide +kernel
theorem dX3_payForBag_17 : decode cX3_payForBag 17 = .ok (.iconst 3, 1) := by decide +kernel
theorem dX3_payForBag_18 : decode cX3_payForBag 18 = .ok (.iaload, 1) := by decide +kernel
theorem dX3_payForBag_19 : decode cX3_payForBag 19 = .ok (.iload_n 3, 1) := by decide +kernel
theorem dX3_payForBag_20 : decode cX3_payForBag 20 = .ok (.imul, 1) := by decide +kernel
theorem dX3_payForBag_21 : decode cX3_payForBag 21 = .ok (.isub, 1) := by decide +kernel
theorem dX3_payForBag_22 : decode cX3_payForBag 22 = .ok (.istore 4, 2) := by decide +kernel
theorem dX3_payForBag_24 : decode cX3_payForBag 24 = .ok (.iload 4, 2) := by decide +kernel
theorem dX3_payForBag_26 : decode cX3_payForBag 26 = .ok (.iconst 1, 1) := by decide +kernel
theorem dX3_payForBag_27 : decode cX3_payForBag 27 = .ok (.if_icmp .ge 7, 3) := by decide +kernel
theorem dX3_payForBag_30 : decode cX3_payForBag 30 = .ok (.iconst 1, 1) := by decide +kernel
theorem dX3_payForBag_31 : decode cX3_payForBag 31 = .ok (.goto 5, 3) := by decide +kernel
theorem dX3_payForBag_34 : decode cX3_payForBag 34 = .ok (.iload 4, 2) := by decide +kernel
theorem dX3_payForBag_36 : decode cX3_payForBag 36 = .ok (.ireturn, 1) := by decide +kernel
set_option maxRecDepth 20000 in
theorem ggX3_tellOfLot_X4_cupAt : GoodIn wsX3_tellOfLot wsX4_cupAt := goodIn_r _ [12, 13, 14, 31, 32, 33, 34, 35, 36] (by decide +kernel) (by decide +kernel)
set_option maxRecDepth 20000 in
theorem gX3_tellOfLot_X4_cupAt : GoodIn wsX3_tellOfLot (wsV RX3 94 RX4 yX4_cupAt wsX4_cupAt) := goodIn_app (goodIn_of _ (by decide +kernel)) ggX3_tellOfLot_X4_cupAt
set_option maxRecDepth 20000 in
theorem ggX3_tellOfLot_X6_bandOf : GoodIn wsX3_tellOfLot wsX6_bandOf := goodIn_r _ [17] (by decide +kernel) (by decide +kernel)
set_option maxRecDepth 20000 in
theorem gX3_tellOfLot_X6_bandOf_n154 : GoodIn wsX3_tellOfLot (wsX6_bandOf) := ggX3_tellOfLot_X6_bandOf
set_option maxRecDepth 20000 in
theorem ggX3_tellOfLot_X4_monthsTooOld : GoodIn wsX3_tellOfLot wsX4_monthsTooOld := goodIn_r _ [21, 14, 31, 32, 33, 34, 35, 36] (by decide +kernel) (by decide +kernel)
set_option maxRecDepth 20000 in
theorem gX3_tellOfLot_X4_monthsTooOld : GoodIn wsX3_tellOfLot (wsV RX3 157 RX4 yX4_monthsTooOld wsX4_monthsTooOld) := goodIn_app (goodIn_of _ (by decide +kernel)) ggX3_tellOfLot_X4_monthsTooOld
theorem dX3_tellOfLot_0 : decode cX3_tellOfLot 0 = .ok (.iload_n 2, 1) := by decide +kernel
theorem dX3_tellOfLot_1 : decode cX3_tellOfLot 1 = .ok (.tableswitch 136 0 6 #[43, 53, 63, 73, 86, 107, 120], 43) := by decide +kernel
theorem dX3_tellOfLot_44 : decode cX3_tellOfLot 44 = .ok (.aload_n 0, 1) := by decide +kernel
theorem dX3_tellOfLot_45 : decode cX3_tellOfLot 45 = .ok (.getfield 12, 3) := by decide +kernel
theorem dX3_tellOfLot_48 : decode cX3_tellOfLot 48 = .ok (.getfield 79, 3) := by decide +kernel
theorem dX3_tellOfLot_51 : decode cX3_tellOfLot 51 = .ok (.iload_n 1, 1) := by decide +kernel
theorem dX3_tellOfLot_52 : decode cX3_tellOfLot 52 = .ok (.iaload, 1) := by decide +kernel
theorem dX3_tellOfLot_53 : decode cX3_tellOfLot 53 = .ok (.ireturn, 1) := by decide +kernel
theorem dX3_tellOfLot_54 : decode cX3_tellOfLot 54 = .ok (.aload_n 0, 1) := by decide +kernel
theorem dX3_tellOfLot_55 : decode cX3_tellOfLot 55 = .ok (.getfield 12, 3) := by decide +kernel
theorem dX3_tellOfLot_58 : decode cX3_tellOfLot 58 = .ok (.getfield 88, 3) := by decide +kernel
theorem dX3_tellOfLot_61 : decode cX3_tellOfLot 61 = .ok (.iload_n 1, 1) := by decide +kernel
theorem dX3_tellOfLot_62 : decode cX3_tellOfLot 62 = .ok (.iaload, 1) := by decide +kernel
theorem dX3_tellOfLot_63 : decode cX3_tellOfLot 63 = .ok (.ireturn, 1) := by decide +kernel
theorem dX3_tellOfLot_64 : decode cX3_tellOfLot 64 = .ok (.aload_n 0, 1) := by decide +kernel
theorem dX3_tellOfLot_65 : decode cX3_tellOfLot 65 = .ok (.getfield 12, 3) := by decide +kernel
theorem dX3_tellOfLot_68 : decode cX3_tellOfLot 68 = .ok (.getfield 91, 3) := by decide +kernel
theorem dX3_tellOfLot_71 : decode cX3_tellOfLot 71 = .ok (.iload_n 1, 1) := by decide +kernel
theorem dX3_tellOfLot_72 : decode cX3_tellOfLot 72 = .ok (.iaload, 1) := by decide +kernel
theorem dX3_tellOfLot_73 : decode cX3_tellOfLot 73 = .ok (.ireturn, 1) := by decide +kernel
theorem dX3_tellOfLot_74 : decode cX3_tellOfLot 74 = .ok (.aload_n 0, 1) := by decide +kernel
theorem dX3_tellOfLot_75 : decode cX3_tellOfLot 75 = .ok (.getfield 12, 3) := by decide +kernel
theorem dX3_tellOfLot_78 : decode cX3_tellOfLot 78 = .ok (.iload_n 1, 1) := by decide +kernel
theorem dX3_tellOfLot_79 : decode cX3_tellOfLot 79 = .ok (.aload_n 0, 1) := by decide +kernel
theorem dX3_tellOfLot_80 : decode cX3_tellOfLot 80 = .ok (.getfield 50, 3) := by decide +kernel
theorem dX3_tellOfLot_83 : decode cX3_tellOfLot 83 = .ok (.invokevirtual 94, 3) := by decide +kernel
theorem dX3_tellOfLot_86 : decode cX3_tellOfLot 86 = .ok (.ireturn, 1) := by decide +kernel
theorem dX3_tellOfLot_87 : decode cX3_tellOfLot 87 = .ok (.aload_n 0, 1) := by decide +kernel
theorem dX3_tellOfLot_88 : decode cX3_tellOfLot 88 = .ok (.getfield 34, 3) := by decide +kernel
theorem dX3_tellOfLot_91 : decode cX3_tellOfLot 91 = .ok (.aload_n 0, 1) := by decide +kernel
theorem dX3_tellOfLot_92 : decode cX3_tellOfLot 92 = .ok (.getfield 12, 3) := by decide +kernel
theorem dX3_tellOfLot_95 : decode cX3_tellOfLot 95 = .ok (.iload_n 1, 1) := by decide +kernel
theorem dX3_tellOfLot_96 : decode cX3_tellOfLot 96 = .ok (.aload_n 0, 1) := by decide +kernel
theorem dX3_tellOfLot_97 : decode cX3_tellOfLot 97 = .ok (.getfield 50, 3) := by decide +kernel
theorem dX3_tellOfLot_100 : decode cX3_tellOfLot 100 = .ok (.invokevirtual 94, 3) := by decide +kernel
theorem dX3_tellOfLot_103 : decode cX3_tellOfLot 103 = .ok (.invokestatic 154, 3) := by decide +kernel
theorem dX3_tellOfLot_106 : decode cX3_tellOfLot 106 = .ok (.iaload, 1) := by decide +kernel
theorem dX3_tellOfLot_107 : decode cX3_tellOfLot 107 = .ok (.ireturn, 1) := by decide +kernel
theorem dX3_tellOfLot_108 : decode cX3_tellOfLot 108 = .ok (.aload_n 0, 1) := by decide +kernel
theorem dX3_tellOfLot_109 : decode cX3_tellOfLot 109 = .ok (.getfield 12, 3) := by decide +kernel
theorem dX3_tellOfLot_112 : decode cX3_tellOfLot 112 = .ok (.iload_n 1, 1) := by decide +kernel
theorem dX3_tellOfLot_113 : decode cX3_tellOfLot 113 = .ok (.aload_n 0, 1) := by decide +kernel
theorem dX3_tellOfLot_114 : decode cX3_tellOfLot 114 = .ok (.getfield 50, 3) := by decide +kernel
theorem dX3_tellOfLot_117 : decode cX3_tellOfLot 117 = .ok (.invokevirtual 157, 3) := by decide +kernel
theorem dX3_tellOfLot_120 : decode cX3_tellOfLot 120 = .ok (.ireturn, 1) := by decide +kernel
theorem dX3_tellOfLot_121 : decode cX3_tellOfLot 121 = .ok (.aload_n 0, 1) := by decide +kernel
theorem dX3_tellOfLot_122 : decode cX3_tellOfLot 122 = .ok (.getfield 12, 3) := by decide +kernel
theorem dX3_tellOfLot_125 : decode cX3_tellOfLot 125 = .ok (.iload_n 1, 1) := by decide +kernel
theorem dX3_tellOfLot_126 : decode cX3_tellOfLot 126 = .ok (.aload_n 0, 1) := by decide +kernel
theorem dX3_tellOfLot_127 : decode cX3_tellOfLot 127 = .ok (.getfield 50, 3) := by decide +kernel
theorem dX3_tellOfLot_130 : decode cX3_tellOfLot 130 = .ok (.invokevirtual 94, 3) := by decide +kernel
theorem dX3_tellOfLot_133 : decode cX3_tellOfLot 133 = .ok (.invokestatic 154, 3) := by decide +kernel
theorem dX3_tellOfLot_136 : decode cX3_tellOfLot 136 = .ok (.ireturn, 1) := by decide +kernel
theorem dX3_tellOfLot_137 : decode cX3_tellOfLot 137 = .ok (.ldc 70, 2) := by decide +kernel
theorem dX3_tellOfLot_139 : decode cX3_tellOfLot 139 = .ok (.ireturn, 1) := by decide +kernel
set_option maxRecDepth 20000 in
theorem ggX3_tellCount_X4_allBags : GoodIn wsX3_tellCount wsX4_allBags := goodIn_r _ [16, 17, 18, 38, 39, 40, 41, 42, 43] (by decide +kernel) (by decide +kernel)
set_option maxRecDepth 20000 in
theorem gX3_tellCount_X4_allBags : GoodIn wsX3_tellCount (wsV RX3 161 RX4 yX4_allBags wsX4_allBags) := goodIn_app (goodIn_of _ (by decide +kernel)) ggX3_tellCount_X4_allBags
set_option maxRecDepth 20000 in
theorem ggX3_tellCount_X4_bagsToGive : GoodIn wsX3_tellCount wsX4_bagsToGive := goodIn_r _ [22, 17, 18, 23, 24, 25, 15, 26, 27, 28, 38, 39, 40, 41, 42, 43] (by decide +kernel) (by decide +kernel)
set_option maxRecDepth 20000 in
theorem gX3_tellCount_X4_bagsToGive : GoodIn wsX3_tellCount (wsV RX3 165 RX4 yX4_bagsToGive wsX4_bagsToGive) := goodIn_app (goodIn_of _ (by decide +kernel)) ggX3_tellCount_X4_bagsToGive
theorem dX3_tellCount_0 : decode cX3_tellCount 0 = .ok (.iload_n 1, 1) := by decide +kernel
theorem dX3_tellCount_1 : decode cX3_tellCount 1 = .ok (.tableswitch 124 0 9 #[55, 63, 71, 76, 84, 89, 94, 99, 104, 116], 55) := by decide +kernel
theorem dX3_tellCount_56 : decode cX3_tellCount 56 = .ok (.aload_n 0, 1) := by decide +kernel
theorem dX3_tellCount_57 : decode cX3_tellCount 57 = .ok (.getfield 12, 3) := by decide +kernel
theorem dX3_tellCount_60 : decode cX3_tellCount 60 = .ok (.getfield 160, 3) := by decide +kernel
theorem dX3_tellCount_63 : decode cX3_tellCount 63 = .ok (.ireturn, 1) := by decide +kernel
theorem dX3_tellCount_64 : decode cX3_tellCount 64 = .ok (.aload_n 0, 1) := by decide +kernel
theorem dX3_tellCount_65 : decode cX3_tellCount 65 = .ok (.getfield 12, 3) := by decide +kernel
theorem dX3_tellCount_68 : decode cX3_tellCount 68 = .ok (.invokevirtual 161, 3) := by decide +kernel
theorem dX3_tellCount_71 : decode cX3_tellCount 71 = .ok (.ireturn, 1) := by decide +kernel
theorem dX3_tellCount_72 : decode cX3_tellCount 72 = .ok (.aload_n 0, 1) := by decide +kernel
theorem dX3_tellCount_73 : decode cX3_tellCount 73 = .ok (.getfield 50, 3) := by decide +kernel
theorem dX3_tellCount_76 : decode cX3_tellCount 76 = .ok (.ireturn, 1) := by decide +kernel
theorem dX3_tellCount_77 : decode cX3_tellCount 77 = .ok (.aload_n 0, 1) := by decide +kernel
theorem dX3_tellCount_78 : decode cX3_tellCount 78 = .ok (.getfield 21, 3) := by decide +kernel
theorem dX3_tellCount_81 : decode cX3_tellCount 81 = .ok (.getfield 146, 3) := by decide +kernel
theorem dX3_tellCount_84 : decode cX3_tellCount 84 = .ok (.ireturn, 1) := by decide +kernel
theorem dX3_tellCount_85 : decode cX3_tellCount 85 = .ok (.aload_n 0, 1) := by decide +kernel
theorem dX3_tellCount_86 : decode cX3_tellCount 86 = .ok (.getfield 54, 3) := by decide +kernel
theorem dX3_tellCount_89 : decode cX3_tellCount 89 = .ok (.ireturn, 1) := by decide +kernel
theorem dX3_tellCount_90 : decode cX3_tellCount 90 = .ok (.aload_n 0, 1) := by decide +kernel
theorem dX3_tellCount_91 : decode cX3_tellCount 91 = .ok (.getfield 57, 3) := by decide +kernel
theorem dX3_tellCount_94 : decode cX3_tellCount 94 = .ok (.ireturn, 1) := by decide +kernel
theorem dX3_tellCount_95 : decode cX3_tellCount 95 = .ok (.aload_n 0, 1) := by decide +kernel
theorem dX3_tellCount_96 : decode cX3_tellCount 96 = .ok (.getfield 60, 3) := by decide +kernel
theorem dX3_tellCount_99 : decode cX3_tellCount 99 = .ok (.ireturn, 1) := by decide +kernel
theorem dX3_tellCount_100 : decode cX3_tellCount 100 = .ok (.aload_n 0, 1) := by decide +kernel
theorem dX3_tellCount_101 : decode cX3_tellCount 101 = .ok (.getfield 63, 3) := by decide +kernel
theorem dX3_tellCount_104 : decode cX3_tellCount 104 = .ok (.ireturn, 1) := by decide +kernel
theorem dX3_tellCount_105 : decode cX3_tellCount 105 = .ok (.aload_n 0, 1) := by decide +kernel
theorem dX3_tellCount_106 : decode cX3_tellCount 106 = .ok (.getfield 12, 3) := by decide +kernel
theorem dX3_tellCount_109 : decode cX3_tellCount 109 = .ok (.aload_n 0, 1) := by decide +kernel
theorem dX3_tellCount_110 : decode cX3_tellCount 110 = .ok (.getfield 50, 3) := by decide +kernel
theorem dX3_tellCount_113 : decode cX3_tellCount 113 = .ok (.invokevirtual 165, 3) := by decide +kernel
theorem dX3_tellCount_116 : decode cX3_tellCount 116 = .ok (.ireturn, 1) := by decide +kernel
theorem dX3_tellCount_117 : decode cX3_tellCount 117 = .ok (.aload_n 0, 1) := by decide +kernel
theorem dX3_tellCount_118 : decode cX3_tellCount 118 = .ok (.getfield 12, 3) := by decide +kernel
theorem dX3_tellCount_121 : decode cX3_tellCount 121 = .ok (.getfield 168, 3) := by decide +kernel
theorem dX3_tellCount_124 : decode cX3_tellCount 124 = .ok (.ireturn, 1) := by decide +kernel
theorem dX3_tellCount_125 : decode cX3_tellCount 125 = .ok (.ldc 70, 2) := by decide +kernel
theorem dX3_tellCount_127 : decode cX3_tellCount 127 = .ok (.ireturn, 1) := by decide +kernel
theorem dX4_init_0 : decode cX4_init 0 = .ok (.aload_n 0, 1) := by decide +kernel
theorem dX4_init_1 : decode cX4_init 1 = .ok (.invokespecial 3, 3) := by decide +kernel
theorem dX4_init_4 : decode cX4_init 4 = .ok (.aload_n 0, 1) := by decide +kernel
theorem dX4_init_5 : decode cX4_init 5 = .ok (.bipush 12, 2) := by decide +kernel
theorem dX4_init_7 : decode cX4_init 7 = .ok (.newarray .int, 2) := by decide +kernel
theorem dX4_init_9 : decode cX4_init 9 = .ok (.putfield 9, 3) := by decide +kernel
theorem dX4_init_12 : decode cX4_init 12 = .ok (.aload_n 0, 1) := by decide +kernel
theorem dX4_init_13 : decode cX4_init 13 = .ok (.bipush 12, 2) := by decide +kernel
theorem dX4_init_15 : decode cX4_init 15 = .ok (.newarray .int, 2) := by decide +kernel
theorem dX4_init_17 : decode cX4_init 17 = .ok (.putfield 15, 3) := by decide +kernel
theorem dX4_init_20 : decode cX4_init 20 = .ok (.aload_n 0, 1) := by decide +kernel
theorem dX4_init_21 : decode cX4_init 21 = .ok (.bipush 12, 2) := by decide +kernel
theorem dX4_init_23 : decode cX4_init 23 = .ok (.newarray .int, 2) := by decide +kernel
theorem dX4_init_25 : decode cX4_init 25 = .ok (.putfield 18, 3) := by decide +kernel
theorem dX4_init_28 : decode cX4_init 28 = .ok (.aload_n 0, 1) := by decide +kernel
theorem dX4_init_29 : decode cX4_init 29 = .ok (.bipush 12, 2) := by decide +kernel
theorem dX4_init_31 : decode cX4_init 31 = .ok (.newarray .int, 2) := by decide +kernel
theorem dX4_init_33 : decode cX4_init 33 = .ok (.putfield 21, 3) := by decide +kernel
theorem dX4_init_36 : decode cX4_init 36 = .ok (.return_, 1) := by decide +kernel
theorem dX4_copyFrom_0 : decode cX4_copyFrom 0 = .ok (.iconst 0, 1) := by decide +kernel
theorem dX4_copyFrom_1 : decode cX4_copyFrom 1 = .ok (.istore_n 2, 1) := by decide +kernel
theorem dX4_copyFrom_2 : decode cX4_copyFrom 2 = .ok (.iload_n 2, 1) := by decide +kernel
theorem dX4_copyFrom_3 : decode cX4_copyFrom 3 = .ok (.bipush 12, 2) := by decide +kernel
theorem dX4_copyFrom_5 : decode cX4_copyFrom 5 = .ok (.if_icmp .ge 57, 3) := by decide +kernel
theorem dX4_copyFrom_8 : decode cX4_copyFrom 8 = .ok (.aload_n 0, 1) := by decide +kernel
theorem dX4_copyFrom_9 : decode cX4_copyFrom 9 = .ok (.getfield 9, 3) := by decide +kernel
theorem dX4_copyFrom_12 : decode cX4_copyFrom 12 = .ok (.iload_n 2, 1) := by decide +kernel
theorem dX4_copyFrom_13 : decode cX4_copyFrom 13 = .ok (.aload_n 1, 1) := by decide +kernel
theorem dX4_copyFrom_14 : decode cX4_copyFrom 14 = .ok (.getfield 9, 3) := by decide +kernel
theorem dX4_copyFrom_17 : decode cX4_copyFrom 17 = .ok (.iload_n 2, 1) := by decide +kernel
theorem dX4_copyFrom_18 : decode cX4_copyFrom 18 = .ok (.iaload, 1) := by decide +kernel
theorem dX4_copyFrom_19 : decode cX4_copyFrom 19 = .ok (.iastore, 1) := by decide +kernel
theorem dX4_copyFrom_20 : decode cX4_copyFrom 20 = .ok (.aload_n 0, 1) := by decide +kernel
theorem dX4_copyFrom_21 : decode cX4_copyFrom 21 = .ok (.getfield 15, 3) := by decide +kernel
theorem dX4_copyFrom_24 : decode cX4_copyFrom 24 = .ok (.iload_n 2, 1) := by decide +kernel
theorem dX4_copyFrom_25 : decode cX4_copyFrom 25 = .ok (.aload_n 1, 1) := by decide +kernel
theorem dX4_copyFrom_26 : decode cX4_copyFrom 26 = .ok (.getfield 15, 3) := by decide +kernel
theorem dX4_copyFrom_29 : decode cX4_copyFrom 29 = .ok (.iload_n 2, 1) := by decide +kernel
theorem dX4_copyFrom_30 : decode cX4_copyFrom 30 = .ok (.iaload, 1) := by decide +kernel
theorem dX4_copyFrom_31 : decode cX4_copyFrom 31 = .ok (.iastore, 1) := by decide +kernel
theorem dX4_copyFrom_32 : decode cX4_copyFrom 32 = .ok (.aload_n 0, 1) := by decide +kernel
theorem dX4_copyFrom_33 : decode cX4_copyFrom 33 = .ok (.getfield 18, 3) := by decide +kernel
theorem dX4_copyFrom_36 : decode cX4_copyFrom 36 = .ok (.iload_n 2, 1) := by decide +kernel
theorem dX4_copyFrom_37 : decode cX4_copyFrom 37 = .ok (.aload_n 1, 1) := by decide +kernel
theorem dX4_copyFrom_38 : decode cX4_copyFrom 38 = .ok (.getfield 18, 3) := by decide +kernel
theorem dX4_copyFrom_41 : decode cX4_copyFrom 41 = .ok (.iload_n 2, 1) := by decide +kernel
theorem dX4_copyFrom_42 : decode cX4_copyFrom 42 = .ok (.iaload, 1) := by decide +kernel
theorem dX4_copyFrom_43 : decode cX4_copyFrom 43 = .ok (.iastore, 1) := by decide +kernel
theorem dX4_copyFrom_44 : decode cX4_copyFrom 44 = .ok (.aload_n 0, 1) := by decide +kernel
theorem dX4_copyFrom_45 : decode cX4_copyFrom 45 = .ok (.getfield 21, 3) := by decide +kernel
theorem dX4_copyFrom_48 : decode cX4_copyFrom 48 = .ok (.iload_n 2, 1) := by decide +kernel
theorem dX4_copyFrom_49 : decode cX4_copyFrom 49 = .ok (.aload_n 1, 1) := by decide +kernel
theorem dX4_copyFrom_50 : decode cX4_copyFrom 50 = .ok (.getfield 21, 3) := by decide +kernel
theorem dX4_copyFrom_53 : decode cX4_copyFrom 53 = .ok (.iload_n 2, 1) := by decide +kernel
theorem dX4_copyFrom_54 : decode cX4_copyFrom 54 = .ok (.iaload, 1) := by decide +kernel
theorem dX4_copyFrom_55 : decode cX4_copyFrom 55 = .ok (.iastore, 1) := by decide +kernel
theorem dX4_copyFrom_56 : decode cX4_copyFrom 56 = .ok (.iinc 2 1, 3) := by decide +kernel
theorem dX4_copyFrom_59 : decode cX4_copyFrom 59 = .ok (.goto (-57), 3) := by decide +kernel
theorem dX4_copyFrom_62 : decode cX4_copyFrom 62 = .ok (.aload_n 0, 1) := by decide +kernel
theorem dX4_copyFrom_63 : decode cX4_copyFrom 63 = .ok (.aload_n 1, 1) := by decide +kernel
theorem dX4_copyFrom_64 : decode cX4_copyFrom 64 = .ok (.getfield 24, 3) := by decide +kernel
theorem dX4_copyFrom_67 : decode cX4_copyFrom 67 = .ok (.putfield 24, 3) := by decide +kernel
theorem dX4_copyFrom_70 : decode cX4_copyFrom 70 = .ok (.aload_n 0, 1) := by decide +kernel
theorem dX4_copyFrom_71 : decode cX4_copyFrom 71 = .ok (.aload_n 1, 1) := by decide +kernel
theorem dX4_copyFrom_72 : decode cX4_copyFrom 72 = .ok (.getfield 28, 3) := by decide +kernel
theorem dX4_copyFrom_75 : decode cX4_copyFrom 75 = .ok (.putfield 28, 3) := by decide +kernel
theorem dX4_copyFrom_78 : decode cX4_copyFrom 78 = .ok (.return_, 1) := by decide +kernel
theorem dX4_rowOf_0 : decode cX4_rowOf 0 = .ok (.iconst 0, 1) := by decide +kernel
theorem dX4_rowOf_1 : decode cX4_rowOf 1 = .ok (.istore_n 2, 1) := by decide +kernel
theorem dX4_rowOf_2 : decode cX4_rowOf 2 = .ok (.iload_n 2, 1) := by decide +kernel
theorem dX4_rowOf_3 : decode cX4_rowOf 3 = .ok (.aload_n 0, 1) := by decide +kernel
theorem dX4_rowOf_4 : decode cX4_rowOf 4 = .ok (.getfield 24, 3) := by decide +kernel
theorem dX4_rowOf_7 : decode cX4_rowOf 7 = .ok (.if_icmp .ge 21, 3) := by decide +kernel
theorem dX4_rowOf_10 : decode cX4_rowOf 10 = .ok (.aload_n 0, 1) := by decide +kernel
theorem dX4_rowOf_11 : decode cX4_rowOf 11 = .ok (.getfield 9, 3) := by decide +kernel
theorem dX4_rowOf_14 : decode cX4_rowOf 14 = .ok (.iload_n 2, 1) := by decide +kernel
theorem dX4_rowOf_15 : decode cX4_rowOf 15 = .ok (.iaload, 1) := by decide +kernel
theorem dX4_rowOf_16 : decode cX4_rowOf 16 = .ok (.iload_n 1, 1) := by decide +kernel
theorem dX4_rowOf_17 : decode cX4_rowOf 17 = .ok (.if_icmp .ne 5, 3) := by decide +kernel
theorem dX4_rowOf_20 : decode cX4_rowOf 20 = .ok (.iload_n 2, 1) := by decide +kernel
theorem dX4_rowOf_21 : decode cX4_rowOf 21 = .ok (.ireturn, 1) := by decide +kernel
theorem dX4_rowOf_22 : decode cX4_rowOf 22 = .ok (.iinc 2 1, 3) := by decide +kernel
theorem dX4_rowOf_25 : decode cX4_rowOf 25 = .ok (.goto (-23), 3) := by decide +kernel
theorem dX4_rowOf_28 : decode cX4_rowOf 28 = .ok (.iconst (-1), 1) := by decide +kernel
theorem dX4_rowOf_29 : decode cX4_rowOf 29 = .ok (.ireturn, 1) := by decide +kernel
theorem dX4_isFull_0 : decode cX4_isFull 0 = .ok (.aload_n 0, 1) := by decide +kernel
theorem dX4_isFull_1 : decode cX4_isFull 1 = .ok (.getfield 24, 3) := by decide +kernel
theorem dX4_isFull_4 : decode cX4_isFull 4 = .ok (.bipush 12, 2) := by decide +kernel
theorem dX4_isFull_6 : decode cX4_isFull 6 = .ok (.if_icmp .lt 7, 3) := by decide +kernel
theorem dX4_isFull_9 : decode cX4_isFull 9 = .ok (.iconst 1, 1) := by decide +kernel
theorem dX4_isFull_10 : decode cX4_isFull 10 = .ok (.goto 4, 3) := by decide +kernel
theorem dX4_isFull_13 : decode cX4_isFull 13 = .ok (.iconst 0, 1) := by decide +kernel
theorem dX4_isFull_14 : decode cX4_isFull 14 = .ok (.ireturn, 1) := by decide +kernel
set_option maxRecDepth 20000 in
theorem ggX4_add_X4_isFull : GoodIn wsX4_add wsX4_isFull := goodIn_r _ [12, 3, 13, 14, 15, 16, 17, 18] (by decide +kernel) (by decide +kernel)
set_option maxRecDepth 20000 in
theorem gX4_add_X4_isFull : GoodIn wsX4_add (wsV RX4 31 RX4 yX4_isFull wsX4_isFull) := goodIn_app (goodIn_of _ (by decide +kernel)) ggX4_add_X4_isFull
theorem dX4_add_0 : decode cX4_add 0 = .ok (.aload_n 0, 1) := by decide +kernel
theorem dX4_add_1 : decode cX4_add 1 = .ok (.invokevirtual 31, 3) := by decide +kernel
theorem dX4_add_4 : decode cX4_add 4 = .ok (.ifCond .eq 6, 3) := by decide +kernel
theorem dX4_add_7 : decode cX4_add 7 = .ok (.ldc 35, 2) := by decide +kernel
theorem dX4_add_9 : decode cX4_add 9 = .ok (.ireturn, 1) := by decide +kernel
theorem dX4_add_10 : decode cX4_add 10 = .ok (.aload_n 0, 1) := by decide +kernel
theorem dX4_add_11 : decode cX4_add 11 = .ok (.getfield 9, 3) := by decide +kernel
theorem dX4_add_14 : decode cX4_add 14 = .ok (.aload_n 0, 1) := by decide +kernel
theorem dX4_add_15 : decode cX4_add 15 = .ok (.getfield 24, 3) := by decide +kernel
theorem dX4_add_18 : decode cX4_add 18 = .ok (.aload_n 0, 1) := by decide +kernel
theorem dX4_add_19 : decode cX4_add 19 = .ok (.getfield 28, 3) := by decide +kernel
theorem dX4_add_22 : decode cX4_add 22 = .ok (.iastore, 1) := by decide +kernel
theorem dX4_add_23 : decode cX4_add 23 = .ok (.aload_n 0, 1) := by decide +kernel
theorem dX4_add_24 : decode cX4_add 24 = .ok (.getfield 15, 3) := by decide +kernel
theorem dX4_add_27 : decode cX4_add 27 = .ok (.aload_n 0, 1) := by decide +kernel
theorem dX4_add_28 : decode cX4_add 28 = .ok (.getfield 24, 3) := by decide +kernel
theorem dX4_add_31 : decode cX4_add 31 = .ok (.iload_n 1, 1) := by decide +kernel
theorem dX4_add_32 : decode cX4_add 32 = .ok (.iastore, 1) := by decide +kernel
theorem dX4_add_33 : decode cX4_add 33 = .ok (.aload_n 0, 1) := by decide +kernel
theorem dX4_add_34 : decode cX4_add 34 = .ok (.getfield 18, 3) := by decide +kernel
theorem dX4_add_37 : decode cX4_add 37 = .ok (.aload_n 0, 1) := by decide +kernel
theorem dX4_add_38 : decode cX4_add 38 = .ok (.getfield 24, 3) := by decide +kernel
theorem dX4_add_41 : decode cX4_add 41 = .ok (.iload_n 2, 1) := by decide +kernel
theorem dX4_add_42 : decode cX4_add 42 = .ok (.iastore, 1) := by decide +kernel
theorem dX4_add_43 : decode cX4_add 43 = .ok (.aload_n 0, 1) := by decide +kernel
theorem dX4_add_44 : decode cX4_add 44 = .ok (.getfield 21, 3) := by decide +kernel
theorem dX4_add_47 : decode cX4_add 47 = .ok (.aload_n 0, 1) := by decide +kernel
theorem dX4_add_48 : decode cX4_add 48 = .ok (.getfield 24, 3) := by decide +kernel
theorem dX4_add_51 : decode cX4_add 51 = .ok (.iload_n 3, 1) := by decide +kernel
theorem dX4_add_52 : decode cX4_add 52 = .ok (.iastore, 1) := by decide +kernel
theorem dX4_add_53 : decode cX4_add 53 = .ok (.aload_n 0, 1) := by decide +kernel
theorem dX4_add_54 : decode cX4_add 54 = .ok (.dup, 1) := by decide +kernel
theorem dX4_add_55 : decode cX4_add 55 = .ok (.getfield 24, 3) := by decide +kernel
theorem dX4_add_58 : decode cX4_add 58 = .ok (.iconst 1, 1) := by decide +kernel
theorem dX4_add_59 : decode cX4_add 59 = .ok (.iadd, 1) := by decide +kernel
theorem dX4_add_60 : decode cX4_add 60 = .ok (.putfield 24, 3) := by decide +kernel
theorem dX4_add_63 : decode cX4_add 63 = .ok (.aload_n 0, 1) := by decide +kernel
theorem dX4_add_64 : decode cX4_add 64 = .ok (.dup, 1) := by decide +kernel
theorem dX4_add_65 : decode cX4_add 65 = .ok (.getfield 28, 3) := by decide +kernel
theorem dX4_add_68 : decode cX4_add 68 = .ok (.iconst 1, 1) := by decide +kernel
theorem dX4_add_69 : decode cX4_add 69 = .ok (.iadd, 1) := by decide +kernel
theorem dX4_add_70 : decode cX4_add 70 = .ok (.putfield 28, 3) := by decide +kernel
theorem dX4_add_73 : decode cX4_add 73 = .ok (.aload_n 0, 1) := by decide +kernel
theorem dX4_add_74 : decode cX4_add 74 = .ok (.getfield 28, 3) := by decide +kernel
theorem dX4_add_77 : decode cX4_add 77 = .ok (.iconst 1, 1) := by decide +kernel
theorem dX4_add_78 : decode cX4_add 78 = .ok (.isub, 1) := by decide +kernel
theorem dX4_add_79 : decode cX4_add 79 = .ok (.ireturn, 1) := by decide +kernel
theorem dX4_dropEmpty_0 : decode cX4_dropEmpty 0 = .ok (.iconst 0, 1) := by decide +kernel
theorem dX4_dropEmpty_1 : decode cX4_dropEmpty 1 = .ok (.istore_n 1, 1) := by decide +kernel
theorem dX4_dropEmpty_2 : decode cX4_dropEmpty 2 = .ok (.iconst 0, 1) := by decide +kernel
theorem dX4_dropEmpty_3 : decode cX4_dropEmpty 3 = .ok (.istore_n 2, 1) := by decide +kernel
theorem dX4_dropEmpty_4 : decode cX4_dropEmpty 4 = .ok (.iload_n 2, 1) := by decide +kernel
theorem dX4_dropEmpty_5 : decode cX4_dropEmpty 5 = .ok (.aload_n 0, 1) := by decide +kernel
theorem dX4_dropEmpty_6 : decode cX4_dropEmpty 6 = .ok (.getfield 24, 3) := by decide +kernel
theorem dX4_dropEmpty_9 : decode cX4_dropEmpty 9 = .ok (.if_icmp .ge 69, 3) := by decide +kernel
theorem dX4_dropEmpty_12 : decode cX4_dropEmpty 12 = .ok (.aload_n 0, 1) := by decide +kernel
theorem dX4_dropEmpty_13 : decode cX4_dropEmpty 13 = .ok (.getfield 15, 3) := by decide +kernel
theorem dX4_dropEmpty_16 : decode cX4_dropEmpty 16 = .ok (.iload_n 2, 1) := by decide +kernel
theorem dX4_dropEmpty_17 : decode cX4_dropEmpty 17 = .ok (.iaload, 1) := by decide +kernel
theorem dX4_dropEmpty_18 : decode cX4_dropEmpty 18 = .ok (.ifCond .le 54, 3) := by decide +kernel
theorem dX4_dropEmpty_21 : decode cX4_dropEmpty 21 = .ok (.aload_n 0, 1) := by decide +kernel
theorem dX4_dropEmpty_22 : decode cX4_dropEmpty 22 = .ok (.getfield 9, 3) := by decide +kernel
theorem dX4_dropEmpty_25 : decode cX4_dropEmpty 25 = .ok (.iload_n 1, 1) := by decide +kernel
theorem dX4_dropEmpty_26 : decode cX4_dropEmpty 26 = .ok (.aload_n 0, 1) := by decide +kernel
theorem dX4_dropEmpty_27 : decode cX4_dropEmpty 27 = .ok (.getfield 9, 3) := by decide +kernel
theorem dX4_dropEmpty_30 : decode cX4_dropEmpty 30 = .ok (.iload_n 2, 1) := by decide +kernel
theorem dX4_dropEmpty_31 : decode cX4_dropEmpty 31 = .ok (.iaload, 1) := by decide +kernel
theorem dX4_dropEmpty_32 : decode cX4_dropEmpty 32 = .ok (.iastore, 1) := by decide +kernel
theorem dX4_dropEmpty_33 : decode cX4_dropEmpty 33 = .ok (.aload_n 0, 1) := by decide +kernel
theorem dX4_dropEmpty_34 : decode cX4_dropEmpty 34 = .ok (.getfield 15, 3) := by decide +kernel
theorem dX4_dropEmpty_37 : decode cX4_dropEmpty 37 = .ok (.iload_n 1, 1) := by decide +kernel
theorem dX4_dropEmpty_38 : decode cX4_dropEmpty 38 = .ok (.aload_n 0, 1) := by decide +kernel
theorem dX4_dropEmpty_39 : decode cX4_dropEmpty 39 = .ok (.getfield 15, 3) := by decide +kernel
theorem dX4_dropEmpty_42 : decode cX4_dropEmpty 42 = .ok (.iload_n 2, 1) := by decide +kernel
theorem dX4_dropEmpty_43 : decode cX4_dropEmpty 43 = .ok (.iaload, 1) := by decide +kernel
theorem dX4_dropEmpty_44 : decode cX4_dropEmpty 44 = .ok (.iastore, 1) := by decide +kernel
theorem dX4_dropEmpty_45 : decode cX4_dropEmpty 45 = .ok (.aload_n 0, 1) := by decide +kernel
theorem dX4_dropEmpty_46 : decode cX4_dropEmpty 46 = .ok (.getfield 18, 3) := by decide +kernel
theorem dX4_dropEmpty_49 : decode cX4_dropEmpty 49 = .ok (.iload_n 1, 1) := by decide +kernel
theorem dX4_dropEmpty_50 : decode cX4_dropEmpty 50 = .ok (.aload_n 0, 1) := by decide +kernel
theorem dX4_dropEmpty_51 : decode cX4_dropEmpty 51 = .ok (.getfield 18, 3) := by decide +kernel
theorem dX4_dropEmpty_54 : decode cX4_dropEmpty 54 = .ok (.iload_n 2, 1) := by decide +kernel
theorem dX4_dropEmpty_55 : decode cX4_dropEmpty 55 = .ok (.iaload, 1) := by decide +kernel
theorem dX4_dropEmpty_56 : decode cX4_dropEmpty 56 = .ok (.iastore, 1) := by decide +kernel
theorem dX4_dropEmpty_57 : decode cX4_dropEmpty 57 = .ok (.aload_n 0, 1) := by decide +kernel
theorem dX4_dropEmpty_58 : decode cX4_dropEmpty 58 = .ok (.getfield 21, 3) := by decide +kernel
theorem dX4_dropEmpty_61 : decode cX4_dropEmpty 61 = .ok (.iload_n 1, 1) := by decide +kernel
theorem dX4_dropEmpty_62 : decode cX4_dropEmpty 62 = .ok (.aload_n 0, 1) := by decide +kernel
theorem dX4_dropEmpty_63 : decode cX4_dropEmpty 63 = .ok (.getfield 21, 3) := by decide +kernel
theorem dX4_dropEmpty_66 : decode cX4_dropEmpty 66 = .ok (.iload_n 2, 1) := by decide +kernel
theorem dX4_dropEmpty_67 : decode cX4_dropEmpty 67 = .ok (.iaload, 1) := by decide +kernel
theorem dX4_dropEmpty_68 : decode cX4_dropEmpty 68 = .ok (.iastore, 1) := by decide +kernel
theorem dX4_dropEmpty_69 : decode cX4_dropEmpty 69 = .ok (.iinc 1 1, 3) := by decide +kernel
theorem dX4_dropEmpty_72 : decode cX4_dropEmpty 72 = .ok (.iinc 2 1, 3) := by decide +kernel
theorem dX4_dropEmpty_75 : decode cX4_dropEmpty 75 = .ok (.goto (-71), 3) := by decide +kernel
theorem dX4_dropEmpty_78 : decode cX4_dropEmpty 78 = .ok (.aload_n 0, 1) := by decide +kernel
theorem dX4_dropEmpty_79 : decode cX4_dropEmpty 79 = .ok (.iload_n 1, 1) := by decide +kernel
theorem dX4_dropEmpty_80 : decode cX4_dropEmpty 80 = .ok (.putfield 24, 3) := by decide +kernel
theorem dX4_dropEmpty_83 : decode cX4_dropEmpty 83 = .ok (.return_, 1) := by decide +kernel
theorem dX4_cupAt_0 : decode cX4_cupAt 0 = .ok (.aload_n 0, 1) := by decide +kernel
theorem dX4_cupAt_1 : decode cX4_cupAt 1 = .ok (.getfield 18, 3) := by decide +kernel
theorem dX4_cupAt_4 : decode cX4_cupAt 4 = .ok (.iload_n 1, 1) := by decide +kernel
theorem dX4_cupAt_5 : decode cX4_cupAt 5 = .ok (.iaload, 1) := by decide +kernel
theorem dX4_cupAt_6 : decode cX4_cupAt 6 = .ok (.iload_n 2, 1) := by decide +kernel
theorem dX4_cupAt_7 : decode cX4_cupAt 7 = .ok (.aload_n 0, 1) := by decide +kernel
theorem dX4_cupAt_8 : decode cX4_cupAt 8 = .ok (.getfield 21, 3) := by decide +kernel
theorem dX4_cupAt_11 : decode cX4_cupAt 11 = .ok (.iload_n 1, 1) := by decide +kernel
theorem dX4_cupAt_12 : decode cX4_cupAt 12 = .ok (.iaload, 1) := by decide +kernel
theorem dX4_cupAt_13 : decode cX4_cupAt 13 = .ok (.isub, 1) := by decide +kernel
theorem dX4_cupAt_14 : decode cX4_cupAt 14 = .ok (.iconst 4, 1) := by decide +kernel
theorem dX4_cupAt_15 : decode cX4_cupAt 15 = .ok (.idiv, 1) := by decide +kernel
theorem dX4_cupAt_16 : decode cX4_cupAt 16 = .ok (.isub, 1) := by decide +kernel
theorem dX4_cupAt_17 : decode cX4_cupAt 17 = .ok (.istore_n 3, 1) := by decide +kernel
theorem dX4_cupAt_18 : decode cX4_cupAt 18 = .ok (.iload_n 3, 1) := by decide +kernel
theorem dX4_cupAt_19 : decode cX4_cupAt 19 = .ok (.bipush 60, 2) := by decide +kernel
theorem dX4_cupAt_21 : decode cX4_cupAt 21 = .ok (.if_icmp .ge 8, 3) := by decide +kernel
theorem dX4_cupAt_24 : decode cX4_cupAt 24 = .ok (.bipush 60, 2) := by decide +kernel
theorem dX4_cupAt_26 : decode cX4_cupAt 26 = .ok (.goto 4, 3) := by decide +kernel
theorem dX4_cupAt_29 : decode cX4_cupAt 29 = .ok (.iload_n 3, 1) := by decide +kernel
theorem dX4_cupAt_30 : decode cX4_cupAt 30 = .ok (.ireturn, 1) := by decide +kernel
theorem dX4_monthsTooOld_0 : decode cX4_monthsTooOld 0 = .ok (.iload_n 2, 1) := by decide +kernel
theorem dX4_monthsTooOld_1 : decode cX4_monthsTooOld 1 = .ok (.aload_n 0, 1) := by decide +kernel
theorem dX4_monthsTooOld_2 : decode cX4_monthsTooOld 2 = .ok (.getfield 21, 3) := by decide +kernel
theorem dX4_monthsTooOld_5 : decode cX4_monthsTooOld 5 = .ok (.iload_n 1, 1) := by decide +kernel
theorem dX4_monthsTooOld_6 : decode cX4_monthsTooOld 6 = .ok (.iaload, 1) := by decide +kernel
theorem dX4_monthsTooOld_7 : decode cX4_monthsTooOld 7 = .ok (.isub, 1) := by decide +kernel
theorem dX4_monthsTooOld_8 : decode cX4_monthsTooOld 8 = .ok (.iconst 3, 1) := by decide +kernel
theorem dX4_monthsTooOld_9 : decode cX4_monthsTooOld 9 = .ok (.isub, 1) := by decide +kernel
theorem dX4_monthsTooOld_10 : decode cX4_monthsTooOld 10 = .ok (.istore_n 3, 1) := by decide +kernel
theorem dX4_monthsTooOld_11 : decode cX4_monthsTooOld 11 = .ok (.iload_n 3, 1) := by decide +kernel
theorem dX4_monthsTooOld_12 : decode cX4_monthsTooOld 12 = .ok (.ifCond .ge 7, 3) := by decide +kernel
theorem dX4_monthsTooOld_15 : decode cX4_monthsTooOld 15 = .ok (.iconst 0, 1) := by decide +kernel
theorem dX4_monthsTooOld_16 : decode cX4_monthsTooOld 16 = .ok (.goto 4, 3) := by decide +kernel
theorem dX4_monthsTooOld_19 : decode cX4_monthsTooOld 19 = .ok (.iload_n 3, 1) := by decide +kernel
theorem dX4_monthsTooOld_20 : decode cX4_monthsTooOld 20 = .ok (.ireturn, 1) := by decide +kernel
theorem dX4_allBags_0 : decode cX4_allBags 0 = .ok (.iconst 0, 1) := by decide +kernel
theorem dX4_allBags_1 : decode cX4_allBags 1 = .ok (.istore_n 1, 1) := by decide +kernel
theorem dX4_allBags_2 : decode cX4_allBags 2 = .ok (.iconst 0, 1) := by decide +kernel
theorem dX4_allBags_3 : decode cX4_allBags 3 = .ok (.istore_n 2, 1) := by decide +kernel
theorem dX4_allBags_4 : decode cX4_allBags 4 = .ok (.iload_n 2, 1) := by decide +kernel
theorem dX4_allBags_5 : decode cX4_allBags 5 = .ok (.aload_n 0, 1) := by decide +kernel
theorem dX4_allBags_6 : decode cX4_allBags 6 = .ok (.getfield 24, 3) := by decide +kernel
theorem dX4_allBags_9 : decode cX4_allBags 9 = .ok (.if_icmp .ge 18, 3) := by decide +kernel
theorem dX4_allBags_12 : decode cX4_allBags 12 = .ok (.iload_n 1, 1) := by decide +kernel
theorem dX4_allBags_13 : decode cX4_allBags 13 = .ok (.aload_n 0, 1) := by decide +kernel
theorem dX4_allBags_14 : decode cX4_allBags 14 = .ok (.getfield 15, 3) := by decide +kernel
theorem dX4_allBags_17 : decode cX4_allBags 17 = .ok (.iload_n 2, 1) := by decide +kernel
theorem dX4_allBags_18 : decode cX4_allBags 18 = .ok (.iaload, 1) := by decide +kernel
theorem dX4_allBags_19 : decode cX4_allBags 19 = .ok (.iadd, 1) := by decide +kernel
theorem dX4_allBags_20 : decode cX4_allBags 20 = .ok (.istore_n 1, 1) := by decide +kernel
theorem dX4_allBags_21 : decode cX4_allBags 21 = .ok (.iinc 2 1, 3) := by decide +kernel
theorem dX4_allBags_24 : decode cX4_allBags 24 = .ok (.goto (-20), 3) := by decide +kernel
theorem dX4_allBags_27 : decode cX4_allBags 27 = .ok (.iload_n 1, 1) := by decide +kernel
theorem dX4_allBags_28 : decode cX4_allBags 28 = .ok (.ireturn, 1) := by decide +kernel
set_option maxRecDepth 20000 in
theorem ggX4_bagsToGive_X4_cupAt : GoodIn wsX4_bagsToGive wsX4_cupAt := goodIn_r _ [7, 8, 9, 10, 11, 12, 13, 14, 15] (by decide +kernel) (by decide +kernel)
set_option maxRecDepth 20000 in
theorem gX4_bagsToGive_X4_cupAt : GoodIn wsX4_bagsToGive (wsV RX4 36 RX4 yX4_cupAt wsX4_cupAt) := goodIn_app (goodIn_of _ (by decide +kernel)) ggX4_bagsToGive_X4_cupAt
theorem dX4_bagsToGive_0 : decode cX4_bagsToGive 0 = .ok (.iconst 0, 1) := by decide +kernel
theorem dX4_bagsToGive_1 : decode cX4_bagsToGive 1 = .ok (.istore_n 2, 1) := by decide +kernel
theorem dX4_bagsToGive_2 : decode cX4_bagsToGive 2 = .ok (.iconst 0, 1) := by decide +kernel
theorem dX4_bagsToGive_3 : decode cX4_bagsToGive 3 = .ok (.istore_n 3, 1) := by decide +kernel
theorem dX4_bagsToGive_4 : decode cX4_bagsToGive 4 = .ok (.iload_n 3, 1) := by decide +kernel
theorem dX4_bagsToGive_5 : decode cX4_bagsToGive 5 = .ok (.aload_n 0, 1) := by decide +kernel
theorem dX4_bagsToGive_6 : decode cX4_bagsToGive 6 = .ok (.getfield 24, 3) := by decide +kernel
theorem dX4_bagsToGive_9 : decode cX4_bagsToGive 9 = .ok (.if_icmp .ge 29, 3) := by decide +kernel
theorem dX4_bagsToGive_12 : decode cX4_bagsToGive 12 = .ok (.aload_n 0, 1) := by decide +kernel
theorem dX4_bagsToGive_13 : decode cX4_bagsToGive 13 = .ok (.iload_n 3, 1) := by decide +kernel
theorem dX4_bagsToGive_14 : decode cX4_bagsToGive 14 = .ok (.iload_n 1, 1) := by decide +kernel
theorem dX4_bagsToGive_15 : decode cX4_bagsToGive 15 = .ok (.invokevirtual 36, 3) := by decide +kernel
theorem dX4_bagsToGive_18 : decode cX4_bagsToGive 18 = .ok (.bipush 70, 2) := by decide +kernel
theorem dX4_bagsToGive_20 : decode cX4_bagsToGive 20 = .ok (.if_icmp .lt 12, 3) := by decide +kernel
theorem dX4_bagsToGive_23 : decode cX4_bagsToGive 23 = .ok (.iload_n 2, 1) := by decide +kernel
theorem dX4_bagsToGive_24 : decode cX4_bagsToGive 24 = .ok (.aload_n 0, 1) := by decide +kernel
theorem dX4_bagsToGive_25 : decode cX4_bagsToGive 25 = .ok (.getfield 15, 3) := by decide +kernel
theorem dX4_bagsToGive_28 : decode cX4_bagsToGive 28 = .ok (.iload_n 3, 1) := by decide +kernel
theorem dX4_bagsToGive_29 : decode cX4_bagsToGive 29 = .ok (.iaload, 1) := by decide +kernel
theorem dX4_bagsToGive_30 : decode cX4_bagsToGive 30 = .ok (.iadd, 1) := by decide +kernel
theorem dX4_bagsToGive_31 : decode cX4_bagsToGive 31 = .ok (.istore_n 2, 1) := by decide +kernel
theorem dX4_bagsToGive_32 : decode cX4_bagsToGive 32 = .ok (.iinc 3 1, 3) := by decide +kernel
theorem dX4_bagsToGive_35 : decode cX4_bagsToGive 35 = .ok (.goto (-31), 3) := by decide +kernel
theorem dX4_bagsToGive_38 : decode cX4_bagsToGive 38 = .ok (.iload_n 2, 1) := by decide +kernel
theorem dX4_bagsToGive_39 : decode cX4_bagsToGive 39 = .ok (.ireturn, 1) := by decide +kernel
