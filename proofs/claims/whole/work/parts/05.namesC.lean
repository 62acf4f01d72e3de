theorem dX7_init_0 : decode cX7_init 0 = .ok (.aload_n 0, 1) := by decide +kernel
theorem dX7_init_1 : decode cX7_init 1 = .ok (.invokespecial 1, 3) := by decide +kernel
theorem dX7_init_4 : decode cX7_init 4 = .ok (.aload_n 0, 1) := by decide +kernel
theorem dX7_init_5 : decode cX7_init 5 = .ok (.bipush 81, 2) := by decide +kernel
theorem dX7_init_7 : decode cX7_init 7 = .ok (.newarray .int, 2) := by decide +kernel
theorem dX7_init_9 : decode cX7_init 9 = .ok (.putfield 7, 3) := by decide +kernel
theorem dX7_init_12 : decode cX7_init 12 = .ok (.aload_n 0, 1) := by decide +kernel
theorem dX7_init_13 : decode cX7_init 13 = .ok (.sipush 324, 3) := by decide +kernel
theorem dX7_init_16 : decode cX7_init 16 = .ok (.newarray .int, 2) := by decide +kernel
theorem dX7_init_18 : decode cX7_init 18 = .ok (.putfield 13, 3) := by decide +kernel
theorem dX7_init_21 : decode cX7_init 21 = .ok (.aload_n 0, 1) := by decide +kernel
theorem dX7_init_22 : decode cX7_init 22 = .ok (.bipush 81, 2) := by decide +kernel
theorem dX7_init_24 : decode cX7_init 24 = .ok (.newarray .int, 2) := by decide +kernel
theorem dX7_init_26 : decode cX7_init 26 = .ok (.putfield 16, 3) := by decide +kernel
theorem dX7_init_29 : decode cX7_init 29 = .ok (.aload_n 0, 1) := by decide +kernel
theorem dX7_init_30 : decode cX7_init 30 = .ok (.bipush 60, 2) := by decide +kernel
theorem dX7_init_32 : decode cX7_init 32 = .ok (.newarray .int, 2) := by decide +kernel
theorem dX7_init_34 : decode cX7_init 34 = .ok (.putfield 19, 3) := by decide +kernel
theorem dX7_init_37 : decode cX7_init 37 = .ok (.aload_n 0, 1) := by decide +kernel
theorem dX7_init_38 : decode cX7_init 38 = .ok (.bipush 12, 2) := by decide +kernel
theorem dX7_init_40 : decode cX7_init 40 = .ok (.newarray .int, 2) := by decide +kernel
theorem dX7_init_42 : decode cX7_init 42 = .ok (.putfield 22, 3) := by decide +kernel
theorem dX7_init_45 : decode cX7_init 45 = .ok (.aload_n 0, 1) := by decide +kernel
theorem dX7_init_46 : decode cX7_init 46 = .ok (.bipush 12, 2) := by decide +kernel
theorem dX7_init_48 : decode cX7_init 48 = .ok (.newarray .int, 2) := by decide +kernel
theorem dX7_init_50 : decode cX7_init 50 = .ok (.putfield 25, 3) := by decide +kernel
theorem dX7_init_53 : decode cX7_init 53 = .ok (.aload_n 0, 1) := by decide +kernel
theorem dX7_init_54 : decode cX7_init 54 = .ok (.iconst 4, 1) := by decide +kernel
theorem dX7_init_55 : decode cX7_init 55 = .ok (.newarray .int, 2) := by decide +kernel
theorem dX7_init_57 : decode cX7_init 57 = .ok (.putfield 28, 3) := by decide +kernel
theorem dX7_init_60 : decode cX7_init 60 = .ok (.aload_n 0, 1) := by decide +kernel
theorem dX7_init_61 : decode cX7_init 61 = .ok (.getfield 7, 3) := by decide +kernel
theorem dX7_init_64 : decode cX7_init 64 = .ok (.bipush 8, 2) := by decide +kernel
theorem dX7_init_66 : decode cX7_init 66 = .ok (.bipush 100, 2) := by decide +kernel
theorem dX7_init_68 : decode cX7_init 68 = .ok (.iastore, 1) := by decide +kernel
theorem dX7_init_69 : decode cX7_init 69 = .ok (.aload_n 0, 1) := by decide +kernel
theorem dX7_init_70 : decode cX7_init 70 = .ok (.getfield 7, 3) := by decide +kernel
theorem dX7_init_73 : decode cX7_init 73 = .ok (.bipush 9, 2) := by decide +kernel
theorem dX7_init_75 : decode cX7_init 75 = .ok (.sipush 2388, 3) := by decide +kernel
theorem dX7_init_78 : decode cX7_init 78 = .ok (.iastore, 1) := by decide +kernel
theorem dX7_init_79 : decode cX7_init 79 = .ok (.aload_n 0, 1) := by decide +kernel
theorem dX7_init_80 : decode cX7_init 80 = .ok (.getfield 7, 3) := by decide +kernel
theorem dX7_init_83 : decode cX7_init 83 = .ok (.bipush 10, 2) := by decide +kernel
theorem dX7_init_85 : decode cX7_init 85 = .ok (.iconst 3, 1) := by decide +kernel
theorem dX7_init_86 : decode cX7_init 86 = .ok (.iastore, 1) := by decide +kernel
theorem dX7_init_87 : decode cX7_init 87 = .ok (.aload_n 0, 1) := by decide +kernel
theorem dX7_init_88 : decode cX7_init 88 = .ok (.getfield 7, 3) := by decide +kernel
theorem dX7_init_91 : decode cX7_init 91 = .ok (.bipush 11, 2) := by decide +kernel
theorem dX7_init_93 : decode cX7_init 93 = .ok (.iconst 2, 1) := by decide +kernel
theorem dX7_init_94 : decode cX7_init 94 = .ok (.iastore, 1) := by decide +kernel
theorem dX7_init_95 : decode cX7_init 95 = .ok (.aload_n 0, 1) := by decide +kernel
theorem dX7_init_96 : decode cX7_init 96 = .ok (.getfield 7, 3) := by decide +kernel
theorem dX7_init_99 : decode cX7_init 99 = .ok (.bipush 12, 2) := by decide +kernel
theorem dX7_init_101 : decode cX7_init 101 = .ok (.bipush 20, 2) := by decide +kernel
theorem dX7_init_103 : decode cX7_init 103 = .ok (.iastore, 1) := by decide +kernel
theorem dX7_init_104 : decode cX7_init 104 = .ok (.aload_n 0, 1) := by decide +kernel
theorem dX7_init_105 : decode cX7_init 105 = .ok (.getfield 7, 3) := by decide +kernel
theorem dX7_init_108 : decode cX7_init 108 = .ok (.bipush 13, 2) := by decide +kernel
theorem dX7_init_110 : decode cX7_init 110 = .ok (.bipush 100, 2) := by decide +kernel
theorem dX7_init_112 : decode cX7_init 112 = .ok (.iastore, 1) := by decide +kernel
theorem dX7_init_113 : decode cX7_init 113 = .ok (.aload_n 0, 1) := by decide +kernel
theorem dX7_init_114 : decode cX7_init 114 = .ok (.getfield 7, 3) := by decide +kernel
theorem dX7_init_117 : decode cX7_init 117 = .ok (.bipush 14, 2) := by decide +kernel
theorem dX7_init_119 : decode cX7_init 119 = .ok (.sipush 150, 3) := by decide +kernel
theorem dX7_init_122 : decode cX7_init 122 = .ok (.iastore, 1) := by decide +kernel
theorem dX7_init_123 : decode cX7_init 123 = .ok (.aload_n 0, 1) := by decide +kernel
theorem dX7_init_124 : decode cX7_init 124 = .ok (.getfield 7, 3) := by decide +kernel
theorem dX7_init_127 : decode cX7_init 127 = .ok (.bipush 15, 2) := by decide +kernel
theorem dX7_init_129 : decode cX7_init 129 = .ok (.sipush 200, 3) := by decide +kernel
theorem dX7_init_132 : decode cX7_init 132 = .ok (.iastore, 1) := by decide +kernel
theorem dX7_init_133 : decode cX7_init 133 = .ok (.aload_n 0, 1) := by decide +kernel
theorem dX7_init_134 : decode cX7_init 134 = .ok (.getfield 7, 3) := by decide +kernel
theorem dX7_init_137 : decode cX7_init 137 = .ok (.bipush 16, 2) := by decide +kernel
theorem dX7_init_139 : decode cX7_init 139 = .ok (.sipush 300, 3) := by decide +kernel
theorem dX7_init_142 : decode cX7_init 142 = .ok (.iastore, 1) := by decide +kernel
theorem dX7_init_143 : decode cX7_init 143 = .ok (.return_, 1) := by decide +kernel
theorem dX7_in_0 : decode cX7_in 0 = .ok (.iload_n 0, 1) := by decide +kernel
theorem dX7_in_1 : decode cX7_in 1 = .ok (.iload_n 1, 1) := by decide +kernel
theorem dX7_in_2 : decode cX7_in 2 = .ok (.if_icmp .lt 12, 3) := by decide +kernel
theorem dX7_in_5 : decode cX7_in 5 = .ok (.iload_n 0, 1) := by decide +kernel
theorem dX7_in_6 : decode cX7_in 6 = .ok (.iload_n 2, 1) := by decide +kernel
theorem dX7_in_7 : decode cX7_in 7 = .ok (.if_icmp .gt 7, 3) := by decide +kernel
theorem dX7_in_10 : decode cX7_in 10 = .ok (.iconst 1, 1) := by decide +kernel
theorem dX7_in_11 : decode cX7_in 11 = .ok (.goto 4, 3) := by decide +kernel
theorem dX7_in_14 : decode cX7_in 14 = .ok (.iconst 0, 1) := by decide +kernel
theorem dX7_in_15 : decode cX7_in 15 = .ok (.ireturn, 1) := by decide +kernel
theorem dX7_copies_0 : decode cX7_copies 0 = .ok (.iconst 0, 1) := by decide +kernel
theorem dX7_copies_1 : decode cX7_copies 1 = .ok (.istore_n 2, 1) := by decide +kernel
theorem dX7_copies_2 : decode cX7_copies 2 = .ok (.iload_n 2, 1) := by decide +kernel
theorem dX7_copies_3 : decode cX7_copies 3 = .ok (.bipush 81, 2) := by decide +kernel
theorem dX7_copies_5 : decode cX7_copies 5 = .ok (.if_icmp .ge 15, 3) := by decide +kernel
theorem dX7_copies_8 : decode cX7_copies 8 = .ok (.aload_n 1, 1) := by decide +kernel
theorem dX7_copies_9 : decode cX7_copies 9 = .ok (.iload_n 2, 1) := by decide +kernel
theorem dX7_copies_10 : decode cX7_copies 10 = .ok (.aload_n 0, 1) := by decide +kernel
theorem dX7_copies_11 : decode cX7_copies 11 = .ok (.iload_n 2, 1) := by decide +kernel
theorem dX7_copies_12 : decode cX7_copies 12 = .ok (.iaload, 1) := by decide +kernel
theorem dX7_copies_13 : decode cX7_copies 13 = .ok (.iastore, 1) := by decide +kernel
theorem dX7_copies_14 : decode cX7_copies 14 = .ok (.iinc 2 1, 3) := by decide +kernel
theorem dX7_copies_17 : decode cX7_copies 17 = .ok (.goto (-15), 3) := by decide +kernel
theorem dX7_copies_20 : decode cX7_copies 20 = .ok (.return_, 1) := by decide +kernel
theorem dX7_changes_0 : decode cX7_changes 0 = .ok (.aload_n 0, 1) := by decide +kernel
theorem dX7_changes_1 : decode cX7_changes 1 = .ok (.getfield 31, 3) := by decide +kernel
theorem dX7_changes_4 : decode cX7_changes 4 = .ok (.ifCond .eq 4, 3) := by decide +kernel
theorem dX7_changes_7 : decode cX7_changes 7 = .ok (.return_, 1) := by decide +kernel
theorem dX7_changes_8 : decode cX7_changes 8 = .ok (.aload_n 0, 1) := by decide +kernel
theorem dX7_changes_9 : decode cX7_changes 9 = .ok (.getfield 35, 3) := by decide +kernel
theorem dX7_changes_12 : decode cX7_changes 12 = .ok (.iconst 4, 1) := by decide +kernel
theorem dX7_changes_13 : decode cX7_changes 13 = .ok (.if_icmp .ne 43, 3) := by decide +kernel
theorem dX7_changes_16 : decode cX7_changes 16 = .ok (.iconst 0, 1) := by decide +kernel
theorem dX7_changes_17 : decode cX7_changes 17 = .ok (.istore_n 1, 1) := by decide +kernel
theorem dX7_changes_18 : decode cX7_changes 18 = .ok (.iload_n 1, 1) := by decide +kernel
theorem dX7_changes_19 : decode cX7_changes 19 = .ok (.sipush 243, 3) := by decide +kernel
theorem dX7_changes_22 : decode cX7_changes 22 = .ok (.if_icmp .ge 24, 3) := by decide +kernel
theorem dX7_changes_25 : decode cX7_changes 25 = .ok (.aload_n 0, 1) := by decide +kernel
theorem dX7_changes_26 : decode cX7_changes 26 = .ok (.getfield 13, 3) := by decide +kernel
theorem dX7_changes_29 : decode cX7_changes 29 = .ok (.iload_n 1, 1) := by decide +kernel
theorem dX7_changes_30 : decode cX7_changes 30 = .ok (.aload_n 0, 1) := by decide +kernel
theorem dX7_changes_31 : decode cX7_changes 31 = .ok (.getfield 13, 3) := by decide +kernel
theorem dX7_changes_34 : decode cX7_changes 34 = .ok (.iload_n 1, 1) := by decide +kernel
theorem dX7_changes_35 : decode cX7_changes 35 = .ok (.bipush 81, 2) := by decide +kernel
theorem dX7_changes_37 : decode cX7_changes 37 = .ok (.iadd, 1) := by decide +kernel
theorem dX7_changes_38 : decode cX7_changes 38 = .ok (.iaload, 1) := by decide +kernel
theorem dX7_changes_39 : decode cX7_changes 39 = .ok (.iastore, 1) := by decide +kernel
theorem dX7_changes_40 : decode cX7_changes 40 = .ok (.iinc 1 1, 3) := by decide +kernel
theorem dX7_changes_43 : decode cX7_changes 43 = .ok (.goto (-25), 3) := by decide +kernel
theorem dX7_changes_46 : decode cX7_changes 46 = .ok (.aload_n 0, 1) := by decide +kernel
theorem dX7_changes_47 : decode cX7_changes 47 = .ok (.dup, 1) := by decide +kernel
theorem dX7_changes_48 : decode cX7_changes 48 = .ok (.getfield 35, 3) := by decide +kernel
theorem dX7_changes_51 : decode cX7_changes 51 = .ok (.iconst 1, 1) := by decide +kernel
theorem dX7_changes_52 : decode cX7_changes 52 = .ok (.isub, 1) := by decide +kernel
theorem dX7_changes_53 : decode cX7_changes 53 = .ok (.putfield 35, 3) := by decide +kernel
theorem dX7_changes_56 : decode cX7_changes 56 = .ok (.iconst 0, 1) := by decide +kernel
theorem dX7_changes_57 : decode cX7_changes 57 = .ok (.istore_n 1, 1) := by decide +kernel
theorem dX7_changes_58 : decode cX7_changes 58 = .ok (.iload_n 1, 1) := by decide +kernel
theorem dX7_changes_59 : decode cX7_changes 59 = .ok (.bipush 81, 2) := by decide +kernel
theorem dX7_changes_61 : decode cX7_changes 61 = .ok (.if_icmp .ge 29, 3) := by decide +kernel
theorem dX7_changes_64 : decode cX7_changes 64 = .ok (.aload_n 0, 1) := by decide +kernel
theorem dX7_changes_65 : decode cX7_changes 65 = .ok (.getfield 13, 3) := by decide +kernel
theorem dX7_changes_68 : decode cX7_changes 68 = .ok (.bipush 81, 2) := by decide +kernel
theorem dX7_changes_70 : decode cX7_changes 70 = .ok (.aload_n 0, 1) := by decide +kernel
theorem dX7_changes_71 : decode cX7_changes 71 = .ok (.getfield 35, 3) := by decide +kernel
theorem dX7_changes_74 : decode cX7_changes 74 = .ok (.imul, 1) := by decide +kernel
theorem dX7_changes_75 : decode cX7_changes 75 = .ok (.iload_n 1, 1) := by decide +kernel
theorem dX7_changes_76 : decode cX7_changes 76 = .ok (.iadd, 1) := by decide +kernel
theorem dX7_changes_77 : decode cX7_changes 77 = .ok (.aload_n 0, 1) := by decide +kernel
theorem dX7_changes_78 : decode cX7_changes 78 = .ok (.getfield 7, 3) := by decide +kernel
theorem dX7_changes_81 : decode cX7_changes 81 = .ok (.iload_n 1, 1) := by decide +kernel
theorem dX7_changes_82 : decode cX7_changes 82 = .ok (.iaload, 1) := by decide +kernel
theorem dX7_changes_83 : decode cX7_changes 83 = .ok (.iastore, 1) := by decide +kernel
theorem dX7_changes_84 : decode cX7_changes 84 = .ok (.iinc 1 1, 3) := by decide +kernel
theorem dX7_changes_87 : decode cX7_changes 87 = .ok (.goto (-29), 3) := by decide +kernel
theorem dX7_changes_90 : decode cX7_changes 90 = .ok (.aload_n 0, 1) := by decide +kernel
theorem dX7_changes_91 : decode cX7_changes 91 = .ok (.dup, 1) := by decide +kernel
theorem dX7_changes_92 : decode cX7_changes 92 = .ok (.getfield 35, 3) := by decide +kernel
theorem dX7_changes_95 : decode cX7_changes 95 = .ok (.iconst 1, 1) := by decide +kernel
theorem dX7_changes_96 : decode cX7_changes 96 = .ok (.iadd, 1) := by decide +kernel
theorem dX7_changes_97 : decode cX7_changes 97 = .ok (.putfield 35, 3) := by decide +kernel
theorem dX7_changes_100 : decode cX7_changes 100 = .ok (.return_, 1) := by decide +kernel
theorem dX7_of_0 : decode cX7_of 0 = .ok (.aload_n 0, 1) := by decide +kernel
theorem dX7_of_1 : decode cX7_of 1 = .ok (.getfield 7, 3) := by decide +kernel
theorem dX7_of_4 : decode cX7_of 4 = .ok (.bipush 17, 2) := by decide +kernel
theorem dX7_of_6 : decode cX7_of 6 = .ok (.iconst 4, 1) := by decide +kernel
theorem dX7_of_7 : decode cX7_of 7 = .ok (.iload_n 1, 1) := by decide +kernel
theorem dX7_of_8 : decode cX7_of 8 = .ok (.imul, 1) := by decide +kernel
theorem dX7_of_9 : decode cX7_of 9 = .ok (.iadd, 1) := by decide +kernel
theorem dX7_of_10 : decode cX7_of 10 = .ok (.iload_n 2, 1) := by decide +kernel
theorem dX7_of_11 : decode cX7_of 11 = .ok (.iadd, 1) := by decide +kernel
theorem dX7_of_12 : decode cX7_of 12 = .ok (.iaload, 1) := by decide +kernel
theorem dX7_of_13 : decode cX7_of 13 = .ok (.ireturn, 1) := by decide +kernel
set_option maxRecDepth 20000 in
theorem ggX7_placeOf_X7_of : GoodIn wsX7_placeOf wsX7_of := goodIn_r _ [7, 1, 8, 9, 10, 11, 12, 13, 14, 15, 16, 17, 18, 19, 20, 21, 22, 23, 24, 25] (by decide +kernel) (by decide +kernel)
set_option maxRecDepth 20000 in
theorem gX7_placeOf_X7_of : GoodIn wsX7_placeOf (wsV RX7 39 RX7 yX7_of wsX7_of) := goodIn_app (goodIn_of _ (by decide +kernel)) ggX7_placeOf_X7_of
theorem dX7_placeOf_0 : decode cX7_placeOf 0 = .ok (.iconst 0, 1) := by decide +kernel
theorem dX7_placeOf_1 : decode cX7_placeOf 1 = .ok (.istore_n 2, 1) := by decide +kernel
theorem dX7_placeOf_2 : decode cX7_placeOf 2 = .ok (.iload_n 2, 1) := by decide +kernel
theorem dX7_placeOf_3 : decode cX7_placeOf 3 = .ok (.aload_n 0, 1) := by decide +kernel
theorem dX7_placeOf_4 : decode cX7_placeOf 4 = .ok (.getfield 7, 3) := by decide +kernel
theorem dX7_placeOf_7 : decode cX7_placeOf 7 = .ok (.bipush 6, 2) := by decide +kernel
theorem dX7_placeOf_9 : decode cX7_placeOf 9 = .ok (.iaload, 1) := by decide +kernel
theorem dX7_placeOf_10 : decode cX7_placeOf 10 = .ok (.if_icmp .ge 21, 3) := by decide +kernel
theorem dX7_placeOf_13 : decode cX7_placeOf 13 = .ok (.aload_n 0, 1) := by decide +kernel
theorem dX7_placeOf_14 : decode cX7_placeOf 14 = .ok (.iload_n 2, 1) := by decide +kernel
theorem dX7_placeOf_15 : decode cX7_placeOf 15 = .ok (.iconst 0, 1) := by decide +kernel
theorem dX7_placeOf_16 : decode cX7_placeOf 16 = .ok (.invokevirtual 39, 3) := by decide +kernel
theorem dX7_placeOf_19 : decode cX7_placeOf 19 = .ok (.iload_n 1, 1) := by decide +kernel
theorem dX7_placeOf_20 : decode cX7_placeOf 20 = .ok (.if_icmp .ne 5, 3) := by decide +kernel
theorem dX7_placeOf_23 : decode cX7_placeOf 23 = .ok (.iload_n 2, 1) := by decide +kernel
theorem dX7_placeOf_24 : decode cX7_placeOf 24 = .ok (.ireturn, 1) := by decide +kernel
theorem dX7_placeOf_25 : decode cX7_placeOf 25 = .ok (.iinc 2 1, 3) := by decide +kernel
theorem dX7_placeOf_28 : decode cX7_placeOf 28 = .ok (.goto (-26), 3) := by decide +kernel
theorem dX7_placeOf_31 : decode cX7_placeOf 31 = .ok (.ldc 43, 2) := by decide +kernel
theorem dX7_placeOf_33 : decode cX7_placeOf 33 = .ok (.ireturn, 1) := by decide +kernel
set_option maxRecDepth 20000 in
theorem ggX7_isLot_X7_placeOf : GoodIn wsX7_isLot wsX7_placeOf := goodIn_r _ [5, 6, 7, 8, 9, 10, 4, 11, 12, 13, 14, 15, 16, 17, 18, 19, 20, 21, 22, 23, 24, 25, 26, 27, 28, 29] (by decide +kernel) (by decide +kernel)
set_option maxRecDepth 20000 in
theorem gX7_isLot_X7_placeOf : GoodIn wsX7_isLot (wsV RX7 44 RX7 yX7_placeOf wsX7_placeOf) := goodIn_app (goodIn_of _ (by decide +kernel)) ggX7_isLot_X7_placeOf
theorem dX7_isLot_0 : decode cX7_isLot 0 = .ok (.aload_n 0, 1) := by decide +kernel
theorem dX7_isLot_1 : decode cX7_isLot 1 = .ok (.iload_n 1, 1) := by decide +kernel
theorem dX7_isLot_2 : decode cX7_isLot 2 = .ok (.invokevirtual 44, 3) := by decide +kernel
theorem dX7_isLot_5 : decode cX7_isLot 5 = .ok (.ifCond .lt 7, 3) := by decide +kernel
theorem dX7_isLot_8 : decode cX7_isLot 8 = .ok (.iconst 1, 1) := by decide +kernel
theorem dX7_isLot_9 : decode cX7_isLot 9 = .ok (.goto 4, 3) := by decide +kernel
theorem dX7_isLot_12 : decode cX7_isLot 12 = .ok (.iconst 0, 1) := by decide +kernel
theorem dX7_isLot_13 : decode cX7_isLot 13 = .ok (.ireturn, 1) := by decide +kernel
set_option maxRecDepth 20000 in
theorem ggX7_cupAt_X7_of : GoodIn wsX7_cupAt wsX7_of := goodIn_r _ [5, 6, 7, 8, 9, 10, 11, 12, 13, 14, 15, 16, 17, 18, 19, 20, 21, 22, 23, 24] (by decide +kernel) (by decide +kernel)
set_option maxRecDepth 20000 in
theorem gX7_cupAt_X7_of : GoodIn wsX7_cupAt (wsV RX7 39 RX7 yX7_of wsX7_of) := goodIn_app (goodIn_of _ (by decide +kernel)) ggX7_cupAt_X7_of
theorem dX7_cupAt_0 : decode cX7_cupAt 0 = .ok (.aload_n 0, 1) := by decide +kernel
theorem dX7_cupAt_1 : decode cX7_cupAt 1 = .ok (.iload_n 1, 1) := by decide +kernel
theorem dX7_cupAt_2 : decode cX7_cupAt 2 = .ok (.iconst 2, 1) := by decide +kernel
theorem dX7_cupAt_3 : decode cX7_cupAt 3 = .ok (.invokevirtual 39, 3) := by decide +kernel
theorem dX7_cupAt_6 : decode cX7_cupAt 6 = .ok (.iload_n 2, 1) := by decide +kernel
theorem dX7_cupAt_7 : decode cX7_cupAt 7 = .ok (.aload_n 0, 1) := by decide +kernel
theorem dX7_cupAt_8 : decode cX7_cupAt 8 = .ok (.iload_n 1, 1) := by decide +kernel
theorem dX7_cupAt_9 : decode cX7_cupAt 9 = .ok (.iconst 3, 1) := by decide +kernel
theorem dX7_cupAt_10 : decode cX7_cupAt 10 = .ok (.invokevirtual 39, 3) := by decide +kernel
theorem dX7_cupAt_13 : decode cX7_cupAt 13 = .ok (.isub, 1) := by decide +kernel
theorem dX7_cupAt_14 : decode cX7_cupAt 14 = .ok (.iconst 4, 1) := by decide +kernel
theorem dX7_cupAt_15 : decode cX7_cupAt 15 = .ok (.idiv, 1) := by decide +kernel
theorem dX7_cupAt_16 : decode cX7_cupAt 16 = .ok (.isub, 1) := by decide +kernel
theorem dX7_cupAt_17 : decode cX7_cupAt 17 = .ok (.istore_n 3, 1) := by decide +kernel
theorem dX7_cupAt_18 : decode cX7_cupAt 18 = .ok (.iload_n 3, 1) := by decide +kernel
theorem dX7_cupAt_19 : decode cX7_cupAt 19 = .ok (.bipush 60, 2) := by decide +kernel
theorem dX7_cupAt_21 : decode cX7_cupAt 21 = .ok (.if_icmp .ge 8, 3) := by decide +kernel
theorem dX7_cupAt_24 : decode cX7_cupAt 24 = .ok (.bipush 60, 2) := by decide +kernel
theorem dX7_cupAt_26 : decode cX7_cupAt 26 = .ok (.goto 4, 3) := by decide +kernel
theorem dX7_cupAt_29 : decode cX7_cupAt 29 = .ok (.iload_n 3, 1) := by decide +kernel
theorem dX7_cupAt_30 : decode cX7_cupAt 30 = .ok (.ireturn, 1) := by decide +kernel
set_option maxRecDepth 20000 in
theorem ggX7_cupOf_X7_cupAt : GoodIn wsX7_cupOf wsX7_cupAt := goodIn_r _ [6, 7, 8, 9, 5, 10, 1, 11, 12, 13, 14, 15, 16, 17, 18, 19, 20, 21, 22, 23, 24, 25, 26, 27, 28] (by decide +kernel) (by decide +kernel)
set_option maxRecDepth 20000 in
theorem gX7_cupOf_X7_cupAt : GoodIn wsX7_cupOf (wsV RX7 48 RX7 yX7_cupAt wsX7_cupAt) := goodIn_app (goodIn_of _ (by decide +kernel)) ggX7_cupOf_X7_cupAt
theorem dX7_cupOf_0 : decode cX7_cupOf 0 = .ok (.aload_n 0, 1) := by decide +kernel
theorem dX7_cupOf_1 : decode cX7_cupOf 1 = .ok (.iload_n 1, 1) := by decide +kernel
theorem dX7_cupOf_2 : decode cX7_cupOf 2 = .ok (.aload_n 0, 1) := by decide +kernel
theorem dX7_cupOf_3 : decode cX7_cupOf 3 = .ok (.getfield 7, 3) := by decide +kernel
theorem dX7_cupOf_6 : decode cX7_cupOf 6 = .ok (.iconst 0, 1) := by decide +kernel
theorem dX7_cupOf_7 : decode cX7_cupOf 7 = .ok (.iaload, 1) := by decide +kernel
theorem dX7_cupOf_8 : decode cX7_cupOf 8 = .ok (.invokevirtual 48, 3) := by decide +kernel
theorem dX7_cupOf_11 : decode cX7_cupOf 11 = .ok (.ireturn, 1) := by decide +kernel
theorem dX7_bandOf_0 : decode cX7_bandOf 0 = .ok (.iload_n 0, 1) := by decide +kernel
theorem dX7_bandOf_1 : decode cX7_bandOf 1 = .ok (.bipush 70, 2) := by decide +kernel
theorem dX7_bandOf_3 : decode cX7_bandOf 3 = .ok (.if_icmp .ge 7, 3) := by decide +kernel
theorem dX7_bandOf_6 : decode cX7_bandOf 6 = .ok (.iconst 0, 1) := by decide +kernel
theorem dX7_bandOf_7 : decode cX7_bandOf 7 = .ok (.goto 24, 3) := by decide +kernel
theorem dX7_bandOf_10 : decode cX7_bandOf 10 = .ok (.iload_n 0, 1) := by decide +kernel
theorem dX7_bandOf_11 : decode cX7_bandOf 11 = .ok (.bipush 80, 2) := by decide +kernel
theorem dX7_bandOf_13 : decode cX7_bandOf 13 = .ok (.if_icmp .ge 7, 3) := by decide +kernel
theorem dX7_bandOf_16 : decode cX7_bandOf 16 = .ok (.iconst 1, 1) := by decide +kernel
theorem dX7_bandOf_17 : decode cX7_bandOf 17 = .ok (.goto 14, 3) := by decide +kernel
theorem dX7_bandOf_20 : decode cX7_bandOf 20 = .ok (.iload_n 0, 1) := by decide +kernel
theorem dX7_bandOf_21 : decode cX7_bandOf 21 = .ok (.bipush 90, 2) := by decide +kernel
theorem dX7_bandOf_23 : decode cX7_bandOf 23 = .ok (.if_icmp .ge 7, 3) := by decide +kernel
theorem dX7_bandOf_26 : decode cX7_bandOf 26 = .ok (.iconst 2, 1) := by decide +kernel
theorem dX7_bandOf_27 : decode cX7_bandOf 27 = .ok (.goto 4, 3) := by decide +kernel
theorem dX7_bandOf_30 : decode cX7_bandOf 30 = .ok (.iconst 3, 1) := by decide +kernel
theorem dX7_bandOf_31 : decode cX7_bandOf 31 = .ok (.ireturn, 1) := by decide +kernel
set_option maxRecDepth 20000 in
theorem ggX7_lateAt_X7_of : GoodIn wsX7_lateAt wsX7_of := goodIn_r _ [5, 6, 7, 8, 9, 10, 11, 12, 13, 14, 15, 16, 17, 18, 19, 20, 21, 22, 23, 24] (by decide +kernel) (by decide +kernel)
set_option maxRecDepth 20000 in
theorem gX7_lateAt_X7_of : GoodIn wsX7_lateAt (wsV RX7 39 RX7 yX7_of wsX7_of) := goodIn_app (goodIn_of _ (by decide +kernel)) ggX7_lateAt_X7_of
theorem dX7_lateAt_0 : decode cX7_lateAt 0 = .ok (.iload_n 2, 1) := by decide +kernel
theorem dX7_lateAt_1 : decode cX7_lateAt 1 = .ok (.aload_n 0, 1) := by decide +kernel
theorem dX7_lateAt_2 : decode cX7_lateAt 2 = .ok (.iload_n 1, 1) := by decide +kernel
theorem dX7_lateAt_3 : decode cX7_lateAt 3 = .ok (.iconst 3, 1) := by decide +kernel
theorem dX7_lateAt_4 : decode cX7_lateAt 4 = .ok (.invokevirtual 39, 3) := by decide +kernel
theorem dX7_lateAt_7 : decode cX7_lateAt 7 = .ok (.isub, 1) := by decide +kernel
theorem dX7_lateAt_8 : decode cX7_lateAt 8 = .ok (.iconst 3, 1) := by decide +kernel
theorem dX7_lateAt_9 : decode cX7_lateAt 9 = .ok (.isub, 1) := by decide +kernel
theorem dX7_lateAt_10 : decode cX7_lateAt 10 = .ok (.istore_n 3, 1) := by decide +kernel
theorem dX7_lateAt_11 : decode cX7_lateAt 11 = .ok (.iload_n 3, 1) := by decide +kernel
theorem dX7_lateAt_12 : decode cX7_lateAt 12 = .ok (.ifCond .ge 7, 3) := by decide +kernel
theorem dX7_lateAt_15 : decode cX7_lateAt 15 = .ok (.iconst 0, 1) := by decide +kernel
theorem dX7_lateAt_16 : decode cX7_lateAt 16 = .ok (.goto 4, 3) := by decide +kernel
theorem dX7_lateAt_19 : decode cX7_lateAt 19 = .ok (.iload_n 3, 1) := by decide +kernel
theorem dX7_lateAt_20 : decode cX7_lateAt 20 = .ok (.ireturn, 1) := by decide +kernel
set_option maxRecDepth 20000 in
theorem ggX7_paidAt_X7_cupAt : GoodIn wsX7_paidAt wsX7_cupAt := goodIn_r _ [6, 7, 8, 9, 5, 10, 1, 15, 16, 17, 18, 19, 20, 21, 22, 23, 24, 25, 26, 27, 28, 29, 30, 31, 32] (by decide +kernel) (by decide +kernel)
set_option maxRecDepth 20000 in
theorem gX7_paidAt_X7_cupAt : GoodIn wsX7_paidAt (wsV RX7 48 RX7 yX7_cupAt wsX7_cupAt) := goodIn_app (goodIn_of _ (by decide +kernel)) ggX7_paidAt_X7_cupAt
set_option maxRecDepth 20000 in
theorem ggX7_paidAt_X7_lateAt : GoodIn wsX7_paidAt wsX7_lateAt := goodIn_r _ [14, 7, 8, 9, 5, 10, 1, 15, 16, 17, 18, 19, 20, 21, 22, 23, 24, 25, 26, 27, 28, 29, 30, 31, 32] (by decide +kernel) (by decide +kernel)
set_option maxRecDepth 20000 in
theorem gX7_paidAt_X7_lateAt : GoodIn wsX7_paidAt (wsV RX7 51 RX7 yX7_lateAt wsX7_lateAt) := goodIn_app (goodIn_of _ (by decide +kernel)) ggX7_paidAt_X7_lateAt
theorem dX7_paidAt_0 : decode cX7_paidAt 0 = .ok (.iload_n 2, 1) := by decide +kernel
theorem dX7_paidAt_1 : decode cX7_paidAt 1 = .ok (.aload_n 0, 1) := by decide +kernel
theorem dX7_paidAt_2 : decode cX7_paidAt 2 = .ok (.iload_n 1, 1) := by decide +kernel
theorem dX7_paidAt_3 : decode cX7_paidAt 3 = .ok (.iload_n 3, 1) := by decide +kernel
theorem dX7_paidAt_4 : decode cX7_paidAt 4 = .ok (.invokevirtual 48, 3) := by decide +kernel
theorem dX7_paidAt_7 : decode cX7_paidAt 7 = .ok (.bipush 80, 2) := by decide +kernel
theorem dX7_paidAt_9 : decode cX7_paidAt 9 = .ok (.isub, 1) := by decide +kernel
theorem dX7_paidAt_10 : decode cX7_paidAt 10 = .ok (.aload_n 0, 1) := by decide +kernel
theorem dX7_paidAt_11 : decode cX7_paidAt 11 = .ok (.getfield 7, 3) := by decide +kernel
theorem dX7_paidAt_14 : decode cX7_paidAt 14 = .ok (.bipush 10, 2) := by decide +kernel
theorem dX7_paidAt_16 : decode cX7_paidAt 16 = .ok (.iaload, 1) := by decide +kernel
theorem dX7_paidAt_17 : decode cX7_paidAt 17 = .ok (.imul, 1) := by decide +kernel
theorem dX7_paidAt_18 : decode cX7_paidAt 18 = .ok (.iadd, 1) := by decide +kernel
theorem dX7_paidAt_19 : decode cX7_paidAt 19 = .ok (.aload_n 0, 1) := by decide +kernel
theorem dX7_paidAt_20 : decode cX7_paidAt 20 = .ok (.getfield 7, 3) := by decide +kernel
theorem dX7_paidAt_23 : decode cX7_paidAt 23 = .ok (.bipush 11, 2) := by decide +kernel
theorem dX7_paidAt_25 : decode cX7_paidAt 25 = .ok (.iaload, 1) := by decide +kernel
theorem dX7_paidAt_26 : decode cX7_paidAt 26 = .ok (.aload_n 0, 1) := by decide +kernel
theorem dX7_paidAt_27 : decode cX7_paidAt 27 = .ok (.iload_n 1, 1) := by decide +kernel
theorem dX7_paidAt_28 : decode cX7_paidAt 28 = .ok (.iload_n 3, 1) := by decide +kernel
theorem dX7_paidAt_29 : decode cX7_paidAt 29 = .ok (.invokevirtual 51, 3) := by decide +kernel
theorem dX7_paidAt_32 : decode cX7_paidAt 32 = .ok (.imul, 1) := by decide +kernel
theorem dX7_paidAt_33 : decode cX7_paidAt 33 = .ok (.isub, 1) := by decide +kernel
theorem dX7_paidAt_34 : decode cX7_paidAt 34 = .ok (.istore 4, 2) := by decide +kernel
theorem dX7_paidAt_36 : decode cX7_paidAt 36 = .ok (.iload 4, 2) := by decide +kernel
theorem dX7_paidAt_38 : decode cX7_paidAt 38 = .ok (.iconst 1, 1) := by decide +kernel
theorem dX7_paidAt_39 : decode cX7_paidAt 39 = .ok (.if_icmp .ge 7, 3) := by decide +kernel
theorem dX7_paidAt_42 : decode cX7_paidAt 42 = .ok (.iconst 1, 1) := by decide +kernel
theorem dX7_paidAt_43 : decode cX7_paidAt 43 = .ok (.goto 5, 3) := by decide +kernel
theorem dX7_paidAt_46 : decode cX7_paidAt 46 = .ok (.iload 4, 2) := by decide +kernel
theorem dX7_paidAt_48 : decode cX7_paidAt 48 = .ok (.ireturn, 1) := by decide +kernel
set_option maxRecDepth 20000 in
theorem ggX7_gainAt_X7_paidAt : GoodIn wsX7_gainAt wsX7_paidAt := goodIn_r _ [6, 1, 7, 8, 9, 5, 10, 11, 12, 13, 14, 15, 16, 17, 18, 22, 23, 24, 25, 26, 27, 28, 29, 30, 31, 32, 33, 34, 35, 36, 37, 38, 39] (by decide +kernel) (by decide +kernel)
set_option maxRecDepth 20000 in
theorem gX7_gainAt_X7_paidAt : GoodIn wsX7_gainAt (wsV RX7 54 RX7 yX7_paidAt wsX7_paidAt) := goodIn_app (goodIn_of _ (by decide +kernel)) ggX7_gainAt_X7_paidAt
set_option maxRecDepth 20000 in
theorem ggX7_gainAt_X7_cupAt : GoodIn wsX7_gainAt wsX7_cupAt := goodIn_r _ [10, 11, 12, 13, 5, 14, 1, 22, 23, 24, 25, 26, 27, 28, 29, 30, 31, 32, 33, 34, 35, 36, 37, 38, 39] (by decide +kernel) (by decide +kernel)
set_option maxRecDepth 20000 in
theorem gX7_gainAt_X7_cupAt : GoodIn wsX7_gainAt (wsV RX7 48 RX7 yX7_cupAt wsX7_cupAt) := goodIn_app (goodIn_of _ (by decide +kernel)) ggX7_gainAt_X7_cupAt
set_option maxRecDepth 20000 in
theorem ggX7_gainAt_X7_bandOf : GoodIn wsX7_gainAt wsX7_bandOf := goodIn_r _ [21] (by decide +kernel) (by decide +kernel)
set_option maxRecDepth 20000 in
theorem gX7_gainAt_X7_bandOf : GoodIn wsX7_gainAt (va_wsS RX7 58 yX7_bandOf wsX7_bandOf) := goodIn_app (goodIn_of _ (by decide +kernel)) ggX7_gainAt_X7_bandOf
theorem dX7_gainAt_0 : decode cX7_gainAt 0 = .ok (.aload_n 0, 1) := by decide +kernel
theorem dX7_gainAt_1 : decode cX7_gainAt 1 = .ok (.iload_n 1, 1) := by decide +kernel
theorem dX7_gainAt_2 : decode cX7_gainAt 2 = .ok (.iload_n 2, 1) := by decide +kernel
theorem dX7_gainAt_3 : decode cX7_gainAt 3 = .ok (.iload_n 3, 1) := by decide +kernel
theorem dX7_gainAt_4 : decode cX7_gainAt 4 = .ok (.invokevirtual 54, 3) := by decide +kernel
theorem dX7_gainAt_7 : decode cX7_gainAt 7 = .ok (.aload_n 0, 1) := by decide +kernel
theorem dX7_gainAt_8 : decode cX7_gainAt 8 = .ok (.getfield 7, 3) := by decide +kernel
theorem dX7_gainAt_11 : decode cX7_gainAt 11 = .ok (.bipush 13, 2) := by decide +kernel
theorem dX7_gainAt_13 : decode cX7_gainAt 13 = .ok (.aload_n 0, 1) := by decide +kernel
theorem dX7_gainAt_14 : decode cX7_gainAt 14 = .ok (.iload_n 1, 1) := by decide +kernel
theorem dX7_gainAt_15 : decode cX7_gainAt 15 = .ok (.iload_n 3, 1) := by decide +kernel
theorem dX7_gainAt_16 : decode cX7_gainAt 16 = .ok (.invokevirtual 48, 3) := by decide +kernel
theorem dX7_gainAt_19 : decode cX7_gainAt 19 = .ok (.invokestatic 58, 3) := by decide +kernel
theorem dX7_gainAt_22 : decode cX7_gainAt 22 = .ok (.iadd, 1) := by decide +kernel
theorem dX7_gainAt_23 : decode cX7_gainAt 23 = .ok (.iaload, 1) := by decide +kernel
theorem dX7_gainAt_24 : decode cX7_gainAt 24 = .ok (.isub, 1) := by decide +kernel
theorem dX7_gainAt_25 : decode cX7_gainAt 25 = .ok (.ireturn, 1) := by decide +kernel
theorem dX7_makes_0 : decode cX7_makes 0 = .ok (.bipush 17, 2) := by decide +kernel
theorem dX7_makes_2 : decode cX7_makes 2 = .ok (.iconst 4, 1) := by decide +kernel
theorem dX7_makes_3 : decode cX7_makes 3 = .ok (.aload_n 0, 1) := by decide +kernel
theorem dX7_makes_4 : decode cX7_makes 4 = .ok (.getfield 7, 3) := by decide +kernel
theorem dX7_makes_7 : decode cX7_makes 7 = .ok (.bipush 6, 2) := by decide +kernel
theorem dX7_makes_9 : decode cX7_makes 9 = .ok (.iaload, 1) := by decide +kernel
theorem dX7_makes_10 : decode cX7_makes 10 = .ok (.imul, 1) := by decide +kernel
theorem dX7_makes_11 : decode cX7_makes 11 = .ok (.iadd, 1) := by decide +kernel
theorem dX7_makes_12 : decode cX7_makes 12 = .ok (.istore 4, 2) := by decide +kernel
theorem dX7_makes_14 : decode cX7_makes 14 = .ok (.aload_n 0, 1) := by decide +kernel
theorem dX7_makes_15 : decode cX7_makes 15 = .ok (.getfield 7, 3) := by decide +kernel
theorem dX7_makes_18 : decode cX7_makes 18 = .ok (.iload 4, 2) := by decide +kernel
theorem dX7_makes_20 : decode cX7_makes 20 = .ok (.iconst 0, 1) := by decide +kernel
theorem dX7_makes_21 : decode cX7_makes 21 = .ok (.iadd, 1) := by decide +kernel
theorem dX7_makes_22 : decode cX7_makes 22 = .ok (.aload_n 0, 1) := by decide +kernel
theorem dX7_makes_23 : decode cX7_makes 23 = .ok (.getfield 7, 3) := by decide +kernel
theorem dX7_makes_26 : decode cX7_makes 26 = .ok (.iconst 5, 1) := by decide +kernel
theorem dX7_makes_27 : decode cX7_makes 27 = .ok (.iaload, 1) := by decide +kernel
theorem dX7_makes_28 : decode cX7_makes 28 = .ok (.iastore, 1) := by decide +kernel
theorem dX7_makes_29 : decode cX7_makes 29 = .ok (.aload_n 0, 1) := by decide +kernel
theorem dX7_makes_30 : decode cX7_makes 30 = .ok (.getfield 7, 3) := by decide +kernel
theorem dX7_makes_33 : decode cX7_makes 33 = .ok (.iload 4, 2) := by decide +kernel
theorem dX7_makes_35 : decode cX7_makes 35 = .ok (.iconst 1, 1) := by decide +kernel
theorem dX7_makes_36 : decode cX7_makes 36 = .ok (.iadd, 1) := by decide +kernel
theorem dX7_makes_37 : decode cX7_makes 37 = .ok (.iload_n 1, 1) := by decide +kernel
theorem dX7_makes_38 : decode cX7_makes 38 = .ok (.iastore, 1) := by decide +kernel
theorem dX7_makes_39 : decode cX7_makes 39 = .ok (.aload_n 0, 1) := by decide +kernel
theorem dX7_makes_40 : decode cX7_makes 40 = .ok (.getfield 7, 3) := by decide +kernel
theorem dX7_makes_43 : decode cX7_makes 43 = .ok (.iload 4, 2) := by decide +kernel
theorem dX7_makes_45 : decode cX7_makes 45 = .ok (.iconst 2, 1) := by decide +kernel
theorem dX7_makes_46 : decode cX7_makes 46 = .ok (.iadd, 1) := by decide +kernel
theorem dX7_makes_47 : decode cX7_makes 47 = .ok (.iload_n 2, 1) := by decide +kernel
theorem dX7_makes_48 : decode cX7_makes 48 = .ok (.iastore, 1) := by decide +kernel
theorem dX7_makes_49 : decode cX7_makes 49 = .ok (.aload_n 0, 1) := by decide +kernel
theorem dX7_makes_50 : decode cX7_makes 50 = .ok (.getfield 7, 3) := by decide +kernel
theorem dX7_makes_53 : decode cX7_makes 53 = .ok (.iload 4, 2) := by decide +kernel
theorem dX7_makes_55 : decode cX7_makes 55 = .ok (.iconst 3, 1) := by decide +kernel
theorem dX7_makes_56 : decode cX7_makes 56 = .ok (.iadd, 1) := by decide +kernel
theorem dX7_makes_57 : decode cX7_makes 57 = .ok (.iload_n 3, 1) := by decide +kernel
theorem dX7_makes_58 : decode cX7_makes 58 = .ok (.iastore, 1) := by decide +kernel
theorem dX7_makes_59 : decode cX7_makes 59 = .ok (.aload_n 0, 1) := by decide +kernel
theorem dX7_makes_60 : decode cX7_makes 60 = .ok (.getfield 7, 3) := by decide +kernel
theorem dX7_makes_63 : decode cX7_makes 63 = .ok (.bipush 6, 2) := by decide +kernel
theorem dX7_makes_65 : decode cX7_makes 65 = .ok (.dup2, 1) := by decide +kernel
theorem dX7_makes_66 : decode cX7_makes 66 = .ok (.iaload, 1) := by decide +kernel
theorem dX7_makes_67 : decode cX7_makes 67 = .ok (.iconst 1, 1) := by decide +kernel
theorem dX7_makes_68 : decode cX7_makes 68 = .ok (.iadd, 1) := by decide +kernel
theorem dX7_makes_69 : decode cX7_makes 69 = .ok (.iastore, 1) := by decide +kernel
theorem dX7_makes_70 : decode cX7_makes 70 = .ok (.aload_n 0, 1) := by decide +kernel
theorem dX7_makes_71 : decode cX7_makes 71 = .ok (.getfield 7, 3) := by decide +kernel
theorem dX7_makes_74 : decode cX7_makes 74 = .ok (.iconst 5, 1) := by decide +kernel
theorem dX7_makes_75 : decode cX7_makes 75 = .ok (.dup2, 1) := by decide +kernel
theorem dX7_makes_76 : decode cX7_makes 76 = .ok (.iaload, 1) := by decide +kernel
theorem dX7_makes_77 : decode cX7_makes 77 = .ok (.iconst 1, 1) := by decide +kernel
theorem dX7_makes_78 : decode cX7_makes 78 = .ok (.iadd, 1) := by decide +kernel
theorem dX7_makes_79 : decode cX7_makes 79 = .ok (.iastore, 1) := by decide +kernel
theorem dX7_makes_80 : decode cX7_makes 80 = .ok (.aload_n 0, 1) := by decide +kernel
theorem dX7_makes_81 : decode cX7_makes 81 = .ok (.getfield 7, 3) := by decide +kernel
theorem dX7_makes_84 : decode cX7_makes 84 = .ok (.iconst 5, 1) := by decide +kernel
theorem dX7_makes_85 : decode cX7_makes 85 = .ok (.iaload, 1) := by decide +kernel
theorem dX7_makes_86 : decode cX7_makes 86 = .ok (.iconst 1, 1) := by decide +kernel
theorem dX7_makes_87 : decode cX7_makes 87 = .ok (.isub, 1) := by decide +kernel
theorem dX7_makes_88 : decode cX7_makes 88 = .ok (.ireturn, 1) := by decide +kernel
set_option maxRecDepth 20000 in
theorem ggX7_takes_X7_placeOf : GoodIn wsX7_takes wsX7_placeOf := goodIn_r _ [6, 1, 7, 8, 9, 10, 5, 11, 12, 13, 14, 15, 16, 17, 18, 19, 20, 21, 22, 23, 24, 25, 26, 27, 28, 29] (by decide +kernel) (by decide +kernel)
set_option maxRecDepth 20000 in
theorem gX7_takes_X7_placeOf : GoodIn wsX7_takes (wsV RX7 44 RX7 yX7_placeOf wsX7_placeOf) := goodIn_app (goodIn_of _ (by decide +kernel)) ggX7_takes_X7_placeOf
set_option maxRecDepth 20000 in
theorem ggX7_takes_X7_of : GoodIn wsX7_takes wsX7_of := goodIn_r _ [11, 1, 12, 13, 14, 15, 16, 17, 18, 19, 20, 21, 22, 23, 24, 25, 26, 27, 28, 29] (by decide +kernel) (by decide +kernel)
set_option maxRecDepth 20000 in
theorem gX7_takes_X7_of : GoodIn wsX7_takes (wsV RX7 39 RX7 yX7_of wsX7_of) := goodIn_app (goodIn_of _ (by decide +kernel)) ggX7_takes_X7_of
theorem dX7_takes_0 : decode cX7_takes 0 = .ok (.aload_n 0, 1) := by decide +kernel
theorem dX7_takes_1 : decode cX7_takes 1 = .ok (.iload_n 1, 1) := by decide +kernel
theorem dX7_takes_2 : decode cX7_takes 2 = .ok (.invokevirtual 44, 3) := by decide +kernel
theorem dX7_takes_5 : decode cX7_takes 5 = .ok (.istore_n 3, 1) := by decide +kernel
theorem dX7_takes_6 : decode cX7_takes 6 = .ok (.aload_n 0, 1) := by decide +kernel
theorem dX7_takes_7 : decode cX7_takes 7 = .ok (.getfield 7, 3) := by decide +kernel
theorem dX7_takes_10 : decode cX7_takes 10 = .ok (.bipush 17, 2) := by decide +kernel
theorem dX7_takes_12 : decode cX7_takes 12 = .ok (.iconst 4, 1) := by decide +kernel
theorem dX7_takes_13 : decode cX7_takes 13 = .ok (.iload_n 3, 1) := by decide +kernel
theorem dX7_takes_14 : decode cX7_takes 14 = .ok (.imul, 1) := by decide +kernel
theorem dX7_takes_15 : decode cX7_takes 15 = .ok (.iadd, 1) := by decide +kernel
theorem dX7_takes_16 : decode cX7_takes 16 = .ok (.iconst 1, 1) := by decide +kernel
theorem dX7_takes_17 : decode cX7_takes 17 = .ok (.iadd, 1) := by decide +kernel
theorem dX7_takes_18 : decode cX7_takes 18 = .ok (.dup2, 1) := by decide +kernel
theorem dX7_takes_19 : decode cX7_takes 19 = .ok (.iaload, 1) := by decide +kernel
theorem dX7_takes_20 : decode cX7_takes 20 = .ok (.iload_n 2, 1) := by decide +kernel
theorem dX7_takes_21 : decode cX7_takes 21 = .ok (.isub, 1) := by decide +kernel
theorem dX7_takes_22 : decode cX7_takes 22 = .ok (.iastore, 1) := by decide +kernel
theorem dX7_takes_23 : decode cX7_takes 23 = .ok (.aload_n 0, 1) := by decide +kernel
theorem dX7_takes_24 : decode cX7_takes 24 = .ok (.iload_n 3, 1) := by decide +kernel
theorem dX7_takes_25 : decode cX7_takes 25 = .ok (.iconst 1, 1) := by decide +kernel
theorem dX7_takes_26 : decode cX7_takes 26 = .ok (.invokevirtual 39, 3) := by decide +kernel
theorem dX7_takes_29 : decode cX7_takes 29 = .ok (.ifCond .ne 61, 3) := by decide +kernel
theorem dX7_takes_32 : decode cX7_takes 32 = .ok (.aload_n 0, 1) := by decide +kernel
theorem dX7_takes_33 : decode cX7_takes 33 = .ok (.getfield 7, 3) := by decide +kernel
theorem dX7_takes_36 : decode cX7_takes 36 = .ok (.bipush 6, 2) := by decide +kernel
theorem dX7_takes_38 : decode cX7_takes 38 = .ok (.dup2, 1) := by decide +kernel
theorem dX7_takes_39 : decode cX7_takes 39 = .ok (.iaload, 1) := by decide +kernel
theorem dX7_takes_40 : decode cX7_takes 40 = .ok (.iconst 1, 1) := by decide +kernel
theorem dX7_takes_41 : decode cX7_takes 41 = .ok (.isub, 1) := by decide +kernel
theorem dX7_takes_42 : decode cX7_takes 42 = .ok (.iastore, 1) := by decide +kernel
theorem dX7_takes_43 : decode cX7_takes 43 = .ok (.bipush 17, 2) := by decide +kernel
theorem dX7_takes_45 : decode cX7_takes 45 = .ok (.iconst 4, 1) := by decide +kernel
theorem dX7_takes_46 : decode cX7_takes 46 = .ok (.iload_n 3, 1) := by decide +kernel
theorem dX7_takes_47 : decode cX7_takes 47 = .ok (.imul, 1) := by decide +kernel
theorem dX7_takes_48 : decode cX7_takes 48 = .ok (.iadd, 1) := by decide +kernel
theorem dX7_takes_49 : decode cX7_takes 49 = .ok (.istore 4, 2) := by decide +kernel
theorem dX7_takes_51 : decode cX7_takes 51 = .ok (.iload 4, 2) := by decide +kernel
theorem dX7_takes_53 : decode cX7_takes 53 = .ok (.bipush 17, 2) := by decide +kernel
theorem dX7_takes_55 : decode cX7_takes 55 = .ok (.iconst 4, 1) := by decide +kernel
theorem dX7_takes_56 : decode cX7_takes 56 = .ok (.aload_n 0, 1) := by decide +kernel
theorem dX7_takes_57 : decode cX7_takes 57 = .ok (.getfield 7, 3) := by decide +kernel
theorem dX7_takes_60 : decode cX7_takes 60 = .ok (.bipush 6, 2) := by decide +kernel
theorem dX7_takes_62 : decode cX7_takes 62 = .ok (.iaload, 1) := by decide +kernel
theorem dX7_takes_63 : decode cX7_takes 63 = .ok (.imul, 1) := by decide +kernel
theorem dX7_takes_64 : decode cX7_takes 64 = .ok (.iadd, 1) := by decide +kernel
theorem dX7_takes_65 : decode cX7_takes 65 = .ok (.if_icmp .ge 25, 3) := by decide +kernel
theorem dX7_takes_68 : decode cX7_takes 68 = .ok (.aload_n 0, 1) := by decide +kernel
theorem dX7_takes_69 : decode cX7_takes 69 = .ok (.getfield 7, 3) := by decide +kernel
theorem dX7_takes_72 : decode cX7_takes 72 = .ok (.iload 4, 2) := by decide +kernel
theorem dX7_takes_74 : decode cX7_takes 74 = .ok (.aload_n 0, 1) := by decide +kernel
theorem dX7_takes_75 : decode cX7_takes 75 = .ok (.getfield 7, 3) := by decide +kernel
theorem dX7_takes_78 : decode cX7_takes 78 = .ok (.iload 4, 2) := by decide +kernel
theorem dX7_takes_80 : decode cX7_takes 80 = .ok (.iconst 4, 1) := by decide +kernel
theorem dX7_takes_81 : decode cX7_takes 81 = .ok (.iadd, 1) := by decide +kernel
theorem dX7_takes_82 : decode cX7_takes 82 = .ok (.iaload, 1) := by decide +kernel
theorem dX7_takes_83 : decode cX7_takes 83 = .ok (.iastore, 1) := by decide +kernel
theorem dX7_takes_84 : decode cX7_takes 84 = .ok (.iinc 4 1, 3) := by decide +kernel
theorem dX7_takes_87 : decode cX7_takes 87 = .ok (.goto (-36), 3) := by decide +kernel
theorem dX7_takes_90 : decode cX7_takes 90 = .ok (.return_, 1) := by decide +kernel
set_option maxRecDepth 20000 in
theorem ggX7_lot_X7_in : GoodIn wsX7_lot wsX7_in := goodIn_r _ [7] (by decide +kernel) (by decide +kernel)
set_option maxRecDepth 20000 in
theorem gX7_lot_X7_in : GoodIn wsX7_lot (va_wsS RX7 61 yX7_in wsX7_in) := goodIn_app (goodIn_of _ (by decide +kernel)) ggX7_lot_X7_in
set_option maxRecDepth 20000 in
theorem ggX7_lot_X7_changes : GoodIn wsX7_lot wsX7_changes := goodIn_r _ [11, 12, 13, 14, 2, 19, 20, 21, 22, 23, 24, 25, 26, 27, 28, 29, 30, 31, 32, 33, 34, 35, 36] (by decide +kernel) (by decide +kernel)
set_option maxRecDepth 20000 in
theorem gX7_lot_X7_changes : GoodIn wsX7_lot (wsV RX7 67 RX7 yX7_changes wsX7_changes) := goodIn_app (goodIn_of _ (by decide +kernel)) ggX7_lot_X7_changes
set_option maxRecDepth 20000 in
theorem ggX7_lot_X7_makes : GoodIn wsX7_lot wsX7_makes := goodIn_r _ [18, 2, 19, 20, 21, 22, 23, 24, 25, 26, 27, 28, 29, 30, 31, 32, 33, 34, 35, 36] (by decide +kernel) (by decide +kernel)
set_option maxRecDepth 20000 in
theorem gX7_lot_X7_makes : GoodIn wsX7_lot (wsV RX7 70 RX7 yX7_makes wsX7_makes) := goodIn_app (goodIn_of _ (by decide +kernel)) ggX7_lot_X7_makes
theorem dX7_lot_0 : decode cX7_lot 0 = .ok (.iload_n 1, 1) := by decide +kernel
theorem dX7_lot_1 : decode cX7_lot 1 = .ok (.iconst 1, 1) := by decide +kernel
theorem dX7_lot_2 : decode cX7_lot 2 = .ok (.sipush 999, 3) := by decide +kernel
theorem dX7_lot_5 : decode cX7_lot 5 = .ok (.invokestatic 61, 3) := by decide +kernel
theorem dX7_lot_8 : decode cX7_lot 8 = .ok (.ifCond .eq 14, 3) := by decide +kernel
theorem dX7_lot_11 : decode cX7_lot 11 = .ok (.iload_n 2, 1) := by decide +kernel
theorem dX7_lot_12 : decode cX7_lot 12 = .ok (.bipush 60, 2) := by decide +kernel
theorem dX7_lot_14 : decode cX7_lot 14 = .ok (.bipush 100, 2) := by decide +kernel
theorem dX7_lot_16 : decode cX7_lot 16 = .ok (.invokestatic 61, 3) := by decide +kernel
theorem dX7_lot_19 : decode cX7_lot 19 = .ok (.ifCond .ne 6, 3) := by decide +kernel
theorem dX7_lot_22 : decode cX7_lot 22 = .ok (.ldc 65, 2) := by decide +kernel
theorem dX7_lot_24 : decode cX7_lot 24 = .ok (.ireturn, 1) := by decide +kernel
theorem dX7_lot_25 : decode cX7_lot 25 = .ok (.aload_n 0, 1) := by decide +kernel
theorem dX7_lot_26 : decode cX7_lot 26 = .ok (.getfield 7, 3) := by decide +kernel
theorem dX7_lot_29 : decode cX7_lot 29 = .ok (.bipush 6, 2) := by decide +kernel
theorem dX7_lot_31 : decode cX7_lot 31 = .ok (.iaload, 1) := by decide +kernel
theorem dX7_lot_32 : decode cX7_lot 32 = .ok (.bipush 12, 2) := by decide +kernel
theorem dX7_lot_34 : decode cX7_lot 34 = .ok (.if_icmp .ne 6, 3) := by decide +kernel
theorem dX7_lot_37 : decode cX7_lot 37 = .ok (.ldc 66, 2) := by decide +kernel
theorem dX7_lot_39 : decode cX7_lot 39 = .ok (.ireturn, 1) := by decide +kernel
theorem dX7_lot_40 : decode cX7_lot 40 = .ok (.aload_n 0, 1) := by decide +kernel
theorem dX7_lot_41 : decode cX7_lot 41 = .ok (.invokevirtual 67, 3) := by decide +kernel
theorem dX7_lot_44 : decode cX7_lot 44 = .ok (.aload_n 0, 1) := by decide +kernel
theorem dX7_lot_45 : decode cX7_lot 45 = .ok (.iload_n 1, 1) := by decide +kernel
theorem dX7_lot_46 : decode cX7_lot 46 = .ok (.iload_n 2, 1) := by decide +kernel
theorem dX7_lot_47 : decode cX7_lot 47 = .ok (.aload_n 0, 1) := by decide +kernel
theorem dX7_lot_48 : decode cX7_lot 48 = .ok (.getfield 7, 3) := by decide +kernel
theorem dX7_lot_51 : decode cX7_lot 51 = .ok (.iconst 0, 1) := by decide +kernel
theorem dX7_lot_52 : decode cX7_lot 52 = .ok (.iaload, 1) := by decide +kernel
theorem dX7_lot_53 : decode cX7_lot 53 = .ok (.invokevirtual 70, 3) := by decide +kernel
theorem dX7_lot_56 : decode cX7_lot 56 = .ok (.ireturn, 1) := by decide +kernel
set_option maxRecDepth 20000 in
theorem ggX7_part_X7_isLot : GoodIn wsX7_part wsX7_isLot := goodIn_r _ [9, 10, 11, 12, 8, 13, 3, 14, 15, 16, 17, 18, 34, 35, 36, 37, 38, 39, 40, 41, 42, 43, 44, 45, 46, 47, 48, 49, 50, 51] (by decide +kernel) (by decide +kernel)
set_option maxRecDepth 20000 in
theorem gX7_part_X7_isLot : GoodIn wsX7_part (wsV RX7 73 RX7 yX7_isLot wsX7_isLot) := goodIn_app (goodIn_of _ (by decide +kernel)) ggX7_part_X7_isLot
set_option maxRecDepth 20000 in
theorem ggX7_part_X7_placeOf : GoodIn wsX7_part wsX7_placeOf := goodIn_r _ [13, 3, 14, 15, 16, 17, 8, 18, 34, 35, 36, 37, 38, 39, 40, 41, 42, 43, 44, 45, 46, 47, 48, 49, 50, 51] (by decide +kernel) (by decide +kernel)
set_option maxRecDepth 20000 in
theorem gX7_part_X7_placeOf : GoodIn wsX7_part (wsV RX7 44 RX7 yX7_placeOf wsX7_placeOf) := goodIn_app (goodIn_of _ (by decide +kernel)) ggX7_part_X7_placeOf
set_option maxRecDepth 20000 in
theorem ggX7_part_X7_of : GoodIn wsX7_part wsX7_of := goodIn_r _ [18, 3, 34, 35, 36, 37, 38, 39, 40, 41, 42, 43, 44, 45, 46, 47, 48, 49, 50, 51] (by decide +kernel) (by decide +kernel)
set_option maxRecDepth 20000 in
theorem gX7_part_X7_of : GoodIn wsX7_part (wsV RX7 39 RX7 yX7_of wsX7_of) := goodIn_app (goodIn_of _ (by decide +kernel)) ggX7_part_X7_of
set_option maxRecDepth 20000 in
theorem ggX7_part_X7_changes : GoodIn wsX7_part wsX7_changes := goodIn_r _ [22, 23, 24, 25, 3, 34, 35, 36, 37, 38, 39, 40, 41, 42, 43, 44, 45, 46, 47, 48, 49, 50, 51] (by decide +kernel) (by decide +kernel)
set_option maxRecDepth 20000 in
theorem gX7_part_X7_changes : GoodIn wsX7_part (wsV RX7 67 RX7 yX7_changes wsX7_changes) := goodIn_app (goodIn_of _ (by decide +kernel)) ggX7_part_X7_changes
set_option maxRecDepth 20000 in
theorem ggX7_part_X7_takes : GoodIn wsX7_part wsX7_takes := goodIn_r _ [29, 3, 10, 11, 12, 8, 13, 14, 15, 16, 17, 18, 34, 35, 36, 37, 38, 39, 40, 41, 42, 43, 44, 45, 46, 47, 48, 49, 50, 51] (by decide +kernel) (by decide +kernel)
set_option maxRecDepth 20000 in
theorem gX7_part_X7_takes : GoodIn wsX7_part (wsV RX7 78 RX7 yX7_takes wsX7_takes) := goodIn_app (goodIn_of _ (by decide +kernel)) ggX7_part_X7_takes
set_option maxRecDepth 20000 in
theorem ggX7_part_X7_makes : GoodIn wsX7_part wsX7_makes := goodIn_r _ [33, 3, 34, 35, 36, 37, 38, 39, 40, 41, 42, 43, 44, 45, 46, 47, 48, 49, 50, 51] (by decide +kernel) (by decide +kernel)
set_option maxRecDepth 20000 in
theorem gX7_part_X7_makes : GoodIn wsX7_part (wsV RX7 70 RX7 yX7_makes wsX7_makes) := goodIn_app (goodIn_of _ (by decide +kernel)) ggX7_part_X7_makes
theorem dX7_part_0 : decode cX7_part 0 = .ok (.aload_n 0, 1) := by decide +kernel
theorem dX7_part_1 : decode cX7_part 1 = .ok (.iload_n 1, 1) := by decide +kernel
theorem dX7_part_2 : decode cX7_part 2 = .ok (.invokevirtual 73, 3) := by decide +kernel
theorem dX7_part_5 : decode cX7_part 5 = .ok (.ifCond .eq 8, 3) := by decide +kernel
theorem dX7_part_8 : decode cX7_part 8 = .ok (.iload_n 2, 1) := by decide +kernel
theorem dX7_part_9 : decode cX7_part 9 = .ok (.iconst 1, 1) := by decide +kernel
theorem dX7_part_10 : decode cX7_part 10 = .ok (.if_icmp .ge 6, 3) := by decide +kernel
theorem dX7_part_13 : decode cX7_part 13 = .ok (.ldc 65, 2) := by decide +kernel
theorem dX7_part_15 : decode cX7_part 15 = .ok (.ireturn, 1) := by decide +kernel
theorem dX7_part_16 : decode cX7_part 16 = .ok (.aload_n 0, 1) := by decide +kernel
theorem dX7_part_17 : decode cX7_part 17 = .ok (.iload_n 1, 1) := by decide +kernel
theorem dX7_part_18 : decode cX7_part 18 = .ok (.invokevirtual 44, 3) := by decide +kernel
theorem dX7_part_21 : decode cX7_part 21 = .ok (.istore_n 3, 1) := by decide +kernel
theorem dX7_part_22 : decode cX7_part 22 = .ok (.aload_n 0, 1) := by decide +kernel
theorem dX7_part_23 : decode cX7_part 23 = .ok (.iload_n 3, 1) := by decide +kernel
theorem dX7_part_24 : decode cX7_part 24 = .ok (.iconst 1, 1) := by decide +kernel
theorem dX7_part_25 : decode cX7_part 25 = .ok (.invokevirtual 39, 3) := by decide +kernel
theorem dX7_part_28 : decode cX7_part 28 = .ok (.iload_n 2, 1) := by decide +kernel
theorem dX7_part_29 : decode cX7_part 29 = .ok (.if_icmp .gt 6, 3) := by decide +kernel
theorem dX7_part_32 : decode cX7_part 32 = .ok (.ldc 77, 2) := by decide +kernel
theorem dX7_part_34 : decode cX7_part 34 = .ok (.ireturn, 1) := by decide +kernel
theorem dX7_part_35 : decode cX7_part 35 = .ok (.aload_n 0, 1) := by decide +kernel
theorem dX7_part_36 : decode cX7_part 36 = .ok (.getfield 7, 3) := by decide +kernel
theorem dX7_part_39 : decode cX7_part 39 = .ok (.bipush 6, 2) := by decide +kernel
theorem dX7_part_41 : decode cX7_part 41 = .ok (.iaload, 1) := by decide +kernel
theorem dX7_part_42 : decode cX7_part 42 = .ok (.bipush 12, 2) := by decide +kernel
theorem dX7_part_44 : decode cX7_part 44 = .ok (.if_icmp .ne 6, 3) := by decide +kernel
theorem dX7_part_47 : decode cX7_part 47 = .ok (.ldc 66, 2) := by decide +kernel
theorem dX7_part_49 : decode cX7_part 49 = .ok (.ireturn, 1) := by decide +kernel
theorem dX7_part_50 : decode cX7_part 50 = .ok (.aload_n 0, 1) := by decide +kernel
theorem dX7_part_51 : decode cX7_part 51 = .ok (.invokevirtual 67, 3) := by decide +kernel
theorem dX7_part_54 : decode cX7_part 54 = .ok (.aload_n 0, 1) := by decide +kernel
theorem dX7_part_55 : decode cX7_part 55 = .ok (.iload_n 1, 1) := by decide +kernel
theorem dX7_part_56 : decode cX7_part 56 = .ok (.iload_n 2, 1) := by decide +kernel
theorem dX7_part_57 : decode cX7_part 57 = .ok (.invokevirtual 78, 3) := by decide +kernel
theorem dX7_part_60 : decode cX7_part 60 = .ok (.aload_n 0, 1) := by decide +kernel
theorem dX7_part_61 : decode cX7_part 61 = .ok (.iload_n 2, 1) := by decide +kernel
theorem dX7_part_62 : decode cX7_part 62 = .ok (.aload_n 0, 1) := by decide +kernel
theorem dX7_part_63 : decode cX7_part 63 = .ok (.iload_n 3, 1) := by decide +kernel
theorem dX7_part_64 : decode cX7_part 64 = .ok (.iconst 2, 1) := by decide +kernel
theorem dX7_part_65 : decode cX7_part 65 = .ok (.invokevirtual 39, 3) := by decide +kernel
theorem dX7_part_68 : decode cX7_part 68 = .ok (.aload_n 0, 1) := by decide +kernel
theorem dX7_part_69 : decode cX7_part 69 = .ok (.iload_n 3, 1) := by decide +kernel
theorem dX7_part_70 : decode cX7_part 70 = .ok (.iconst 3, 1) := by decide +kernel
theorem dX7_part_71 : decode cX7_part 71 = .ok (.invokevirtual 39, 3) := by decide +kernel
theorem dX7_part_74 : decode cX7_part 74 = .ok (.invokevirtual 70, 3) := by decide +kernel
theorem dX7_part_77 : decode cX7_part 77 = .ok (.ireturn, 1) := by decide +kernel
theorem dX7_blended_0 : decode cX7_blended 0 = .ok (.iload_n 0, 1) := by decide +kernel
theorem dX7_blended_1 : decode cX7_blended 1 = .ok (.iload_n 1, 1) := by decide +kernel
theorem dX7_blended_2 : decode cX7_blended 2 = .ok (.imul, 1) := by decide +kernel
theorem dX7_blended_3 : decode cX7_blended 3 = .ok (.iload_n 2, 1) := by decide +kernel
theorem dX7_blended_4 : decode cX7_blended 4 = .ok (.iload_n 3, 1) := by decide +kernel
theorem dX7_blended_5 : decode cX7_blended 5 = .ok (.imul, 1) := by decide +kernel
theorem dX7_blended_6 : decode cX7_blended 6 = .ok (.iadd, 1) := by decide +kernel
theorem dX7_blended_7 : decode cX7_blended 7 = .ok (.iload_n 0, 1) := by decide +kernel
theorem dX7_blended_8 : decode cX7_blended 8 = .ok (.iload_n 2, 1) := by decide +kernel
theorem dX7_blended_9 : decode cX7_blended 9 = .ok (.iadd, 1) := by decide +kernel
theorem dX7_blended_10 : decode cX7_blended 10 = .ok (.idiv, 1) := by decide +kernel
theorem dX7_blended_11 : decode cX7_blended 11 = .ok (.ireturn, 1) := by decide +kernel
set_option maxRecDepth 20000 in
theorem ggX7_blend_X7_isLot : GoodIn wsX7_blend wsX7_isLot := goodIn_r _ [9, 10, 11, 12, 8, 13, 3, 14, 15, 16, 17, 18, 45, 46, 47, 48, 49, 50, 51, 52, 53, 54, 55, 56, 57, 58, 59, 60, 61, 62] (by decide +kernel) (by decide +kernel)
set_option maxRecDepth 20000 in
theorem gX7_blend_X7_isLot : GoodIn wsX7_blend (wsV RX7 73 RX7 yX7_isLot wsX7_isLot) := goodIn_app (goodIn_of _ (by decide +kernel)) ggX7_blend_X7_isLot
set_option maxRecDepth 20000 in
theorem ggX7_blend_X7_placeOf : GoodIn wsX7_blend wsX7_placeOf := goodIn_r _ [13, 3, 14, 15, 16, 17, 8, 18, 45, 46, 47, 48, 49, 50, 51, 52, 53, 54, 55, 56, 57, 58, 59, 60, 61, 62] (by decide +kernel) (by decide +kernel)
set_option maxRecDepth 20000 in
theorem gX7_blend_X7_placeOf : GoodIn wsX7_blend (wsV RX7 44 RX7 yX7_placeOf wsX7_placeOf) := goodIn_app (goodIn_of _ (by decide +kernel)) ggX7_blend_X7_placeOf
set_option maxRecDepth 20000 in
theorem ggX7_blend_X7_of : GoodIn wsX7_blend wsX7_of := goodIn_r _ [18, 3, 45, 46, 47, 48, 49, 50, 51, 52, 53, 54, 55, 56, 57, 58, 59, 60, 61, 62] (by decide +kernel) (by decide +kernel)
set_option maxRecDepth 20000 in
theorem gX7_blend_X7_of : GoodIn wsX7_blend (wsV RX7 39 RX7 yX7_of wsX7_of) := goodIn_app (goodIn_of _ (by decide +kernel)) ggX7_blend_X7_of
set_option maxRecDepth 20000 in
theorem ggX7_blend_X7_changes : GoodIn wsX7_blend wsX7_changes := goodIn_r _ [22, 23, 24, 25, 3, 45, 46, 47, 48, 49, 50, 51, 52, 53, 54, 55, 56, 57, 58, 59, 60, 61, 62] (by decide +kernel) (by decide +kernel)
set_option maxRecDepth 20000 in
theorem gX7_blend_X7_changes : GoodIn wsX7_blend (wsV RX7 67 RX7 yX7_changes wsX7_changes) := goodIn_app (goodIn_of _ (by decide +kernel)) ggX7_blend_X7_changes
set_option maxRecDepth 20000 in
theorem ggX7_blend_X7_cupOf : GoodIn wsX7_blend wsX7_cupOf := goodIn_r _ [29, 3, 30, 31, 32, 8, 33, 15, 16, 17, 18, 45, 46, 47, 48, 49, 50, 51, 52, 53, 54, 55, 56, 57, 58, 59, 60, 61, 62] (by decide +kernel) (by decide +kernel)
set_option maxRecDepth 20000 in
theorem gX7_blend_X7_cupOf : GoodIn wsX7_blend (wsV RX7 82 RX7 yX7_cupOf wsX7_cupOf) := goodIn_app (goodIn_of _ (by decide +kernel)) ggX7_blend_X7_cupOf
set_option maxRecDepth 20000 in
theorem ggX7_blend_X7_blended : GoodIn wsX7_blend wsX7_blended := goodIn_r _ [36] (by decide +kernel) (by decide +kernel)
set_option maxRecDepth 20000 in
theorem gX7_blend_X7_blended : GoodIn wsX7_blend (va_wsS RX7 85 yX7_blended wsX7_blended) := goodIn_app (goodIn_of _ (by decide +kernel)) ggX7_blend_X7_blended
set_option maxRecDepth 20000 in
theorem ggX7_blend_X7_takes : GoodIn wsX7_blend wsX7_takes := goodIn_r _ [40, 3, 10, 11, 12, 8, 13, 14, 15, 16, 17, 18, 45, 46, 47, 48, 49, 50, 51, 52, 53, 54, 55, 56, 57, 58, 59, 60, 61, 62] (by decide +kernel) (by decide +kernel)
set_option maxRecDepth 20000 in
theorem gX7_blend_X7_takes : GoodIn wsX7_blend (wsV RX7 78 RX7 yX7_takes wsX7_takes) := goodIn_app (goodIn_of _ (by decide +kernel)) ggX7_blend_X7_takes
set_option maxRecDepth 20000 in
theorem ggX7_blend_X7_makes : GoodIn wsX7_blend wsX7_makes := goodIn_r _ [44, 3, 45, 46, 47, 48, 49, 50, 51, 52, 53, 54, 55, 56, 57, 58, 59, 60, 61, 62] (by decide +kernel) (by decide +kernel)
set_option maxRecDepth 20000 in
theorem gX7_blend_X7_makes : GoodIn wsX7_blend (wsV RX7 70 RX7 yX7_makes wsX7_makes) := goodIn_app (goodIn_of _ (by decide +kernel)) ggX7_blend_X7_makes
theorem dX7_blend_0 : decode cX7_blend 0 = .ok (.aload_n 0, 1) := by decide +kernel
theorem dX7_blend_1 : decode cX7_blend 1 = .ok (.iload_n 1, 1) := by decide +kernel
theorem dX7_blend_2 : decode cX7_blend 2 = .ok (.invokevirtual 73, 3) := by decide +kernel
theorem dX7_blend_5 : decode cX7_blend 5 = .ok (.ifCond .eq 27, 3) := by decide +kernel
theorem dX7_blend_8 : decode cX7_blend 8 = .ok (.aload_n 0, 1) := by decide +kernel
theorem dX7_blend_9 : decode cX7_blend 9 = .ok (.iload_n 3, 1) := by decide +kernel
theorem dX7_blend_10 : decode cX7_blend 10 = .ok (.invokevirtual 73, 3) := by decide +kernel
theorem dX7_blend_13 : decode cX7_blend 13 = .ok (.ifCond .eq 19, 3) := by decide +kernel
theorem dX7_blend_16 : decode cX7_blend 16 = .ok (.iload_n 1, 1) := by decide +kernel
theorem dX7_blend_17 : decode cX7_blend 17 = .ok (.iload_n 3, 1) := by decide +kernel
theorem dX7_blend_18 : decode cX7_blend 18 = .ok (.if_icmp .eq 14, 3) := by decide +kernel
theorem dX7_blend_21 : decode cX7_blend 21 = .ok (.iload_n 2, 1) := by decide +kernel
theorem dX7_blend_22 : decode cX7_blend 22 = .ok (.iconst 1, 1) := by decide +kernel
theorem dX7_blend_23 : decode cX7_blend 23 = .ok (.if_icmp .lt 9, 3) := by decide +kernel
theorem dX7_blend_26 : decode cX7_blend 26 = .ok (.iload 4, 2) := by decide +kernel
theorem dX7_blend_28 : decode cX7_blend 28 = .ok (.iconst 1, 1) := by decide +kernel
theorem dX7_blend_29 : decode cX7_blend 29 = .ok (.if_icmp .ge 6, 3) := by decide +kernel
theorem dX7_blend_32 : decode cX7_blend 32 = .ok (.ldc 65, 2) := by decide +kernel
theorem dX7_blend_34 : decode cX7_blend 34 = .ok (.ireturn, 1) := by decide +kernel
theorem dX7_blend_35 : decode cX7_blend 35 = .ok (.aload_n 0, 1) := by decide +kernel
theorem dX7_blend_36 : decode cX7_blend 36 = .ok (.iload_n 1, 1) := by decide +kernel
theorem dX7_blend_37 : decode cX7_blend 37 = .ok (.invokevirtual 44, 3) := by decide +kernel
theorem dX7_blend_40 : decode cX7_blend 40 = .ok (.istore 5, 2) := by decide +kernel
theorem dX7_blend_42 : decode cX7_blend 42 = .ok (.aload_n 0, 1) := by decide +kernel
theorem dX7_blend_43 : decode cX7_blend 43 = .ok (.iload_n 3, 1) := by decide +kernel
theorem dX7_blend_44 : decode cX7_blend 44 = .ok (.invokevirtual 44, 3) := by decide +kernel
theorem dX7_blend_47 : decode cX7_blend 47 = .ok (.istore 6, 2) := by decide +kernel
theorem dX7_blend_49 : decode cX7_blend 49 = .ok (.iload_n 2, 1) := by decide +kernel
theorem dX7_blend_50 : decode cX7_blend 50 = .ok (.aload_n 0, 1) := by decide +kernel
theorem dX7_blend_51 : decode cX7_blend 51 = .ok (.iload 5, 2) := by decide +kernel
theorem dX7_blend_53 : decode cX7_blend 53 = .ok (.iconst 1, 1) := by decide +kernel
theorem dX7_blend_54 : decode cX7_blend 54 = .ok (.invokevirtual 39, 3) := by decide +kernel
theorem dX7_blend_57 : decode cX7_blend 57 = .ok (.if_icmp .gt 15, 3) := by decide +kernel
theorem dX7_blend_60 : decode cX7_blend 60 = .ok (.iload 4, 2) := by decide +kernel
theorem dX7_blend_62 : decode cX7_blend 62 = .ok (.aload_n 0, 1) := by decide +kernel
theorem dX7_blend_63 : decode cX7_blend 63 = .ok (.iload 6, 2) := by decide +kernel
theorem dX7_blend_65 : decode cX7_blend 65 = .ok (.iconst 1, 1) := by decide +kernel
theorem dX7_blend_66 : decode cX7_blend 66 = .ok (.invokevirtual 39, 3) := by decide +kernel
theorem dX7_blend_69 : decode cX7_blend 69 = .ok (.if_icmp .le 6, 3) := by decide +kernel
theorem dX7_blend_72 : decode cX7_blend 72 = .ok (.ldc 77, 2) := by decide +kernel
theorem dX7_blend_74 : decode cX7_blend 74 = .ok (.ireturn, 1) := by decide +kernel
theorem dX7_blend_75 : decode cX7_blend 75 = .ok (.aload_n 0, 1) := by decide +kernel
theorem dX7_blend_76 : decode cX7_blend 76 = .ok (.getfield 7, 3) := by decide +kernel
theorem dX7_blend_79 : decode cX7_blend 79 = .ok (.bipush 6, 2) := by decide +kernel
theorem dX7_blend_81 : decode cX7_blend 81 = .ok (.iaload, 1) := by decide +kernel
theorem dX7_blend_82 : decode cX7_blend 82 = .ok (.iconst 1, 1) := by decide +kernel
theorem dX7_blend_83 : decode cX7_blend 83 = .ok (.iadd, 1) := by decide +kernel
theorem dX7_blend_84 : decode cX7_blend 84 = .ok (.iload_n 2, 1) := by decide +kernel
theorem dX7_blend_85 : decode cX7_blend 85 = .ok (.aload_n 0, 1) := by decide +kernel
theorem dX7_blend_86 : decode cX7_blend 86 = .ok (.iload 5, 2) := by decide +kernel
theorem dX7_blend_88 : decode cX7_blend 88 = .ok (.iconst 1, 1) := by decide +kernel
theorem dX7_blend_89 : decode cX7_blend 89 = .ok (.invokevirtual 39, 3) := by decide +kernel
theorem dX7_blend_92 : decode cX7_blend 92 = .ok (.if_icmp .ne 7, 3) := by decide +kernel
theorem dX7_blend_95 : decode cX7_blend 95 = .ok (.iconst 1, 1) := by decide +kernel
theorem dX7_blend_96 : decode cX7_blend 96 = .ok (.goto 4, 3) := by decide +kernel
theorem dX7_blend_99 : decode cX7_blend 99 = .ok (.iconst 0, 1) := by decide +kernel
theorem dX7_blend_100 : decode cX7_blend 100 = .ok (.isub, 1) := by decide +kernel
theorem dX7_blend_101 : decode cX7_blend 101 = .ok (.iload 4, 2) := by decide +kernel
theorem dX7_blend_103 : decode cX7_blend 103 = .ok (.aload_n 0, 1) := by decide +kernel
theorem dX7_blend_104 : decode cX7_blend 104 = .ok (.iload 6, 2) := by decide +kernel
theorem dX7_blend_106 : decode cX7_blend 106 = .ok (.iconst 1, 1) := by decide +kernel
theorem dX7_blend_107 : decode cX7_blend 107 = .ok (.invokevirtual 39, 3) := by decide +kernel
theorem dX7_blend_110 : decode cX7_blend 110 = .ok (.if_icmp .ne 7, 3) := by decide +kernel
theorem dX7_blend_113 : decode cX7_blend 113 = .ok (.iconst 1, 1) := by decide +kernel
theorem dX7_blend_114 : decode cX7_blend 114 = .ok (.goto 4, 3) := by decide +kernel
theorem dX7_blend_117 : decode cX7_blend 117 = .ok (.iconst 0, 1) := by decide +kernel
theorem dX7_blend_118 : decode cX7_blend 118 = .ok (.isub, 1) := by decide +kernel
theorem dX7_blend_119 : decode cX7_blend 119 = .ok (.istore 7, 2) := by decide +kernel
theorem dX7_blend_121 : decode cX7_blend 121 = .ok (.iload 7, 2) := by decide +kernel
theorem dX7_blend_123 : decode cX7_blend 123 = .ok (.bipush 12, 2) := by decide +kernel
theorem dX7_blend_125 : decode cX7_blend 125 = .ok (.if_icmp .gt 13, 3) := by decide +kernel
theorem dX7_blend_128 : decode cX7_blend 128 = .ok (.iload_n 2, 1) := by decide +kernel
theorem dX7_blend_129 : decode cX7_blend 129 = .ok (.iload 4, 2) := by decide +kernel
theorem dX7_blend_131 : decode cX7_blend 131 = .ok (.iadd, 1) := by decide +kernel
theorem dX7_blend_132 : decode cX7_blend 132 = .ok (.sipush 9999, 3) := by decide +kernel
theorem dX7_blend_135 : decode cX7_blend 135 = .ok (.if_icmp .le 6, 3) := by decide +kernel
theorem dX7_blend_138 : decode cX7_blend 138 = .ok (.ldc 66, 2) := by decide +kernel
theorem dX7_blend_140 : decode cX7_blend 140 = .ok (.ireturn, 1) := by decide +kernel
theorem dX7_blend_141 : decode cX7_blend 141 = .ok (.aload_n 0, 1) := by decide +kernel
theorem dX7_blend_142 : decode cX7_blend 142 = .ok (.invokevirtual 67, 3) := by decide +kernel
theorem dX7_blend_145 : decode cX7_blend 145 = .ok (.iload_n 2, 1) := by decide +kernel
theorem dX7_blend_146 : decode cX7_blend 146 = .ok (.aload_n 0, 1) := by decide +kernel
theorem dX7_blend_147 : decode cX7_blend 147 = .ok (.iload 5, 2) := by decide +kernel
theorem dX7_blend_149 : decode cX7_blend 149 = .ok (.invokevirtual 82, 3) := by decide +kernel
theorem dX7_blend_152 : decode cX7_blend 152 = .ok (.iload 4, 2) := by decide +kernel
theorem dX7_blend_154 : decode cX7_blend 154 = .ok (.aload_n 0, 1) := by decide +kernel
theorem dX7_blend_155 : decode cX7_blend 155 = .ok (.iload 6, 2) := by decide +kernel
theorem dX7_blend_157 : decode cX7_blend 157 = .ok (.invokevirtual 82, 3) := by decide +kernel
theorem dX7_blend_160 : decode cX7_blend 160 = .ok (.invokestatic 85, 3) := by decide +kernel
theorem dX7_blend_163 : decode cX7_blend 163 = .ok (.istore 8, 2) := by decide +kernel
theorem dX7_blend_165 : decode cX7_blend 165 = .ok (.aload_n 0, 1) := by decide +kernel
theorem dX7_blend_166 : decode cX7_blend 166 = .ok (.iload_n 1, 1) := by decide +kernel
theorem dX7_blend_167 : decode cX7_blend 167 = .ok (.iload_n 2, 1) := by decide +kernel
theorem dX7_blend_168 : decode cX7_blend 168 = .ok (.invokevirtual 78, 3) := by decide +kernel
theorem dX7_blend_171 : decode cX7_blend 171 = .ok (.aload_n 0, 1) := by decide +kernel
theorem dX7_blend_172 : decode cX7_blend 172 = .ok (.iload_n 3, 1) := by decide +kernel
theorem dX7_blend_173 : decode cX7_blend 173 = .ok (.iload 4, 2) := by decide +kernel
theorem dX7_blend_175 : decode cX7_blend 175 = .ok (.invokevirtual 78, 3) := by decide +kernel
theorem dX7_blend_178 : decode cX7_blend 178 = .ok (.aload_n 0, 1) := by decide +kernel
theorem dX7_blend_179 : decode cX7_blend 179 = .ok (.iload_n 2, 1) := by decide +kernel
theorem dX7_blend_180 : decode cX7_blend 180 = .ok (.iload 4, 2) := by decide +kernel
theorem dX7_blend_182 : decode cX7_blend 182 = .ok (.iadd, 1) := by decide +kernel
theorem dX7_blend_183 : decode cX7_blend 183 = .ok (.iload 8, 2) := by decide +kernel
theorem dX7_blend_185 : decode cX7_blend 185 = .ok (.aload_n 0, 1) := by decide +kernel
theorem dX7_blend_186 : decode cX7_blend 186 = .ok (.getfield 7, 3) := by decide +kernel
theorem dX7_blend_189 : decode cX7_blend 189 = .ok (.iconst 0, 1) := by decide +kernel
theorem dX7_blend_190 : decode cX7_blend 190 = .ok (.iaload, 1) := by decide +kernel
theorem dX7_blend_191 : decode cX7_blend 191 = .ok (.invokevirtual 70, 3) := by decide +kernel
theorem dX7_blend_194 : decode cX7_blend 194 = .ok (.ireturn, 1) := by decide +kernel
set_option maxRecDepth 20000 in
theorem ggX7_cup_X7_isLot : GoodIn wsX7_cup wsX7_isLot := goodIn_r _ [8, 9, 10, 11, 7, 12, 3, 13, 14, 15, 16, 17, 33, 34, 35, 36, 37, 38, 39, 40, 41, 42, 43, 44, 45, 46, 47, 48, 49, 50] (by decide +kernel) (by decide +kernel)
set_option maxRecDepth 20000 in
theorem gX7_cup_X7_isLot : GoodIn wsX7_cup (wsV RX7 73 RX7 yX7_isLot wsX7_isLot) := goodIn_app (goodIn_of _ (by decide +kernel)) ggX7_cup_X7_isLot
set_option maxRecDepth 20000 in
theorem ggX7_cup_X7_placeOf : GoodIn wsX7_cup wsX7_placeOf := goodIn_r _ [12, 3, 13, 14, 15, 16, 7, 17, 33, 34, 35, 36, 37, 38, 39, 40, 41, 42, 43, 44, 45, 46, 47, 48, 49, 50] (by decide +kernel) (by decide +kernel)
set_option maxRecDepth 20000 in
theorem gX7_cup_X7_placeOf : GoodIn wsX7_cup (wsV RX7 44 RX7 yX7_placeOf wsX7_placeOf) := goodIn_app (goodIn_of _ (by decide +kernel)) ggX7_cup_X7_placeOf
set_option maxRecDepth 20000 in
theorem ggX7_cup_X7_of : GoodIn wsX7_cup wsX7_of := goodIn_r _ [17, 3, 33, 34, 35, 36, 37, 38, 39, 40, 41, 42, 43, 44, 45, 46, 47, 48, 49, 50] (by decide +kernel) (by decide +kernel)
set_option maxRecDepth 20000 in
theorem gX7_cup_X7_of : GoodIn wsX7_cup (wsV RX7 39 RX7 yX7_of wsX7_of) := goodIn_app (goodIn_of _ (by decide +kernel)) ggX7_cup_X7_of
set_option maxRecDepth 20000 in
theorem ggX7_cup_X7_changes : GoodIn wsX7_cup wsX7_changes := goodIn_r _ [21, 22, 23, 24, 3, 33, 34, 35, 36, 37, 38, 39, 40, 41, 42, 43, 44, 45, 46, 47, 48, 49, 50] (by decide +kernel) (by decide +kernel)
set_option maxRecDepth 20000 in
theorem gX7_cup_X7_changes : GoodIn wsX7_cup (wsV RX7 67 RX7 yX7_changes wsX7_changes) := goodIn_app (goodIn_of _ (by decide +kernel)) ggX7_cup_X7_changes
set_option maxRecDepth 20000 in
theorem ggX7_cup_X7_cupOf : GoodIn wsX7_cup wsX7_cupOf := goodIn_r _ [28, 3, 29, 30, 31, 7, 32, 14, 15, 16, 17, 33, 34, 35, 36, 37, 38, 39, 40, 41, 42, 43, 44, 45, 46, 47, 48, 49, 50] (by decide +kernel) (by decide +kernel)
set_option maxRecDepth 20000 in
theorem gX7_cup_X7_cupOf : GoodIn wsX7_cup (wsV RX7 82 RX7 yX7_cupOf wsX7_cupOf) := goodIn_app (goodIn_of _ (by decide +kernel)) ggX7_cup_X7_cupOf
theorem dX7_cup_0 : decode cX7_cup 0 = .ok (.aload_n 0, 1) := by decide +kernel
theorem dX7_cup_1 : decode cX7_cup 1 = .ok (.iload_n 1, 1) := by decide +kernel
theorem dX7_cup_2 : decode cX7_cup 2 = .ok (.invokevirtual 73, 3) := by decide +kernel
theorem dX7_cup_5 : decode cX7_cup 5 = .ok (.ifCond .ne 6, 3) := by decide +kernel
theorem dX7_cup_8 : decode cX7_cup 8 = .ok (.ldc 65, 2) := by decide +kernel
theorem dX7_cup_10 : decode cX7_cup 10 = .ok (.ireturn, 1) := by decide +kernel
theorem dX7_cup_11 : decode cX7_cup 11 = .ok (.aload_n 0, 1) := by decide +kernel
theorem dX7_cup_12 : decode cX7_cup 12 = .ok (.iload_n 1, 1) := by decide +kernel
theorem dX7_cup_13 : decode cX7_cup 13 = .ok (.invokevirtual 44, 3) := by decide +kernel
theorem dX7_cup_16 : decode cX7_cup 16 = .ok (.istore_n 2, 1) := by decide +kernel
theorem dX7_cup_17 : decode cX7_cup 17 = .ok (.aload_n 0, 1) := by decide +kernel
theorem dX7_cup_18 : decode cX7_cup 18 = .ok (.iload_n 2, 1) := by decide +kernel
theorem dX7_cup_19 : decode cX7_cup 19 = .ok (.iconst 1, 1) := by decide +kernel
theorem dX7_cup_20 : decode cX7_cup 20 = .ok (.invokevirtual 39, 3) := by decide +kernel
theorem dX7_cup_23 : decode cX7_cup 23 = .ok (.iconst 1, 1) := by decide +kernel
theorem dX7_cup_24 : decode cX7_cup 24 = .ok (.if_icmp .ne 6, 3) := by decide +kernel
theorem dX7_cup_27 : decode cX7_cup 27 = .ok (.ldc 77, 2) := by decide +kernel
theorem dX7_cup_29 : decode cX7_cup 29 = .ok (.ireturn, 1) := by decide +kernel
theorem dX7_cup_30 : decode cX7_cup 30 = .ok (.aload_n 0, 1) := by decide +kernel
theorem dX7_cup_31 : decode cX7_cup 31 = .ok (.invokevirtual 67, 3) := by decide +kernel
theorem dX7_cup_34 : decode cX7_cup 34 = .ok (.aload_n 0, 1) := by decide +kernel
theorem dX7_cup_35 : decode cX7_cup 35 = .ok (.iload_n 2, 1) := by decide +kernel
theorem dX7_cup_36 : decode cX7_cup 36 = .ok (.invokevirtual 82, 3) := by decide +kernel
theorem dX7_cup_39 : decode cX7_cup 39 = .ok (.istore_n 3, 1) := by decide +kernel
theorem dX7_cup_40 : decode cX7_cup 40 = .ok (.aload_n 0, 1) := by decide +kernel
theorem dX7_cup_41 : decode cX7_cup 41 = .ok (.getfield 7, 3) := by decide +kernel
theorem dX7_cup_44 : decode cX7_cup 44 = .ok (.bipush 17, 2) := by decide +kernel
theorem dX7_cup_46 : decode cX7_cup 46 = .ok (.iconst 4, 1) := by decide +kernel
theorem dX7_cup_47 : decode cX7_cup 47 = .ok (.iload_n 2, 1) := by decide +kernel
theorem dX7_cup_48 : decode cX7_cup 48 = .ok (.imul, 1) := by decide +kernel
theorem dX7_cup_49 : decode cX7_cup 49 = .ok (.iadd, 1) := by decide +kernel
theorem dX7_cup_50 : decode cX7_cup 50 = .ok (.iconst 1, 1) := by decide +kernel
theorem dX7_cup_51 : decode cX7_cup 51 = .ok (.iadd, 1) := by decide +kernel
theorem dX7_cup_52 : decode cX7_cup 52 = .ok (.dup2, 1) := by decide +kernel
theorem dX7_cup_53 : decode cX7_cup 53 = .ok (.iaload, 1) := by decide +kernel
theorem dX7_cup_54 : decode cX7_cup 54 = .ok (.iconst 1, 1) := by decide +kernel
theorem dX7_cup_55 : decode cX7_cup 55 = .ok (.isub, 1) := by decide +kernel
theorem dX7_cup_56 : decode cX7_cup 56 = .ok (.iastore, 1) := by decide +kernel
theorem dX7_cup_57 : decode cX7_cup 57 = .ok (.aload_n 0, 1) := by decide +kernel
theorem dX7_cup_58 : decode cX7_cup 58 = .ok (.getfield 7, 3) := by decide +kernel
theorem dX7_cup_61 : decode cX7_cup 61 = .ok (.bipush 17, 2) := by decide +kernel
theorem dX7_cup_63 : decode cX7_cup 63 = .ok (.iconst 4, 1) := by decide +kernel
theorem dX7_cup_64 : decode cX7_cup 64 = .ok (.iload_n 2, 1) := by decide +kernel
theorem dX7_cup_65 : decode cX7_cup 65 = .ok (.imul, 1) := by decide +kernel
theorem dX7_cup_66 : decode cX7_cup 66 = .ok (.iadd, 1) := by decide +kernel
theorem dX7_cup_67 : decode cX7_cup 67 = .ok (.iconst 2, 1) := by decide +kernel
theorem dX7_cup_68 : decode cX7_cup 68 = .ok (.iadd, 1) := by decide +kernel
theorem dX7_cup_69 : decode cX7_cup 69 = .ok (.iload_n 3, 1) := by decide +kernel
theorem dX7_cup_70 : decode cX7_cup 70 = .ok (.iastore, 1) := by decide +kernel
theorem dX7_cup_71 : decode cX7_cup 71 = .ok (.aload_n 0, 1) := by decide +kernel
theorem dX7_cup_72 : decode cX7_cup 72 = .ok (.getfield 7, 3) := by decide +kernel
theorem dX7_cup_75 : decode cX7_cup 75 = .ok (.bipush 17, 2) := by decide +kernel
theorem dX7_cup_77 : decode cX7_cup 77 = .ok (.iconst 4, 1) := by decide +kernel
theorem dX7_cup_78 : decode cX7_cup 78 = .ok (.iload_n 2, 1) := by decide +kernel
theorem dX7_cup_79 : decode cX7_cup 79 = .ok (.imul, 1) := by decide +kernel
theorem dX7_cup_80 : decode cX7_cup 80 = .ok (.iadd, 1) := by decide +kernel
theorem dX7_cup_81 : decode cX7_cup 81 = .ok (.iconst 3, 1) := by decide +kernel
theorem dX7_cup_82 : decode cX7_cup 82 = .ok (.iadd, 1) := by decide +kernel
theorem dX7_cup_83 : decode cX7_cup 83 = .ok (.aload_n 0, 1) := by decide +kernel
theorem dX7_cup_84 : decode cX7_cup 84 = .ok (.getfield 7, 3) := by decide +kernel
theorem dX7_cup_87 : decode cX7_cup 87 = .ok (.iconst 0, 1) := by decide +kernel
theorem dX7_cup_88 : decode cX7_cup 88 = .ok (.iaload, 1) := by decide +kernel
theorem dX7_cup_89 : decode cX7_cup 89 = .ok (.iastore, 1) := by decide +kernel
theorem dX7_cup_90 : decode cX7_cup 90 = .ok (.iload_n 3, 1) := by decide +kernel
theorem dX7_cup_91 : decode cX7_cup 91 = .ok (.ireturn, 1) := by decide +kernel
set_option maxRecDepth 20000 in
theorem ggX7_worth_X7_in : GoodIn wsX7_worth wsX7_in := goodIn_r _ [6] (by decide +kernel) (by decide +kernel)
set_option maxRecDepth 20000 in
theorem gX7_worth_X7_in : GoodIn wsX7_worth (va_wsS RX7 61 yX7_in wsX7_in) := goodIn_app (goodIn_of _ (by decide +kernel)) ggX7_worth_X7_in
set_option maxRecDepth 20000 in
theorem ggX7_worth_X7_changes : GoodIn wsX7_worth wsX7_changes := goodIn_r _ [10, 11, 12, 13, 2, 14, 15, 16, 17, 18, 19, 20, 21, 22, 23, 24, 25, 26, 27, 28, 29, 30, 31] (by decide +kernel) (by decide +kernel)
set_option maxRecDepth 20000 in
theorem gX7_worth_X7_changes : GoodIn wsX7_worth (wsV RX7 67 RX7 yX7_changes wsX7_changes) := goodIn_app (goodIn_of _ (by decide +kernel)) ggX7_worth_X7_changes
theorem dX7_worth_0 : decode cX7_worth 0 = .ok (.iload_n 1, 1) := by decide +kernel
theorem dX7_worth_1 : decode cX7_worth 1 = .ok (.iconst 0, 1) := by decide +kernel
theorem dX7_worth_2 : decode cX7_worth 2 = .ok (.iconst 3, 1) := by decide +kernel
theorem dX7_worth_3 : decode cX7_worth 3 = .ok (.invokestatic 61, 3) := by decide +kernel
theorem dX7_worth_6 : decode cX7_worth 6 = .ok (.ifCond .eq 14, 3) := by decide +kernel
theorem dX7_worth_9 : decode cX7_worth 9 = .ok (.iload_n 2, 1) := by decide +kernel
theorem dX7_worth_10 : decode cX7_worth 10 = .ok (.iconst 1, 1) := by decide +kernel
theorem dX7_worth_11 : decode cX7_worth 11 = .ok (.sipush 999, 3) := by decide +kernel
theorem dX7_worth_14 : decode cX7_worth 14 = .ok (.invokestatic 61, 3) := by decide +kernel
theorem dX7_worth_17 : decode cX7_worth 17 = .ok (.ifCond .ne 6, 3) := by decide +kernel
theorem dX7_worth_20 : decode cX7_worth 20 = .ok (.ldc 65, 2) := by decide +kernel
theorem dX7_worth_22 : decode cX7_worth 22 = .ok (.ireturn, 1) := by decide +kernel
theorem dX7_worth_23 : decode cX7_worth 23 = .ok (.aload_n 0, 1) := by decide +kernel
theorem dX7_worth_24 : decode cX7_worth 24 = .ok (.invokevirtual 67, 3) := by decide +kernel
theorem dX7_worth_27 : decode cX7_worth 27 = .ok (.aload_n 0, 1) := by decide +kernel
theorem dX7_worth_28 : decode cX7_worth 28 = .ok (.getfield 7, 3) := by decide +kernel
theorem dX7_worth_31 : decode cX7_worth 31 = .ok (.bipush 13, 2) := by decide +kernel
theorem dX7_worth_33 : decode cX7_worth 33 = .ok (.iload_n 1, 1) := by decide +kernel
theorem dX7_worth_34 : decode cX7_worth 34 = .ok (.iadd, 1) := by decide +kernel
theorem dX7_worth_35 : decode cX7_worth 35 = .ok (.iaload, 1) := by decide +kernel
theorem dX7_worth_36 : decode cX7_worth 36 = .ok (.istore_n 3, 1) := by decide +kernel
theorem dX7_worth_37 : decode cX7_worth 37 = .ok (.aload_n 0, 1) := by decide +kernel
theorem dX7_worth_38 : decode cX7_worth 38 = .ok (.getfield 7, 3) := by decide +kernel
theorem dX7_worth_41 : decode cX7_worth 41 = .ok (.bipush 13, 2) := by decide +kernel
theorem dX7_worth_43 : decode cX7_worth 43 = .ok (.iload_n 1, 1) := by decide +kernel
theorem dX7_worth_44 : decode cX7_worth 44 = .ok (.iadd, 1) := by decide +kernel
theorem dX7_worth_45 : decode cX7_worth 45 = .ok (.iload_n 2, 1) := by decide +kernel
theorem dX7_worth_46 : decode cX7_worth 46 = .ok (.iastore, 1) := by decide +kernel
theorem dX7_worth_47 : decode cX7_worth 47 = .ok (.iload_n 3, 1) := by decide +kernel
theorem dX7_worth_48 : decode cX7_worth 48 = .ok (.ireturn, 1) := by decide +kernel
theorem dX7_isContract_0 : decode cX7_isContract 0 = .ok (.iload_n 1, 1) := by decide +kernel
theorem dX7_isContract_1 : decode cX7_isContract 1 = .ok (.ifCond .lt 18, 3) := by decide +kernel
theorem dX7_isContract_4 : decode cX7_isContract 4 = .ok (.iload_n 1, 1) := by decide +kernel
theorem dX7_isContract_5 : decode cX7_isContract 5 = .ok (.aload_n 0, 1) := by decide +kernel
theorem dX7_isContract_6 : decode cX7_isContract 6 = .ok (.getfield 7, 3) := by decide +kernel
theorem dX7_isContract_9 : decode cX7_isContract 9 = .ok (.bipush 7, 2) := by decide +kernel
theorem dX7_isContract_11 : decode cX7_isContract 11 = .ok (.iaload, 1) := by decide +kernel
theorem dX7_isContract_12 : decode cX7_isContract 12 = .ok (.if_icmp .ge 7, 3) := by decide +kernel
theorem dX7_isContract_15 : decode cX7_isContract 15 = .ok (.iconst 1, 1) := by decide +kernel
theorem dX7_isContract_16 : decode cX7_isContract 16 = .ok (.goto 4, 3) := by decide +kernel
theorem dX7_isContract_19 : decode cX7_isContract 19 = .ok (.iconst 0, 1) := by decide +kernel
theorem dX7_isContract_20 : decode cX7_isContract 20 = .ok (.ireturn, 1) := by decide +kernel
theorem dX7_monthOf_0 : decode cX7_monthOf 0 = .ok (.aload_n 0, 1) := by decide +kernel
theorem dX7_monthOf_1 : decode cX7_monthOf 1 = .ok (.getfield 7, 3) := by decide +kernel
theorem dX7_monthOf_4 : decode cX7_monthOf 4 = .ok (.bipush 69, 2) := by decide +kernel
theorem dX7_monthOf_6 : decode cX7_monthOf 6 = .ok (.iconst 2, 1) := by decide +kernel
theorem dX7_monthOf_7 : decode cX7_monthOf 7 = .ok (.iload_n 1, 1) := by decide +kernel
theorem dX7_monthOf_8 : decode cX7_monthOf 8 = .ok (.imul, 1) := by decide +kernel
theorem dX7_monthOf_9 : decode cX7_monthOf 9 = .ok (.iadd, 1) := by decide +kernel
theorem dX7_monthOf_10 : decode cX7_monthOf 10 = .ok (.iaload, 1) := by decide +kernel
theorem dX7_monthOf_11 : decode cX7_monthOf 11 = .ok (.ireturn, 1) := by decide +kernel
theorem dX7_priceOf_0 : decode cX7_priceOf 0 = .ok (.aload_n 0, 1) := by decide +kernel
theorem dX7_priceOf_1 : decode cX7_priceOf 1 = .ok (.getfield 7, 3) := by decide +kernel
theorem dX7_priceOf_4 : decode cX7_priceOf 4 = .ok (.bipush 69, 2) := by decide +kernel
theorem dX7_priceOf_6 : decode cX7_priceOf 6 = .ok (.iconst 2, 1) := by decide +kernel
theorem dX7_priceOf_7 : decode cX7_priceOf 7 = .ok (.iload_n 1, 1) := by decide +kernel
theorem dX7_priceOf_8 : decode cX7_priceOf 8 = .ok (.imul, 1) := by decide +kernel
theorem dX7_priceOf_9 : decode cX7_priceOf 9 = .ok (.iadd, 1) := by decide +kernel
theorem dX7_priceOf_10 : decode cX7_priceOf 10 = .ok (.iconst 1, 1) := by decide +kernel
theorem dX7_priceOf_11 : decode cX7_priceOf 11 = .ok (.iadd, 1) := by decide +kernel
theorem dX7_priceOf_12 : decode cX7_priceOf 12 = .ok (.iaload, 1) := by decide +kernel
theorem dX7_priceOf_13 : decode cX7_priceOf 13 = .ok (.ireturn, 1) := by decide +kernel
theorem dX7_isDelivery_0 : decode cX7_isDelivery 0 = .ok (.aload_n 0, 1) := by decide +kernel
theorem dX7_isDelivery_1 : decode cX7_isDelivery 1 = .ok (.getfield 7, 3) := by decide +kernel
theorem dX7_isDelivery_4 : decode cX7_isDelivery 4 = .ok (.bipush 9, 2) := by decide +kernel
theorem dX7_isDelivery_6 : decode cX7_isDelivery 6 = .ok (.iaload, 1) := by decide +kernel
theorem dX7_isDelivery_7 : decode cX7_isDelivery 7 = .ok (.iload_n 1, 1) := by decide +kernel
theorem dX7_isDelivery_8 : decode cX7_isDelivery 8 = .ok (.bipush 12, 2) := by decide +kernel
theorem dX7_isDelivery_10 : decode cX7_isDelivery 10 = .ok (.irem, 1) := by decide +kernel
theorem dX7_isDelivery_11 : decode cX7_isDelivery 11 = .ok (.ishr, 1) := by decide +kernel
theorem dX7_isDelivery_12 : decode cX7_isDelivery 12 = .ok (.iconst 1, 1) := by decide +kernel
theorem dX7_isDelivery_13 : decode cX7_isDelivery 13 = .ok (.iand, 1) := by decide +kernel
theorem dX7_isDelivery_14 : decode cX7_isDelivery 14 = .ok (.iconst 1, 1) := by decide +kernel
theorem dX7_isDelivery_15 : decode cX7_isDelivery 15 = .ok (.if_icmp .ne 7, 3) := by decide +kernel
theorem dX7_isDelivery_18 : decode cX7_isDelivery 18 = .ok (.iconst 1, 1) := by decide +kernel
theorem dX7_isDelivery_19 : decode cX7_isDelivery 19 = .ok (.goto 4, 3) := by decide +kernel
theorem dX7_isDelivery_22 : decode cX7_isDelivery 22 = .ok (.iconst 0, 1) := by decide +kernel
theorem dX7_isDelivery_23 : decode cX7_isDelivery 23 = .ok (.ireturn, 1) := by decide +kernel
theorem dX7_closes_0 : decode cX7_closes 0 = .ok (.aload_n 0, 1) := by decide +kernel
theorem dX7_closes_1 : decode cX7_closes 1 = .ok (.getfield 7, 3) := by decide +kernel
theorem dX7_closes_4 : decode cX7_closes 4 = .ok (.bipush 7, 2) := by decide +kernel
theorem dX7_closes_6 : decode cX7_closes 6 = .ok (.dup2, 1) := by decide +kernel
theorem dX7_closes_7 : decode cX7_closes 7 = .ok (.iaload, 1) := by decide +kernel
theorem dX7_closes_8 : decode cX7_closes 8 = .ok (.iconst 1, 1) := by decide +kernel
theorem dX7_closes_9 : decode cX7_closes 9 = .ok (.isub, 1) := by decide +kernel
theorem dX7_closes_10 : decode cX7_closes 10 = .ok (.iastore, 1) := by decide +kernel
theorem dX7_closes_11 : decode cX7_closes 11 = .ok (.bipush 69, 2) := by decide +kernel
theorem dX7_closes_13 : decode cX7_closes 13 = .ok (.iconst 2, 1) := by decide +kernel
theorem dX7_closes_14 : decode cX7_closes 14 = .ok (.iload_n 1, 1) := by decide +kernel
theorem dX7_closes_15 : decode cX7_closes 15 = .ok (.imul, 1) := by decide +kernel
theorem dX7_closes_16 : decode cX7_closes 16 = .ok (.iadd, 1) := by decide +kernel
theorem dX7_closes_17 : decode cX7_closes 17 = .ok (.istore_n 2, 1) := by decide +kernel
theorem dX7_closes_18 : decode cX7_closes 18 = .ok (.iload_n 2, 1) := by decide +kernel
theorem dX7_closes_19 : decode cX7_closes 19 = .ok (.bipush 69, 2) := by decide +kernel
theorem dX7_closes_21 : decode cX7_closes 21 = .ok (.iconst 2, 1) := by decide +kernel
theorem dX7_closes_22 : decode cX7_closes 22 = .ok (.aload_n 0, 1) := by decide +kernel
theorem dX7_closes_23 : decode cX7_closes 23 = .ok (.getfield 7, 3) := by decide +kernel
theorem dX7_closes_26 : decode cX7_closes 26 = .ok (.bipush 7, 2) := by decide +kernel
theorem dX7_closes_28 : decode cX7_closes 28 = .ok (.iaload, 1) := by decide +kernel
theorem dX7_closes_29 : decode cX7_closes 29 = .ok (.imul, 1) := by decide +kernel
theorem dX7_closes_30 : decode cX7_closes 30 = .ok (.iadd, 1) := by decide +kernel
theorem dX7_closes_31 : decode cX7_closes 31 = .ok (.if_icmp .ge 23, 3) := by decide +kernel
theorem dX7_closes_34 : decode cX7_closes 34 = .ok (.aload_n 0, 1) := by decide +kernel
theorem dX7_closes_35 : decode cX7_closes 35 = .ok (.getfield 7, 3) := by decide +kernel
theorem dX7_closes_38 : decode cX7_closes 38 = .ok (.iload_n 2, 1) := by decide +kernel
theorem dX7_closes_39 : decode cX7_closes 39 = .ok (.aload_n 0, 1) := by decide +kernel
theorem dX7_closes_40 : decode cX7_closes 40 = .ok (.getfield 7, 3) := by decide +kernel
theorem dX7_closes_43 : decode cX7_closes 43 = .ok (.iload_n 2, 1) := by decide +kernel
theorem dX7_closes_44 : decode cX7_closes 44 = .ok (.iconst 2, 1) := by decide +kernel
theorem dX7_closes_45 : decode cX7_closes 45 = .ok (.iadd, 1) := by decide +kernel
theorem dX7_closes_46 : decode cX7_closes 46 = .ok (.iaload, 1) := by decide +kernel
theorem dX7_closes_47 : decode cX7_closes 47 = .ok (.iastore, 1) := by decide +kernel
theorem dX7_closes_48 : decode cX7_closes 48 = .ok (.iinc 2 1, 3) := by decide +kernel
theorem dX7_closes_51 : decode cX7_closes 51 = .ok (.goto (-33), 3) := by decide +kernel
theorem dX7_closes_54 : decode cX7_closes 54 = .ok (.return_, 1) := by decide +kernel
set_option maxRecDepth 20000 in
theorem ggX7_sell_X7_in : GoodIn wsX7_sell wsX7_in := goodIn_r _ [8] (by decide +kernel) (by decide +kernel)
set_option maxRecDepth 20000 in
theorem gX7_sell_X7_in : GoodIn wsX7_sell (va_wsS RX7 61 yX7_in wsX7_in) := goodIn_app (goodIn_of _ (by decide +kernel)) ggX7_sell_X7_in
set_option maxRecDepth 20000 in
theorem ggX7_sell_X7_isDelivery : GoodIn wsX7_sell wsX7_isDelivery := goodIn_r _ [12, 2, 20, 21, 22, 23, 24, 25, 26, 27, 28, 29, 30, 31, 32, 33, 34, 35, 36, 37] (by decide +kernel) (by decide +kernel)
set_option maxRecDepth 20000 in
theorem gX7_sell_X7_isDelivery : GoodIn wsX7_sell (wsV RX7 89 RX7 yX7_isDelivery wsX7_isDelivery) := goodIn_app (goodIn_of _ (by decide +kernel)) ggX7_sell_X7_isDelivery
set_option maxRecDepth 20000 in
theorem ggX7_sell_X7_changes : GoodIn wsX7_sell wsX7_changes := goodIn_r _ [16, 17, 18, 19, 2, 20, 21, 22, 23, 24, 25, 26, 27, 28, 29, 30, 31, 32, 33, 34, 35, 36, 37] (by decide +kernel) (by decide +kernel)
set_option maxRecDepth 20000 in
theorem gX7_sell_X7_changes : GoodIn wsX7_sell (wsV RX7 67 RX7 yX7_changes wsX7_changes) := goodIn_app (goodIn_of _ (by decide +kernel)) ggX7_sell_X7_changes
theorem dX7_sell_0 : decode cX7_sell 0 = .ok (.iload_n 1, 1) := by decide +kernel
theorem dX7_sell_1 : decode cX7_sell 1 = .ok (.iconst 0, 1) := by decide +kernel
theorem dX7_sell_2 : decode cX7_sell 2 = .ok (.sipush 999, 3) := by decide +kernel
theorem dX7_sell_5 : decode cX7_sell 5 = .ok (.invokestatic 61, 3) := by decide +kernel
theorem dX7_sell_8 : decode cX7_sell 8 = .ok (.ifCond .eq 14, 3) := by decide +kernel
theorem dX7_sell_11 : decode cX7_sell 11 = .ok (.iload_n 2, 1) := by decide +kernel
theorem dX7_sell_12 : decode cX7_sell 12 = .ok (.iconst 1, 1) := by decide +kernel
theorem dX7_sell_13 : decode cX7_sell 13 = .ok (.sipush 999, 3) := by decide +kernel
theorem dX7_sell_16 : decode cX7_sell 16 = .ok (.invokestatic 61, 3) := by decide +kernel
theorem dX7_sell_19 : decode cX7_sell 19 = .ok (.ifCond .ne 6, 3) := by decide +kernel
theorem dX7_sell_22 : decode cX7_sell 22 = .ok (.ldc 65, 2) := by decide +kernel
theorem dX7_sell_24 : decode cX7_sell 24 = .ok (.ireturn, 1) := by decide +kernel
theorem dX7_sell_25 : decode cX7_sell 25 = .ok (.iload_n 1, 1) := by decide +kernel
theorem dX7_sell_26 : decode cX7_sell 26 = .ok (.aload_n 0, 1) := by decide +kernel
theorem dX7_sell_27 : decode cX7_sell 27 = .ok (.getfield 7, 3) := by decide +kernel
theorem dX7_sell_30 : decode cX7_sell 30 = .ok (.iconst 0, 1) := by decide +kernel
theorem dX7_sell_31 : decode cX7_sell 31 = .ok (.iaload, 1) := by decide +kernel
theorem dX7_sell_32 : decode cX7_sell 32 = .ok (.if_icmp .lt 11, 3) := by decide +kernel
theorem dX7_sell_35 : decode cX7_sell 35 = .ok (.aload_n 0, 1) := by decide +kernel
theorem dX7_sell_36 : decode cX7_sell 36 = .ok (.iload_n 1, 1) := by decide +kernel
theorem dX7_sell_37 : decode cX7_sell 37 = .ok (.invokevirtual 89, 3) := by decide +kernel
theorem dX7_sell_40 : decode cX7_sell 40 = .ok (.ifCond .ne 6, 3) := by decide +kernel
theorem dX7_sell_43 : decode cX7_sell 43 = .ok (.ldc 77, 2) := by decide +kernel
theorem dX7_sell_45 : decode cX7_sell 45 = .ok (.ireturn, 1) := by decide +kernel
theorem dX7_sell_46 : decode cX7_sell 46 = .ok (.aload_n 0, 1) := by decide +kernel
theorem dX7_sell_47 : decode cX7_sell 47 = .ok (.getfield 7, 3) := by decide +kernel
theorem dX7_sell_50 : decode cX7_sell 50 = .ok (.bipush 7, 2) := by decide +kernel
theorem dX7_sell_52 : decode cX7_sell 52 = .ok (.iaload, 1) := by decide +kernel
theorem dX7_sell_53 : decode cX7_sell 53 = .ok (.istore_n 3, 1) := by decide +kernel
theorem dX7_sell_54 : decode cX7_sell 54 = .ok (.iload_n 3, 1) := by decide +kernel
theorem dX7_sell_55 : decode cX7_sell 55 = .ok (.bipush 6, 2) := by decide +kernel
theorem dX7_sell_57 : decode cX7_sell 57 = .ok (.if_icmp .ne 6, 3) := by decide +kernel
theorem dX7_sell_60 : decode cX7_sell 60 = .ok (.ldc 66, 2) := by decide +kernel
theorem dX7_sell_62 : decode cX7_sell 62 = .ok (.ireturn, 1) := by decide +kernel
theorem dX7_sell_63 : decode cX7_sell 63 = .ok (.aload_n 0, 1) := by decide +kernel
theorem dX7_sell_64 : decode cX7_sell 64 = .ok (.invokevirtual 67, 3) := by decide +kernel
theorem dX7_sell_67 : decode cX7_sell 67 = .ok (.aload_n 0, 1) := by decide +kernel
theorem dX7_sell_68 : decode cX7_sell 68 = .ok (.getfield 7, 3) := by decide +kernel
theorem dX7_sell_71 : decode cX7_sell 71 = .ok (.bipush 69, 2) := by decide +kernel
theorem dX7_sell_73 : decode cX7_sell 73 = .ok (.iconst 2, 1) := by decide +kernel
theorem dX7_sell_74 : decode cX7_sell 74 = .ok (.iload_n 3, 1) := by decide +kernel
theorem dX7_sell_75 : decode cX7_sell 75 = .ok (.imul, 1) := by decide +kernel
theorem dX7_sell_76 : decode cX7_sell 76 = .ok (.iadd, 1) := by decide +kernel
theorem dX7_sell_77 : decode cX7_sell 77 = .ok (.iload_n 1, 1) := by decide +kernel
theorem dX7_sell_78 : decode cX7_sell 78 = .ok (.iastore, 1) := by decide +kernel
theorem dX7_sell_79 : decode cX7_sell 79 = .ok (.aload_n 0, 1) := by decide +kernel
theorem dX7_sell_80 : decode cX7_sell 80 = .ok (.getfield 7, 3) := by decide +kernel
theorem dX7_sell_83 : decode cX7_sell 83 = .ok (.bipush 69, 2) := by decide +kernel
theorem dX7_sell_85 : decode cX7_sell 85 = .ok (.iconst 2, 1) := by decide +kernel
theorem dX7_sell_86 : decode cX7_sell 86 = .ok (.iload_n 3, 1) := by decide +kernel
theorem dX7_sell_87 : decode cX7_sell 87 = .ok (.imul, 1) := by decide +kernel
theorem dX7_sell_88 : decode cX7_sell 88 = .ok (.iadd, 1) := by decide +kernel
theorem dX7_sell_89 : decode cX7_sell 89 = .ok (.iconst 1, 1) := by decide +kernel
theorem dX7_sell_90 : decode cX7_sell 90 = .ok (.iadd, 1) := by decide +kernel
theorem dX7_sell_91 : decode cX7_sell 91 = .ok (.iload_n 2, 1) := by decide +kernel
theorem dX7_sell_92 : decode cX7_sell 92 = .ok (.iastore, 1) := by decide +kernel
theorem dX7_sell_93 : decode cX7_sell 93 = .ok (.aload_n 0, 1) := by decide +kernel
theorem dX7_sell_94 : decode cX7_sell 94 = .ok (.getfield 7, 3) := by decide +kernel
theorem dX7_sell_97 : decode cX7_sell 97 = .ok (.bipush 7, 2) := by decide +kernel
theorem dX7_sell_99 : decode cX7_sell 99 = .ok (.dup2, 1) := by decide +kernel
theorem dX7_sell_100 : decode cX7_sell 100 = .ok (.iaload, 1) := by decide +kernel
theorem dX7_sell_101 : decode cX7_sell 101 = .ok (.iconst 1, 1) := by decide +kernel
theorem dX7_sell_102 : decode cX7_sell 102 = .ok (.iadd, 1) := by decide +kernel
theorem dX7_sell_103 : decode cX7_sell 103 = .ok (.iastore, 1) := by decide +kernel
theorem dX7_sell_104 : decode cX7_sell 104 = .ok (.iload_n 3, 1) := by decide +kernel
theorem dX7_sell_105 : decode cX7_sell 105 = .ok (.ireturn, 1) := by decide +kernel
set_option maxRecDepth 20000 in
theorem ggX7_buyBack_X7_isContract : GoodIn wsX7_buyBack wsX7_isContract := goodIn_r _ [7, 2, 26, 27, 28, 29, 30, 31, 32, 33, 34, 35, 36, 37, 38, 39, 40, 41, 42, 43] (by decide +kernel) (by decide +kernel)
set_option maxRecDepth 20000 in
theorem gX7_buyBack_X7_isContract : GoodIn wsX7_buyBack (wsV RX7 92 RX7 yX7_isContract wsX7_isContract) := goodIn_app (goodIn_of _ (by decide +kernel)) ggX7_buyBack_X7_isContract
set_option maxRecDepth 20000 in
theorem ggX7_buyBack_X7_in : GoodIn wsX7_buyBack wsX7_in := goodIn_r _ [10] (by decide +kernel) (by decide +kernel)
set_option maxRecDepth 20000 in
theorem gX7_buyBack_X7_in : GoodIn wsX7_buyBack (va_wsS RX7 61 yX7_in wsX7_in) := goodIn_app (goodIn_of _ (by decide +kernel)) ggX7_buyBack_X7_in
set_option maxRecDepth 20000 in
theorem ggX7_buyBack_X7_changes : GoodIn wsX7_buyBack wsX7_changes := goodIn_r _ [14, 15, 16, 17, 2, 26, 27, 28, 29, 30, 31, 32, 33, 34, 35, 36, 37, 38, 39, 40, 41, 42, 43] (by decide +kernel) (by decide +kernel)
set_option maxRecDepth 20000 in
theorem gX7_buyBack_X7_changes : GoodIn wsX7_buyBack (wsV RX7 67 RX7 yX7_changes wsX7_changes) := goodIn_app (goodIn_of _ (by decide +kernel)) ggX7_buyBack_X7_changes
set_option maxRecDepth 20000 in
theorem ggX7_buyBack_X7_priceOf : GoodIn wsX7_buyBack wsX7_priceOf := goodIn_r _ [21, 2, 26, 27, 28, 29, 30, 31, 32, 33, 34, 35, 36, 37, 38, 39, 40, 41, 42, 43] (by decide +kernel) (by decide +kernel)
set_option maxRecDepth 20000 in
theorem gX7_buyBack_X7_priceOf : GoodIn wsX7_buyBack (wsV RX7 95 RX7 yX7_priceOf wsX7_priceOf) := goodIn_app (goodIn_of _ (by decide +kernel)) ggX7_buyBack_X7_priceOf
set_option maxRecDepth 20000 in
theorem ggX7_buyBack_X7_closes : GoodIn wsX7_buyBack wsX7_closes := goodIn_r _ [25, 2, 26, 27, 28, 29, 30, 31, 32, 33, 34, 35, 36, 37, 38, 39, 40, 41, 42, 43] (by decide +kernel) (by decide +kernel)
set_option maxRecDepth 20000 in
theorem gX7_buyBack_X7_closes : GoodIn wsX7_buyBack (wsV RX7 98 RX7 yX7_closes wsX7_closes) := goodIn_app (goodIn_of _ (by decide +kernel)) ggX7_buyBack_X7_closes
theorem dX7_buyBack_0 : decode cX7_buyBack 0 = .ok (.aload_n 0, 1) := by decide +kernel
theorem dX7_buyBack_1 : decode cX7_buyBack 1 = .ok (.iload_n 1, 1) := by decide +kernel
theorem dX7_buyBack_2 : decode cX7_buyBack 2 = .ok (.invokevirtual 92, 3) := by decide +kernel
theorem dX7_buyBack_5 : decode cX7_buyBack 5 = .ok (.ifCond .eq 14, 3) := by decide +kernel
theorem dX7_buyBack_8 : decode cX7_buyBack 8 = .ok (.iload_n 2, 1) := by decide +kernel
theorem dX7_buyBack_9 : decode cX7_buyBack 9 = .ok (.iconst 1, 1) := by decide +kernel
theorem dX7_buyBack_10 : decode cX7_buyBack 10 = .ok (.sipush 999, 3) := by decide +kernel
theorem dX7_buyBack_13 : decode cX7_buyBack 13 = .ok (.invokestatic 61, 3) := by decide +kernel
theorem dX7_buyBack_16 : decode cX7_buyBack 16 = .ok (.ifCond .ne 6, 3) := by decide +kernel
theorem dX7_buyBack_19 : decode cX7_buyBack 19 = .ok (.ldc 65, 2) := by decide +kernel
theorem dX7_buyBack_21 : decode cX7_buyBack 21 = .ok (.ireturn, 1) := by decide +kernel
theorem dX7_buyBack_22 : decode cX7_buyBack 22 = .ok (.aload_n 0, 1) := by decide +kernel
theorem dX7_buyBack_23 : decode cX7_buyBack 23 = .ok (.invokevirtual 67, 3) := by decide +kernel
theorem dX7_buyBack_26 : decode cX7_buyBack 26 = .ok (.aload_n 0, 1) := by decide +kernel
theorem dX7_buyBack_27 : decode cX7_buyBack 27 = .ok (.getfield 7, 3) := by decide +kernel
theorem dX7_buyBack_30 : decode cX7_buyBack 30 = .ok (.bipush 8, 2) := by decide +kernel
theorem dX7_buyBack_32 : decode cX7_buyBack 32 = .ok (.iaload, 1) := by decide +kernel
theorem dX7_buyBack_33 : decode cX7_buyBack 33 = .ok (.aload_n 0, 1) := by decide +kernel
theorem dX7_buyBack_34 : decode cX7_buyBack 34 = .ok (.iload_n 1, 1) := by decide +kernel
theorem dX7_buyBack_35 : decode cX7_buyBack 35 = .ok (.invokevirtual 95, 3) := by decide +kernel
theorem dX7_buyBack_38 : decode cX7_buyBack 38 = .ok (.iload_n 2, 1) := by decide +kernel
theorem dX7_buyBack_39 : decode cX7_buyBack 39 = .ok (.isub, 1) := by decide +kernel
theorem dX7_buyBack_40 : decode cX7_buyBack 40 = .ok (.imul, 1) := by decide +kernel
theorem dX7_buyBack_41 : decode cX7_buyBack 41 = .ok (.istore_n 3, 1) := by decide +kernel
theorem dX7_buyBack_42 : decode cX7_buyBack 42 = .ok (.aload_n 0, 1) := by decide +kernel
theorem dX7_buyBack_43 : decode cX7_buyBack 43 = .ok (.getfield 7, 3) := by decide +kernel
theorem dX7_buyBack_46 : decode cX7_buyBack 46 = .ok (.iconst 1, 1) := by decide +kernel
theorem dX7_buyBack_47 : decode cX7_buyBack 47 = .ok (.dup2, 1) := by decide +kernel
theorem dX7_buyBack_48 : decode cX7_buyBack 48 = .ok (.iaload, 1) := by decide +kernel
theorem dX7_buyBack_49 : decode cX7_buyBack 49 = .ok (.iload_n 3, 1) := by decide +kernel
theorem dX7_buyBack_50 : decode cX7_buyBack 50 = .ok (.iadd, 1) := by decide +kernel
theorem dX7_buyBack_51 : decode cX7_buyBack 51 = .ok (.iastore, 1) := by decide +kernel
theorem dX7_buyBack_52 : decode cX7_buyBack 52 = .ok (.aload_n 0, 1) := by decide +kernel
theorem dX7_buyBack_53 : decode cX7_buyBack 53 = .ok (.iload_n 1, 1) := by decide +kernel
theorem dX7_buyBack_54 : decode cX7_buyBack 54 = .ok (.invokevirtual 98, 3) := by decide +kernel
theorem dX7_buyBack_57 : decode cX7_buyBack 57 = .ok (.iload_n 3, 1) := by decide +kernel
theorem dX7_buyBack_58 : decode cX7_buyBack 58 = .ok (.ireturn, 1) := by decide +kernel
set_option maxRecDepth 20000 in
theorem ggX7_gives_X7_cupAt : GoodIn wsX7_gives wsX7_cupAt := goodIn_r _ [11, 12, 13, 14, 10, 15, 2, 31, 32, 33, 34, 35, 36, 37, 38, 39, 40, 41, 42, 43, 44, 45, 46, 47, 48] (by decide +kernel) (by decide +kernel)
set_option maxRecDepth 20000 in
theorem gX7_gives_X7_cupAt : GoodIn wsX7_gives (wsV RX7 48 RX7 yX7_cupAt wsX7_cupAt) := goodIn_app (goodIn_of _ (by decide +kernel)) ggX7_gives_X7_cupAt
set_option maxRecDepth 20000 in
theorem ggX7_gives_X7_gainAt : GoodIn wsX7_gives wsX7_gainAt := goodIn_r _ [19, 2, 20, 21, 22, 10, 23, 7, 8, 9, 11, 12, 13, 14, 15, 24, 25, 26, 27, 28, 29, 30, 31, 32, 33, 34, 35, 36, 37, 38, 39, 40, 41, 42, 43, 44, 45, 46, 47, 48] (by decide +kernel) (by decide +kernel)
set_option maxRecDepth 20000 in
theorem gX7_gives_X7_gainAt : GoodIn wsX7_gives (wsV RX7 108 RX7 yX7_gainAt wsX7_gainAt) := goodIn_app (goodIn_of _ (by decide +kernel)) ggX7_gives_X7_gainAt
set_option maxRecDepth 20000 in
theorem ggX7_gives_X7_of : GoodIn wsX7_gives wsX7_of := goodIn_r _ [15, 2, 31, 32, 33, 34, 35, 36, 37, 38, 39, 40, 41, 42, 43, 44, 45, 46, 47, 48] (by decide +kernel) (by decide +kernel)
set_option maxRecDepth 20000 in
theorem gX7_gives_X7_of : GoodIn wsX7_gives (wsV RX7 39 RX7 yX7_of wsX7_of) := goodIn_app (goodIn_of _ (by decide +kernel)) ggX7_gives_X7_of
theorem dX7_gives_0 : decode cX7_gives 0 = .ok (.aload_n 0, 1) := by decide +kernel
theorem dX7_gives_1 : decode cX7_gives 1 = .ok (.iconst 0, 1) := by decide +kernel
theorem dX7_gives_2 : decode cX7_gives 2 = .ok (.putfield 102, 3) := by decide +kernel
theorem dX7_gives_5 : decode cX7_gives 5 = .ok (.aload_n 0, 1) := by decide +kernel
theorem dX7_gives_6 : decode cX7_gives 6 = .ok (.aload_n 0, 1) := by decide +kernel
theorem dX7_gives_7 : decode cX7_gives 7 = .ok (.getfield 7, 3) := by decide +kernel
theorem dX7_gives_10 : decode cX7_gives 10 = .ok (.bipush 8, 2) := by decide +kernel
theorem dX7_gives_12 : decode cX7_gives 12 = .ok (.iaload, 1) := by decide +kernel
theorem dX7_gives_13 : decode cX7_gives 13 = .ok (.putfield 105, 3) := by decide +kernel
theorem dX7_gives_16 : decode cX7_gives 16 = .ok (.iconst 0, 1) := by decide +kernel
theorem dX7_gives_17 : decode cX7_gives 17 = .ok (.istore_n 3, 1) := by decide +kernel
theorem dX7_gives_18 : decode cX7_gives 18 = .ok (.iconst 1, 1) := by decide +kernel
theorem dX7_gives_19 : decode cX7_gives 19 = .ok (.istore 4, 2) := by decide +kernel
theorem dX7_gives_21 : decode cX7_gives 21 = .ok (.iload 4, 2) := by decide +kernel
theorem dX7_gives_23 : decode cX7_gives 23 = .ok (.ifCond .eq 201, 3) := by decide +kernel
theorem dX7_gives_26 : decode cX7_gives 26 = .ok (.aload_n 0, 1) := by decide +kernel
theorem dX7_gives_27 : decode cX7_gives 27 = .ok (.getfield 105, 3) := by decide +kernel
theorem dX7_gives_30 : decode cX7_gives 30 = .ok (.ifCond .le 194, 3) := by decide +kernel
theorem dX7_gives_33 : decode cX7_gives 33 = .ok (.ldc 43, 2) := by decide +kernel
theorem dX7_gives_35 : decode cX7_gives 35 = .ok (.istore 5, 2) := by decide +kernel
theorem dX7_gives_37 : decode cX7_gives 37 = .ok (.iconst 0, 1) := by decide +kernel
theorem dX7_gives_38 : decode cX7_gives 38 = .ok (.istore 6, 2) := by decide +kernel
theorem dX7_gives_40 : decode cX7_gives 40 = .ok (.iload 6, 2) := by decide +kernel
theorem dX7_gives_42 : decode cX7_gives 42 = .ok (.aload_n 0, 1) := by decide +kernel
theorem dX7_gives_43 : decode cX7_gives 43 = .ok (.getfield 7, 3) := by decide +kernel
theorem dX7_gives_46 : decode cX7_gives 46 = .ok (.bipush 6, 2) := by decide +kernel
theorem dX7_gives_48 : decode cX7_gives 48 = .ok (.iaload, 1) := by decide +kernel
theorem dX7_gives_49 : decode cX7_gives 49 = .ok (.if_icmp .ge 75, 3) := by decide +kernel
theorem dX7_gives_52 : decode cX7_gives 52 = .ok (.aload_n 0, 1) := by decide +kernel
theorem dX7_gives_53 : decode cX7_gives 53 = .ok (.iload 6, 2) := by decide +kernel
theorem dX7_gives_55 : decode cX7_gives 55 = .ok (.iload_n 2, 1) := by decide +kernel
theorem dX7_gives_56 : decode cX7_gives 56 = .ok (.invokevirtual 48, 3) := by decide +kernel
theorem dX7_gives_59 : decode cX7_gives 59 = .ok (.bipush 70, 2) := by decide +kernel
theorem dX7_gives_61 : decode cX7_gives 61 = .ok (.if_icmp .lt 16, 3) := by decide +kernel
theorem dX7_gives_64 : decode cX7_gives 64 = .ok (.iload_n 3, 1) := by decide +kernel
theorem dX7_gives_65 : decode cX7_gives 65 = .ok (.iload 6, 2) := by decide +kernel
theorem dX7_gives_67 : decode cX7_gives 67 = .ok (.ishr, 1) := by decide +kernel
theorem dX7_gives_68 : decode cX7_gives 68 = .ok (.iconst 1, 1) := by decide +kernel
theorem dX7_gives_69 : decode cX7_gives 69 = .ok (.iand, 1) := by decide +kernel
theorem dX7_gives_70 : decode cX7_gives 70 = .ok (.ifCond .ne 7, 3) := by decide +kernel
theorem dX7_gives_73 : decode cX7_gives 73 = .ok (.iconst 1, 1) := by decide +kernel
theorem dX7_gives_74 : decode cX7_gives 74 = .ok (.goto 4, 3) := by decide +kernel
theorem dX7_gives_77 : decode cX7_gives 77 = .ok (.iconst 0, 1) := by decide +kernel
theorem dX7_gives_78 : decode cX7_gives 78 = .ok (.istore 7, 2) := by decide +kernel
theorem dX7_gives_80 : decode cX7_gives 80 = .ok (.iload 7, 2) := by decide +kernel
theorem dX7_gives_82 : decode cX7_gives 82 = .ok (.ifCond .eq 32, 3) := by decide +kernel
theorem dX7_gives_85 : decode cX7_gives 85 = .ok (.iload 5, 2) := by decide +kernel
theorem dX7_gives_87 : decode cX7_gives 87 = .ok (.ifCond .lt 22, 3) := by decide +kernel
theorem dX7_gives_90 : decode cX7_gives 90 = .ok (.aload_n 0, 1) := by decide +kernel
theorem dX7_gives_91 : decode cX7_gives 91 = .ok (.iload 6, 2) := by decide +kernel
theorem dX7_gives_93 : decode cX7_gives 93 = .ok (.iload_n 1, 1) := by decide +kernel
theorem dX7_gives_94 : decode cX7_gives 94 = .ok (.iload_n 2, 1) := by decide +kernel
theorem dX7_gives_95 : decode cX7_gives 95 = .ok (.invokevirtual 108, 3) := by decide +kernel
theorem dX7_gives_98 : decode cX7_gives 98 = .ok (.aload_n 0, 1) := by decide +kernel
theorem dX7_gives_99 : decode cX7_gives 99 = .ok (.iload 5, 2) := by decide +kernel
theorem dX7_gives_101 : decode cX7_gives 101 = .ok (.iload_n 1, 1) := by decide +kernel
theorem dX7_gives_102 : decode cX7_gives 102 = .ok (.iload_n 2, 1) := by decide +kernel
theorem dX7_gives_103 : decode cX7_gives 103 = .ok (.invokevirtual 108, 3) := by decide +kernel
theorem dX7_gives_106 : decode cX7_gives 106 = .ok (.if_icmp .le 8, 3) := by decide +kernel
theorem dX7_gives_109 : decode cX7_gives 109 = .ok (.iload 6, 2) := by decide +kernel
theorem dX7_gives_111 : decode cX7_gives 111 = .ok (.goto 5, 3) := by decide +kernel
theorem dX7_gives_114 : decode cX7_gives 114 = .ok (.iload 5, 2) := by decide +kernel
theorem dX7_gives_116 : decode cX7_gives 116 = .ok (.istore 5, 2) := by decide +kernel
theorem dX7_gives_118 : decode cX7_gives 118 = .ok (.iinc 6 1, 3) := by decide +kernel
theorem dX7_gives_121 : decode cX7_gives 121 = .ok (.goto (-81), 3) := by decide +kernel
theorem dX7_gives_124 : decode cX7_gives 124 = .ok (.iload 5, 2) := by decide +kernel
theorem dX7_gives_126 : decode cX7_gives 126 = .ok (.ifCond .lt 7, 3) := by decide +kernel
theorem dX7_gives_129 : decode cX7_gives 129 = .ok (.iconst 1, 1) := by decide +kernel
theorem dX7_gives_130 : decode cX7_gives 130 = .ok (.goto 4, 3) := by decide +kernel
theorem dX7_gives_133 : decode cX7_gives 133 = .ok (.iconst 0, 1) := by decide +kernel
theorem dX7_gives_134 : decode cX7_gives 134 = .ok (.istore 4, 2) := by decide +kernel
theorem dX7_gives_136 : decode cX7_gives 136 = .ok (.iload 4, 2) := by decide +kernel
theorem dX7_gives_138 : decode cX7_gives 138 = .ok (.ifCond .eq 83, 3) := by decide +kernel
theorem dX7_gives_141 : decode cX7_gives 141 = .ok (.aload_n 0, 1) := by decide +kernel
theorem dX7_gives_142 : decode cX7_gives 142 = .ok (.iload 5, 2) := by decide +kernel
theorem dX7_gives_144 : decode cX7_gives 144 = .ok (.iconst 1, 1) := by decide +kernel
theorem dX7_gives_145 : decode cX7_gives 145 = .ok (.invokevirtual 39, 3) := by decide +kernel
theorem dX7_gives_148 : decode cX7_gives 148 = .ok (.aload_n 0, 1) := by decide +kernel
theorem dX7_gives_149 : decode cX7_gives 149 = .ok (.getfield 105, 3) := by decide +kernel
theorem dX7_gives_152 : decode cX7_gives 152 = .ok (.if_icmp .ge 13, 3) := by decide +kernel
theorem dX7_gives_155 : decode cX7_gives 155 = .ok (.aload_n 0, 1) := by decide +kernel
theorem dX7_gives_156 : decode cX7_gives 156 = .ok (.iload 5, 2) := by decide +kernel
theorem dX7_gives_158 : decode cX7_gives 158 = .ok (.iconst 1, 1) := by decide +kernel
theorem dX7_gives_159 : decode cX7_gives 159 = .ok (.invokevirtual 39, 3) := by decide +kernel
theorem dX7_gives_162 : decode cX7_gives 162 = .ok (.goto 7, 3) := by decide +kernel
theorem dX7_gives_165 : decode cX7_gives 165 = .ok (.aload_n 0, 1) := by decide +kernel
theorem dX7_gives_166 : decode cX7_gives 166 = .ok (.getfield 105, 3) := by decide +kernel
theorem dX7_gives_169 : decode cX7_gives 169 = .ok (.istore 6, 2) := by decide +kernel
theorem dX7_gives_171 : decode cX7_gives 171 = .ok (.aload_n 0, 1) := by decide +kernel
theorem dX7_gives_172 : decode cX7_gives 172 = .ok (.getfield 22, 3) := by decide +kernel
theorem dX7_gives_175 : decode cX7_gives 175 = .ok (.aload_n 0, 1) := by decide +kernel
theorem dX7_gives_176 : decode cX7_gives 176 = .ok (.getfield 102, 3) := by decide +kernel
theorem dX7_gives_179 : decode cX7_gives 179 = .ok (.iload 5, 2) := by decide +kernel
theorem dX7_gives_181 : decode cX7_gives 181 = .ok (.iastore, 1) := by decide +kernel
theorem dX7_gives_182 : decode cX7_gives 182 = .ok (.aload_n 0, 1) := by decide +kernel
theorem dX7_gives_183 : decode cX7_gives 183 = .ok (.getfield 25, 3) := by decide +kernel
theorem dX7_gives_186 : decode cX7_gives 186 = .ok (.aload_n 0, 1) := by decide +kernel
theorem dX7_gives_187 : decode cX7_gives 187 = .ok (.getfield 102, 3) := by decide +kernel
theorem dX7_gives_190 : decode cX7_gives 190 = .ok (.iload 6, 2) := by decide +kernel
theorem dX7_gives_192 : decode cX7_gives 192 = .ok (.iastore, 1) := by decide +kernel
theorem dX7_gives_193 : decode cX7_gives 193 = .ok (.aload_n 0, 1) := by decide +kernel
theorem dX7_gives_194 : decode cX7_gives 194 = .ok (.dup, 1) := by decide +kernel
theorem dX7_gives_195 : decode cX7_gives 195 = .ok (.getfield 102, 3) := by decide +kernel
theorem dX7_gives_198 : decode cX7_gives 198 = .ok (.iconst 1, 1) := by decide +kernel
theorem dX7_gives_199 : decode cX7_gives 199 = .ok (.iadd, 1) := by decide +kernel
theorem dX7_gives_200 : decode cX7_gives 200 = .ok (.putfield 102, 3) := by decide +kernel
theorem dX7_gives_203 : decode cX7_gives 203 = .ok (.aload_n 0, 1) := by decide +kernel
theorem dX7_gives_204 : decode cX7_gives 204 = .ok (.dup, 1) := by decide +kernel
theorem dX7_gives_205 : decode cX7_gives 205 = .ok (.getfield 105, 3) := by decide +kernel
theorem dX7_gives_208 : decode cX7_gives 208 = .ok (.iload 6, 2) := by decide +kernel
theorem dX7_gives_210 : decode cX7_gives 210 = .ok (.isub, 1) := by decide +kernel
theorem dX7_gives_211 : decode cX7_gives 211 = .ok (.putfield 105, 3) := by decide +kernel
theorem dX7_gives_214 : decode cX7_gives 214 = .ok (.iload_n 3, 1) := by decide +kernel
theorem dX7_gives_215 : decode cX7_gives 215 = .ok (.iconst 1, 1) := by decide +kernel
theorem dX7_gives_216 : decode cX7_gives 216 = .ok (.iload 5, 2) := by decide +kernel
theorem dX7_gives_218 : decode cX7_gives 218 = .ok (.ishl, 1) := by decide +kernel
theorem dX7_gives_219 : decode cX7_gives 219 = .ok (.ior, 1) := by decide +kernel
theorem dX7_gives_220 : decode cX7_gives 220 = .ok (.istore_n 3, 1) := by decide +kernel
theorem dX7_gives_221 : decode cX7_gives 221 = .ok (.goto (-200), 3) := by decide +kernel
theorem dX7_gives_224 : decode cX7_gives 224 = .ok (.return_, 1) := by decide +kernel
set_option maxRecDepth 20000 in
theorem ggX7_paidAll_X7_gainAt : GoodIn wsX7_paidAll wsX7_gainAt := goodIn_r _ [8, 9, 10, 11, 12, 7, 13, 14, 15, 16, 17, 18, 19, 20, 21, 22, 23, 24, 25, 26, 27, 28, 29, 30, 31, 32, 33, 34, 35, 36, 37, 38, 39, 40, 41, 42, 43, 44, 45, 46] (by decide +kernel) (by decide +kernel)
set_option maxRecDepth 20000 in
theorem gX7_paidAll_X7_gainAt : GoodIn wsX7_paidAll (wsV RX7 108 RX7 yX7_gainAt wsX7_gainAt) := goodIn_app (goodIn_of _ (by decide +kernel)) ggX7_paidAll_X7_gainAt
set_option maxRecDepth 20000 in
theorem ggX7_paidAll_X7_paidAt : GoodIn wsX7_paidAll wsX7_paidAt := goodIn_r _ [13, 9, 14, 15, 16, 7, 17, 18, 19, 20, 21, 22, 23, 24, 25, 29, 30, 31, 32, 33, 34, 35, 36, 37, 38, 39, 40, 41, 42, 43, 44, 45, 46] (by decide +kernel) (by decide +kernel)
set_option maxRecDepth 20000 in
theorem gX7_paidAll_X7_paidAt : GoodIn wsX7_paidAll (wsV RX7 54 RX7 yX7_paidAt wsX7_paidAt) := goodIn_app (goodIn_of _ (by decide +kernel)) ggX7_paidAll_X7_paidAt
theorem dX7_paidAll_0 : decode cX7_paidAll 0 = .ok (.iconst 0, 1) := by decide +kernel
theorem dX7_paidAll_1 : decode cX7_paidAll 1 = .ok (.istore 4, 2) := by decide +kernel
theorem dX7_paidAll_3 : decode cX7_paidAll 3 = .ok (.iconst 0, 1) := by decide +kernel
theorem dX7_paidAll_4 : decode cX7_paidAll 4 = .ok (.istore 5, 2) := by decide +kernel
theorem dX7_paidAll_6 : decode cX7_paidAll 6 = .ok (.iload 5, 2) := by decide +kernel
theorem dX7_paidAll_8 : decode cX7_paidAll 8 = .ok (.aload_n 0, 1) := by decide +kernel
theorem dX7_paidAll_9 : decode cX7_paidAll 9 = .ok (.getfield 102, 3) := by decide +kernel
theorem dX7_paidAll_12 : decode cX7_paidAll 12 = .ok (.if_icmp .ge 55, 3) := by decide +kernel
theorem dX7_paidAll_15 : decode cX7_paidAll 15 = .ok (.iload 4, 2) := by decide +kernel
theorem dX7_paidAll_17 : decode cX7_paidAll 17 = .ok (.aload_n 0, 1) := by decide +kernel
theorem dX7_paidAll_18 : decode cX7_paidAll 18 = .ok (.getfield 25, 3) := by decide +kernel
theorem dX7_paidAll_21 : decode cX7_paidAll 21 = .ok (.iload 5, 2) := by decide +kernel
theorem dX7_paidAll_23 : decode cX7_paidAll 23 = .ok (.iaload, 1) := by decide +kernel
theorem dX7_paidAll_24 : decode cX7_paidAll 24 = .ok (.iload_n 3, 1) := by decide +kernel
theorem dX7_paidAll_25 : decode cX7_paidAll 25 = .ok (.ifCond .eq 19, 3) := by decide +kernel
theorem dX7_paidAll_28 : decode cX7_paidAll 28 = .ok (.aload_n 0, 1) := by decide +kernel
theorem dX7_paidAll_29 : decode cX7_paidAll 29 = .ok (.aload_n 0, 1) := by decide +kernel
theorem dX7_paidAll_30 : decode cX7_paidAll 30 = .ok (.getfield 22, 3) := by decide +kernel
theorem dX7_paidAll_33 : decode cX7_paidAll 33 = .ok (.iload 5, 2) := by decide +kernel
theorem dX7_paidAll_35 : decode cX7_paidAll 35 = .ok (.iaload, 1) := by decide +kernel
theorem dX7_paidAll_36 : decode cX7_paidAll 36 = .ok (.iload_n 1, 1) := by decide +kernel
theorem dX7_paidAll_37 : decode cX7_paidAll 37 = .ok (.iload_n 2, 1) := by decide +kernel
theorem dX7_paidAll_38 : decode cX7_paidAll 38 = .ok (.invokevirtual 108, 3) := by decide +kernel
theorem dX7_paidAll_41 : decode cX7_paidAll 41 = .ok (.goto 16, 3) := by decide +kernel
theorem dX7_paidAll_44 : decode cX7_paidAll 44 = .ok (.aload_n 0, 1) := by decide +kernel
theorem dX7_paidAll_45 : decode cX7_paidAll 45 = .ok (.aload_n 0, 1) := by decide +kernel
theorem dX7_paidAll_46 : decode cX7_paidAll 46 = .ok (.getfield 22, 3) := by decide +kernel
theorem dX7_paidAll_49 : decode cX7_paidAll 49 = .ok (.iload 5, 2) := by decide +kernel
theorem dX7_paidAll_51 : decode cX7_paidAll 51 = .ok (.iaload, 1) := by decide +kernel
theorem dX7_paidAll_52 : decode cX7_paidAll 52 = .ok (.iload_n 1, 1) := by decide +kernel
theorem dX7_paidAll_53 : decode cX7_paidAll 53 = .ok (.iload_n 2, 1) := by decide +kernel
theorem dX7_paidAll_54 : decode cX7_paidAll 54 = .ok (.invokevirtual 54, 3) := by decide +kernel
theorem dX7_paidAll_57 : decode cX7_paidAll 57 = .ok (.imul, 1) := by decide +kernel
theorem dX7_paidAll_58 : decode cX7_paidAll 58 = .ok (.iadd, 1) := by decide +kernel
theorem dX7_paidAll_59 : decode cX7_paidAll 59 = .ok (.istore 4, 2) := by decide +kernel
theorem dX7_paidAll_61 : decode cX7_paidAll 61 = .ok (.iinc 5 1, 3) := by decide +kernel
theorem dX7_paidAll_64 : decode cX7_paidAll 64 = .ok (.goto (-58), 3) := by decide +kernel
theorem dX7_paidAll_67 : decode cX7_paidAll 67 = .ok (.iload 4, 2) := by decide +kernel
theorem dX7_paidAll_69 : decode cX7_paidAll 69 = .ok (.ireturn, 1) := by decide +kernel
set_option maxRecDepth 20000 in
theorem ggX7_meet_X7_isContract : GoodIn wsX7_meet wsX7_isContract := goodIn_r _ [12, 2, 72, 73, 74, 75, 76, 77, 78, 79, 80, 81, 82, 83, 84, 85, 86, 87, 88, 89] (by decide +kernel) (by decide +kernel)
set_option maxRecDepth 20000 in
theorem gX7_meet_X7_isContract : GoodIn wsX7_meet (wsV RX7 92 RX7 yX7_isContract wsX7_isContract) := goodIn_app (goodIn_of _ (by decide +kernel)) ggX7_meet_X7_isContract
set_option maxRecDepth 20000 in
theorem ggX7_meet_X7_priceOf : GoodIn wsX7_meet wsX7_priceOf := goodIn_r _ [16, 2, 72, 73, 74, 75, 76, 77, 78, 79, 80, 81, 82, 83, 84, 85, 86, 87, 88, 89] (by decide +kernel) (by decide +kernel)
set_option maxRecDepth 20000 in
theorem gX7_meet_X7_priceOf : GoodIn wsX7_meet (wsV RX7 95 RX7 yX7_priceOf wsX7_priceOf) := goodIn_app (goodIn_of _ (by decide +kernel)) ggX7_meet_X7_priceOf
set_option maxRecDepth 20000 in
theorem ggX7_meet_X7_gives : GoodIn wsX7_meet wsX7_gives := goodIn_r _ [20, 5, 2, 3, 21, 6, 7, 22, 23, 24, 11, 25, 26, 27, 28, 29, 30, 31, 32, 33, 34, 35, 36, 37, 38, 39, 40, 41, 42, 43, 44, 72, 73, 74, 75, 76, 77, 78, 79, 80, 81, 82, 83, 84, 85, 86, 87, 88, 89] (by decide +kernel) (by decide +kernel)
set_option maxRecDepth 20000 in
theorem gX7_meet_X7_gives : GoodIn wsX7_meet (wsV RX7 111 RX7 yX7_gives wsX7_gives) := goodIn_app (goodIn_of _ (by decide +kernel)) ggX7_meet_X7_gives
set_option maxRecDepth 20000 in
theorem ggX7_meet_X7_monthOf : GoodIn wsX7_meet wsX7_monthOf := goodIn_r _ [48, 2, 72, 73, 74, 75, 76, 77, 78, 79, 80, 81, 82, 83, 84, 85, 86, 87, 88, 89] (by decide +kernel) (by decide +kernel)
set_option maxRecDepth 20000 in
theorem gX7_meet_X7_monthOf : GoodIn wsX7_meet (wsV RX7 114 RX7 yX7_monthOf wsX7_monthOf) := goodIn_app (goodIn_of _ (by decide +kernel)) ggX7_meet_X7_monthOf
set_option maxRecDepth 20000 in
theorem ggX7_meet_X7_changes : GoodIn wsX7_meet wsX7_changes := goodIn_r _ [52, 53, 54, 55, 2, 72, 73, 74, 75, 76, 77, 78, 79, 80, 81, 82, 83, 84, 85, 86, 87, 88, 89] (by decide +kernel) (by decide +kernel)
set_option maxRecDepth 20000 in
theorem gX7_meet_X7_changes : GoodIn wsX7_meet (wsV RX7 67 RX7 yX7_changes wsX7_changes) := goodIn_app (goodIn_of _ (by decide +kernel)) ggX7_meet_X7_changes
set_option maxRecDepth 20000 in
theorem ggX7_meet_X7_paidAll : GoodIn wsX7_meet wsX7_paidAll := goodIn_r _ [59, 5, 7, 6, 30, 31, 32, 11, 33, 2, 34, 35, 36, 37, 22, 23, 24, 25, 26, 27, 28, 29, 38, 39, 40, 41, 42, 43, 44, 72, 73, 74, 75, 76, 77, 78, 79, 80, 81, 82, 83, 84, 85, 86, 87, 88, 89] (by decide +kernel) (by decide +kernel)
set_option maxRecDepth 20000 in
theorem gX7_meet_X7_paidAll : GoodIn wsX7_meet (wsV RX7 117 RX7 yX7_paidAll wsX7_paidAll) := goodIn_app (goodIn_of _ (by decide +kernel)) ggX7_meet_X7_paidAll
set_option maxRecDepth 20000 in
theorem ggX7_meet_X7_of : GoodIn wsX7_meet wsX7_of := goodIn_r _ [29, 2, 72, 73, 74, 75, 76, 77, 78, 79, 80, 81, 82, 83, 84, 85, 86, 87, 88, 89] (by decide +kernel) (by decide +kernel)
set_option maxRecDepth 20000 in
theorem gX7_meet_X7_of : GoodIn wsX7_meet (wsV RX7 39 RX7 yX7_of wsX7_of) := goodIn_app (goodIn_of _ (by decide +kernel)) ggX7_meet_X7_of
set_option maxRecDepth 20000 in
theorem ggX7_meet_X7_takes : GoodIn wsX7_meet wsX7_takes := goodIn_r _ [63, 2, 64, 65, 66, 11, 67, 21, 26, 27, 28, 29, 72, 73, 74, 75, 76, 77, 78, 79, 80, 81, 82, 83, 84, 85, 86, 87, 88, 89] (by decide +kernel) (by decide +kernel)
set_option maxRecDepth 20000 in
theorem gX7_meet_X7_takes : GoodIn wsX7_meet (wsV RX7 78 RX7 yX7_takes wsX7_takes) := goodIn_app (goodIn_of _ (by decide +kernel)) ggX7_meet_X7_takes
set_option maxRecDepth 20000 in
theorem ggX7_meet_X7_closes : GoodIn wsX7_meet wsX7_closes := goodIn_r _ [71, 2, 72, 73, 74, 75, 76, 77, 78, 79, 80, 81, 82, 83, 84, 85, 86, 87, 88, 89] (by decide +kernel) (by decide +kernel)
set_option maxRecDepth 20000 in
theorem gX7_meet_X7_closes : GoodIn wsX7_meet (wsV RX7 98 RX7 yX7_closes wsX7_closes) := goodIn_app (goodIn_of _ (by decide +kernel)) ggX7_meet_X7_closes
theorem dX7_meet_0 : decode cX7_meet 0 = .ok (.aload_n 0, 1) := by decide +kernel
theorem dX7_meet_1 : decode cX7_meet 1 = .ok (.iload_n 1, 1) := by decide +kernel
theorem dX7_meet_2 : decode cX7_meet 2 = .ok (.invokevirtual 92, 3) := by decide +kernel
theorem dX7_meet_5 : decode cX7_meet 5 = .ok (.ifCond .ne 6, 3) := by decide +kernel
theorem dX7_meet_8 : decode cX7_meet 8 = .ok (.ldc 65, 2) := by decide +kernel
theorem dX7_meet_10 : decode cX7_meet 10 = .ok (.ireturn, 1) := by decide +kernel
theorem dX7_meet_11 : decode cX7_meet 11 = .ok (.aload_n 0, 1) := by decide +kernel
theorem dX7_meet_12 : decode cX7_meet 12 = .ok (.aload_n 0, 1) := by decide +kernel
theorem dX7_meet_13 : decode cX7_meet 13 = .ok (.iload_n 1, 1) := by decide +kernel
theorem dX7_meet_14 : decode cX7_meet 14 = .ok (.invokevirtual 95, 3) := by decide +kernel
theorem dX7_meet_17 : decode cX7_meet 17 = .ok (.aload_n 0, 1) := by decide +kernel
theorem dX7_meet_18 : decode cX7_meet 18 = .ok (.getfield 7, 3) := by decide +kernel
theorem dX7_meet_21 : decode cX7_meet 21 = .ok (.iconst 0, 1) := by decide +kernel
theorem dX7_meet_22 : decode cX7_meet 22 = .ok (.iaload, 1) := by decide +kernel
theorem dX7_meet_23 : decode cX7_meet 23 = .ok (.invokevirtual 111, 3) := by decide +kernel
theorem dX7_meet_26 : decode cX7_meet 26 = .ok (.aload_n 0, 1) := by decide +kernel
theorem dX7_meet_27 : decode cX7_meet 27 = .ok (.iload_n 1, 1) := by decide +kernel
theorem dX7_meet_28 : decode cX7_meet 28 = .ok (.invokevirtual 114, 3) := by decide +kernel
theorem dX7_meet_31 : decode cX7_meet 31 = .ok (.aload_n 0, 1) := by decide +kernel
theorem dX7_meet_32 : decode cX7_meet 32 = .ok (.getfield 7, 3) := by decide +kernel
theorem dX7_meet_35 : decode cX7_meet 35 = .ok (.iconst 0, 1) := by decide +kernel
theorem dX7_meet_36 : decode cX7_meet 36 = .ok (.iaload, 1) := by decide +kernel
theorem dX7_meet_37 : decode cX7_meet 37 = .ok (.if_icmp .ne 10, 3) := by decide +kernel
theorem dX7_meet_40 : decode cX7_meet 40 = .ok (.aload_n 0, 1) := by decide +kernel
theorem dX7_meet_41 : decode cX7_meet 41 = .ok (.getfield 105, 3) := by decide +kernel
theorem dX7_meet_44 : decode cX7_meet 44 = .ok (.ifCond .le 6, 3) := by decide +kernel
theorem dX7_meet_47 : decode cX7_meet 47 = .ok (.ldc 77, 2) := by decide +kernel
theorem dX7_meet_49 : decode cX7_meet 49 = .ok (.ireturn, 1) := by decide +kernel
theorem dX7_meet_50 : decode cX7_meet 50 = .ok (.aload_n 0, 1) := by decide +kernel
theorem dX7_meet_51 : decode cX7_meet 51 = .ok (.invokevirtual 67, 3) := by decide +kernel
theorem dX7_meet_54 : decode cX7_meet 54 = .ok (.aload_n 0, 1) := by decide +kernel
theorem dX7_meet_55 : decode cX7_meet 55 = .ok (.aload_n 0, 1) := by decide +kernel
theorem dX7_meet_56 : decode cX7_meet 56 = .ok (.iload_n 1, 1) := by decide +kernel
theorem dX7_meet_57 : decode cX7_meet 57 = .ok (.invokevirtual 95, 3) := by decide +kernel
theorem dX7_meet_60 : decode cX7_meet 60 = .ok (.aload_n 0, 1) := by decide +kernel
theorem dX7_meet_61 : decode cX7_meet 61 = .ok (.getfield 7, 3) := by decide +kernel
theorem dX7_meet_64 : decode cX7_meet 64 = .ok (.iconst 0, 1) := by decide +kernel
theorem dX7_meet_65 : decode cX7_meet 65 = .ok (.iaload, 1) := by decide +kernel
theorem dX7_meet_66 : decode cX7_meet 66 = .ok (.iconst 0, 1) := by decide +kernel
theorem dX7_meet_67 : decode cX7_meet 67 = .ok (.invokevirtual 117, 3) := by decide +kernel
theorem dX7_meet_70 : decode cX7_meet 70 = .ok (.istore_n 2, 1) := by decide +kernel
theorem dX7_meet_71 : decode cX7_meet 71 = .ok (.iconst 0, 1) := by decide +kernel
theorem dX7_meet_72 : decode cX7_meet 72 = .ok (.istore_n 3, 1) := by decide +kernel
theorem dX7_meet_73 : decode cX7_meet 73 = .ok (.iload_n 3, 1) := by decide +kernel
theorem dX7_meet_74 : decode cX7_meet 74 = .ok (.aload_n 0, 1) := by decide +kernel
theorem dX7_meet_75 : decode cX7_meet 75 = .ok (.getfield 102, 3) := by decide +kernel
theorem dX7_meet_78 : decode cX7_meet 78 = .ok (.if_icmp .ge 26, 3) := by decide +kernel
theorem dX7_meet_81 : decode cX7_meet 81 = .ok (.aload_n 0, 1) := by decide +kernel
theorem dX7_meet_82 : decode cX7_meet 82 = .ok (.getfield 22, 3) := by decide +kernel
theorem dX7_meet_85 : decode cX7_meet 85 = .ok (.iload_n 3, 1) := by decide +kernel
theorem dX7_meet_86 : decode cX7_meet 86 = .ok (.aload_n 0, 1) := by decide +kernel
theorem dX7_meet_87 : decode cX7_meet 87 = .ok (.aload_n 0, 1) := by decide +kernel
theorem dX7_meet_88 : decode cX7_meet 88 = .ok (.getfield 22, 3) := by decide +kernel
theorem dX7_meet_91 : decode cX7_meet 91 = .ok (.iload_n 3, 1) := by decide +kernel
theorem dX7_meet_92 : decode cX7_meet 92 = .ok (.iaload, 1) := by decide +kernel
theorem dX7_meet_93 : decode cX7_meet 93 = .ok (.iconst 0, 1) := by decide +kernel
theorem dX7_meet_94 : decode cX7_meet 94 = .ok (.invokevirtual 39, 3) := by decide +kernel
theorem dX7_meet_97 : decode cX7_meet 97 = .ok (.iastore, 1) := by decide +kernel
theorem dX7_meet_98 : decode cX7_meet 98 = .ok (.iinc 3 1, 3) := by decide +kernel
theorem dX7_meet_101 : decode cX7_meet 101 = .ok (.goto (-28), 3) := by decide +kernel
theorem dX7_meet_104 : decode cX7_meet 104 = .ok (.iconst 0, 1) := by decide +kernel
theorem dX7_meet_105 : decode cX7_meet 105 = .ok (.istore_n 3, 1) := by decide +kernel
theorem dX7_meet_106 : decode cX7_meet 106 = .ok (.iload_n 3, 1) := by decide +kernel
theorem dX7_meet_107 : decode cX7_meet 107 = .ok (.aload_n 0, 1) := by decide +kernel
theorem dX7_meet_108 : decode cX7_meet 108 = .ok (.getfield 102, 3) := by decide +kernel
theorem dX7_meet_111 : decode cX7_meet 111 = .ok (.if_icmp .ge 25, 3) := by decide +kernel
theorem dX7_meet_114 : decode cX7_meet 114 = .ok (.aload_n 0, 1) := by decide +kernel
theorem dX7_meet_115 : decode cX7_meet 115 = .ok (.aload_n 0, 1) := by decide +kernel
theorem dX7_meet_116 : decode cX7_meet 116 = .ok (.getfield 22, 3) := by decide +kernel
theorem dX7_meet_119 : decode cX7_meet 119 = .ok (.iload_n 3, 1) := by decide +kernel
theorem dX7_meet_120 : decode cX7_meet 120 = .ok (.iaload, 1) := by decide +kernel
theorem dX7_meet_121 : decode cX7_meet 121 = .ok (.aload_n 0, 1) := by decide +kernel
theorem dX7_meet_122 : decode cX7_meet 122 = .ok (.getfield 25, 3) := by decide +kernel
theorem dX7_meet_125 : decode cX7_meet 125 = .ok (.iload_n 3, 1) := by decide +kernel
theorem dX7_meet_126 : decode cX7_meet 126 = .ok (.iaload, 1) := by decide +kernel
theorem dX7_meet_127 : decode cX7_meet 127 = .ok (.invokevirtual 78, 3) := by decide +kernel
theorem dX7_meet_130 : decode cX7_meet 130 = .ok (.iinc 3 1, 3) := by decide +kernel
theorem dX7_meet_133 : decode cX7_meet 133 = .ok (.goto (-27), 3) := by decide +kernel
theorem dX7_meet_136 : decode cX7_meet 136 = .ok (.aload_n 0, 1) := by decide +kernel
theorem dX7_meet_137 : decode cX7_meet 137 = .ok (.getfield 7, 3) := by decide +kernel
theorem dX7_meet_140 : decode cX7_meet 140 = .ok (.iconst 1, 1) := by decide +kernel
theorem dX7_meet_141 : decode cX7_meet 141 = .ok (.dup2, 1) := by decide +kernel
theorem dX7_meet_142 : decode cX7_meet 142 = .ok (.iaload, 1) := by decide +kernel
theorem dX7_meet_143 : decode cX7_meet 143 = .ok (.iload_n 2, 1) := by decide +kernel
theorem dX7_meet_144 : decode cX7_meet 144 = .ok (.iadd, 1) := by decide +kernel
theorem dX7_meet_145 : decode cX7_meet 145 = .ok (.iastore, 1) := by decide +kernel
theorem dX7_meet_146 : decode cX7_meet 146 = .ok (.aload_n 0, 1) := by decide +kernel
theorem dX7_meet_147 : decode cX7_meet 147 = .ok (.getfield 7, 3) := by decide +kernel
theorem dX7_meet_150 : decode cX7_meet 150 = .ok (.iconst 2, 1) := by decide +kernel
theorem dX7_meet_151 : decode cX7_meet 151 = .ok (.dup2, 1) := by decide +kernel
theorem dX7_meet_152 : decode cX7_meet 152 = .ok (.iaload, 1) := by decide +kernel
theorem dX7_meet_153 : decode cX7_meet 153 = .ok (.iconst 1, 1) := by decide +kernel
theorem dX7_meet_154 : decode cX7_meet 154 = .ok (.iadd, 1) := by decide +kernel
theorem dX7_meet_155 : decode cX7_meet 155 = .ok (.iastore, 1) := by decide +kernel
theorem dX7_meet_156 : decode cX7_meet 156 = .ok (.aload_n 0, 1) := by decide +kernel
theorem dX7_meet_157 : decode cX7_meet 157 = .ok (.getfield 7, 3) := by decide +kernel
theorem dX7_meet_160 : decode cX7_meet 160 = .ok (.iconst 4, 1) := by decide +kernel
theorem dX7_meet_161 : decode cX7_meet 161 = .ok (.dup2, 1) := by decide +kernel
theorem dX7_meet_162 : decode cX7_meet 162 = .ok (.iaload, 1) := by decide +kernel
theorem dX7_meet_163 : decode cX7_meet 163 = .ok (.aload_n 0, 1) := by decide +kernel
theorem dX7_meet_164 : decode cX7_meet 164 = .ok (.getfield 7, 3) := by decide +kernel
theorem dX7_meet_167 : decode cX7_meet 167 = .ok (.bipush 8, 2) := by decide +kernel
theorem dX7_meet_169 : decode cX7_meet 169 = .ok (.iaload, 1) := by decide +kernel
theorem dX7_meet_170 : decode cX7_meet 170 = .ok (.iadd, 1) := by decide +kernel
theorem dX7_meet_171 : decode cX7_meet 171 = .ok (.iastore, 1) := by decide +kernel
theorem dX7_meet_172 : decode cX7_meet 172 = .ok (.aload_n 0, 1) := by decide +kernel
theorem dX7_meet_173 : decode cX7_meet 173 = .ok (.iload_n 1, 1) := by decide +kernel
theorem dX7_meet_174 : decode cX7_meet 174 = .ok (.invokevirtual 98, 3) := by decide +kernel
theorem dX7_meet_177 : decode cX7_meet 177 = .ok (.iload_n 2, 1) := by decide +kernel
theorem dX7_meet_178 : decode cX7_meet 178 = .ok (.ireturn, 1) := by decide +kernel
set_option maxRecDepth 20000 in
theorem ggX7_fails_X7_monthOf : GoodIn wsX7_fails wsX7_monthOf := goodIn_r _ [6, 1, 11, 12, 13, 14, 15, 16, 17, 18, 19, 20, 21, 22, 23, 24, 25, 26, 27, 28] (by decide +kernel) (by decide +kernel)
set_option maxRecDepth 20000 in
theorem gX7_fails_X7_monthOf : GoodIn wsX7_fails (wsV RX7 114 RX7 yX7_monthOf wsX7_monthOf) := goodIn_app (goodIn_of _ (by decide +kernel)) ggX7_fails_X7_monthOf
set_option maxRecDepth 20000 in
theorem ggX7_fails_X7_closes : GoodIn wsX7_fails wsX7_closes := goodIn_r _ [10, 1, 11, 12, 13, 14, 15, 16, 17, 18, 19, 20, 21, 22, 23, 24, 25, 26, 27, 28] (by decide +kernel) (by decide +kernel)
set_option maxRecDepth 20000 in
theorem gX7_fails_X7_closes : GoodIn wsX7_fails (wsV RX7 98 RX7 yX7_closes wsX7_closes) := goodIn_app (goodIn_of _ (by decide +kernel)) ggX7_fails_X7_closes
theorem dX7_fails_0 : decode cX7_fails 0 = .ok (.iconst 0, 1) := by decide +kernel
theorem dX7_fails_1 : decode cX7_fails 1 = .ok (.istore_n 1, 1) := by decide +kernel
theorem dX7_fails_2 : decode cX7_fails 2 = .ok (.aload_n 0, 1) := by decide +kernel
theorem dX7_fails_3 : decode cX7_fails 3 = .ok (.getfield 7, 3) := by decide +kernel
theorem dX7_fails_6 : decode cX7_fails 6 = .ok (.bipush 7, 2) := by decide +kernel
theorem dX7_fails_8 : decode cX7_fails 8 = .ok (.iaload, 1) := by decide +kernel
theorem dX7_fails_9 : decode cX7_fails 9 = .ok (.iconst 1, 1) := by decide +kernel
theorem dX7_fails_10 : decode cX7_fails 10 = .ok (.isub, 1) := by decide +kernel
theorem dX7_fails_11 : decode cX7_fails 11 = .ok (.istore_n 2, 1) := by decide +kernel
theorem dX7_fails_12 : decode cX7_fails 12 = .ok (.iload_n 2, 1) := by decide +kernel
theorem dX7_fails_13 : decode cX7_fails 13 = .ok (.ifCond .lt 65, 3) := by decide +kernel
theorem dX7_fails_16 : decode cX7_fails 16 = .ok (.aload_n 0, 1) := by decide +kernel
theorem dX7_fails_17 : decode cX7_fails 17 = .ok (.iload_n 2, 1) := by decide +kernel
theorem dX7_fails_18 : decode cX7_fails 18 = .ok (.invokevirtual 114, 3) := by decide +kernel
theorem dX7_fails_21 : decode cX7_fails 21 = .ok (.aload_n 0, 1) := by decide +kernel
theorem dX7_fails_22 : decode cX7_fails 22 = .ok (.getfield 7, 3) := by decide +kernel
theorem dX7_fails_25 : decode cX7_fails 25 = .ok (.iconst 0, 1) := by decide +kernel
theorem dX7_fails_26 : decode cX7_fails 26 = .ok (.iaload, 1) := by decide +kernel
theorem dX7_fails_27 : decode cX7_fails 27 = .ok (.if_icmp .ne 45, 3) := by decide +kernel
theorem dX7_fails_30 : decode cX7_fails 30 = .ok (.aload_n 0, 1) := by decide +kernel
theorem dX7_fails_31 : decode cX7_fails 31 = .ok (.iload_n 2, 1) := by decide +kernel
theorem dX7_fails_32 : decode cX7_fails 32 = .ok (.invokevirtual 98, 3) := by decide +kernel
theorem dX7_fails_35 : decode cX7_fails 35 = .ok (.aload_n 0, 1) := by decide +kernel
theorem dX7_fails_36 : decode cX7_fails 36 = .ok (.getfield 7, 3) := by decide +kernel
theorem dX7_fails_39 : decode cX7_fails 39 = .ok (.iconst 1, 1) := by decide +kernel
theorem dX7_fails_40 : decode cX7_fails 40 = .ok (.dup2, 1) := by decide +kernel
theorem dX7_fails_41 : decode cX7_fails 41 = .ok (.iaload, 1) := by decide +kernel
theorem dX7_fails_42 : decode cX7_fails 42 = .ok (.aload_n 0, 1) := by decide +kernel
theorem dX7_fails_43 : decode cX7_fails 43 = .ok (.getfield 7, 3) := by decide +kernel
theorem dX7_fails_46 : decode cX7_fails 46 = .ok (.bipush 8, 2) := by decide +kernel
theorem dX7_fails_48 : decode cX7_fails 48 = .ok (.iaload, 1) := by decide +kernel
theorem dX7_fails_49 : decode cX7_fails 49 = .ok (.aload_n 0, 1) := by decide +kernel
theorem dX7_fails_50 : decode cX7_fails 50 = .ok (.getfield 7, 3) := by decide +kernel
theorem dX7_fails_53 : decode cX7_fails 53 = .ok (.bipush 12, 2) := by decide +kernel
theorem dX7_fails_55 : decode cX7_fails 55 = .ok (.iaload, 1) := by decide +kernel
theorem dX7_fails_56 : decode cX7_fails 56 = .ok (.imul, 1) := by decide +kernel
theorem dX7_fails_57 : decode cX7_fails 57 = .ok (.isub, 1) := by decide +kernel
theorem dX7_fails_58 : decode cX7_fails 58 = .ok (.iastore, 1) := by decide +kernel
theorem dX7_fails_59 : decode cX7_fails 59 = .ok (.aload_n 0, 1) := by decide +kernel
theorem dX7_fails_60 : decode cX7_fails 60 = .ok (.getfield 7, 3) := by decide +kernel
theorem dX7_fails_63 : decode cX7_fails 63 = .ok (.iconst 3, 1) := by decide +kernel
theorem dX7_fails_64 : decode cX7_fails 64 = .ok (.dup2, 1) := by decide +kernel
theorem dX7_fails_65 : decode cX7_fails 65 = .ok (.iaload, 1) := by decide +kernel
theorem dX7_fails_66 : decode cX7_fails 66 = .ok (.iconst 1, 1) := by decide +kernel
theorem dX7_fails_67 : decode cX7_fails 67 = .ok (.iadd, 1) := by decide +kernel
theorem dX7_fails_68 : decode cX7_fails 68 = .ok (.iastore, 1) := by decide +kernel
theorem dX7_fails_69 : decode cX7_fails 69 = .ok (.iinc 1 1, 3) := by decide +kernel
theorem dX7_fails_72 : decode cX7_fails 72 = .ok (.iinc 2 (-1), 3) := by decide +kernel
theorem dX7_fails_75 : decode cX7_fails 75 = .ok (.goto (-63), 3) := by decide +kernel
theorem dX7_fails_78 : decode cX7_fails 78 = .ok (.iload_n 1, 1) := by decide +kernel
theorem dX7_fails_79 : decode cX7_fails 79 = .ok (.ireturn, 1) := by decide +kernel
set_option maxRecDepth 20000 in
theorem ggX7_pass_X7_in : GoodIn wsX7_pass wsX7_in := goodIn_r _ [7] (by decide +kernel) (by decide +kernel)
set_option maxRecDepth 20000 in
theorem gX7_pass_X7_in : GoodIn wsX7_pass (va_wsS RX7 61 yX7_in wsX7_in) := goodIn_app (goodIn_of _ (by decide +kernel)) ggX7_pass_X7_in
set_option maxRecDepth 20000 in
theorem ggX7_pass_X7_changes : GoodIn wsX7_pass wsX7_changes := goodIn_r _ [11, 12, 13, 14, 2, 27, 28, 29, 30, 31, 32, 33, 34, 35, 36, 37, 38, 39, 40, 41, 42, 43, 44] (by decide +kernel) (by decide +kernel)
set_option maxRecDepth 20000 in
theorem gX7_pass_X7_changes : GoodIn wsX7_pass (wsV RX7 67 RX7 yX7_changes wsX7_changes) := goodIn_app (goodIn_of _ (by decide +kernel)) ggX7_pass_X7_changes
set_option maxRecDepth 20000 in
theorem ggX7_pass_X7_fails : GoodIn wsX7_pass wsX7_fails := goodIn_r _ [18, 2, 19, 20, 21, 6, 22, 23, 24, 25, 26, 27, 28, 29, 30, 31, 32, 33, 34, 35, 36, 37, 38, 39, 40, 41, 42, 43, 44] (by decide +kernel) (by decide +kernel)
set_option maxRecDepth 20000 in
theorem gX7_pass_X7_fails : GoodIn wsX7_pass (wsV RX7 121 RX7 yX7_fails wsX7_fails) := goodIn_app (goodIn_of _ (by decide +kernel)) ggX7_pass_X7_fails
theorem dX7_pass_0 : decode cX7_pass 0 = .ok (.iload_n 1, 1) := by decide +kernel
theorem dX7_pass_1 : decode cX7_pass 1 = .ok (.iconst 1, 1) := by decide +kernel
theorem dX7_pass_2 : decode cX7_pass 2 = .ok (.bipush 24, 2) := by decide +kernel
theorem dX7_pass_4 : decode cX7_pass 4 = .ok (.invokestatic 61, 3) := by decide +kernel
theorem dX7_pass_7 : decode cX7_pass 7 = .ok (.ifCond .ne 6, 3) := by decide +kernel
theorem dX7_pass_10 : decode cX7_pass 10 = .ok (.ldc 65, 2) := by decide +kernel
theorem dX7_pass_12 : decode cX7_pass 12 = .ok (.ireturn, 1) := by decide +kernel
theorem dX7_pass_13 : decode cX7_pass 13 = .ok (.aload_n 0, 1) := by decide +kernel
theorem dX7_pass_14 : decode cX7_pass 14 = .ok (.getfield 7, 3) := by decide +kernel
theorem dX7_pass_17 : decode cX7_pass 17 = .ok (.iconst 0, 1) := by decide +kernel
theorem dX7_pass_18 : decode cX7_pass 18 = .ok (.iaload, 1) := by decide +kernel
theorem dX7_pass_19 : decode cX7_pass 19 = .ok (.iload_n 1, 1) := by decide +kernel
theorem dX7_pass_20 : decode cX7_pass 20 = .ok (.iadd, 1) := by decide +kernel
theorem dX7_pass_21 : decode cX7_pass 21 = .ok (.sipush 999, 3) := by decide +kernel
theorem dX7_pass_24 : decode cX7_pass 24 = .ok (.if_icmp .le 6, 3) := by decide +kernel
theorem dX7_pass_27 : decode cX7_pass 27 = .ok (.ldc 66, 2) := by decide +kernel
theorem dX7_pass_29 : decode cX7_pass 29 = .ok (.ireturn, 1) := by decide +kernel
theorem dX7_pass_30 : decode cX7_pass 30 = .ok (.aload_n 0, 1) := by decide +kernel
theorem dX7_pass_31 : decode cX7_pass 31 = .ok (.invokevirtual 67, 3) := by decide +kernel
theorem dX7_pass_34 : decode cX7_pass 34 = .ok (.iconst 0, 1) := by decide +kernel
theorem dX7_pass_35 : decode cX7_pass 35 = .ok (.istore_n 2, 1) := by decide +kernel
theorem dX7_pass_36 : decode cX7_pass 36 = .ok (.iconst 0, 1) := by decide +kernel
theorem dX7_pass_37 : decode cX7_pass 37 = .ok (.istore_n 3, 1) := by decide +kernel
theorem dX7_pass_38 : decode cX7_pass 38 = .ok (.iload_n 3, 1) := by decide +kernel
theorem dX7_pass_39 : decode cX7_pass 39 = .ok (.iload_n 1, 1) := by decide +kernel
theorem dX7_pass_40 : decode cX7_pass 40 = .ok (.if_icmp .ge 26, 3) := by decide +kernel
theorem dX7_pass_43 : decode cX7_pass 43 = .ok (.iload_n 2, 1) := by decide +kernel
theorem dX7_pass_44 : decode cX7_pass 44 = .ok (.aload_n 0, 1) := by decide +kernel
theorem dX7_pass_45 : decode cX7_pass 45 = .ok (.invokevirtual 121, 3) := by decide +kernel
theorem dX7_pass_48 : decode cX7_pass 48 = .ok (.iadd, 1) := by decide +kernel
theorem dX7_pass_49 : decode cX7_pass 49 = .ok (.istore_n 2, 1) := by decide +kernel
theorem dX7_pass_50 : decode cX7_pass 50 = .ok (.aload_n 0, 1) := by decide +kernel
theorem dX7_pass_51 : decode cX7_pass 51 = .ok (.getfield 7, 3) := by decide +kernel
theorem dX7_pass_54 : decode cX7_pass 54 = .ok (.iconst 0, 1) := by decide +kernel
theorem dX7_pass_55 : decode cX7_pass 55 = .ok (.dup2, 1) := by decide +kernel
theorem dX7_pass_56 : decode cX7_pass 56 = .ok (.iaload, 1) := by decide +kernel
theorem dX7_pass_57 : decode cX7_pass 57 = .ok (.iconst 1, 1) := by decide +kernel
theorem dX7_pass_58 : decode cX7_pass 58 = .ok (.iadd, 1) := by decide +kernel
theorem dX7_pass_59 : decode cX7_pass 59 = .ok (.iastore, 1) := by decide +kernel
theorem dX7_pass_60 : decode cX7_pass 60 = .ok (.iinc 3 1, 3) := by decide +kernel
theorem dX7_pass_63 : decode cX7_pass 63 = .ok (.goto (-25), 3) := by decide +kernel
theorem dX7_pass_66 : decode cX7_pass 66 = .ok (.iload_n 2, 1) := by decide +kernel
theorem dX7_pass_67 : decode cX7_pass 67 = .ok (.ireturn, 1) := by decide +kernel
set_option maxRecDepth 20000 in
theorem ggX7_set_X7_in : GoodIn wsX7_set wsX7_in := goodIn_r _ [7] (by decide +kernel) (by decide +kernel)
set_option maxRecDepth 20000 in
theorem gX7_set_X7_in : GoodIn wsX7_set (va_wsS RX7 61 yX7_in wsX7_in) := goodIn_app (goodIn_of _ (by decide +kernel)) ggX7_set_X7_in
set_option maxRecDepth 20000 in
theorem ggX7_set_X7_changes : GoodIn wsX7_set wsX7_changes := goodIn_r _ [11, 12, 13, 14, 2, 15, 16, 17, 18, 19, 20, 21, 22, 23, 24, 25, 26, 27, 28, 29, 30, 31, 32] (by decide +kernel) (by decide +kernel)
set_option maxRecDepth 20000 in
theorem gX7_set_X7_changes : GoodIn wsX7_set (wsV RX7 67 RX7 yX7_changes wsX7_changes) := goodIn_app (goodIn_of _ (by decide +kernel)) ggX7_set_X7_changes
theorem dX7_set_0 : decode cX7_set 0 = .ok (.iload_n 1, 1) := by decide +kernel
theorem dX7_set_1 : decode cX7_set 1 = .ok (.iconst 2, 1) := by decide +kernel
theorem dX7_set_2 : decode cX7_set 2 = .ok (.if_icmp .ge 7, 3) := by decide +kernel
theorem dX7_set_5 : decode cX7_set 5 = .ok (.iconst 1, 1) := by decide +kernel
theorem dX7_set_6 : decode cX7_set 6 = .ok (.goto 4, 3) := by decide +kernel
theorem dX7_set_9 : decode cX7_set 9 = .ok (.iconst 0, 1) := by decide +kernel
theorem dX7_set_10 : decode cX7_set 10 = .ok (.istore_n 3, 1) := by decide +kernel
theorem dX7_set_11 : decode cX7_set 11 = .ok (.iload_n 1, 1) := by decide +kernel
theorem dX7_set_12 : decode cX7_set 12 = .ok (.ifCond .ne 9, 3) := by decide +kernel
theorem dX7_set_15 : decode cX7_set 15 = .ok (.sipush 250, 3) := by decide +kernel
theorem dX7_set_18 : decode cX7_set 18 = .ok (.goto 27, 3) := by decide +kernel
theorem dX7_set_21 : decode cX7_set 21 = .ok (.iload_n 1, 1) := by decide +kernel
theorem dX7_set_22 : decode cX7_set 22 = .ok (.iconst 1, 1) := by decide +kernel
theorem dX7_set_23 : decode cX7_set 23 = .ok (.if_icmp .ne 9, 3) := by decide +kernel
theorem dX7_set_26 : decode cX7_set 26 = .ok (.sipush 4095, 3) := by decide +kernel
theorem dX7_set_29 : decode cX7_set 29 = .ok (.goto 16, 3) := by decide +kernel
theorem dX7_set_32 : decode cX7_set 32 = .ok (.iload_n 1, 1) := by decide +kernel
theorem dX7_set_33 : decode cX7_set 33 = .ok (.iconst 4, 1) := by decide +kernel
theorem dX7_set_34 : decode cX7_set 34 = .ok (.if_icmp .ne 9, 3) := by decide +kernel
theorem dX7_set_37 : decode cX7_set 37 = .ok (.sipush 999, 3) := by decide +kernel
theorem dX7_set_40 : decode cX7_set 40 = .ok (.goto 5, 3) := by decide +kernel
theorem dX7_set_43 : decode cX7_set 43 = .ok (.bipush 50, 2) := by decide +kernel
theorem dX7_set_45 : decode cX7_set 45 = .ok (.istore 4, 2) := by decide +kernel
theorem dX7_set_47 : decode cX7_set 47 = .ok (.iload_n 1, 1) := by decide +kernel
theorem dX7_set_48 : decode cX7_set 48 = .ok (.iconst 0, 1) := by decide +kernel
theorem dX7_set_49 : decode cX7_set 49 = .ok (.iconst 4, 1) := by decide +kernel
theorem dX7_set_50 : decode cX7_set 50 = .ok (.invokestatic 61, 3) := by decide +kernel
theorem dX7_set_53 : decode cX7_set 53 = .ok (.ifCond .eq 13, 3) := by decide +kernel
theorem dX7_set_56 : decode cX7_set 56 = .ok (.iload_n 2, 1) := by decide +kernel
theorem dX7_set_57 : decode cX7_set 57 = .ok (.iload_n 3, 1) := by decide +kernel
theorem dX7_set_58 : decode cX7_set 58 = .ok (.iload 4, 2) := by decide +kernel
theorem dX7_set_60 : decode cX7_set 60 = .ok (.invokestatic 61, 3) := by decide +kernel
theorem dX7_set_63 : decode cX7_set 63 = .ok (.ifCond .ne 6, 3) := by decide +kernel
theorem dX7_set_66 : decode cX7_set 66 = .ok (.ldc 65, 2) := by decide +kernel
theorem dX7_set_68 : decode cX7_set 68 = .ok (.ireturn, 1) := by decide +kernel
theorem dX7_set_69 : decode cX7_set 69 = .ok (.iload_n 1, 1) := by decide +kernel
theorem dX7_set_70 : decode cX7_set 70 = .ok (.ifCond .ne 16, 3) := by decide +kernel
theorem dX7_set_73 : decode cX7_set 73 = .ok (.aload_n 0, 1) := by decide +kernel
theorem dX7_set_74 : decode cX7_set 74 = .ok (.getfield 7, 3) := by decide +kernel
theorem dX7_set_77 : decode cX7_set 77 = .ok (.bipush 7, 2) := by decide +kernel
theorem dX7_set_79 : decode cX7_set 79 = .ok (.iaload, 1) := by decide +kernel
theorem dX7_set_80 : decode cX7_set 80 = .ok (.ifCond .le 6, 3) := by decide +kernel
theorem dX7_set_83 : decode cX7_set 83 = .ok (.ldc 77, 2) := by decide +kernel
theorem dX7_set_85 : decode cX7_set 85 = .ok (.ireturn, 1) := by decide +kernel
theorem dX7_set_86 : decode cX7_set 86 = .ok (.aload_n 0, 1) := by decide +kernel
theorem dX7_set_87 : decode cX7_set 87 = .ok (.invokevirtual 67, 3) := by decide +kernel
theorem dX7_set_90 : decode cX7_set 90 = .ok (.aload_n 0, 1) := by decide +kernel
theorem dX7_set_91 : decode cX7_set 91 = .ok (.getfield 7, 3) := by decide +kernel
theorem dX7_set_94 : decode cX7_set 94 = .ok (.bipush 8, 2) := by decide +kernel
theorem dX7_set_96 : decode cX7_set 96 = .ok (.iload_n 1, 1) := by decide +kernel
theorem dX7_set_97 : decode cX7_set 97 = .ok (.iadd, 1) := by decide +kernel
theorem dX7_set_98 : decode cX7_set 98 = .ok (.iaload, 1) := by decide +kernel
theorem dX7_set_99 : decode cX7_set 99 = .ok (.istore 5, 2) := by decide +kernel
theorem dX7_set_101 : decode cX7_set 101 = .ok (.aload_n 0, 1) := by decide +kernel
theorem dX7_set_102 : decode cX7_set 102 = .ok (.getfield 7, 3) := by decide +kernel
theorem dX7_set_105 : decode cX7_set 105 = .ok (.bipush 8, 2) := by decide +kernel
theorem dX7_set_107 : decode cX7_set 107 = .ok (.iload_n 1, 1) := by decide +kernel
theorem dX7_set_108 : decode cX7_set 108 = .ok (.iadd, 1) := by decide +kernel
theorem dX7_set_109 : decode cX7_set 109 = .ok (.iload_n 2, 1) := by decide +kernel
theorem dX7_set_110 : decode cX7_set 110 = .ok (.iastore, 1) := by decide +kernel
theorem dX7_set_111 : decode cX7_set 111 = .ok (.iload 5, 2) := by decide +kernel
theorem dX7_set_113 : decode cX7_set 113 = .ok (.ireturn, 1) := by decide +kernel
set_option maxRecDepth 20000 in
theorem ggX7_lotOf_X7_isLot : GoodIn wsX7_lotOf wsX7_isLot := goodIn_r _ [7, 8, 9, 10, 6, 11, 2, 12, 13, 14, 15, 16, 35, 36, 37, 38, 39, 40, 41, 42, 43, 44, 45, 46, 47, 48, 49, 50, 51, 52] (by decide +kernel) (by decide +kernel)
set_option maxRecDepth 20000 in
theorem gX7_lotOf_X7_isLot : GoodIn wsX7_lotOf (wsV RX7 73 RX7 yX7_isLot wsX7_isLot) := goodIn_app (goodIn_of _ (by decide +kernel)) ggX7_lotOf_X7_isLot
set_option maxRecDepth 20000 in
theorem ggX7_lotOf_X7_in : GoodIn wsX7_lotOf wsX7_in := goodIn_r _ [19] (by decide +kernel) (by decide +kernel)
set_option maxRecDepth 20000 in
theorem gX7_lotOf_X7_in : GoodIn wsX7_lotOf (va_wsS RX7 61 yX7_in wsX7_in) := goodIn_app (goodIn_of _ (by decide +kernel)) ggX7_lotOf_X7_in
set_option maxRecDepth 20000 in
theorem ggX7_lotOf_X7_placeOf : GoodIn wsX7_lotOf wsX7_placeOf := goodIn_r _ [11, 2, 12, 13, 14, 15, 6, 16, 35, 36, 37, 38, 39, 40, 41, 42, 43, 44, 45, 46, 47, 48, 49, 50, 51, 52] (by decide +kernel) (by decide +kernel)
set_option maxRecDepth 20000 in
theorem gX7_lotOf_X7_placeOf : GoodIn wsX7_lotOf (wsV RX7 44 RX7 yX7_placeOf wsX7_placeOf) := goodIn_app (goodIn_of _ (by decide +kernel)) ggX7_lotOf_X7_placeOf
set_option maxRecDepth 20000 in
theorem ggX7_lotOf_X7_of : GoodIn wsX7_lotOf wsX7_of := goodIn_r _ [16, 2, 35, 36, 37, 38, 39, 40, 41, 42, 43, 44, 45, 46, 47, 48, 49, 50, 51, 52] (by decide +kernel) (by decide +kernel)
set_option maxRecDepth 20000 in
theorem gX7_lotOf_X7_of : GoodIn wsX7_lotOf (wsV RX7 39 RX7 yX7_of wsX7_of) := goodIn_app (goodIn_of _ (by decide +kernel)) ggX7_lotOf_X7_of
set_option maxRecDepth 20000 in
theorem ggX7_lotOf_X7_cupOf : GoodIn wsX7_lotOf wsX7_cupOf := goodIn_r _ [23, 2, 24, 25, 26, 6, 27, 13, 14, 15, 16, 35, 36, 37, 38, 39, 40, 41, 42, 43, 44, 45, 46, 47, 48, 49, 50, 51, 52] (by decide +kernel) (by decide +kernel)
set_option maxRecDepth 20000 in
theorem gX7_lotOf_X7_cupOf : GoodIn wsX7_lotOf (wsV RX7 82 RX7 yX7_cupOf wsX7_cupOf) := goodIn_app (goodIn_of _ (by decide +kernel)) ggX7_lotOf_X7_cupOf
set_option maxRecDepth 20000 in
theorem ggX7_lotOf_X7_bandOf : GoodIn wsX7_lotOf wsX7_bandOf := goodIn_r _ [30] (by decide +kernel) (by decide +kernel)
set_option maxRecDepth 20000 in
theorem gX7_lotOf_X7_bandOf : GoodIn wsX7_lotOf (va_wsS RX7 58 yX7_bandOf wsX7_bandOf) := goodIn_app (goodIn_of _ (by decide +kernel)) ggX7_lotOf_X7_bandOf
set_option maxRecDepth 20000 in
theorem ggX7_lotOf_X7_lateAt : GoodIn wsX7_lotOf wsX7_lateAt := goodIn_r _ [34, 13, 14, 15, 6, 16, 2, 35, 36, 37, 38, 39, 40, 41, 42, 43, 44, 45, 46, 47, 48, 49, 50, 51, 52] (by decide +kernel) (by decide +kernel)
set_option maxRecDepth 20000 in
theorem gX7_lotOf_X7_lateAt : GoodIn wsX7_lotOf (wsV RX7 51 RX7 yX7_lateAt wsX7_lateAt) := goodIn_app (goodIn_of _ (by decide +kernel)) ggX7_lotOf_X7_lateAt
theorem dX7_lotOf_0 : decode cX7_lotOf 0 = .ok (.aload_n 0, 1) := by decide +kernel
theorem dX7_lotOf_1 : decode cX7_lotOf 1 = .ok (.iload_n 1, 1) := by decide +kernel
theorem dX7_lotOf_2 : decode cX7_lotOf 2 = .ok (.invokevirtual 73, 3) := by decide +kernel
theorem dX7_lotOf_5 : decode cX7_lotOf 5 = .ok (.ifCond .eq 13, 3) := by decide +kernel
theorem dX7_lotOf_8 : decode cX7_lotOf 8 = .ok (.iload_n 2, 1) := by decide +kernel
theorem dX7_lotOf_9 : decode cX7_lotOf 9 = .ok (.iconst 0, 1) := by decide +kernel
theorem dX7_lotOf_10 : decode cX7_lotOf 10 = .ok (.bipush 6, 2) := by decide +kernel
theorem dX7_lotOf_12 : decode cX7_lotOf 12 = .ok (.invokestatic 61, 3) := by decide +kernel
theorem dX7_lotOf_15 : decode cX7_lotOf 15 = .ok (.ifCond .ne 6, 3) := by decide +kernel
theorem dX7_lotOf_18 : decode cX7_lotOf 18 = .ok (.ldc 65, 2) := by decide +kernel
theorem dX7_lotOf_20 : decode cX7_lotOf 20 = .ok (.ireturn, 1) := by decide +kernel
theorem dX7_lotOf_21 : decode cX7_lotOf 21 = .ok (.aload_n 0, 1) := by decide +kernel
theorem dX7_lotOf_22 : decode cX7_lotOf 22 = .ok (.iload_n 1, 1) := by decide +kernel
theorem dX7_lotOf_23 : decode cX7_lotOf 23 = .ok (.invokevirtual 44, 3) := by decide +kernel
theorem dX7_lotOf_26 : decode cX7_lotOf 26 = .ok (.istore_n 3, 1) := by decide +kernel
theorem dX7_lotOf_27 : decode cX7_lotOf 27 = .ok (.iload_n 2, 1) := by decide +kernel
theorem dX7_lotOf_28 : decode cX7_lotOf 28 = .ok (.tableswitch 84 0 5 #[40, 40, 40, 49, 55, 72], 40) := by decide +kernel
theorem dX7_lotOf_68 : decode cX7_lotOf 68 = .ok (.aload_n 0, 1) := by decide +kernel
theorem dX7_lotOf_69 : decode cX7_lotOf 69 = .ok (.iload_n 3, 1) := by decide +kernel
theorem dX7_lotOf_70 : decode cX7_lotOf 70 = .ok (.iload_n 2, 1) := by decide +kernel
theorem dX7_lotOf_71 : decode cX7_lotOf 71 = .ok (.iconst 1, 1) := by decide +kernel
theorem dX7_lotOf_72 : decode cX7_lotOf 72 = .ok (.iadd, 1) := by decide +kernel
theorem dX7_lotOf_73 : decode cX7_lotOf 73 = .ok (.invokevirtual 39, 3) := by decide +kernel
theorem dX7_lotOf_76 : decode cX7_lotOf 76 = .ok (.ireturn, 1) := by decide +kernel
theorem dX7_lotOf_77 : decode cX7_lotOf 77 = .ok (.aload_n 0, 1) := by decide +kernel
theorem dX7_lotOf_78 : decode cX7_lotOf 78 = .ok (.iload_n 3, 1) := by decide +kernel
theorem dX7_lotOf_79 : decode cX7_lotOf 79 = .ok (.invokevirtual 82, 3) := by decide +kernel
theorem dX7_lotOf_82 : decode cX7_lotOf 82 = .ok (.ireturn, 1) := by decide +kernel
theorem dX7_lotOf_83 : decode cX7_lotOf 83 = .ok (.aload_n 0, 1) := by decide +kernel
theorem dX7_lotOf_84 : decode cX7_lotOf 84 = .ok (.getfield 7, 3) := by decide +kernel
theorem dX7_lotOf_87 : decode cX7_lotOf 87 = .ok (.bipush 13, 2) := by decide +kernel
theorem dX7_lotOf_89 : decode cX7_lotOf 89 = .ok (.aload_n 0, 1) := by decide +kernel
theorem dX7_lotOf_90 : decode cX7_lotOf 90 = .ok (.iload_n 3, 1) := by decide +kernel
theorem dX7_lotOf_91 : decode cX7_lotOf 91 = .ok (.invokevirtual 82, 3) := by decide +kernel
theorem dX7_lotOf_94 : decode cX7_lotOf 94 = .ok (.invokestatic 58, 3) := by decide +kernel
theorem dX7_lotOf_97 : decode cX7_lotOf 97 = .ok (.iadd, 1) := by decide +kernel
theorem dX7_lotOf_98 : decode cX7_lotOf 98 = .ok (.iaload, 1) := by decide +kernel
theorem dX7_lotOf_99 : decode cX7_lotOf 99 = .ok (.ireturn, 1) := by decide +kernel
theorem dX7_lotOf_100 : decode cX7_lotOf 100 = .ok (.aload_n 0, 1) := by decide +kernel
theorem dX7_lotOf_101 : decode cX7_lotOf 101 = .ok (.iload_n 3, 1) := by decide +kernel
theorem dX7_lotOf_102 : decode cX7_lotOf 102 = .ok (.aload_n 0, 1) := by decide +kernel
theorem dX7_lotOf_103 : decode cX7_lotOf 103 = .ok (.getfield 7, 3) := by decide +kernel
theorem dX7_lotOf_106 : decode cX7_lotOf 106 = .ok (.iconst 0, 1) := by decide +kernel
theorem dX7_lotOf_107 : decode cX7_lotOf 107 = .ok (.iaload, 1) := by decide +kernel
theorem dX7_lotOf_108 : decode cX7_lotOf 108 = .ok (.invokevirtual 51, 3) := by decide +kernel
theorem dX7_lotOf_111 : decode cX7_lotOf 111 = .ok (.ireturn, 1) := by decide +kernel
theorem dX7_lotOf_112 : decode cX7_lotOf 112 = .ok (.aload_n 0, 1) := by decide +kernel
theorem dX7_lotOf_113 : decode cX7_lotOf 113 = .ok (.iload_n 3, 1) := by decide +kernel
theorem dX7_lotOf_114 : decode cX7_lotOf 114 = .ok (.invokevirtual 82, 3) := by decide +kernel
theorem dX7_lotOf_117 : decode cX7_lotOf 117 = .ok (.invokestatic 58, 3) := by decide +kernel
theorem dX7_lotOf_120 : decode cX7_lotOf 120 = .ok (.ireturn, 1) := by decide +kernel
set_option maxRecDepth 20000 in
theorem ggX7_numberOf_X7_of : GoodIn wsX7_numberOf wsX7_of := goodIn_r _ [8, 2, 9, 10, 11, 12, 13, 14, 15, 16, 17, 18, 19, 20, 21, 22, 23, 24, 25, 26] (by decide +kernel) (by decide +kernel)
set_option maxRecDepth 20000 in
theorem gX7_numberOf_X7_of : GoodIn wsX7_numberOf (wsV RX7 39 RX7 yX7_of wsX7_of) := goodIn_app (goodIn_of _ (by decide +kernel)) ggX7_numberOf_X7_of
theorem dX7_numberOf_0 : decode cX7_numberOf 0 = .ok (.iload_n 1, 1) := by decide +kernel
theorem dX7_numberOf_1 : decode cX7_numberOf 1 = .ok (.ifCond .ge 8, 3) := by decide +kernel
theorem dX7_numberOf_4 : decode cX7_numberOf 4 = .ok (.ldc 65, 2) := by decide +kernel
theorem dX7_numberOf_6 : decode cX7_numberOf 6 = .ok (.goto 25, 3) := by decide +kernel
theorem dX7_numberOf_9 : decode cX7_numberOf 9 = .ok (.iload_n 1, 1) := by decide +kernel
theorem dX7_numberOf_10 : decode cX7_numberOf 10 = .ok (.aload_n 0, 1) := by decide +kernel
theorem dX7_numberOf_11 : decode cX7_numberOf 11 = .ok (.getfield 7, 3) := by decide +kernel
theorem dX7_numberOf_14 : decode cX7_numberOf 14 = .ok (.bipush 6, 2) := by decide +kernel
theorem dX7_numberOf_16 : decode cX7_numberOf 16 = .ok (.iaload, 1) := by decide +kernel
theorem dX7_numberOf_17 : decode cX7_numberOf 17 = .ok (.if_icmp .lt 8, 3) := by decide +kernel
theorem dX7_numberOf_20 : decode cX7_numberOf 20 = .ok (.ldc 43, 2) := by decide +kernel
theorem dX7_numberOf_22 : decode cX7_numberOf 22 = .ok (.goto 9, 3) := by decide +kernel
theorem dX7_numberOf_25 : decode cX7_numberOf 25 = .ok (.aload_n 0, 1) := by decide +kernel
theorem dX7_numberOf_26 : decode cX7_numberOf 26 = .ok (.iload_n 1, 1) := by decide +kernel
theorem dX7_numberOf_27 : decode cX7_numberOf 27 = .ok (.iconst 0, 1) := by decide +kernel
theorem dX7_numberOf_28 : decode cX7_numberOf 28 = .ok (.invokevirtual 39, 3) := by decide +kernel
theorem dX7_numberOf_31 : decode cX7_numberOf 31 = .ok (.ireturn, 1) := by decide +kernel
set_option maxRecDepth 20000 in
theorem ggX7_contractOf_X7_isContract : GoodIn wsX7_contractOf wsX7_isContract := goodIn_r _ [7, 2, 19, 20, 21, 22, 23, 24, 25, 26, 27, 28, 29, 30, 31, 32, 33, 34, 35, 36] (by decide +kernel) (by decide +kernel)
set_option maxRecDepth 20000 in
theorem gX7_contractOf_X7_isContract : GoodIn wsX7_contractOf (wsV RX7 92 RX7 yX7_isContract wsX7_isContract) := goodIn_app (goodIn_of _ (by decide +kernel)) ggX7_contractOf_X7_isContract
set_option maxRecDepth 20000 in
theorem ggX7_contractOf_X7_in : GoodIn wsX7_contractOf wsX7_in := goodIn_r _ [10] (by decide +kernel) (by decide +kernel)
set_option maxRecDepth 20000 in
theorem gX7_contractOf_X7_in : GoodIn wsX7_contractOf (va_wsS RX7 61 yX7_in wsX7_in) := goodIn_app (goodIn_of _ (by decide +kernel)) ggX7_contractOf_X7_in
set_option maxRecDepth 20000 in
theorem ggX7_contractOf_X7_monthOf : GoodIn wsX7_contractOf wsX7_monthOf := goodIn_r _ [14, 2, 19, 20, 21, 22, 23, 24, 25, 26, 27, 28, 29, 30, 31, 32, 33, 34, 35, 36] (by decide +kernel) (by decide +kernel)
set_option maxRecDepth 20000 in
theorem gX7_contractOf_X7_monthOf : GoodIn wsX7_contractOf (wsV RX7 114 RX7 yX7_monthOf wsX7_monthOf) := goodIn_app (goodIn_of _ (by decide +kernel)) ggX7_contractOf_X7_monthOf
set_option maxRecDepth 20000 in
theorem ggX7_contractOf_X7_priceOf : GoodIn wsX7_contractOf wsX7_priceOf := goodIn_r _ [18, 2, 19, 20, 21, 22, 23, 24, 25, 26, 27, 28, 29, 30, 31, 32, 33, 34, 35, 36] (by decide +kernel) (by decide +kernel)
set_option maxRecDepth 20000 in
theorem gX7_contractOf_X7_priceOf : GoodIn wsX7_contractOf (wsV RX7 95 RX7 yX7_priceOf wsX7_priceOf) := goodIn_app (goodIn_of _ (by decide +kernel)) ggX7_contractOf_X7_priceOf
theorem dX7_contractOf_0 : decode cX7_contractOf 0 = .ok (.aload_n 0, 1) := by decide +kernel
theorem dX7_contractOf_1 : decode cX7_contractOf 1 = .ok (.iload_n 1, 1) := by decide +kernel
theorem dX7_contractOf_2 : decode cX7_contractOf 2 = .ok (.invokevirtual 92, 3) := by decide +kernel
theorem dX7_contractOf_5 : decode cX7_contractOf 5 = .ok (.ifCond .eq 12, 3) := by decide +kernel
theorem dX7_contractOf_8 : decode cX7_contractOf 8 = .ok (.iload_n 2, 1) := by decide +kernel
theorem dX7_contractOf_9 : decode cX7_contractOf 9 = .ok (.iconst 0, 1) := by decide +kernel
theorem dX7_contractOf_10 : decode cX7_contractOf 10 = .ok (.iconst 2, 1) := by decide +kernel
theorem dX7_contractOf_11 : decode cX7_contractOf 11 = .ok (.invokestatic 61, 3) := by decide +kernel
theorem dX7_contractOf_14 : decode cX7_contractOf 14 = .ok (.ifCond .ne 6, 3) := by decide +kernel
theorem dX7_contractOf_17 : decode cX7_contractOf 17 = .ok (.ldc 65, 2) := by decide +kernel
theorem dX7_contractOf_19 : decode cX7_contractOf 19 = .ok (.ireturn, 1) := by decide +kernel
theorem dX7_contractOf_20 : decode cX7_contractOf 20 = .ok (.iload_n 2, 1) := by decide +kernel
theorem dX7_contractOf_21 : decode cX7_contractOf 21 = .ok (.ifCond .ne 11, 3) := by decide +kernel
theorem dX7_contractOf_24 : decode cX7_contractOf 24 = .ok (.aload_n 0, 1) := by decide +kernel
theorem dX7_contractOf_25 : decode cX7_contractOf 25 = .ok (.iload_n 1, 1) := by decide +kernel
theorem dX7_contractOf_26 : decode cX7_contractOf 26 = .ok (.invokevirtual 114, 3) := by decide +kernel
theorem dX7_contractOf_29 : decode cX7_contractOf 29 = .ok (.goto 28, 3) := by decide +kernel
theorem dX7_contractOf_32 : decode cX7_contractOf 32 = .ok (.iload_n 2, 1) := by decide +kernel
theorem dX7_contractOf_33 : decode cX7_contractOf 33 = .ok (.iconst 1, 1) := by decide +kernel
theorem dX7_contractOf_34 : decode cX7_contractOf 34 = .ok (.if_icmp .ne 11, 3) := by decide +kernel
theorem dX7_contractOf_37 : decode cX7_contractOf 37 = .ok (.aload_n 0, 1) := by decide +kernel
theorem dX7_contractOf_38 : decode cX7_contractOf 38 = .ok (.iload_n 1, 1) := by decide +kernel
theorem dX7_contractOf_39 : decode cX7_contractOf 39 = .ok (.invokevirtual 95, 3) := by decide +kernel
theorem dX7_contractOf_42 : decode cX7_contractOf 42 = .ok (.goto 15, 3) := by decide +kernel
theorem dX7_contractOf_45 : decode cX7_contractOf 45 = .ok (.aload_n 0, 1) := by decide +kernel
theorem dX7_contractOf_46 : decode cX7_contractOf 46 = .ok (.iload_n 1, 1) := by decide +kernel
theorem dX7_contractOf_47 : decode cX7_contractOf 47 = .ok (.invokevirtual 114, 3) := by decide +kernel
theorem dX7_contractOf_50 : decode cX7_contractOf 50 = .ok (.aload_n 0, 1) := by decide +kernel
theorem dX7_contractOf_51 : decode cX7_contractOf 51 = .ok (.getfield 7, 3) := by decide +kernel
theorem dX7_contractOf_54 : decode cX7_contractOf 54 = .ok (.iconst 0, 1) := by decide +kernel
theorem dX7_contractOf_55 : decode cX7_contractOf 55 = .ok (.iaload, 1) := by decide +kernel
theorem dX7_contractOf_56 : decode cX7_contractOf 56 = .ok (.isub, 1) := by decide +kernel
theorem dX7_contractOf_57 : decode cX7_contractOf 57 = .ok (.ireturn, 1) := by decide +kernel
set_option maxRecDepth 20000 in
theorem ggX7_paid_X7_isLot : GoodIn wsX7_paid wsX7_isLot := goodIn_r _ [8, 9, 10, 11, 7, 12, 3, 2, 13, 14, 15, 16, 43, 44, 45, 46, 47, 48, 49, 50, 51, 52, 53, 54, 55, 56, 57, 58, 59, 60] (by decide +kernel) (by decide +kernel)
set_option maxRecDepth 20000 in
theorem gX7_paid_X7_isLot : GoodIn wsX7_paid (wsV RX7 73 RX7 yX7_isLot wsX7_isLot) := goodIn_app (goodIn_of _ (by decide +kernel)) ggX7_paid_X7_isLot
set_option maxRecDepth 20000 in
theorem ggX7_paid_X7_in : GoodIn wsX7_paid wsX7_in := goodIn_r _ [19] (by decide +kernel) (by decide +kernel)
set_option maxRecDepth 20000 in
theorem gX7_paid_X7_in : GoodIn wsX7_paid (va_wsS RX7 61 yX7_in wsX7_in) := goodIn_app (goodIn_of _ (by decide +kernel)) ggX7_paid_X7_in
set_option maxRecDepth 20000 in
theorem ggX7_paid_X7_placeOf : GoodIn wsX7_paid wsX7_placeOf := goodIn_r _ [12, 3, 2, 13, 14, 15, 7, 16, 43, 44, 45, 46, 47, 48, 49, 50, 51, 52, 53, 54, 55, 56, 57, 58, 59, 60] (by decide +kernel) (by decide +kernel)
set_option maxRecDepth 20000 in
theorem gX7_paid_X7_placeOf : GoodIn wsX7_paid (wsV RX7 44 RX7 yX7_placeOf wsX7_placeOf) := goodIn_app (goodIn_of _ (by decide +kernel)) ggX7_paid_X7_placeOf
set_option maxRecDepth 20000 in
theorem ggX7_paid_X7_cupOf : GoodIn wsX7_paid wsX7_cupOf := goodIn_r _ [23, 3, 24, 25, 26, 7, 27, 13, 14, 15, 16, 43, 44, 45, 46, 47, 48, 49, 50, 51, 52, 53, 54, 55, 56, 57, 58, 59, 60] (by decide +kernel) (by decide +kernel)
set_option maxRecDepth 20000 in
theorem gX7_paid_X7_cupOf : GoodIn wsX7_paid (wsV RX7 82 RX7 yX7_cupOf wsX7_cupOf) := goodIn_app (goodIn_of _ (by decide +kernel)) ggX7_paid_X7_cupOf
set_option maxRecDepth 20000 in
theorem ggX7_paid_X7_paidAt : GoodIn wsX7_paid wsX7_paidAt := goodIn_r _ [31, 3, 24, 25, 26, 7, 27, 13, 14, 15, 16, 32, 33, 34, 35, 43, 44, 45, 46, 47, 48, 49, 50, 51, 52, 53, 54, 55, 56, 57, 58, 59, 60] (by decide +kernel) (by decide +kernel)
set_option maxRecDepth 20000 in
theorem gX7_paid_X7_paidAt : GoodIn wsX7_paid (wsV RX7 54 RX7 yX7_paidAt wsX7_paidAt) := goodIn_app (goodIn_of _ (by decide +kernel)) ggX7_paid_X7_paidAt
set_option maxRecDepth 20000 in
theorem ggX7_paid_X7_gainAt : GoodIn wsX7_paid wsX7_gainAt := goodIn_r _ [39, 3, 28, 29, 30, 7, 31, 24, 25, 26, 27, 13, 14, 15, 16, 32, 33, 34, 35, 40, 41, 42, 43, 44, 45, 46, 47, 48, 49, 50, 51, 52, 53, 54, 55, 56, 57, 58, 59, 60] (by decide +kernel) (by decide +kernel)
set_option maxRecDepth 20000 in
theorem gX7_paid_X7_gainAt : GoodIn wsX7_paid (wsV RX7 108 RX7 yX7_gainAt wsX7_gainAt) := goodIn_app (goodIn_of _ (by decide +kernel)) ggX7_paid_X7_gainAt
theorem dX7_paid_0 : decode cX7_paid 0 = .ok (.aload_n 0, 1) := by decide +kernel
theorem dX7_paid_1 : decode cX7_paid 1 = .ok (.iload_n 1, 1) := by decide +kernel
theorem dX7_paid_2 : decode cX7_paid 2 = .ok (.invokevirtual 73, 3) := by decide +kernel
theorem dX7_paid_5 : decode cX7_paid 5 = .ok (.ifCond .eq 23, 3) := by decide +kernel
theorem dX7_paid_8 : decode cX7_paid 8 = .ok (.iload_n 2, 1) := by decide +kernel
theorem dX7_paid_9 : decode cX7_paid 9 = .ok (.iconst 1, 1) := by decide +kernel
theorem dX7_paid_10 : decode cX7_paid 10 = .ok (.sipush 999, 3) := by decide +kernel
theorem dX7_paid_13 : decode cX7_paid 13 = .ok (.invokestatic 61, 3) := by decide +kernel
theorem dX7_paid_16 : decode cX7_paid 16 = .ok (.ifCond .eq 12, 3) := by decide +kernel
theorem dX7_paid_19 : decode cX7_paid 19 = .ok (.iload_n 3, 1) := by decide +kernel
theorem dX7_paid_20 : decode cX7_paid 20 = .ok (.iconst 0, 1) := by decide +kernel
theorem dX7_paid_21 : decode cX7_paid 21 = .ok (.iconst 1, 1) := by decide +kernel
theorem dX7_paid_22 : decode cX7_paid 22 = .ok (.invokestatic 61, 3) := by decide +kernel
theorem dX7_paid_25 : decode cX7_paid 25 = .ok (.ifCond .ne 6, 3) := by decide +kernel
theorem dX7_paid_28 : decode cX7_paid 28 = .ok (.ldc 65, 2) := by decide +kernel
theorem dX7_paid_30 : decode cX7_paid 30 = .ok (.ireturn, 1) := by decide +kernel
theorem dX7_paid_31 : decode cX7_paid 31 = .ok (.aload_n 0, 1) := by decide +kernel
theorem dX7_paid_32 : decode cX7_paid 32 = .ok (.iload_n 1, 1) := by decide +kernel
theorem dX7_paid_33 : decode cX7_paid 33 = .ok (.invokevirtual 44, 3) := by decide +kernel
theorem dX7_paid_36 : decode cX7_paid 36 = .ok (.istore 4, 2) := by decide +kernel
theorem dX7_paid_38 : decode cX7_paid 38 = .ok (.aload_n 0, 1) := by decide +kernel
theorem dX7_paid_39 : decode cX7_paid 39 = .ok (.iload 4, 2) := by decide +kernel
theorem dX7_paid_41 : decode cX7_paid 41 = .ok (.invokevirtual 82, 3) := by decide +kernel
theorem dX7_paid_44 : decode cX7_paid 44 = .ok (.bipush 70, 2) := by decide +kernel
theorem dX7_paid_46 : decode cX7_paid 46 = .ok (.if_icmp .ge 6, 3) := by decide +kernel
theorem dX7_paid_49 : decode cX7_paid 49 = .ok (.ldc 43, 2) := by decide +kernel
theorem dX7_paid_51 : decode cX7_paid 51 = .ok (.ireturn, 1) := by decide +kernel
theorem dX7_paid_52 : decode cX7_paid 52 = .ok (.iload_n 3, 1) := by decide +kernel
theorem dX7_paid_53 : decode cX7_paid 53 = .ok (.ifCond .ne 19, 3) := by decide +kernel
theorem dX7_paid_56 : decode cX7_paid 56 = .ok (.aload_n 0, 1) := by decide +kernel
theorem dX7_paid_57 : decode cX7_paid 57 = .ok (.iload 4, 2) := by decide +kernel
theorem dX7_paid_59 : decode cX7_paid 59 = .ok (.iload_n 2, 1) := by decide +kernel
theorem dX7_paid_60 : decode cX7_paid 60 = .ok (.aload_n 0, 1) := by decide +kernel
theorem dX7_paid_61 : decode cX7_paid 61 = .ok (.getfield 7, 3) := by decide +kernel
theorem dX7_paid_64 : decode cX7_paid 64 = .ok (.iconst 0, 1) := by decide +kernel
theorem dX7_paid_65 : decode cX7_paid 65 = .ok (.iaload, 1) := by decide +kernel
theorem dX7_paid_66 : decode cX7_paid 66 = .ok (.invokevirtual 54, 3) := by decide +kernel
theorem dX7_paid_69 : decode cX7_paid 69 = .ok (.goto 20, 3) := by decide +kernel
theorem dX7_paid_72 : decode cX7_paid 72 = .ok (.aload_n 0, 1) := by decide +kernel
theorem dX7_paid_73 : decode cX7_paid 73 = .ok (.iload 4, 2) := by decide +kernel
theorem dX7_paid_75 : decode cX7_paid 75 = .ok (.iload_n 2, 1) := by decide +kernel
theorem dX7_paid_76 : decode cX7_paid 76 = .ok (.aload_n 0, 1) := by decide +kernel
theorem dX7_paid_77 : decode cX7_paid 77 = .ok (.getfield 7, 3) := by decide +kernel
theorem dX7_paid_80 : decode cX7_paid 80 = .ok (.iconst 0, 1) := by decide +kernel
theorem dX7_paid_81 : decode cX7_paid 81 = .ok (.iaload, 1) := by decide +kernel
theorem dX7_paid_82 : decode cX7_paid 82 = .ok (.invokevirtual 108, 3) := by decide +kernel
theorem dX7_paid_85 : decode cX7_paid 85 = .ok (.sipush 10000, 3) := by decide +kernel
theorem dX7_paid_88 : decode cX7_paid 88 = .ok (.iadd, 1) := by decide +kernel
theorem dX7_paid_89 : decode cX7_paid 89 = .ok (.ireturn, 1) := by decide +kernel
set_option maxRecDepth 20000 in
theorem ggX7_given_X7_isContract : GoodIn wsX7_given wsX7_isContract := goodIn_r _ [11, 2, 47, 48, 49, 50, 51, 52, 53, 54, 55, 56, 57, 58, 59, 60, 61, 62, 63, 64] (by decide +kernel) (by decide +kernel)
set_option maxRecDepth 20000 in
theorem gX7_given_X7_isContract : GoodIn wsX7_given (wsV RX7 92 RX7 yX7_isContract wsX7_isContract) := goodIn_app (goodIn_of _ (by decide +kernel)) ggX7_given_X7_isContract
set_option maxRecDepth 20000 in
theorem ggX7_given_X7_in : GoodIn wsX7_given wsX7_in := goodIn_r _ [14] (by decide +kernel) (by decide +kernel)
set_option maxRecDepth 20000 in
theorem gX7_given_X7_in : GoodIn wsX7_given (va_wsS RX7 61 yX7_in wsX7_in) := goodIn_app (goodIn_of _ (by decide +kernel)) ggX7_given_X7_in
set_option maxRecDepth 20000 in
theorem ggX7_given_X7_priceOf : GoodIn wsX7_given wsX7_priceOf := goodIn_r _ [18, 2, 47, 48, 49, 50, 51, 52, 53, 54, 55, 56, 57, 58, 59, 60, 61, 62, 63, 64] (by decide +kernel) (by decide +kernel)
set_option maxRecDepth 20000 in
theorem gX7_given_X7_priceOf : GoodIn wsX7_given (wsV RX7 95 RX7 yX7_priceOf wsX7_priceOf) := goodIn_app (goodIn_of _ (by decide +kernel)) ggX7_given_X7_priceOf
set_option maxRecDepth 20000 in
theorem ggX7_given_X7_gives : GoodIn wsX7_given wsX7_gives := goodIn_r _ [22, 3, 2, 23, 4, 5, 6, 24, 25, 26, 10, 27, 28, 29, 30, 31, 32, 33, 34, 35, 36, 37, 38, 39, 40, 41, 42, 43, 44, 45, 46, 47, 48, 49, 50, 51, 52, 53, 54, 55, 56, 57, 58, 59, 60, 61, 62, 63, 64] (by decide +kernel) (by decide +kernel)
set_option maxRecDepth 20000 in
theorem gX7_given_X7_gives : GoodIn wsX7_given (wsV RX7 111 RX7 yX7_gives wsX7_gives) := goodIn_app (goodIn_of _ (by decide +kernel)) ggX7_given_X7_gives
set_option maxRecDepth 20000 in
theorem ggX7_given_X7_of : GoodIn wsX7_given wsX7_of := goodIn_r _ [31, 2, 47, 48, 49, 50, 51, 52, 53, 54, 55, 56, 57, 58, 59, 60, 61, 62, 63, 64] (by decide +kernel) (by decide +kernel)
set_option maxRecDepth 20000 in
theorem gX7_given_X7_of : GoodIn wsX7_given (wsV RX7 39 RX7 yX7_of wsX7_of) := goodIn_app (goodIn_of _ (by decide +kernel)) ggX7_given_X7_of
theorem dX7_given_0 : decode cX7_given 0 = .ok (.aload_n 0, 1) := by decide +kernel
theorem dX7_given_1 : decode cX7_given 1 = .ok (.iload_n 1, 1) := by decide +kernel
theorem dX7_given_2 : decode cX7_given 2 = .ok (.invokevirtual 92, 3) := by decide +kernel
theorem dX7_given_5 : decode cX7_given 5 = .ok (.ifCond .eq 16, 3) := by decide +kernel
theorem dX7_given_8 : decode cX7_given 8 = .ok (.iload_n 2, 1) := by decide +kernel
theorem dX7_given_9 : decode cX7_given 9 = .ok (.ifCond .lt 12, 3) := by decide +kernel
theorem dX7_given_12 : decode cX7_given 12 = .ok (.iload_n 3, 1) := by decide +kernel
theorem dX7_given_13 : decode cX7_given 13 = .ok (.iconst 0, 1) := by decide +kernel
theorem dX7_given_14 : decode cX7_given 14 = .ok (.iconst 1, 1) := by decide +kernel
theorem dX7_given_15 : decode cX7_given 15 = .ok (.invokestatic 61, 3) := by decide +kernel
theorem dX7_given_18 : decode cX7_given 18 = .ok (.ifCond .ne 6, 3) := by decide +kernel
theorem dX7_given_21 : decode cX7_given 21 = .ok (.ldc 65, 2) := by decide +kernel
theorem dX7_given_23 : decode cX7_given 23 = .ok (.ireturn, 1) := by decide +kernel
theorem dX7_given_24 : decode cX7_given 24 = .ok (.aload_n 0, 1) := by decide +kernel
theorem dX7_given_25 : decode cX7_given 25 = .ok (.aload_n 0, 1) := by decide +kernel
theorem dX7_given_26 : decode cX7_given 26 = .ok (.iload_n 1, 1) := by decide +kernel
theorem dX7_given_27 : decode cX7_given 27 = .ok (.invokevirtual 95, 3) := by decide +kernel
theorem dX7_given_30 : decode cX7_given 30 = .ok (.aload_n 0, 1) := by decide +kernel
theorem dX7_given_31 : decode cX7_given 31 = .ok (.getfield 7, 3) := by decide +kernel
theorem dX7_given_34 : decode cX7_given 34 = .ok (.iconst 0, 1) := by decide +kernel
theorem dX7_given_35 : decode cX7_given 35 = .ok (.iaload, 1) := by decide +kernel
theorem dX7_given_36 : decode cX7_given 36 = .ok (.invokevirtual 111, 3) := by decide +kernel
theorem dX7_given_39 : decode cX7_given 39 = .ok (.iload_n 2, 1) := by decide +kernel
theorem dX7_given_40 : decode cX7_given 40 = .ok (.aload_n 0, 1) := by decide +kernel
theorem dX7_given_41 : decode cX7_given 41 = .ok (.getfield 102, 3) := by decide +kernel
theorem dX7_given_44 : decode cX7_given 44 = .ok (.if_icmp .lt 8, 3) := by decide +kernel
theorem dX7_given_47 : decode cX7_given 47 = .ok (.ldc 43, 2) := by decide +kernel
theorem dX7_given_49 : decode cX7_given 49 = .ok (.goto 27, 3) := by decide +kernel
theorem dX7_given_52 : decode cX7_given 52 = .ok (.iload_n 3, 1) := by decide +kernel
theorem dX7_given_53 : decode cX7_given 53 = .ok (.ifCond .ne 17, 3) := by decide +kernel
theorem dX7_given_56 : decode cX7_given 56 = .ok (.aload_n 0, 1) := by decide +kernel
theorem dX7_given_57 : decode cX7_given 57 = .ok (.aload_n 0, 1) := by decide +kernel
theorem dX7_given_58 : decode cX7_given 58 = .ok (.getfield 22, 3) := by decide +kernel
theorem dX7_given_61 : decode cX7_given 61 = .ok (.iload_n 2, 1) := by decide +kernel
theorem dX7_given_62 : decode cX7_given 62 = .ok (.iaload, 1) := by decide +kernel
theorem dX7_given_63 : decode cX7_given 63 = .ok (.iconst 0, 1) := by decide +kernel
theorem dX7_given_64 : decode cX7_given 64 = .ok (.invokevirtual 39, 3) := by decide +kernel
theorem dX7_given_67 : decode cX7_given 67 = .ok (.goto 9, 3) := by decide +kernel
theorem dX7_given_70 : decode cX7_given 70 = .ok (.aload_n 0, 1) := by decide +kernel
theorem dX7_given_71 : decode cX7_given 71 = .ok (.getfield 25, 3) := by decide +kernel
theorem dX7_given_74 : decode cX7_given 74 = .ok (.iload_n 2, 1) := by decide +kernel
theorem dX7_given_75 : decode cX7_given 75 = .ok (.iaload, 1) := by decide +kernel
theorem dX7_given_76 : decode cX7_given 76 = .ok (.ireturn, 1) := by decide +kernel
set_option maxRecDepth 20000 in
theorem ggX7_would_X7_isContract : GoodIn wsX7_would wsX7_isContract := goodIn_r _ [13, 2, 69, 70, 71, 72, 73, 74, 75, 76, 77, 78, 79, 80, 81, 82, 83, 84, 85, 86] (by decide +kernel) (by decide +kernel)
set_option maxRecDepth 20000 in
theorem gX7_would_X7_isContract : GoodIn wsX7_would (wsV RX7 92 RX7 yX7_isContract wsX7_isContract) := goodIn_app (goodIn_of _ (by decide +kernel)) ggX7_would_X7_isContract
set_option maxRecDepth 20000 in
theorem ggX7_would_X7_in : GoodIn wsX7_would wsX7_in := goodIn_r _ [16] (by decide +kernel) (by decide +kernel)
set_option maxRecDepth 20000 in
theorem gX7_would_X7_in : GoodIn wsX7_would (va_wsS RX7 61 yX7_in wsX7_in) := goodIn_app (goodIn_of _ (by decide +kernel)) ggX7_would_X7_in
set_option maxRecDepth 20000 in
theorem ggX7_would_X7_priceOf : GoodIn wsX7_would wsX7_priceOf := goodIn_r _ [20, 2, 69, 70, 71, 72, 73, 74, 75, 76, 77, 78, 79, 80, 81, 82, 83, 84, 85, 86] (by decide +kernel) (by decide +kernel)
set_option maxRecDepth 20000 in
theorem gX7_would_X7_priceOf : GoodIn wsX7_would (wsV RX7 95 RX7 yX7_priceOf wsX7_priceOf) := goodIn_app (goodIn_of _ (by decide +kernel)) ggX7_would_X7_priceOf
set_option maxRecDepth 20000 in
theorem ggX7_would_X7_gives : GoodIn wsX7_would wsX7_gives := goodIn_r _ [24, 6, 2, 3, 25, 8, 7, 26, 27, 28, 12, 29, 30, 31, 32, 33, 34, 35, 36, 37, 38, 39, 40, 41, 42, 43, 44, 45, 46, 47, 48, 69, 70, 71, 72, 73, 74, 75, 76, 77, 78, 79, 80, 81, 82, 83, 84, 85, 86] (by decide +kernel) (by decide +kernel)
set_option maxRecDepth 20000 in
theorem gX7_would_X7_gives : GoodIn wsX7_would (wsV RX7 111 RX7 yX7_gives wsX7_gives) := goodIn_app (goodIn_of _ (by decide +kernel)) ggX7_would_X7_gives
set_option maxRecDepth 20000 in
theorem ggX7_would_X7_paidAll : GoodIn wsX7_would wsX7_paidAll := goodIn_r _ [52, 6, 7, 8, 34, 35, 36, 12, 37, 2, 38, 39, 40, 41, 26, 27, 28, 29, 30, 31, 32, 33, 42, 43, 44, 45, 46, 47, 48, 69, 70, 71, 72, 73, 74, 75, 76, 77, 78, 79, 80, 81, 82, 83, 84, 85, 86] (by decide +kernel) (by decide +kernel)
set_option maxRecDepth 20000 in
theorem gX7_would_X7_paidAll : GoodIn wsX7_would (wsV RX7 117 RX7 yX7_paidAll wsX7_paidAll) := goodIn_app (goodIn_of _ (by decide +kernel)) ggX7_would_X7_paidAll
set_option maxRecDepth 20000 in
theorem ggX7_would_X7_of : GoodIn wsX7_would wsX7_of := goodIn_r _ [33, 2, 69, 70, 71, 72, 73, 74, 75, 76, 77, 78, 79, 80, 81, 82, 83, 84, 85, 86] (by decide +kernel) (by decide +kernel)
set_option maxRecDepth 20000 in
theorem gX7_would_X7_of : GoodIn wsX7_would (wsV RX7 39 RX7 yX7_of wsX7_of) := goodIn_app (goodIn_of _ (by decide +kernel)) ggX7_would_X7_of
set_option maxRecDepth 20000 in
theorem ggX7_would_X7_cupOf : GoodIn wsX7_would wsX7_cupOf := goodIn_r _ [56, 2, 26, 27, 28, 12, 29, 30, 31, 32, 33, 69, 70, 71, 72, 73, 74, 75, 76, 77, 78, 79, 80, 81, 82, 83, 84, 85, 86] (by decide +kernel) (by decide +kernel)
set_option maxRecDepth 20000 in
theorem gX7_would_X7_cupOf : GoodIn wsX7_would (wsV RX7 82 RX7 yX7_cupOf wsX7_cupOf) := goodIn_app (goodIn_of _ (by decide +kernel)) ggX7_would_X7_cupOf
set_option maxRecDepth 20000 in
theorem ggX7_would_Jxf58ca_floatToIntBits_5c35a : GoodIn wsX7_would wsJxf58ca_floatToIntBits_5c35a := goodIn_r _ [60, 61, 62, 63, 64, 65, 66, 67, 59, 68] (by decide +kernel) (by decide +kernel)
set_option maxRecDepth 20000 in
theorem gX7_would_Jxf58ca_floatToIntBits_5c35a : GoodIn wsX7_would (va_wsS RX7 126 yJxf58ca_floatToIntBits_5c35a wsJxf58ca_floatToIntBits_5c35a) := goodIn_app (goodIn_of _ (by decide +kernel)) ggX7_would_Jxf58ca_floatToIntBits_5c35a
theorem dX7_would_0 : decode cX7_would 0 = .ok (.aload_n 0, 1) := by decide +kernel
theorem dX7_would_1 : decode cX7_would 1 = .ok (.iload_n 1, 1) := by decide +kernel
theorem dX7_would_2 : decode cX7_would 2 = .ok (.invokevirtual 92, 3) := by decide +kernel
theorem dX7_would_5 : decode cX7_would 5 = .ok (.ifCond .eq 12, 3) := by decide +kernel
theorem dX7_would_8 : decode cX7_would 8 = .ok (.iload_n 2, 1) := by decide +kernel
theorem dX7_would_9 : decode cX7_would 9 = .ok (.iconst 0, 1) := by decide +kernel
theorem dX7_would_10 : decode cX7_would 10 = .ok (.iconst 3, 1) := by decide +kernel
theorem dX7_would_11 : decode cX7_would 11 = .ok (.invokestatic 61, 3) := by decide +kernel
theorem dX7_would_14 : decode cX7_would 14 = .ok (.ifCond .ne 6, 3) := by decide +kernel
theorem dX7_would_17 : decode cX7_would 17 = .ok (.ldc 65, 2) := by decide +kernel
theorem dX7_would_19 : decode cX7_would 19 = .ok (.ireturn, 1) := by decide +kernel
theorem dX7_would_20 : decode cX7_would 20 = .ok (.aload_n 0, 1) := by decide +kernel
theorem dX7_would_21 : decode cX7_would 21 = .ok (.iload_n 1, 1) := by decide +kernel
theorem dX7_would_22 : decode cX7_would 22 = .ok (.invokevirtual 95, 3) := by decide +kernel
theorem dX7_would_25 : decode cX7_would 25 = .ok (.istore_n 3, 1) := by decide +kernel
theorem dX7_would_26 : decode cX7_would 26 = .ok (.aload_n 0, 1) := by decide +kernel
theorem dX7_would_27 : decode cX7_would 27 = .ok (.iload_n 3, 1) := by decide +kernel
theorem dX7_would_28 : decode cX7_would 28 = .ok (.aload_n 0, 1) := by decide +kernel
theorem dX7_would_29 : decode cX7_would 29 = .ok (.getfield 7, 3) := by decide +kernel
theorem dX7_would_32 : decode cX7_would 32 = .ok (.iconst 0, 1) := by decide +kernel
theorem dX7_would_33 : decode cX7_would 33 = .ok (.iaload, 1) := by decide +kernel
theorem dX7_would_34 : decode cX7_would 34 = .ok (.invokevirtual 111, 3) := by decide +kernel
theorem dX7_would_37 : decode cX7_would 37 = .ok (.aload_n 0, 1) := by decide +kernel
theorem dX7_would_38 : decode cX7_would 38 = .ok (.getfield 105, 3) := by decide +kernel
theorem dX7_would_41 : decode cX7_would 41 = .ok (.ifCond .le 6, 3) := by decide +kernel
theorem dX7_would_44 : decode cX7_would 44 = .ok (.ldc 77, 2) := by decide +kernel
theorem dX7_would_46 : decode cX7_would 46 = .ok (.ireturn, 1) := by decide +kernel
theorem dX7_would_47 : decode cX7_would 47 = .ok (.iload_n 2, 1) := by decide +kernel
theorem dX7_would_48 : decode cX7_would 48 = .ok (.iconst 2, 1) := by decide +kernel
theorem dX7_would_49 : decode cX7_would 49 = .ok (.if_icmp .ge 37, 3) := by decide +kernel
theorem dX7_would_52 : decode cX7_would 52 = .ok (.aload_n 0, 1) := by decide +kernel
theorem dX7_would_53 : decode cX7_would 53 = .ok (.iload_n 3, 1) := by decide +kernel
theorem dX7_would_54 : decode cX7_would 54 = .ok (.aload_n 0, 1) := by decide +kernel
theorem dX7_would_55 : decode cX7_would 55 = .ok (.getfield 7, 3) := by decide +kernel
theorem dX7_would_58 : decode cX7_would 58 = .ok (.iconst 0, 1) := by decide +kernel
theorem dX7_would_59 : decode cX7_would 59 = .ok (.iaload, 1) := by decide +kernel
theorem dX7_would_60 : decode cX7_would 60 = .ok (.iload_n 2, 1) := by decide +kernel
theorem dX7_would_61 : decode cX7_would 61 = .ok (.iconst 1, 1) := by decide +kernel
theorem dX7_would_62 : decode cX7_would 62 = .ok (.if_icmp .ne 7, 3) := by decide +kernel
theorem dX7_would_65 : decode cX7_would 65 = .ok (.iconst 1, 1) := by decide +kernel
theorem dX7_would_66 : decode cX7_would 66 = .ok (.goto 4, 3) := by decide +kernel
theorem dX7_would_69 : decode cX7_would 69 = .ok (.iconst 0, 1) := by decide +kernel
theorem dX7_would_70 : decode cX7_would 70 = .ok (.invokevirtual 117, 3) := by decide +kernel
theorem dX7_would_73 : decode cX7_would 73 = .ok (.iload_n 2, 1) := by decide +kernel
theorem dX7_would_74 : decode cX7_would 74 = .ok (.iconst 1, 1) := by decide +kernel
theorem dX7_would_75 : decode cX7_would 75 = .ok (.if_icmp .ne 8, 3) := by decide +kernel
theorem dX7_would_78 : decode cX7_would 78 = .ok (.ldc 125, 2) := by decide +kernel
theorem dX7_would_80 : decode cX7_would 80 = .ok (.goto 4, 3) := by decide +kernel
theorem dX7_would_83 : decode cX7_would 83 = .ok (.iconst 0, 1) := by decide +kernel
theorem dX7_would_84 : decode cX7_would 84 = .ok (.iadd, 1) := by decide +kernel
theorem dX7_would_85 : decode cX7_would 85 = .ok (.ireturn, 1) := by decide +kernel
theorem dX7_would_86 : decode cX7_would 86 = .ok (.iconst 0, 1) := by decide +kernel
theorem dX7_would_87 : decode cX7_would 87 = .ok (.istore 4, 2) := by decide +kernel
theorem dX7_would_89 : decode cX7_would 89 = .ok (.iconst 0, 1) := by decide +kernel
theorem dX7_would_90 : decode cX7_would 90 = .ok (.istore 5, 2) := by decide +kernel
theorem dX7_would_92 : decode cX7_would 92 = .ok (.iconst 0, 1) := by decide +kernel
theorem dX7_would_93 : decode cX7_would 93 = .ok (.istore 6, 2) := by decide +kernel
theorem dX7_would_95 : decode cX7_would 95 = .ok (.iload 6, 2) := by decide +kernel
theorem dX7_would_97 : decode cX7_would 97 = .ok (.aload_n 0, 1) := by decide +kernel
theorem dX7_would_98 : decode cX7_would 98 = .ok (.getfield 102, 3) := by decide +kernel
theorem dX7_would_101 : decode cX7_would 101 = .ok (.if_icmp .ge 65, 3) := by decide +kernel
theorem dX7_would_104 : decode cX7_would 104 = .ok (.iload 4, 2) := by decide +kernel
theorem dX7_would_106 : decode cX7_would 106 = .ok (.aload_n 0, 1) := by decide +kernel
theorem dX7_would_107 : decode cX7_would 107 = .ok (.getfield 25, 3) := by decide +kernel
theorem dX7_would_110 : decode cX7_would 110 = .ok (.iload 6, 2) := by decide +kernel
theorem dX7_would_112 : decode cX7_would 112 = .ok (.iaload, 1) := by decide +kernel
theorem dX7_would_113 : decode cX7_would 113 = .ok (.aload_n 0, 1) := by decide +kernel
theorem dX7_would_114 : decode cX7_would 114 = .ok (.aload_n 0, 1) := by decide +kernel
theorem dX7_would_115 : decode cX7_would 115 = .ok (.getfield 22, 3) := by decide +kernel
theorem dX7_would_118 : decode cX7_would 118 = .ok (.iload 6, 2) := by decide +kernel
theorem dX7_would_120 : decode cX7_would 120 = .ok (.iaload, 1) := by decide +kernel
theorem dX7_would_121 : decode cX7_would 121 = .ok (.iconst 1, 1) := by decide +kernel
theorem dX7_would_122 : decode cX7_would 122 = .ok (.invokevirtual 39, 3) := by decide +kernel
theorem dX7_would_125 : decode cX7_would 125 = .ok (.if_icmp .ne 7, 3) := by decide +kernel
theorem dX7_would_128 : decode cX7_would 128 = .ok (.iconst 1, 1) := by decide +kernel
theorem dX7_would_129 : decode cX7_would 129 = .ok (.goto 4, 3) := by decide +kernel
theorem dX7_would_132 : decode cX7_would 132 = .ok (.iconst 0, 1) := by decide +kernel
theorem dX7_would_133 : decode cX7_would 133 = .ok (.iadd, 1) := by decide +kernel
theorem dX7_would_134 : decode cX7_would 134 = .ok (.istore 4, 2) := by decide +kernel
theorem dX7_would_136 : decode cX7_would 136 = .ok (.iload 5, 2) := by decide +kernel
theorem dX7_would_138 : decode cX7_would 138 = .ok (.aload_n 0, 1) := by decide +kernel
theorem dX7_would_139 : decode cX7_would 139 = .ok (.getfield 25, 3) := by decide +kernel
theorem dX7_would_142 : decode cX7_would 142 = .ok (.iload 6, 2) := by decide +kernel
theorem dX7_would_144 : decode cX7_would 144 = .ok (.iaload, 1) := by decide +kernel
theorem dX7_would_145 : decode cX7_would 145 = .ok (.aload_n 0, 1) := by decide +kernel
theorem dX7_would_146 : decode cX7_would 146 = .ok (.aload_n 0, 1) := by decide +kernel
theorem dX7_would_147 : decode cX7_would 147 = .ok (.getfield 22, 3) := by decide +kernel
theorem dX7_would_150 : decode cX7_would 150 = .ok (.iload 6, 2) := by decide +kernel
theorem dX7_would_152 : decode cX7_would 152 = .ok (.iaload, 1) := by decide +kernel
theorem dX7_would_153 : decode cX7_would 153 = .ok (.invokevirtual 82, 3) := by decide +kernel
theorem dX7_would_156 : decode cX7_would 156 = .ok (.imul, 1) := by decide +kernel
theorem dX7_would_157 : decode cX7_would 157 = .ok (.iadd, 1) := by decide +kernel
theorem dX7_would_158 : decode cX7_would 158 = .ok (.istore 5, 2) := by decide +kernel
theorem dX7_would_160 : decode cX7_would 160 = .ok (.iinc 6 1, 3) := by decide +kernel
theorem dX7_would_163 : decode cX7_would 163 = .ok (.goto (-68), 3) := by decide +kernel
theorem dX7_would_166 : decode cX7_would 166 = .ok (.iload 5, 2) := by decide +kernel
theorem dX7_would_168 : decode cX7_would 168 = .ok (.i2f, 1) := by decide +kernel
theorem dX7_would_169 : decode cX7_would 169 = .ok (.aload_n 0, 1) := by decide +kernel
theorem dX7_would_170 : decode cX7_would 170 = .ok (.getfield 7, 3) := by decide +kernel
theorem dX7_would_173 : decode cX7_would 173 = .ok (.bipush 8, 2) := by decide +kernel
theorem dX7_would_175 : decode cX7_would 175 = .ok (.iaload, 1) := by decide +kernel
theorem dX7_would_176 : decode cX7_would 176 = .ok (.i2f, 1) := by decide +kernel
theorem dX7_would_177 : decode cX7_would 177 = .ok (.fdiv, 1) := by decide +kernel
theorem dX7_would_178 : decode cX7_would 178 = .ok (.fstore 6, 2) := by decide +kernel
theorem dX7_would_180 : decode cX7_would 180 = .ok (.iload_n 2, 1) := by decide +kernel
theorem dX7_would_181 : decode cX7_would 181 = .ok (.iconst 2, 1) := by decide +kernel
theorem dX7_would_182 : decode cX7_would 182 = .ok (.if_icmp .ne 8, 3) := by decide +kernel
theorem dX7_would_185 : decode cX7_would 185 = .ok (.iload 4, 2) := by decide +kernel
theorem dX7_would_187 : decode cX7_would 187 = .ok (.goto 8, 3) := by decide +kernel
theorem dX7_would_190 : decode cX7_would 190 = .ok (.fload 6, 2) := by decide +kernel
theorem dX7_would_192 : decode cX7_would 192 = .ok (.invokestatic 126, 3) := by decide +kernel
theorem dX7_would_195 : decode cX7_would 195 = .ok (.ireturn, 1) := by decide +kernel
set_option maxRecDepth 20000 in
theorem ggX7_lift_X7_isLot : GoodIn wsX7_lift wsX7_isLot := goodIn_r _ [7, 8, 9, 10, 6, 11, 12, 2, 13, 14, 15, 16, 31, 32, 33, 34, 35, 36, 37, 38, 39, 40, 41, 42, 43, 44, 45, 46, 47, 48] (by decide +kernel) (by decide +kernel)
set_option maxRecDepth 20000 in
theorem gX7_lift_X7_isLot : GoodIn wsX7_lift (wsV RX7 73 RX7 yX7_isLot wsX7_isLot) := goodIn_app (goodIn_of _ (by decide +kernel)) ggX7_lift_X7_isLot
set_option maxRecDepth 20000 in
theorem ggX7_lift_X7_in : GoodIn wsX7_lift wsX7_in := goodIn_r _ [19] (by decide +kernel) (by decide +kernel)
set_option maxRecDepth 20000 in
theorem gX7_lift_X7_in : GoodIn wsX7_lift (va_wsS RX7 61 yX7_in wsX7_in) := goodIn_app (goodIn_of _ (by decide +kernel)) ggX7_lift_X7_in
set_option maxRecDepth 20000 in
theorem ggX7_lift_X7_placeOf : GoodIn wsX7_lift wsX7_placeOf := goodIn_r _ [11, 12, 2, 13, 14, 15, 6, 16, 31, 32, 33, 34, 35, 36, 37, 38, 39, 40, 41, 42, 43, 44, 45, 46, 47, 48] (by decide +kernel) (by decide +kernel)
set_option maxRecDepth 20000 in
theorem gX7_lift_X7_placeOf : GoodIn wsX7_lift (wsV RX7 44 RX7 yX7_placeOf wsX7_placeOf) := goodIn_app (goodIn_of _ (by decide +kernel)) ggX7_lift_X7_placeOf
set_option maxRecDepth 20000 in
theorem ggX7_lift_X7_of : GoodIn wsX7_lift wsX7_of := goodIn_r _ [16, 12, 31, 32, 33, 34, 35, 36, 37, 38, 39, 40, 41, 42, 43, 44, 45, 46, 47, 48] (by decide +kernel) (by decide +kernel)
set_option maxRecDepth 20000 in
theorem gX7_lift_X7_of : GoodIn wsX7_lift (wsV RX7 39 RX7 yX7_of wsX7_of) := goodIn_app (goodIn_of _ (by decide +kernel)) ggX7_lift_X7_of
set_option maxRecDepth 20000 in
theorem ggX7_lift_X7_cupOf : GoodIn wsX7_lift wsX7_cupOf := goodIn_r _ [23, 12, 24, 25, 26, 6, 27, 13, 14, 15, 16, 31, 32, 33, 34, 35, 36, 37, 38, 39, 40, 41, 42, 43, 44, 45, 46, 47, 48] (by decide +kernel) (by decide +kernel)
set_option maxRecDepth 20000 in
theorem gX7_lift_X7_cupOf : GoodIn wsX7_lift (wsV RX7 82 RX7 yX7_cupOf wsX7_cupOf) := goodIn_app (goodIn_of _ (by decide +kernel)) ggX7_lift_X7_cupOf
set_option maxRecDepth 20000 in
theorem ggX7_lift_X7_blended : GoodIn wsX7_lift wsX7_blended := goodIn_r _ [30] (by decide +kernel) (by decide +kernel)
set_option maxRecDepth 20000 in
theorem gX7_lift_X7_blended : GoodIn wsX7_lift (va_wsS RX7 85 yX7_blended wsX7_blended) := goodIn_app (goodIn_of _ (by decide +kernel)) ggX7_lift_X7_blended
theorem dX7_lift_0 : decode cX7_lift 0 = .ok (.aload_n 0, 1) := by decide +kernel
theorem dX7_lift_1 : decode cX7_lift 1 = .ok (.iload_n 1, 1) := by decide +kernel
theorem dX7_lift_2 : decode cX7_lift 2 = .ok (.invokevirtual 73, 3) := by decide +kernel
theorem dX7_lift_5 : decode cX7_lift 5 = .ok (.ifCond .eq 27, 3) := by decide +kernel
theorem dX7_lift_8 : decode cX7_lift 8 = .ok (.aload_n 0, 1) := by decide +kernel
theorem dX7_lift_9 : decode cX7_lift 9 = .ok (.iload_n 2, 1) := by decide +kernel
theorem dX7_lift_10 : decode cX7_lift 10 = .ok (.invokevirtual 73, 3) := by decide +kernel
theorem dX7_lift_13 : decode cX7_lift 13 = .ok (.ifCond .eq 19, 3) := by decide +kernel
theorem dX7_lift_16 : decode cX7_lift 16 = .ok (.iload_n 1, 1) := by decide +kernel
theorem dX7_lift_17 : decode cX7_lift 17 = .ok (.iload_n 2, 1) := by decide +kernel
theorem dX7_lift_18 : decode cX7_lift 18 = .ok (.if_icmp .eq 14, 3) := by decide +kernel
theorem dX7_lift_21 : decode cX7_lift 21 = .ok (.iload_n 3, 1) := by decide +kernel
theorem dX7_lift_22 : decode cX7_lift 22 = .ok (.bipush 60, 2) := by decide +kernel
theorem dX7_lift_24 : decode cX7_lift 24 = .ok (.bipush 100, 2) := by decide +kernel
theorem dX7_lift_26 : decode cX7_lift 26 = .ok (.invokestatic 61, 3) := by decide +kernel
theorem dX7_lift_29 : decode cX7_lift 29 = .ok (.ifCond .ne 6, 3) := by decide +kernel
theorem dX7_lift_32 : decode cX7_lift 32 = .ok (.ldc 65, 2) := by decide +kernel
theorem dX7_lift_34 : decode cX7_lift 34 = .ok (.ireturn, 1) := by decide +kernel
theorem dX7_lift_35 : decode cX7_lift 35 = .ok (.aload_n 0, 1) := by decide +kernel
theorem dX7_lift_36 : decode cX7_lift 36 = .ok (.iload_n 1, 1) := by decide +kernel
theorem dX7_lift_37 : decode cX7_lift 37 = .ok (.invokevirtual 44, 3) := by decide +kernel
theorem dX7_lift_40 : decode cX7_lift 40 = .ok (.istore 4, 2) := by decide +kernel
theorem dX7_lift_42 : decode cX7_lift 42 = .ok (.aload_n 0, 1) := by decide +kernel
theorem dX7_lift_43 : decode cX7_lift 43 = .ok (.iload_n 2, 1) := by decide +kernel
theorem dX7_lift_44 : decode cX7_lift 44 = .ok (.invokevirtual 44, 3) := by decide +kernel
theorem dX7_lift_47 : decode cX7_lift 47 = .ok (.istore 5, 2) := by decide +kernel
theorem dX7_lift_49 : decode cX7_lift 49 = .ok (.iconst 1, 1) := by decide +kernel
theorem dX7_lift_50 : decode cX7_lift 50 = .ok (.istore 6, 2) := by decide +kernel
theorem dX7_lift_52 : decode cX7_lift 52 = .ok (.iload 6, 2) := by decide +kernel
theorem dX7_lift_54 : decode cX7_lift 54 = .ok (.aload_n 0, 1) := by decide +kernel
theorem dX7_lift_55 : decode cX7_lift 55 = .ok (.iload 5, 2) := by decide +kernel
theorem dX7_lift_57 : decode cX7_lift 57 = .ok (.iconst 1, 1) := by decide +kernel
theorem dX7_lift_58 : decode cX7_lift 58 = .ok (.invokevirtual 39, 3) := by decide +kernel
theorem dX7_lift_61 : decode cX7_lift 61 = .ok (.if_icmp .gt 40, 3) := by decide +kernel
theorem dX7_lift_64 : decode cX7_lift 64 = .ok (.aload_n 0, 1) := by decide +kernel
theorem dX7_lift_65 : decode cX7_lift 65 = .ok (.iload 4, 2) := by decide +kernel
theorem dX7_lift_67 : decode cX7_lift 67 = .ok (.iconst 1, 1) := by decide +kernel
theorem dX7_lift_68 : decode cX7_lift 68 = .ok (.invokevirtual 39, 3) := by decide +kernel
theorem dX7_lift_71 : decode cX7_lift 71 = .ok (.aload_n 0, 1) := by decide +kernel
theorem dX7_lift_72 : decode cX7_lift 72 = .ok (.iload 4, 2) := by decide +kernel
theorem dX7_lift_74 : decode cX7_lift 74 = .ok (.invokevirtual 82, 3) := by decide +kernel
theorem dX7_lift_77 : decode cX7_lift 77 = .ok (.iload 6, 2) := by decide +kernel
theorem dX7_lift_79 : decode cX7_lift 79 = .ok (.aload_n 0, 1) := by decide +kernel
theorem dX7_lift_80 : decode cX7_lift 80 = .ok (.iload 5, 2) := by decide +kernel
theorem dX7_lift_82 : decode cX7_lift 82 = .ok (.invokevirtual 82, 3) := by decide +kernel
theorem dX7_lift_85 : decode cX7_lift 85 = .ok (.invokestatic 85, 3) := by decide +kernel
theorem dX7_lift_88 : decode cX7_lift 88 = .ok (.iload_n 3, 1) := by decide +kernel
theorem dX7_lift_89 : decode cX7_lift 89 = .ok (.if_icmp .lt 6, 3) := by decide +kernel
theorem dX7_lift_92 : decode cX7_lift 92 = .ok (.iload 6, 2) := by decide +kernel
theorem dX7_lift_94 : decode cX7_lift 94 = .ok (.ireturn, 1) := by decide +kernel
theorem dX7_lift_95 : decode cX7_lift 95 = .ok (.iinc 6 1, 3) := by decide +kernel
theorem dX7_lift_98 : decode cX7_lift 98 = .ok (.goto (-46), 3) := by decide +kernel
theorem dX7_lift_101 : decode cX7_lift 101 = .ok (.ldc 43, 2) := by decide +kernel
theorem dX7_lift_103 : decode cX7_lift 103 = .ok (.ireturn, 1) := by decide +kernel
set_option maxRecDepth 20000 in
theorem ggX7_bestMonth_X7_in : GoodIn wsX7_bestMonth wsX7_in := goodIn_r _ [9] (by decide +kernel) (by decide +kernel)
set_option maxRecDepth 20000 in
theorem gX7_bestMonth_X7_in : GoodIn wsX7_bestMonth (va_wsS RX7 61 yX7_in wsX7_in) := goodIn_app (goodIn_of _ (by decide +kernel)) ggX7_bestMonth_X7_in
set_option maxRecDepth 20000 in
theorem ggX7_bestMonth_X7_gives : GoodIn wsX7_bestMonth wsX7_gives := goodIn_r _ [13, 14, 3, 4, 2, 15, 16, 17, 18, 19, 8, 20, 21, 22, 23, 24, 25, 26, 27, 28, 29, 30, 31, 32, 33, 34, 35, 36, 37, 38, 39, 48, 49, 50, 51, 52, 53, 54, 55, 56, 57, 58, 59, 60, 61, 62, 63, 64, 65] (by decide +kernel) (by decide +kernel)
set_option maxRecDepth 20000 in
theorem gX7_bestMonth_X7_gives : GoodIn wsX7_bestMonth (wsV RX7 111 RX7 yX7_gives wsX7_gives) := goodIn_app (goodIn_of _ (by decide +kernel)) ggX7_bestMonth_X7_gives
set_option maxRecDepth 20000 in
theorem ggX7_bestMonth_X7_paidAll : GoodIn wsX7_bestMonth wsX7_paidAll := goodIn_r _ [43, 14, 16, 15, 25, 26, 27, 8, 28, 3, 29, 30, 31, 32, 17, 18, 19, 20, 21, 22, 23, 24, 33, 34, 35, 36, 37, 38, 39, 48, 49, 50, 51, 52, 53, 54, 55, 56, 57, 58, 59, 60, 61, 62, 63, 64, 65] (by decide +kernel) (by decide +kernel)
set_option maxRecDepth 20000 in
theorem gX7_bestMonth_X7_paidAll : GoodIn wsX7_bestMonth (wsV RX7 117 RX7 yX7_paidAll wsX7_paidAll) := goodIn_app (goodIn_of _ (by decide +kernel)) ggX7_bestMonth_X7_paidAll
set_option maxRecDepth 20000 in
theorem ggX7_bestMonth_X7_isDelivery : GoodIn wsX7_bestMonth wsX7_isDelivery := goodIn_r _ [47, 3, 48, 49, 50, 51, 52, 53, 54, 55, 56, 57, 58, 59, 60, 61, 62, 63, 64, 65] (by decide +kernel) (by decide +kernel)
set_option maxRecDepth 20000 in
theorem gX7_bestMonth_X7_isDelivery : GoodIn wsX7_bestMonth (wsV RX7 89 RX7 yX7_isDelivery wsX7_isDelivery) := goodIn_app (goodIn_of _ (by decide +kernel)) ggX7_bestMonth_X7_isDelivery
theorem dX7_bestMonth_0 : decode cX7_bestMonth 0 = .ok (.iload_n 1, 1) := by decide +kernel
theorem dX7_bestMonth_1 : decode cX7_bestMonth 1 = .ok (.iconst 1, 1) := by decide +kernel
theorem dX7_bestMonth_2 : decode cX7_bestMonth 2 = .ok (.sipush 999, 3) := by decide +kernel
theorem dX7_bestMonth_5 : decode cX7_bestMonth 5 = .ok (.invokestatic 61, 3) := by decide +kernel
theorem dX7_bestMonth_8 : decode cX7_bestMonth 8 = .ok (.ifCond .eq 12, 3) := by decide +kernel
theorem dX7_bestMonth_11 : decode cX7_bestMonth 11 = .ok (.iload_n 2, 1) := by decide +kernel
theorem dX7_bestMonth_12 : decode cX7_bestMonth 12 = .ok (.iconst 0, 1) := by decide +kernel
theorem dX7_bestMonth_13 : decode cX7_bestMonth 13 = .ok (.iconst 1, 1) := by decide +kernel
theorem dX7_bestMonth_14 : decode cX7_bestMonth 14 = .ok (.invokestatic 61, 3) := by decide +kernel
theorem dX7_bestMonth_17 : decode cX7_bestMonth 17 = .ok (.ifCond .ne 6, 3) := by decide +kernel
theorem dX7_bestMonth_20 : decode cX7_bestMonth 20 = .ok (.ldc 65, 2) := by decide +kernel
theorem dX7_bestMonth_22 : decode cX7_bestMonth 22 = .ok (.ireturn, 1) := by decide +kernel
theorem dX7_bestMonth_23 : decode cX7_bestMonth 23 = .ok (.ldc 43, 2) := by decide +kernel
theorem dX7_bestMonth_25 : decode cX7_bestMonth 25 = .ok (.istore_n 3, 1) := by decide +kernel
theorem dX7_bestMonth_26 : decode cX7_bestMonth 26 = .ok (.iconst 0, 1) := by decide +kernel
theorem dX7_bestMonth_27 : decode cX7_bestMonth 27 = .ok (.istore 4, 2) := by decide +kernel
theorem dX7_bestMonth_29 : decode cX7_bestMonth 29 = .ok (.iconst 0, 1) := by decide +kernel
theorem dX7_bestMonth_30 : decode cX7_bestMonth 30 = .ok (.istore 5, 2) := by decide +kernel
theorem dX7_bestMonth_32 : decode cX7_bestMonth 32 = .ok (.iload 5, 2) := by decide +kernel
theorem dX7_bestMonth_34 : decode cX7_bestMonth 34 = .ok (.bipush 24, 2) := by decide +kernel
theorem dX7_bestMonth_36 : decode cX7_bestMonth 36 = .ok (.if_icmp .ge 71, 3) := by decide +kernel
theorem dX7_bestMonth_39 : decode cX7_bestMonth 39 = .ok (.aload_n 0, 1) := by decide +kernel
theorem dX7_bestMonth_40 : decode cX7_bestMonth 40 = .ok (.getfield 7, 3) := by decide +kernel
theorem dX7_bestMonth_43 : decode cX7_bestMonth 43 = .ok (.iconst 0, 1) := by decide +kernel
theorem dX7_bestMonth_44 : decode cX7_bestMonth 44 = .ok (.iaload, 1) := by decide +kernel
theorem dX7_bestMonth_45 : decode cX7_bestMonth 45 = .ok (.iload 5, 2) := by decide +kernel
theorem dX7_bestMonth_47 : decode cX7_bestMonth 47 = .ok (.iadd, 1) := by decide +kernel
theorem dX7_bestMonth_48 : decode cX7_bestMonth 48 = .ok (.istore 6, 2) := by decide +kernel
theorem dX7_bestMonth_50 : decode cX7_bestMonth 50 = .ok (.aload_n 0, 1) := by decide +kernel
theorem dX7_bestMonth_51 : decode cX7_bestMonth 51 = .ok (.iload_n 1, 1) := by decide +kernel
theorem dX7_bestMonth_52 : decode cX7_bestMonth 52 = .ok (.iload 6, 2) := by decide +kernel
theorem dX7_bestMonth_54 : decode cX7_bestMonth 54 = .ok (.invokevirtual 111, 3) := by decide +kernel
theorem dX7_bestMonth_57 : decode cX7_bestMonth 57 = .ok (.aload_n 0, 1) := by decide +kernel
theorem dX7_bestMonth_58 : decode cX7_bestMonth 58 = .ok (.iload_n 1, 1) := by decide +kernel
theorem dX7_bestMonth_59 : decode cX7_bestMonth 59 = .ok (.iload 6, 2) := by decide +kernel
theorem dX7_bestMonth_61 : decode cX7_bestMonth 61 = .ok (.iconst 1, 1) := by decide +kernel
theorem dX7_bestMonth_62 : decode cX7_bestMonth 62 = .ok (.invokevirtual 117, 3) := by decide +kernel
theorem dX7_bestMonth_65 : decode cX7_bestMonth 65 = .ok (.istore 7, 2) := by decide +kernel
theorem dX7_bestMonth_67 : decode cX7_bestMonth 67 = .ok (.aload_n 0, 1) := by decide +kernel
theorem dX7_bestMonth_68 : decode cX7_bestMonth 68 = .ok (.iload 6, 2) := by decide +kernel
theorem dX7_bestMonth_70 : decode cX7_bestMonth 70 = .ok (.invokevirtual 89, 3) := by decide +kernel
theorem dX7_bestMonth_73 : decode cX7_bestMonth 73 = .ok (.ifCond .eq 28, 3) := by decide +kernel
theorem dX7_bestMonth_76 : decode cX7_bestMonth 76 = .ok (.aload_n 0, 1) := by decide +kernel
theorem dX7_bestMonth_77 : decode cX7_bestMonth 77 = .ok (.getfield 105, 3) := by decide +kernel
theorem dX7_bestMonth_80 : decode cX7_bestMonth 80 = .ok (.ifCond .ne 21, 3) := by decide +kernel
theorem dX7_bestMonth_83 : decode cX7_bestMonth 83 = .ok (.iload_n 3, 1) := by decide +kernel
theorem dX7_bestMonth_84 : decode cX7_bestMonth 84 = .ok (.ifCond .lt 10, 3) := by decide +kernel
theorem dX7_bestMonth_87 : decode cX7_bestMonth 87 = .ok (.iload 7, 2) := by decide +kernel
theorem dX7_bestMonth_89 : decode cX7_bestMonth 89 = .ok (.iload 4, 2) := by decide +kernel
theorem dX7_bestMonth_91 : decode cX7_bestMonth 91 = .ok (.if_icmp .le 10, 3) := by decide +kernel
theorem dX7_bestMonth_94 : decode cX7_bestMonth 94 = .ok (.iload 5, 2) := by decide +kernel
theorem dX7_bestMonth_96 : decode cX7_bestMonth 96 = .ok (.istore_n 3, 1) := by decide +kernel
theorem dX7_bestMonth_97 : decode cX7_bestMonth 97 = .ok (.iload 7, 2) := by decide +kernel
theorem dX7_bestMonth_99 : decode cX7_bestMonth 99 = .ok (.istore 4, 2) := by decide +kernel
theorem dX7_bestMonth_101 : decode cX7_bestMonth 101 = .ok (.iinc 5 1, 3) := by decide +kernel
theorem dX7_bestMonth_104 : decode cX7_bestMonth 104 = .ok (.goto (-72), 3) := by decide +kernel
theorem dX7_bestMonth_107 : decode cX7_bestMonth 107 = .ok (.iload_n 3, 1) := by decide +kernel
theorem dX7_bestMonth_108 : decode cX7_bestMonth 108 = .ok (.ifCond .lt 7, 3) := by decide +kernel
theorem dX7_bestMonth_111 : decode cX7_bestMonth 111 = .ok (.iload_n 2, 1) := by decide +kernel
theorem dX7_bestMonth_112 : decode cX7_bestMonth 112 = .ok (.ifCond .ne 7, 3) := by decide +kernel
theorem dX7_bestMonth_115 : decode cX7_bestMonth 115 = .ok (.iload_n 3, 1) := by decide +kernel
theorem dX7_bestMonth_116 : decode cX7_bestMonth 116 = .ok (.goto 8, 3) := by decide +kernel
theorem dX7_bestMonth_119 : decode cX7_bestMonth 119 = .ok (.iload 4, 2) := by decide +kernel
theorem dX7_bestMonth_121 : decode cX7_bestMonth 121 = .ok (.ldc 125, 2) := by decide +kernel
theorem dX7_bestMonth_123 : decode cX7_bestMonth 123 = .ok (.iadd, 1) := by decide +kernel
theorem dX7_bestMonth_124 : decode cX7_bestMonth 124 = .ok (.ireturn, 1) := by decide +kernel
set_option maxRecDepth 20000 in
theorem ggX7_bags_X7_cupOf : GoodIn wsX7_bags wsX7_cupOf := goodIn_r _ [6, 1, 7, 8, 9, 5, 10, 11, 12, 13, 14, 15, 16, 17, 18, 19, 20, 21, 22, 23, 24, 25, 26, 27, 28, 29, 30, 31, 32] (by decide +kernel) (by decide +kernel)
set_option maxRecDepth 20000 in
theorem gX7_bags_X7_cupOf : GoodIn wsX7_bags (wsV RX7 82 RX7 yX7_cupOf wsX7_cupOf) := goodIn_app (goodIn_of _ (by decide +kernel)) ggX7_bags_X7_cupOf
set_option maxRecDepth 20000 in
theorem ggX7_bags_X7_of : GoodIn wsX7_bags wsX7_of := goodIn_r _ [14, 1, 15, 16, 17, 18, 19, 20, 21, 22, 23, 24, 25, 26, 27, 28, 29, 30, 31, 32] (by decide +kernel) (by decide +kernel)
set_option maxRecDepth 20000 in
theorem gX7_bags_X7_of : GoodIn wsX7_bags (wsV RX7 39 RX7 yX7_of wsX7_of) := goodIn_app (goodIn_of _ (by decide +kernel)) ggX7_bags_X7_of
theorem dX7_bags_0 : decode cX7_bags 0 = .ok (.iconst 0, 1) := by decide +kernel
theorem dX7_bags_1 : decode cX7_bags 1 = .ok (.istore_n 2, 1) := by decide +kernel
theorem dX7_bags_2 : decode cX7_bags 2 = .ok (.iconst 0, 1) := by decide +kernel
theorem dX7_bags_3 : decode cX7_bags 3 = .ok (.istore_n 3, 1) := by decide +kernel
theorem dX7_bags_4 : decode cX7_bags 4 = .ok (.iload_n 3, 1) := by decide +kernel
theorem dX7_bags_5 : decode cX7_bags 5 = .ok (.aload_n 0, 1) := by decide +kernel
theorem dX7_bags_6 : decode cX7_bags 6 = .ok (.getfield 7, 3) := by decide +kernel
theorem dX7_bags_9 : decode cX7_bags 9 = .ok (.bipush 6, 2) := by decide +kernel
theorem dX7_bags_11 : decode cX7_bags 11 = .ok (.iaload, 1) := by decide +kernel
theorem dX7_bags_12 : decode cX7_bags 12 = .ok (.if_icmp .ge 31, 3) := by decide +kernel
theorem dX7_bags_15 : decode cX7_bags 15 = .ok (.iload_n 2, 1) := by decide +kernel
theorem dX7_bags_16 : decode cX7_bags 16 = .ok (.aload_n 0, 1) := by decide +kernel
theorem dX7_bags_17 : decode cX7_bags 17 = .ok (.iload_n 3, 1) := by decide +kernel
theorem dX7_bags_18 : decode cX7_bags 18 = .ok (.invokevirtual 82, 3) := by decide +kernel
theorem dX7_bags_21 : decode cX7_bags 21 = .ok (.iload_n 1, 1) := by decide +kernel
theorem dX7_bags_22 : decode cX7_bags 22 = .ok (.if_icmp .lt 12, 3) := by decide +kernel
theorem dX7_bags_25 : decode cX7_bags 25 = .ok (.aload_n 0, 1) := by decide +kernel
theorem dX7_bags_26 : decode cX7_bags 26 = .ok (.iload_n 3, 1) := by decide +kernel
theorem dX7_bags_27 : decode cX7_bags 27 = .ok (.iconst 1, 1) := by decide +kernel
theorem dX7_bags_28 : decode cX7_bags 28 = .ok (.invokevirtual 39, 3) := by decide +kernel
theorem dX7_bags_31 : decode cX7_bags 31 = .ok (.goto 4, 3) := by decide +kernel
theorem dX7_bags_34 : decode cX7_bags 34 = .ok (.iconst 0, 1) := by decide +kernel
theorem dX7_bags_35 : decode cX7_bags 35 = .ok (.iadd, 1) := by decide +kernel
theorem dX7_bags_36 : decode cX7_bags 36 = .ok (.istore_n 2, 1) := by decide +kernel
theorem dX7_bags_37 : decode cX7_bags 37 = .ok (.iinc 3 1, 3) := by decide +kernel
theorem dX7_bags_40 : decode cX7_bags 40 = .ok (.goto (-36), 3) := by decide +kernel
theorem dX7_bags_43 : decode cX7_bags 43 = .ok (.iload_n 2, 1) := by decide +kernel
theorem dX7_bags_44 : decode cX7_bags 44 = .ok (.ireturn, 1) := by decide +kernel
set_option maxRecDepth 20000 in
theorem ggX7_count_X7_bags : GoodIn wsX7_count wsX7_bags := goodIn_r _ [9, 1, 10, 11, 12, 8, 13, 14, 15, 16, 17, 18, 19, 20, 21, 25, 26, 27, 28, 29, 30, 31, 32, 33, 34, 35, 36, 37, 38, 39, 40, 41, 42] (by decide +kernel) (by decide +kernel)
set_option maxRecDepth 20000 in
theorem gX7_count_X7_bags : GoodIn wsX7_count (wsV RX7 132 RX7 yX7_bags wsX7_bags) := goodIn_app (goodIn_of _ (by decide +kernel)) ggX7_count_X7_bags
set_option maxRecDepth 20000 in
theorem ggX7_count_X7_in : GoodIn wsX7_count wsX7_in := goodIn_r _ [24] (by decide +kernel) (by decide +kernel)
set_option maxRecDepth 20000 in
theorem gX7_count_X7_in : GoodIn wsX7_count (va_wsS RX7 61 yX7_in wsX7_in) := goodIn_app (goodIn_of _ (by decide +kernel)) ggX7_count_X7_in
theorem dX7_count_0 : decode cX7_count 0 = .ok (.iload_n 1, 1) := by decide +kernel
theorem dX7_count_1 : decode cX7_count 1 = .ok (.tableswitch 134 0 11 #[63, 71, 77, 84, 92, 99, 99, 99, 110, 117, 124, 129], 63) := by decide +kernel
theorem dX7_count_64 : decode cX7_count 64 = .ok (.aload_n 0, 1) := by decide +kernel
theorem dX7_count_65 : decode cX7_count 65 = .ok (.getfield 7, 3) := by decide +kernel
theorem dX7_count_68 : decode cX7_count 68 = .ok (.bipush 6, 2) := by decide +kernel
theorem dX7_count_70 : decode cX7_count 70 = .ok (.iaload, 1) := by decide +kernel
theorem dX7_count_71 : decode cX7_count 71 = .ok (.ireturn, 1) := by decide +kernel
theorem dX7_count_72 : decode cX7_count 72 = .ok (.aload_n 0, 1) := by decide +kernel
theorem dX7_count_73 : decode cX7_count 73 = .ok (.iconst 0, 1) := by decide +kernel
theorem dX7_count_74 : decode cX7_count 74 = .ok (.invokevirtual 132, 3) := by decide +kernel
theorem dX7_count_77 : decode cX7_count 77 = .ok (.ireturn, 1) := by decide +kernel
theorem dX7_count_78 : decode cX7_count 78 = .ok (.aload_n 0, 1) := by decide +kernel
theorem dX7_count_79 : decode cX7_count 79 = .ok (.getfield 7, 3) := by decide +kernel
theorem dX7_count_82 : decode cX7_count 82 = .ok (.iconst 0, 1) := by decide +kernel
theorem dX7_count_83 : decode cX7_count 83 = .ok (.iaload, 1) := by decide +kernel
theorem dX7_count_84 : decode cX7_count 84 = .ok (.ireturn, 1) := by decide +kernel
theorem dX7_count_85 : decode cX7_count 85 = .ok (.aload_n 0, 1) := by decide +kernel
theorem dX7_count_86 : decode cX7_count 86 = .ok (.getfield 7, 3) := by decide +kernel
theorem dX7_count_89 : decode cX7_count 89 = .ok (.bipush 7, 2) := by decide +kernel
theorem dX7_count_91 : decode cX7_count 91 = .ok (.iaload, 1) := by decide +kernel
theorem dX7_count_92 : decode cX7_count 92 = .ok (.ireturn, 1) := by decide +kernel
theorem dX7_count_93 : decode cX7_count 93 = .ok (.aload_n 0, 1) := by decide +kernel
theorem dX7_count_94 : decode cX7_count 94 = .ok (.getfield 7, 3) := by decide +kernel
theorem dX7_count_97 : decode cX7_count 97 = .ok (.iconst 1, 1) := by decide +kernel
theorem dX7_count_98 : decode cX7_count 98 = .ok (.iaload, 1) := by decide +kernel
theorem dX7_count_99 : decode cX7_count 99 = .ok (.ireturn, 1) := by decide +kernel
theorem dX7_count_100 : decode cX7_count 100 = .ok (.aload_n 0, 1) := by decide +kernel
theorem dX7_count_101 : decode cX7_count 101 = .ok (.getfield 7, 3) := by decide +kernel
theorem dX7_count_104 : decode cX7_count 104 = .ok (.iconst 2, 1) := by decide +kernel
theorem dX7_count_105 : decode cX7_count 105 = .ok (.iload_n 1, 1) := by decide +kernel
theorem dX7_count_106 : decode cX7_count 106 = .ok (.iadd, 1) := by decide +kernel
theorem dX7_count_107 : decode cX7_count 107 = .ok (.iconst 5, 1) := by decide +kernel
theorem dX7_count_108 : decode cX7_count 108 = .ok (.isub, 1) := by decide +kernel
theorem dX7_count_109 : decode cX7_count 109 = .ok (.iaload, 1) := by decide +kernel
theorem dX7_count_110 : decode cX7_count 110 = .ok (.ireturn, 1) := by decide +kernel
theorem dX7_count_111 : decode cX7_count 111 = .ok (.aload_n 0, 1) := by decide +kernel
theorem dX7_count_112 : decode cX7_count 112 = .ok (.bipush 70, 2) := by decide +kernel
theorem dX7_count_114 : decode cX7_count 114 = .ok (.invokevirtual 132, 3) := by decide +kernel
theorem dX7_count_117 : decode cX7_count 117 = .ok (.ireturn, 1) := by decide +kernel
theorem dX7_count_118 : decode cX7_count 118 = .ok (.aload_n 0, 1) := by decide +kernel
theorem dX7_count_119 : decode cX7_count 119 = .ok (.getfield 7, 3) := by decide +kernel
theorem dX7_count_122 : decode cX7_count 122 = .ok (.iconst 5, 1) := by decide +kernel
theorem dX7_count_123 : decode cX7_count 123 = .ok (.iaload, 1) := by decide +kernel
theorem dX7_count_124 : decode cX7_count 124 = .ok (.ireturn, 1) := by decide +kernel
theorem dX7_count_125 : decode cX7_count 125 = .ok (.aload_n 0, 1) := by decide +kernel
theorem dX7_count_126 : decode cX7_count 126 = .ok (.getfield 35, 3) := by decide +kernel
theorem dX7_count_129 : decode cX7_count 129 = .ok (.ireturn, 1) := by decide +kernel
theorem dX7_count_130 : decode cX7_count 130 = .ok (.aload_n 0, 1) := by decide +kernel
theorem dX7_count_131 : decode cX7_count 131 = .ok (.getfield 135, 3) := by decide +kernel
theorem dX7_count_134 : decode cX7_count 134 = .ok (.ireturn, 1) := by decide +kernel
theorem dX7_count_135 : decode cX7_count 135 = .ok (.iload_n 1, 1) := by decide +kernel
theorem dX7_count_136 : decode cX7_count 136 = .ok (.bipush 20, 2) := by decide +kernel
theorem dX7_count_138 : decode cX7_count 138 = .ok (.bipush 24, 2) := by decide +kernel
theorem dX7_count_140 : decode cX7_count 140 = .ok (.invokestatic 61, 3) := by decide +kernel
theorem dX7_count_143 : decode cX7_count 143 = .ok (.ifCond .eq 18, 3) := by decide +kernel
theorem dX7_count_146 : decode cX7_count 146 = .ok (.aload_n 0, 1) := by decide +kernel
theorem dX7_count_147 : decode cX7_count 147 = .ok (.getfield 7, 3) := by decide +kernel
theorem dX7_count_150 : decode cX7_count 150 = .ok (.bipush 8, 2) := by decide +kernel
theorem dX7_count_152 : decode cX7_count 152 = .ok (.iload_n 1, 1) := by decide +kernel
theorem dX7_count_153 : decode cX7_count 153 = .ok (.iadd, 1) := by decide +kernel
theorem dX7_count_154 : decode cX7_count 154 = .ok (.bipush 20, 2) := by decide +kernel
theorem dX7_count_156 : decode cX7_count 156 = .ok (.isub, 1) := by decide +kernel
theorem dX7_count_157 : decode cX7_count 157 = .ok (.iaload, 1) := by decide +kernel
theorem dX7_count_158 : decode cX7_count 158 = .ok (.goto 5, 3) := by decide +kernel
theorem dX7_count_161 : decode cX7_count 161 = .ok (.ldc 65, 2) := by decide +kernel
theorem dX7_count_163 : decode cX7_count 163 = .ok (.ireturn, 1) := by decide +kernel
theorem dX7_undo_0 : decode cX7_undo 0 = .ok (.aload_n 0, 1) := by decide +kernel
theorem dX7_undo_1 : decode cX7_undo 1 = .ok (.getfield 35, 3) := by decide +kernel
theorem dX7_undo_4 : decode cX7_undo 4 = .ok (.ifCond .ne 6, 3) := by decide +kernel
theorem dX7_undo_7 : decode cX7_undo 7 = .ok (.ldc 77, 2) := by decide +kernel
theorem dX7_undo_9 : decode cX7_undo 9 = .ok (.ireturn, 1) := by decide +kernel
theorem dX7_undo_10 : decode cX7_undo 10 = .ok (.aload_n 0, 1) := by decide +kernel
theorem dX7_undo_11 : decode cX7_undo 11 = .ok (.dup, 1) := by decide +kernel
theorem dX7_undo_12 : decode cX7_undo 12 = .ok (.getfield 35, 3) := by decide +kernel
theorem dX7_undo_15 : decode cX7_undo 15 = .ok (.iconst 1, 1) := by decide +kernel
theorem dX7_undo_16 : decode cX7_undo 16 = .ok (.isub, 1) := by decide +kernel
theorem dX7_undo_17 : decode cX7_undo 17 = .ok (.putfield 35, 3) := by decide +kernel
theorem dX7_undo_20 : decode cX7_undo 20 = .ok (.iconst 0, 1) := by decide +kernel
theorem dX7_undo_21 : decode cX7_undo 21 = .ok (.istore_n 1, 1) := by decide +kernel
theorem dX7_undo_22 : decode cX7_undo 22 = .ok (.iload_n 1, 1) := by decide +kernel
theorem dX7_undo_23 : decode cX7_undo 23 = .ok (.bipush 81, 2) := by decide +kernel
theorem dX7_undo_25 : decode cX7_undo 25 = .ok (.if_icmp .ge 29, 3) := by decide +kernel
theorem dX7_undo_28 : decode cX7_undo 28 = .ok (.aload_n 0, 1) := by decide +kernel
theorem dX7_undo_29 : decode cX7_undo 29 = .ok (.getfield 7, 3) := by decide +kernel
theorem dX7_undo_32 : decode cX7_undo 32 = .ok (.iload_n 1, 1) := by decide +kernel
theorem dX7_undo_33 : decode cX7_undo 33 = .ok (.aload_n 0, 1) := by decide +kernel
theorem dX7_undo_34 : decode cX7_undo 34 = .ok (.getfield 13, 3) := by decide +kernel
theorem dX7_undo_37 : decode cX7_undo 37 = .ok (.bipush 81, 2) := by decide +kernel
theorem dX7_undo_39 : decode cX7_undo 39 = .ok (.aload_n 0, 1) := by decide +kernel
theorem dX7_undo_40 : decode cX7_undo 40 = .ok (.getfield 35, 3) := by decide +kernel
theorem dX7_undo_43 : decode cX7_undo 43 = .ok (.imul, 1) := by decide +kernel
theorem dX7_undo_44 : decode cX7_undo 44 = .ok (.iload_n 1, 1) := by decide +kernel
theorem dX7_undo_45 : decode cX7_undo 45 = .ok (.iadd, 1) := by decide +kernel
theorem dX7_undo_46 : decode cX7_undo 46 = .ok (.iaload, 1) := by decide +kernel
theorem dX7_undo_47 : decode cX7_undo 47 = .ok (.iastore, 1) := by decide +kernel
theorem dX7_undo_48 : decode cX7_undo 48 = .ok (.iinc 1 1, 3) := by decide +kernel
theorem dX7_undo_51 : decode cX7_undo 51 = .ok (.goto (-29), 3) := by decide +kernel
theorem dX7_undo_54 : decode cX7_undo 54 = .ok (.aload_n 0, 1) := by decide +kernel
theorem dX7_undo_55 : decode cX7_undo 55 = .ok (.getfield 35, 3) := by decide +kernel
theorem dX7_undo_58 : decode cX7_undo 58 = .ok (.ireturn, 1) := by decide +kernel
set_option maxRecDepth 20000 in
theorem ggX7_type_X7_in : GoodIn wsX7_type wsX7_in := goodIn_r _ [8] (by decide +kernel) (by decide +kernel)
set_option maxRecDepth 20000 in
theorem gX7_type_X7_in : GoodIn wsX7_type (va_wsS RX7 61 yX7_in wsX7_in) := goodIn_app (goodIn_of _ (by decide +kernel)) ggX7_type_X7_in
theorem dX7_type_0 : decode cX7_type 0 = .ok (.iload_n 1, 1) := by decide +kernel
theorem dX7_type_1 : decode cX7_type 1 = .ok (.bipush 32, 2) := by decide +kernel
theorem dX7_type_3 : decode cX7_type 3 = .ok (.bipush 126, 2) := by decide +kernel
theorem dX7_type_5 : decode cX7_type 5 = .ok (.invokestatic 61, 3) := by decide +kernel
theorem dX7_type_8 : decode cX7_type 8 = .ok (.ifCond .ne 6, 3) := by decide +kernel
theorem dX7_type_11 : decode cX7_type 11 = .ok (.ldc 65, 2) := by decide +kernel
theorem dX7_type_13 : decode cX7_type 13 = .ok (.ireturn, 1) := by decide +kernel
theorem dX7_type_14 : decode cX7_type 14 = .ok (.aload_n 0, 1) := by decide +kernel
theorem dX7_type_15 : decode cX7_type 15 = .ok (.getfield 135, 3) := by decide +kernel
theorem dX7_type_18 : decode cX7_type 18 = .ok (.bipush 60, 2) := by decide +kernel
theorem dX7_type_20 : decode cX7_type 20 = .ok (.if_icmp .ne 6, 3) := by decide +kernel
theorem dX7_type_23 : decode cX7_type 23 = .ok (.ldc 66, 2) := by decide +kernel
theorem dX7_type_25 : decode cX7_type 25 = .ok (.ireturn, 1) := by decide +kernel
theorem dX7_type_26 : decode cX7_type 26 = .ok (.aload_n 0, 1) := by decide +kernel
theorem dX7_type_27 : decode cX7_type 27 = .ok (.getfield 19, 3) := by decide +kernel
theorem dX7_type_30 : decode cX7_type 30 = .ok (.aload_n 0, 1) := by decide +kernel
theorem dX7_type_31 : decode cX7_type 31 = .ok (.getfield 135, 3) := by decide +kernel
theorem dX7_type_34 : decode cX7_type 34 = .ok (.iload_n 1, 1) := by decide +kernel
theorem dX7_type_35 : decode cX7_type 35 = .ok (.iastore, 1) := by decide +kernel
theorem dX7_type_36 : decode cX7_type 36 = .ok (.aload_n 0, 1) := by decide +kernel
theorem dX7_type_37 : decode cX7_type 37 = .ok (.dup, 1) := by decide +kernel
theorem dX7_type_38 : decode cX7_type 38 = .ok (.getfield 135, 3) := by decide +kernel
theorem dX7_type_41 : decode cX7_type 41 = .ok (.iconst 1, 1) := by decide +kernel
theorem dX7_type_42 : decode cX7_type 42 = .ok (.iadd, 1) := by decide +kernel
theorem dX7_type_43 : decode cX7_type 43 = .ok (.putfield 135, 3) := by decide +kernel
theorem dX7_type_46 : decode cX7_type 46 = .ok (.aload_n 0, 1) := by decide +kernel
theorem dX7_type_47 : decode cX7_type 47 = .ok (.getfield 135, 3) := by decide +kernel
theorem dX7_type_50 : decode cX7_type 50 = .ok (.ireturn, 1) := by decide +kernel
theorem dX7_clearText_0 : decode cX7_clearText 0 = .ok (.aload_n 0, 1) := by decide +kernel
theorem dX7_clearText_1 : decode cX7_clearText 1 = .ok (.getfield 135, 3) := by decide +kernel
theorem dX7_clearText_4 : decode cX7_clearText 4 = .ok (.istore_n 1, 1) := by decide +kernel
theorem dX7_clearText_5 : decode cX7_clearText 5 = .ok (.aload_n 0, 1) := by decide +kernel
theorem dX7_clearText_6 : decode cX7_clearText 6 = .ok (.iconst 0, 1) := by decide +kernel
theorem dX7_clearText_7 : decode cX7_clearText 7 = .ok (.putfield 135, 3) := by decide +kernel
theorem dX7_clearText_10 : decode cX7_clearText 10 = .ok (.iload_n 1, 1) := by decide +kernel
theorem dX7_clearText_11 : decode cX7_clearText 11 = .ok (.ireturn, 1) := by decide +kernel
set_option maxRecDepth 20000 in
theorem ggX7_isAt_X7_in : GoodIn wsX7_isAt wsX7_in := goodIn_r _ [7] (by decide +kernel) (by decide +kernel)
set_option maxRecDepth 20000 in
theorem gX7_isAt_X7_in : GoodIn wsX7_isAt (va_wsS RX7 61 yX7_in wsX7_in) := goodIn_app (goodIn_of _ (by decide +kernel)) ggX7_isAt_X7_in
theorem dX7_isAt_0 : decode cX7_isAt 0 = .ok (.aload_n 0, 1) := by decide +kernel
theorem dX7_isAt_1 : decode cX7_isAt 1 = .ok (.getfield 138, 3) := by decide +kernel
theorem dX7_isAt_4 : decode cX7_isAt 4 = .ok (.aload_n 0, 1) := by decide +kernel
theorem dX7_isAt_5 : decode cX7_isAt 5 = .ok (.getfield 135, 3) := by decide +kernel
theorem dX7_isAt_8 : decode cX7_isAt 8 = .ok (.if_icmp .ge 24, 3) := by decide +kernel
theorem dX7_isAt_11 : decode cX7_isAt 11 = .ok (.aload_n 0, 1) := by decide +kernel
theorem dX7_isAt_12 : decode cX7_isAt 12 = .ok (.getfield 19, 3) := by decide +kernel
theorem dX7_isAt_15 : decode cX7_isAt 15 = .ok (.aload_n 0, 1) := by decide +kernel
theorem dX7_isAt_16 : decode cX7_isAt 16 = .ok (.getfield 138, 3) := by decide +kernel
theorem dX7_isAt_19 : decode cX7_isAt 19 = .ok (.iaload, 1) := by decide +kernel
theorem dX7_isAt_20 : decode cX7_isAt 20 = .ok (.iload_n 1, 1) := by decide +kernel
theorem dX7_isAt_21 : decode cX7_isAt 21 = .ok (.iload_n 2, 1) := by decide +kernel
theorem dX7_isAt_22 : decode cX7_isAt 22 = .ok (.invokestatic 61, 3) := by decide +kernel
theorem dX7_isAt_25 : decode cX7_isAt 25 = .ok (.ifCond .eq 7, 3) := by decide +kernel
theorem dX7_isAt_28 : decode cX7_isAt 28 = .ok (.iconst 1, 1) := by decide +kernel
theorem dX7_isAt_29 : decode cX7_isAt 29 = .ok (.goto 4, 3) := by decide +kernel
theorem dX7_isAt_32 : decode cX7_isAt 32 = .ok (.iconst 0, 1) := by decide +kernel
theorem dX7_isAt_33 : decode cX7_isAt 33 = .ok (.ireturn, 1) := by decide +kernel
set_option maxRecDepth 20000 in
theorem ggX7_sign_X7_isAt : GoodIn wsX7_sign wsX7_isAt := goodIn_r _ [6, 1, 7, 8, 9, 10, 5, 11, 12, 13, 14, 15, 16, 17, 18, 19, 20, 21, 22, 23, 24, 25, 26, 27, 28, 29] (by decide +kernel) (by decide +kernel)
set_option maxRecDepth 20000 in
theorem gX7_sign_X7_isAt : GoodIn wsX7_sign (wsV RX7 141 RX7 yX7_isAt wsX7_isAt) := goodIn_app (goodIn_of _ (by decide +kernel)) ggX7_sign_X7_isAt
theorem dX7_sign_0 : decode cX7_sign 0 = .ok (.aload_n 0, 1) := by decide +kernel
theorem dX7_sign_1 : decode cX7_sign 1 = .ok (.iload_n 1, 1) := by decide +kernel
theorem dX7_sign_2 : decode cX7_sign 2 = .ok (.iload_n 1, 1) := by decide +kernel
theorem dX7_sign_3 : decode cX7_sign 3 = .ok (.invokevirtual 141, 3) := by decide +kernel
theorem dX7_sign_6 : decode cX7_sign 6 = .ok (.istore_n 2, 1) := by decide +kernel
theorem dX7_sign_7 : decode cX7_sign 7 = .ok (.aload_n 0, 1) := by decide +kernel
theorem dX7_sign_8 : decode cX7_sign 8 = .ok (.dup, 1) := by decide +kernel
theorem dX7_sign_9 : decode cX7_sign 9 = .ok (.getfield 138, 3) := by decide +kernel
theorem dX7_sign_12 : decode cX7_sign 12 = .ok (.iload_n 2, 1) := by decide +kernel
theorem dX7_sign_13 : decode cX7_sign 13 = .ok (.ifCond .eq 7, 3) := by decide +kernel
theorem dX7_sign_16 : decode cX7_sign 16 = .ok (.iconst 1, 1) := by decide +kernel
theorem dX7_sign_17 : decode cX7_sign 17 = .ok (.goto 4, 3) := by decide +kernel
theorem dX7_sign_20 : decode cX7_sign 20 = .ok (.iconst 0, 1) := by decide +kernel
theorem dX7_sign_21 : decode cX7_sign 21 = .ok (.iadd, 1) := by decide +kernel
theorem dX7_sign_22 : decode cX7_sign 22 = .ok (.putfield 138, 3) := by decide +kernel
theorem dX7_sign_25 : decode cX7_sign 25 = .ok (.iload_n 2, 1) := by decide +kernel
theorem dX7_sign_26 : decode cX7_sign 26 = .ok (.ireturn, 1) := by decide +kernel
set_option maxRecDepth 20000 in
theorem ggX7_number_X7_isAt : GoodIn wsX7_number wsX7_isAt := goodIn_r _ [8, 1, 9, 3, 10, 11, 7, 12, 13, 14, 15, 16, 17, 18, 19, 20, 21, 22, 23, 24, 25, 26, 27, 28, 29, 30] (by decide +kernel) (by decide +kernel)
set_option maxRecDepth 20000 in
theorem gX7_number_X7_isAt : GoodIn wsX7_number (wsV RX7 141 RX7 yX7_isAt wsX7_isAt) := goodIn_app (goodIn_of _ (by decide +kernel)) ggX7_number_X7_isAt
theorem dX7_number_0 : decode cX7_number 0 = .ok (.aload_n 0, 1) := by decide +kernel
theorem dX7_number_1 : decode cX7_number 1 = .ok (.getfield 138, 3) := by decide +kernel
theorem dX7_number_4 : decode cX7_number 4 = .ok (.istore_n 2, 1) := by decide +kernel
theorem dX7_number_5 : decode cX7_number 5 = .ok (.aload_n 0, 1) := by decide +kernel
theorem dX7_number_6 : decode cX7_number 6 = .ok (.getfield 28, 3) := by decide +kernel
theorem dX7_number_9 : decode cX7_number 9 = .ok (.iload_n 1, 1) := by decide +kernel
theorem dX7_number_10 : decode cX7_number 10 = .ok (.iconst 0, 1) := by decide +kernel
theorem dX7_number_11 : decode cX7_number 11 = .ok (.iastore, 1) := by decide +kernel
theorem dX7_number_12 : decode cX7_number 12 = .ok (.aload_n 0, 1) := by decide +kernel
theorem dX7_number_13 : decode cX7_number 13 = .ok (.bipush 48, 2) := by decide +kernel
theorem dX7_number_15 : decode cX7_number 15 = .ok (.bipush 57, 2) := by decide +kernel
theorem dX7_number_17 : decode cX7_number 17 = .ok (.invokevirtual 141, 3) := by decide +kernel
theorem dX7_number_20 : decode cX7_number 20 = .ok (.ifCond .eq 54, 3) := by decide +kernel
theorem dX7_number_23 : decode cX7_number 23 = .ok (.aload_n 0, 1) := by decide +kernel
theorem dX7_number_24 : decode cX7_number 24 = .ok (.getfield 138, 3) := by decide +kernel
theorem dX7_number_27 : decode cX7_number 27 = .ok (.iload_n 2, 1) := by decide +kernel
theorem dX7_number_28 : decode cX7_number 28 = .ok (.isub, 1) := by decide +kernel
theorem dX7_number_29 : decode cX7_number 29 = .ok (.iconst 4, 1) := by decide +kernel
theorem dX7_number_30 : decode cX7_number 30 = .ok (.if_icmp .ge 44, 3) := by decide +kernel
theorem dX7_number_33 : decode cX7_number 33 = .ok (.aload_n 0, 1) := by decide +kernel
theorem dX7_number_34 : decode cX7_number 34 = .ok (.getfield 28, 3) := by decide +kernel
theorem dX7_number_37 : decode cX7_number 37 = .ok (.iload_n 1, 1) := by decide +kernel
theorem dX7_number_38 : decode cX7_number 38 = .ok (.bipush 10, 2) := by decide +kernel
theorem dX7_number_40 : decode cX7_number 40 = .ok (.aload_n 0, 1) := by decide +kernel
theorem dX7_number_41 : decode cX7_number 41 = .ok (.getfield 28, 3) := by decide +kernel
theorem dX7_number_44 : decode cX7_number 44 = .ok (.iload_n 1, 1) := by decide +kernel
theorem dX7_number_45 : decode cX7_number 45 = .ok (.iaload, 1) := by decide +kernel
theorem dX7_number_46 : decode cX7_number 46 = .ok (.imul, 1) := by decide +kernel
theorem dX7_number_47 : decode cX7_number 47 = .ok (.aload_n 0, 1) := by decide +kernel
theorem dX7_number_48 : decode cX7_number 48 = .ok (.getfield 19, 3) := by decide +kernel
theorem dX7_number_51 : decode cX7_number 51 = .ok (.aload_n 0, 1) := by decide +kernel
theorem dX7_number_52 : decode cX7_number 52 = .ok (.getfield 138, 3) := by decide +kernel
theorem dX7_number_55 : decode cX7_number 55 = .ok (.iaload, 1) := by decide +kernel
theorem dX7_number_56 : decode cX7_number 56 = .ok (.iadd, 1) := by decide +kernel
theorem dX7_number_57 : decode cX7_number 57 = .ok (.bipush 48, 2) := by decide +kernel
theorem dX7_number_59 : decode cX7_number 59 = .ok (.isub, 1) := by decide +kernel
theorem dX7_number_60 : decode cX7_number 60 = .ok (.iastore, 1) := by decide +kernel
theorem dX7_number_61 : decode cX7_number 61 = .ok (.aload_n 0, 1) := by decide +kernel
theorem dX7_number_62 : decode cX7_number 62 = .ok (.dup, 1) := by decide +kernel
theorem dX7_number_63 : decode cX7_number 63 = .ok (.getfield 138, 3) := by decide +kernel
theorem dX7_number_66 : decode cX7_number 66 = .ok (.iconst 1, 1) := by decide +kernel
theorem dX7_number_67 : decode cX7_number 67 = .ok (.iadd, 1) := by decide +kernel
theorem dX7_number_68 : decode cX7_number 68 = .ok (.putfield 138, 3) := by decide +kernel
theorem dX7_number_71 : decode cX7_number 71 = .ok (.goto (-59), 3) := by decide +kernel
theorem dX7_number_74 : decode cX7_number 74 = .ok (.aload_n 0, 1) := by decide +kernel
theorem dX7_number_75 : decode cX7_number 75 = .ok (.getfield 138, 3) := by decide +kernel
theorem dX7_number_78 : decode cX7_number 78 = .ok (.iload_n 2, 1) := by decide +kernel
theorem dX7_number_79 : decode cX7_number 79 = .ok (.if_icmp .le 7, 3) := by decide +kernel
theorem dX7_number_82 : decode cX7_number 82 = .ok (.iconst 1, 1) := by decide +kernel
theorem dX7_number_83 : decode cX7_number 83 = .ok (.goto 4, 3) := by decide +kernel
theorem dX7_number_86 : decode cX7_number 86 = .ok (.iconst 0, 1) := by decide +kernel
theorem dX7_number_87 : decode cX7_number 87 = .ok (.ireturn, 1) := by decide +kernel
theorem dX7_numbersOf_0 : decode cX7_numbersOf 0 = .ok (.iload_n 0, 1) := by decide +kernel
theorem dX7_numbersOf_1 : decode cX7_numbersOf 1 = .ok (.bipush 108, 2) := by decide +kernel
theorem dX7_numbersOf_3 : decode cX7_numbersOf 3 = .ok (.if_icmp .eq 9, 3) := by decide +kernel
theorem dX7_numbersOf_6 : decode cX7_numbersOf 6 = .ok (.iload_n 0, 1) := by decide +kernel
theorem dX7_numbersOf_7 : decode cX7_numbersOf 7 = .ok (.bipush 115, 2) := by decide +kernel
theorem dX7_numbersOf_9 : decode cX7_numbersOf 9 = .ok (.if_icmp .ne 7, 3) := by decide +kernel
theorem dX7_numbersOf_12 : decode cX7_numbersOf 12 = .ok (.iconst 2, 1) := by decide +kernel
theorem dX7_numbersOf_13 : decode cX7_numbersOf 13 = .ok (.goto 36, 3) := by decide +kernel
theorem dX7_numbersOf_16 : decode cX7_numbersOf 16 = .ok (.iload_n 0, 1) := by decide +kernel
theorem dX7_numbersOf_17 : decode cX7_numbersOf 17 = .ok (.bipush 98, 2) := by decide +kernel
theorem dX7_numbersOf_19 : decode cX7_numbersOf 19 = .ok (.if_icmp .ne 7, 3) := by decide +kernel
theorem dX7_numbersOf_22 : decode cX7_numbersOf 22 = .ok (.iconst 4, 1) := by decide +kernel
theorem dX7_numbersOf_23 : decode cX7_numbersOf 23 = .ok (.goto 26, 3) := by decide +kernel
theorem dX7_numbersOf_26 : decode cX7_numbersOf 26 = .ok (.iload_n 0, 1) := by decide +kernel
theorem dX7_numbersOf_27 : decode cX7_numbersOf 27 = .ok (.bipush 99, 2) := by decide +kernel
theorem dX7_numbersOf_29 : decode cX7_numbersOf 29 = .ok (.if_icmp .eq 15, 3) := by decide +kernel
theorem dX7_numbersOf_32 : decode cX7_numbersOf 32 = .ok (.iload_n 0, 1) := by decide +kernel
theorem dX7_numbersOf_33 : decode cX7_numbersOf 33 = .ok (.bipush 100, 2) := by decide +kernel
theorem dX7_numbersOf_35 : decode cX7_numbersOf 35 = .ok (.if_icmp .eq 9, 3) := by decide +kernel
theorem dX7_numbersOf_38 : decode cX7_numbersOf 38 = .ok (.iload_n 0, 1) := by decide +kernel
theorem dX7_numbersOf_39 : decode cX7_numbersOf 39 = .ok (.bipush 109, 2) := by decide +kernel
theorem dX7_numbersOf_41 : decode cX7_numbersOf 41 = .ok (.if_icmp .ne 7, 3) := by decide +kernel
theorem dX7_numbersOf_44 : decode cX7_numbersOf 44 = .ok (.iconst 1, 1) := by decide +kernel
theorem dX7_numbersOf_45 : decode cX7_numbersOf 45 = .ok (.goto 4, 3) := by decide +kernel
theorem dX7_numbersOf_48 : decode cX7_numbersOf 48 = .ok (.iconst 0, 1) := by decide +kernel
theorem dX7_numbersOf_49 : decode cX7_numbersOf 49 = .ok (.ireturn, 1) := by decide +kernel
set_option maxRecDepth 20000 in
theorem ggX7_reads_X7_isAt : GoodIn wsX7_reads wsX7_isAt := goodIn_r _ [8, 2, 9, 1, 10, 11, 7, 12, 25, 26, 27, 28, 29, 30, 31, 32, 33, 34, 35, 36, 37, 38, 39, 40, 41, 42] (by decide +kernel) (by decide +kernel)
set_option maxRecDepth 20000 in
theorem gX7_reads_X7_isAt : GoodIn wsX7_reads (wsV RX7 141 RX7 yX7_isAt wsX7_isAt) := goodIn_app (goodIn_of _ (by decide +kernel)) ggX7_reads_X7_isAt
set_option maxRecDepth 20000 in
theorem ggX7_reads_X7_numbersOf : GoodIn wsX7_reads wsX7_numbersOf := goodIn_r _ [15] (by decide +kernel) (by decide +kernel)
set_option maxRecDepth 20000 in
theorem gX7_reads_X7_numbersOf : GoodIn wsX7_reads (va_wsS RX7 148 yX7_numbersOf wsX7_numbersOf) := goodIn_app (goodIn_of _ (by decide +kernel)) ggX7_reads_X7_numbersOf
set_option maxRecDepth 20000 in
theorem ggX7_reads_X7_number : GoodIn wsX7_reads wsX7_number := goodIn_r _ [19, 2, 20, 1, 4, 5, 6, 7, 8, 9, 10, 11, 12, 25, 26, 27, 28, 29, 30, 31, 32, 33, 34, 35, 36, 37, 38, 39, 40, 41, 42] (by decide +kernel) (by decide +kernel)
set_option maxRecDepth 20000 in
theorem gX7_reads_X7_number : GoodIn wsX7_reads (wsV RX7 151 RX7 yX7_number wsX7_number) := goodIn_app (goodIn_of _ (by decide +kernel)) ggX7_reads_X7_number
set_option maxRecDepth 20000 in
theorem ggX7_reads_X7_sign : GoodIn wsX7_reads wsX7_sign := goodIn_r _ [24, 2, 4, 5, 6, 7, 8, 9, 1, 10, 11, 12, 25, 26, 27, 28, 29, 30, 31, 32, 33, 34, 35, 36, 37, 38, 39, 40, 41, 42] (by decide +kernel) (by decide +kernel)
set_option maxRecDepth 20000 in
theorem gX7_reads_X7_sign : GoodIn wsX7_reads (wsV RX7 154 RX7 yX7_sign wsX7_sign) := goodIn_app (goodIn_of _ (by decide +kernel)) ggX7_reads_X7_sign
theorem dX7_reads_0 : decode cX7_reads 0 = .ok (.aload_n 0, 1) := by decide +kernel
theorem dX7_reads_1 : decode cX7_reads 1 = .ok (.aload_n 0, 1) := by decide +kernel
theorem dX7_reads_2 : decode cX7_reads 2 = .ok (.bipush 33, 2) := by decide +kernel
theorem dX7_reads_4 : decode cX7_reads 4 = .ok (.bipush 126, 2) := by decide +kernel
theorem dX7_reads_6 : decode cX7_reads 6 = .ok (.invokevirtual 141, 3) := by decide +kernel
theorem dX7_reads_9 : decode cX7_reads 9 = .ok (.ifCond .eq 15, 3) := by decide +kernel
theorem dX7_reads_12 : decode cX7_reads 12 = .ok (.aload_n 0, 1) := by decide +kernel
theorem dX7_reads_13 : decode cX7_reads 13 = .ok (.getfield 19, 3) := by decide +kernel
theorem dX7_reads_16 : decode cX7_reads 16 = .ok (.aload_n 0, 1) := by decide +kernel
theorem dX7_reads_17 : decode cX7_reads 17 = .ok (.getfield 138, 3) := by decide +kernel
theorem dX7_reads_20 : decode cX7_reads 20 = .ok (.iaload, 1) := by decide +kernel
theorem dX7_reads_21 : decode cX7_reads 21 = .ok (.goto 4, 3) := by decide +kernel
theorem dX7_reads_24 : decode cX7_reads 24 = .ok (.iconst 0, 1) := by decide +kernel
theorem dX7_reads_25 : decode cX7_reads 25 = .ok (.putfield 145, 3) := by decide +kernel
theorem dX7_reads_28 : decode cX7_reads 28 = .ok (.aload_n 0, 1) := by decide +kernel
theorem dX7_reads_29 : decode cX7_reads 29 = .ok (.getfield 145, 3) := by decide +kernel
theorem dX7_reads_32 : decode cX7_reads 32 = .ok (.invokestatic 148, 3) := by decide +kernel
theorem dX7_reads_35 : decode cX7_reads 35 = .ok (.istore_n 1, 1) := by decide +kernel
theorem dX7_reads_36 : decode cX7_reads 36 = .ok (.iload_n 1, 1) := by decide +kernel
theorem dX7_reads_37 : decode cX7_reads 37 = .ok (.ifCond .ne 5, 3) := by decide +kernel
theorem dX7_reads_40 : decode cX7_reads 40 = .ok (.iconst 0, 1) := by decide +kernel
theorem dX7_reads_41 : decode cX7_reads 41 = .ok (.ireturn, 1) := by decide +kernel
theorem dX7_reads_42 : decode cX7_reads 42 = .ok (.aload_n 0, 1) := by decide +kernel
theorem dX7_reads_43 : decode cX7_reads 43 = .ok (.dup, 1) := by decide +kernel
theorem dX7_reads_44 : decode cX7_reads 44 = .ok (.getfield 138, 3) := by decide +kernel
theorem dX7_reads_47 : decode cX7_reads 47 = .ok (.iconst 1, 1) := by decide +kernel
theorem dX7_reads_48 : decode cX7_reads 48 = .ok (.iadd, 1) := by decide +kernel
theorem dX7_reads_49 : decode cX7_reads 49 = .ok (.putfield 138, 3) := by decide +kernel
theorem dX7_reads_52 : decode cX7_reads 52 = .ok (.aload_n 0, 1) := by decide +kernel
theorem dX7_reads_53 : decode cX7_reads 53 = .ok (.iconst 0, 1) := by decide +kernel
theorem dX7_reads_54 : decode cX7_reads 54 = .ok (.invokevirtual 151, 3) := by decide +kernel
theorem dX7_reads_57 : decode cX7_reads 57 = .ok (.istore_n 2, 1) := by decide +kernel
theorem dX7_reads_58 : decode cX7_reads 58 = .ok (.iconst 1, 1) := by decide +kernel
theorem dX7_reads_59 : decode cX7_reads 59 = .ok (.istore_n 3, 1) := by decide +kernel
theorem dX7_reads_60 : decode cX7_reads 60 = .ok (.iload_n 3, 1) := by decide +kernel
theorem dX7_reads_61 : decode cX7_reads 61 = .ok (.iload_n 1, 1) := by decide +kernel
theorem dX7_reads_62 : decode cX7_reads 62 = .ok (.if_icmp .ge 36, 3) := by decide +kernel
theorem dX7_reads_65 : decode cX7_reads 65 = .ok (.iload_n 2, 1) := by decide +kernel
theorem dX7_reads_66 : decode cX7_reads 66 = .ok (.ifCond .eq 32, 3) := by decide +kernel
theorem dX7_reads_69 : decode cX7_reads 69 = .ok (.aload_n 0, 1) := by decide +kernel
theorem dX7_reads_70 : decode cX7_reads 70 = .ok (.bipush 44, 2) := by decide +kernel
theorem dX7_reads_72 : decode cX7_reads 72 = .ok (.invokevirtual 154, 3) := by decide +kernel
theorem dX7_reads_75 : decode cX7_reads 75 = .ok (.ifCond .eq 15, 3) := by decide +kernel
theorem dX7_reads_78 : decode cX7_reads 78 = .ok (.aload_n 0, 1) := by decide +kernel
theorem dX7_reads_79 : decode cX7_reads 79 = .ok (.iload_n 3, 1) := by decide +kernel
theorem dX7_reads_80 : decode cX7_reads 80 = .ok (.invokevirtual 151, 3) := by decide +kernel
theorem dX7_reads_83 : decode cX7_reads 83 = .ok (.ifCond .eq 7, 3) := by decide +kernel
theorem dX7_reads_86 : decode cX7_reads 86 = .ok (.iconst 1, 1) := by decide +kernel
theorem dX7_reads_87 : decode cX7_reads 87 = .ok (.goto 4, 3) := by decide +kernel
theorem dX7_reads_90 : decode cX7_reads 90 = .ok (.iconst 0, 1) := by decide +kernel
theorem dX7_reads_91 : decode cX7_reads 91 = .ok (.istore_n 2, 1) := by decide +kernel
theorem dX7_reads_92 : decode cX7_reads 92 = .ok (.iinc 3 1, 3) := by decide +kernel
theorem dX7_reads_95 : decode cX7_reads 95 = .ok (.goto (-35), 3) := by decide +kernel
theorem dX7_reads_98 : decode cX7_reads 98 = .ok (.iload_n 2, 1) := by decide +kernel
theorem dX7_reads_99 : decode cX7_reads 99 = .ok (.ifCond .eq 16, 3) := by decide +kernel
theorem dX7_reads_102 : decode cX7_reads 102 = .ok (.aload_n 0, 1) := by decide +kernel
theorem dX7_reads_103 : decode cX7_reads 103 = .ok (.bipush 59, 2) := by decide +kernel
theorem dX7_reads_105 : decode cX7_reads 105 = .ok (.invokevirtual 154, 3) := by decide +kernel
theorem dX7_reads_108 : decode cX7_reads 108 = .ok (.ifCond .eq 7, 3) := by decide +kernel
theorem dX7_reads_111 : decode cX7_reads 111 = .ok (.iconst 1, 1) := by decide +kernel
theorem dX7_reads_112 : decode cX7_reads 112 = .ok (.goto 4, 3) := by decide +kernel
theorem dX7_reads_115 : decode cX7_reads 115 = .ok (.iconst 0, 1) := by decide +kernel
theorem dX7_reads_116 : decode cX7_reads 116 = .ok (.ireturn, 1) := by decide +kernel
set_option maxRecDepth 20000 in
theorem ggX7_calls_X7_lot : GoodIn wsX7_calls wsX7_lot := goodIn_r _ [7, 8, 9, 10, 11, 12, 6, 13, 14, 15, 16, 17, 18, 19, 20, 21, 22, 23, 24, 125, 126, 127, 128, 129, 130, 131, 132, 133, 134, 135, 136, 137, 138, 139, 140, 141, 142] (by decide +kernel) (by decide +kernel)
set_option maxRecDepth 20000 in
theorem gX7_calls_X7_lot : GoodIn wsX7_calls (wsV RX7 157 RX7 yX7_lot wsX7_lot) := goodIn_app (goodIn_of _ (by decide +kernel)) ggX7_calls_X7_lot
set_option maxRecDepth 20000 in
theorem ggX7_calls_X7_blend : GoodIn wsX7_calls wsX7_blend := goodIn_r _ [28, 8, 29, 9, 10, 30, 31, 32, 6, 33, 34, 35, 36, 37, 38, 39, 40, 41, 42, 14, 15, 16, 17, 18, 19, 20, 43, 44, 45, 46, 47, 48, 49, 50, 51, 52, 53, 54, 55, 56, 57, 21, 22, 23, 24, 125, 126, 127, 128, 129, 130, 131, 132, 133, 134, 135, 136, 137, 138, 139, 140, 141, 142] (by decide +kernel) (by decide +kernel)
set_option maxRecDepth 20000 in
theorem gX7_calls_X7_blend : GoodIn wsX7_calls (wsV RX7 160 RX7 yX7_blend wsX7_blend) := goodIn_app (goodIn_of _ (by decide +kernel)) ggX7_calls_X7_blend
set_option maxRecDepth 20000 in
theorem ggX7_calls_X7_cup : GoodIn wsX7_calls wsX7_cup := goodIn_r _ [61, 8, 29, 9, 30, 31, 32, 6, 33, 34, 35, 36, 37, 38, 39, 40, 41, 42, 14, 15, 16, 17, 18, 19, 20, 43, 44, 45, 46, 47, 48, 49, 50, 125, 126, 127, 128, 129, 130, 131, 132, 133, 134, 135, 136, 137, 138, 139, 140, 141, 142] (by decide +kernel) (by decide +kernel)
set_option maxRecDepth 20000 in
theorem gX7_calls_X7_cup : GoodIn wsX7_calls (wsV RX7 163 RX7 yX7_cup wsX7_cup) := goodIn_app (goodIn_of _ (by decide +kernel)) ggX7_calls_X7_cup
set_option maxRecDepth 20000 in
theorem ggX7_calls_X7_sell : GoodIn wsX7_calls wsX7_sell := goodIn_r _ [65, 8, 9, 29, 10, 11, 12, 6, 13, 66, 67, 68, 69, 14, 15, 16, 17, 18, 19, 20, 125, 126, 127, 128, 129, 130, 131, 132, 133, 134, 135, 136, 137, 138, 139, 140, 141, 142] (by decide +kernel) (by decide +kernel)
set_option maxRecDepth 20000 in
theorem gX7_calls_X7_sell : GoodIn wsX7_calls (wsV RX7 166 RX7 yX7_sell wsX7_sell) := goodIn_app (goodIn_of _ (by decide +kernel)) ggX7_calls_X7_sell
set_option maxRecDepth 20000 in
theorem ggX7_calls_X7_meet : GoodIn wsX7_calls wsX7_meet := goodIn_r _ [73, 8, 9, 74, 29, 75, 76, 77, 78, 79, 80, 6, 81, 82, 83, 84, 85, 86, 87, 88, 89, 38, 47, 48, 49, 50, 39, 40, 41, 42, 90, 91, 92, 93, 94, 95, 96, 97, 98, 99, 100, 101, 102, 103, 104, 105, 106, 107, 108, 14, 15, 16, 17, 18, 19, 20, 109, 110, 111, 112, 54, 55, 56, 57, 34, 35, 36, 37, 113, 114, 115, 116, 125, 126, 127, 128, 129, 130, 131, 132, 133, 134, 135, 136, 137, 138, 139, 140, 141, 142] (by decide +kernel) (by decide +kernel)
set_option maxRecDepth 20000 in
theorem gX7_calls_X7_meet : GoodIn wsX7_calls (wsV RX7 169 RX7 yX7_meet wsX7_meet) := goodIn_app (goodIn_of _ (by decide +kernel)) ggX7_calls_X7_meet
set_option maxRecDepth 20000 in
theorem ggX7_calls_X7_pass : GoodIn wsX7_calls wsX7_pass := goodIn_r _ [120, 8, 9, 10, 11, 12, 6, 13, 14, 15, 16, 17, 18, 19, 20, 121, 122, 123, 124, 105, 106, 107, 108, 113, 114, 115, 116, 125, 126, 127, 128, 129, 130, 131, 132, 133, 134, 135, 136, 137, 138, 139, 140, 141, 142] (by decide +kernel) (by decide +kernel)
set_option maxRecDepth 20000 in
theorem gX7_calls_X7_pass : GoodIn wsX7_calls (wsV RX7 172 RX7 yX7_pass wsX7_pass) := goodIn_app (goodIn_of _ (by decide +kernel)) ggX7_calls_X7_pass
theorem dX7_calls_0 : decode cX7_calls 0 = .ok (.aload_n 0, 1) := by decide +kernel
theorem dX7_calls_1 : decode cX7_calls 1 = .ok (.getfield 145, 3) := by decide +kernel
theorem dX7_calls_4 : decode cX7_calls 4 = .ok (.lookupswitch 137 #[(98, 69), (99, 98), (100, 126), (108, 52), (115, 109)], 52) := by decide +kernel
theorem dX7_calls_56 : decode cX7_calls 56 = .ok (.aload_n 0, 1) := by decide +kernel
theorem dX7_calls_57 : decode cX7_calls 57 = .ok (.aload_n 0, 1) := by decide +kernel
theorem dX7_calls_58 : decode cX7_calls 58 = .ok (.getfield 28, 3) := by decide +kernel
theorem dX7_calls_61 : decode cX7_calls 61 = .ok (.iconst 0, 1) := by decide +kernel
theorem dX7_calls_62 : decode cX7_calls 62 = .ok (.iaload, 1) := by decide +kernel
theorem dX7_calls_63 : decode cX7_calls 63 = .ok (.aload_n 0, 1) := by decide +kernel
theorem dX7_calls_64 : decode cX7_calls 64 = .ok (.getfield 28, 3) := by decide +kernel
theorem dX7_calls_67 : decode cX7_calls 67 = .ok (.iconst 1, 1) := by decide +kernel
theorem dX7_calls_68 : decode cX7_calls 68 = .ok (.iaload, 1) := by decide +kernel
theorem dX7_calls_69 : decode cX7_calls 69 = .ok (.invokevirtual 157, 3) := by decide +kernel
theorem dX7_calls_72 : decode cX7_calls 72 = .ok (.ireturn, 1) := by decide +kernel
theorem dX7_calls_73 : decode cX7_calls 73 = .ok (.aload_n 0, 1) := by decide +kernel
theorem dX7_calls_74 : decode cX7_calls 74 = .ok (.aload_n 0, 1) := by decide +kernel
theorem dX7_calls_75 : decode cX7_calls 75 = .ok (.getfield 28, 3) := by decide +kernel
theorem dX7_calls_78 : decode cX7_calls 78 = .ok (.iconst 0, 1) := by decide +kernel
theorem dX7_calls_79 : decode cX7_calls 79 = .ok (.iaload, 1) := by decide +kernel
theorem dX7_calls_80 : decode cX7_calls 80 = .ok (.aload_n 0, 1) := by decide +kernel
theorem dX7_calls_81 : decode cX7_calls 81 = .ok (.getfield 28, 3) := by decide +kernel
theorem dX7_calls_84 : decode cX7_calls 84 = .ok (.iconst 1, 1) := by decide +kernel
theorem dX7_calls_85 : decode cX7_calls 85 = .ok (.iaload, 1) := by decide +kernel
theorem dX7_calls_86 : decode cX7_calls 86 = .ok (.aload_n 0, 1) := by decide +kernel
theorem dX7_calls_87 : decode cX7_calls 87 = .ok (.getfield 28, 3) := by decide +kernel
theorem dX7_calls_90 : decode cX7_calls 90 = .ok (.iconst 2, 1) := by decide +kernel
theorem dX7_calls_91 : decode cX7_calls 91 = .ok (.iaload, 1) := by decide +kernel
theorem dX7_calls_92 : decode cX7_calls 92 = .ok (.aload_n 0, 1) := by decide +kernel
theorem dX7_calls_93 : decode cX7_calls 93 = .ok (.getfield 28, 3) := by decide +kernel
theorem dX7_calls_96 : decode cX7_calls 96 = .ok (.iconst 3, 1) := by decide +kernel
theorem dX7_calls_97 : decode cX7_calls 97 = .ok (.iaload, 1) := by decide +kernel
theorem dX7_calls_98 : decode cX7_calls 98 = .ok (.invokevirtual 160, 3) := by decide +kernel
theorem dX7_calls_101 : decode cX7_calls 101 = .ok (.ireturn, 1) := by decide +kernel
theorem dX7_calls_102 : decode cX7_calls 102 = .ok (.aload_n 0, 1) := by decide +kernel
theorem dX7_calls_103 : decode cX7_calls 103 = .ok (.aload_n 0, 1) := by decide +kernel
theorem dX7_calls_104 : decode cX7_calls 104 = .ok (.getfield 28, 3) := by decide +kernel
theorem dX7_calls_107 : decode cX7_calls 107 = .ok (.iconst 0, 1) := by decide +kernel
theorem dX7_calls_108 : decode cX7_calls 108 = .ok (.iaload, 1) := by decide +kernel
theorem dX7_calls_109 : decode cX7_calls 109 = .ok (.invokevirtual 163, 3) := by decide +kernel
theorem dX7_calls_112 : decode cX7_calls 112 = .ok (.ireturn, 1) := by decide +kernel
theorem dX7_calls_113 : decode cX7_calls 113 = .ok (.aload_n 0, 1) := by decide +kernel
theorem dX7_calls_114 : decode cX7_calls 114 = .ok (.aload_n 0, 1) := by decide +kernel
theorem dX7_calls_115 : decode cX7_calls 115 = .ok (.getfield 28, 3) := by decide +kernel
theorem dX7_calls_118 : decode cX7_calls 118 = .ok (.iconst 0, 1) := by decide +kernel
theorem dX7_calls_119 : decode cX7_calls 119 = .ok (.iaload, 1) := by decide +kernel
theorem dX7_calls_120 : decode cX7_calls 120 = .ok (.aload_n 0, 1) := by decide +kernel
theorem dX7_calls_121 : decode cX7_calls 121 = .ok (.getfield 28, 3) := by decide +kernel
theorem dX7_calls_124 : decode cX7_calls 124 = .ok (.iconst 1, 1) := by decide +kernel
theorem dX7_calls_125 : decode cX7_calls 125 = .ok (.iaload, 1) := by decide +kernel
theorem dX7_calls_126 : decode cX7_calls 126 = .ok (.invokevirtual 166, 3) := by decide +kernel
theorem dX7_calls_129 : decode cX7_calls 129 = .ok (.ireturn, 1) := by decide +kernel
theorem dX7_calls_130 : decode cX7_calls 130 = .ok (.aload_n 0, 1) := by decide +kernel
theorem dX7_calls_131 : decode cX7_calls 131 = .ok (.aload_n 0, 1) := by decide +kernel
theorem dX7_calls_132 : decode cX7_calls 132 = .ok (.getfield 28, 3) := by decide +kernel
theorem dX7_calls_135 : decode cX7_calls 135 = .ok (.iconst 0, 1) := by decide +kernel
theorem dX7_calls_136 : decode cX7_calls 136 = .ok (.iaload, 1) := by decide +kernel
theorem dX7_calls_137 : decode cX7_calls 137 = .ok (.invokevirtual 169, 3) := by decide +kernel
theorem dX7_calls_140 : decode cX7_calls 140 = .ok (.ireturn, 1) := by decide +kernel
theorem dX7_calls_141 : decode cX7_calls 141 = .ok (.aload_n 0, 1) := by decide +kernel
theorem dX7_calls_142 : decode cX7_calls 142 = .ok (.aload_n 0, 1) := by decide +kernel
theorem dX7_calls_143 : decode cX7_calls 143 = .ok (.getfield 28, 3) := by decide +kernel
theorem dX7_calls_146 : decode cX7_calls 146 = .ok (.iconst 0, 1) := by decide +kernel
theorem dX7_calls_147 : decode cX7_calls 147 = .ok (.iaload, 1) := by decide +kernel
theorem dX7_calls_148 : decode cX7_calls 148 = .ok (.invokevirtual 172, 3) := by decide +kernel
theorem dX7_calls_151 : decode cX7_calls 151 = .ok (.ireturn, 1) := by decide +kernel
set_option maxRecDepth 20000 in
theorem ggX7_plays_X7_reads : GoodIn wsX7_plays wsX7_reads := goodIn_r _ [13, 14, 2, 15, 16, 17, 18, 12, 19, 5, 20, 21, 22, 23, 24, 25, 26, 27, 28, 29, 30, 31, 32, 33, 34, 155, 156, 157, 158, 159, 160, 161, 162, 163, 164, 165, 166, 167, 168, 169, 170, 171, 172] (by decide +kernel) (by decide +kernel)
set_option maxRecDepth 20000 in
theorem gX7_plays_X7_reads : GoodIn wsX7_plays (wsV RX7 181 RX7 yX7_reads wsX7_reads) := goodIn_app (goodIn_of _ (by decide +kernel)) ggX7_plays_X7_reads
set_option maxRecDepth 20000 in
theorem ggX7_plays_X7_calls : GoodIn wsX7_plays wsX7_calls := goodIn_r _ [38, 15, 30, 39, 40, 41, 12, 42, 6, 43, 44, 20, 21, 22, 45, 46, 47, 48, 1, 49, 50, 51, 52, 53, 54, 55, 56, 57, 58, 59, 60, 61, 62, 63, 64, 65, 66, 67, 68, 69, 70, 71, 72, 73, 74, 75, 76, 77, 78, 79, 80, 81, 82, 83, 84, 85, 86, 87, 88, 89, 90, 91, 92, 93, 94, 95, 96, 97, 98, 99, 100, 101, 102, 103, 104, 105, 106, 107, 108, 109, 110, 111, 112, 113, 114, 115, 116, 117, 118, 119, 120, 121, 122, 123, 124, 125, 126, 127, 128, 129, 130, 131, 132, 133, 134, 135, 136, 137, 138, 139, 140, 141, 142, 143, 144, 145, 146, 147, 148, 149, 150, 151, 152, 153, 154, 155, 156, 157, 158, 159, 160, 161, 162, 163, 164, 165, 166, 167, 168, 169, 170, 171, 172] (by decide +kernel) (by decide +kernel)
set_option maxRecDepth 20000 in
theorem gX7_plays_X7_calls : GoodIn wsX7_plays (wsV RX7 185 RX7 yX7_calls wsX7_calls) := goodIn_app (goodIn_of _ (by decide +kernel)) ggX7_plays_X7_calls
theorem dX7_plays_0 : decode cX7_plays 0 = .ok (.aload_n 0, 1) := by decide +kernel
theorem dX7_plays_1 : decode cX7_plays 1 = .ok (.iconst 1, 1) := by decide +kernel
theorem dX7_plays_2 : decode cX7_plays 2 = .ok (.putfield 31, 3) := by decide +kernel
theorem dX7_plays_5 : decode cX7_plays 5 = .ok (.aload_n 0, 1) := by decide +kernel
theorem dX7_plays_6 : decode cX7_plays 6 = .ok (.iconst 0, 1) := by decide +kernel
theorem dX7_plays_7 : decode cX7_plays 7 = .ok (.putfield 138, 3) := by decide +kernel
theorem dX7_plays_10 : decode cX7_plays 10 = .ok (.aload_n 0, 1) := by decide +kernel
theorem dX7_plays_11 : decode cX7_plays 11 = .ok (.iconst 0, 1) := by decide +kernel
theorem dX7_plays_12 : decode cX7_plays 12 = .ok (.putfield 175, 3) := by decide +kernel
theorem dX7_plays_15 : decode cX7_plays 15 = .ok (.aload_n 0, 1) := by decide +kernel
theorem dX7_plays_16 : decode cX7_plays 16 = .ok (.iconst 0, 1) := by decide +kernel
theorem dX7_plays_17 : decode cX7_plays 17 = .ok (.putfield 178, 3) := by decide +kernel
theorem dX7_plays_20 : decode cX7_plays 20 = .ok (.iconst 1, 1) := by decide +kernel
theorem dX7_plays_21 : decode cX7_plays 21 = .ok (.istore_n 1, 1) := by decide +kernel
theorem dX7_plays_22 : decode cX7_plays 22 = .ok (.aload_n 0, 1) := by decide +kernel
theorem dX7_plays_23 : decode cX7_plays 23 = .ok (.getfield 138, 3) := by decide +kernel
theorem dX7_plays_26 : decode cX7_plays 26 = .ok (.aload_n 0, 1) := by decide +kernel
theorem dX7_plays_27 : decode cX7_plays 27 = .ok (.getfield 135, 3) := by decide +kernel
theorem dX7_plays_30 : decode cX7_plays 30 = .ok (.if_icmp .ge 96, 3) := by decide +kernel
theorem dX7_plays_33 : decode cX7_plays 33 = .ok (.iload_n 1, 1) := by decide +kernel
theorem dX7_plays_34 : decode cX7_plays 34 = .ok (.ifCond .eq 92, 3) := by decide +kernel
theorem dX7_plays_37 : decode cX7_plays 37 = .ok (.aload_n 0, 1) := by decide +kernel
theorem dX7_plays_38 : decode cX7_plays 38 = .ok (.aload_n 0, 1) := by decide +kernel
theorem dX7_plays_39 : decode cX7_plays 39 = .ok (.getfield 138, 3) := by decide +kernel
theorem dX7_plays_42 : decode cX7_plays 42 = .ok (.putfield 175, 3) := by decide +kernel
theorem dX7_plays_45 : decode cX7_plays 45 = .ok (.aload_n 0, 1) := by decide +kernel
theorem dX7_plays_46 : decode cX7_plays 46 = .ok (.invokevirtual 181, 3) := by decide +kernel
theorem dX7_plays_49 : decode cX7_plays 49 = .ok (.istore_n 2, 1) := by decide +kernel
theorem dX7_plays_50 : decode cX7_plays 50 = .ok (.iload_n 2, 1) := by decide +kernel
theorem dX7_plays_51 : decode cX7_plays 51 = .ok (.ifCond .eq 10, 3) := by decide +kernel
theorem dX7_plays_54 : decode cX7_plays 54 = .ok (.aload_n 0, 1) := by decide +kernel
theorem dX7_plays_55 : decode cX7_plays 55 = .ok (.invokevirtual 185, 3) := by decide +kernel
theorem dX7_plays_58 : decode cX7_plays 58 = .ok (.goto 4, 3) := by decide +kernel
theorem dX7_plays_61 : decode cX7_plays 61 = .ok (.iconst 0, 1) := by decide +kernel
theorem dX7_plays_62 : decode cX7_plays 62 = .ok (.istore_n 3, 1) := by decide +kernel
theorem dX7_plays_63 : decode cX7_plays 63 = .ok (.iload_n 2, 1) := by decide +kernel
theorem dX7_plays_64 : decode cX7_plays 64 = .ok (.ifCond .eq 13, 3) := by decide +kernel
theorem dX7_plays_67 : decode cX7_plays 67 = .ok (.iload_n 3, 1) := by decide +kernel
theorem dX7_plays_68 : decode cX7_plays 68 = .ok (.ldc 65, 2) := by decide +kernel
theorem dX7_plays_70 : decode cX7_plays 70 = .ok (.if_icmp .le 7, 3) := by decide +kernel
theorem dX7_plays_73 : decode cX7_plays 73 = .ok (.iconst 1, 1) := by decide +kernel
theorem dX7_plays_74 : decode cX7_plays 74 = .ok (.goto 4, 3) := by decide +kernel
theorem dX7_plays_77 : decode cX7_plays 77 = .ok (.iconst 0, 1) := by decide +kernel
theorem dX7_plays_78 : decode cX7_plays 78 = .ok (.istore_n 1, 1) := by decide +kernel
theorem dX7_plays_79 : decode cX7_plays 79 = .ok (.aload_n 0, 1) := by decide +kernel
theorem dX7_plays_80 : decode cX7_plays 80 = .ok (.iload_n 2, 1) := by decide +kernel
theorem dX7_plays_81 : decode cX7_plays 81 = .ok (.ifCond .eq 7, 3) := by decide +kernel
theorem dX7_plays_84 : decode cX7_plays 84 = .ok (.iconst 2, 1) := by decide +kernel
theorem dX7_plays_85 : decode cX7_plays 85 = .ok (.goto 4, 3) := by decide +kernel
theorem dX7_plays_88 : decode cX7_plays 88 = .ok (.iconst 1, 1) := by decide +kernel
theorem dX7_plays_89 : decode cX7_plays 89 = .ok (.putfield 188, 3) := by decide +kernel
theorem dX7_plays_92 : decode cX7_plays 92 = .ok (.aload_n 0, 1) := by decide +kernel
theorem dX7_plays_93 : decode cX7_plays 93 = .ok (.iload_n 2, 1) := by decide +kernel
theorem dX7_plays_94 : decode cX7_plays 94 = .ok (.ifCond .eq 7, 3) := by decide +kernel
theorem dX7_plays_97 : decode cX7_plays 97 = .ok (.iload_n 3, 1) := by decide +kernel
theorem dX7_plays_98 : decode cX7_plays 98 = .ok (.goto 12, 3) := by decide +kernel
theorem dX7_plays_101 : decode cX7_plays 101 = .ok (.aload_n 0, 1) := by decide +kernel
theorem dX7_plays_102 : decode cX7_plays 102 = .ok (.getfield 138, 3) := by decide +kernel
theorem dX7_plays_105 : decode cX7_plays 105 = .ok (.aload_n 0, 1) := by decide +kernel
theorem dX7_plays_106 : decode cX7_plays 106 = .ok (.getfield 175, 3) := by decide +kernel
theorem dX7_plays_109 : decode cX7_plays 109 = .ok (.isub, 1) := by decide +kernel
theorem dX7_plays_110 : decode cX7_plays 110 = .ok (.putfield 191, 3) := by decide +kernel
theorem dX7_plays_113 : decode cX7_plays 113 = .ok (.aload_n 0, 1) := by decide +kernel
theorem dX7_plays_114 : decode cX7_plays 114 = .ok (.dup, 1) := by decide +kernel
theorem dX7_plays_115 : decode cX7_plays 115 = .ok (.getfield 178, 3) := by decide +kernel
theorem dX7_plays_118 : decode cX7_plays 118 = .ok (.iconst 1, 1) := by decide +kernel
theorem dX7_plays_119 : decode cX7_plays 119 = .ok (.iadd, 1) := by decide +kernel
theorem dX7_plays_120 : decode cX7_plays 120 = .ok (.putfield 178, 3) := by decide +kernel
theorem dX7_plays_123 : decode cX7_plays 123 = .ok (.goto (-101), 3) := by decide +kernel
theorem dX7_plays_126 : decode cX7_plays 126 = .ok (.aload_n 0, 1) := by decide +kernel
theorem dX7_plays_127 : decode cX7_plays 127 = .ok (.iconst 0, 1) := by decide +kernel
theorem dX7_plays_128 : decode cX7_plays 128 = .ok (.putfield 31, 3) := by decide +kernel
theorem dX7_plays_131 : decode cX7_plays 131 = .ok (.iload_n 1, 1) := by decide +kernel
theorem dX7_plays_132 : decode cX7_plays 132 = .ok (.ireturn, 1) := by decide +kernel
set_option maxRecDepth 20000 in
theorem ggX7_fault_X7_in : GoodIn wsX7_fault wsX7_in := goodIn_r _ [11] (by decide +kernel) (by decide +kernel)
set_option maxRecDepth 20000 in
theorem gX7_fault_X7_in : GoodIn wsX7_fault (va_wsS RX7 61 yX7_in wsX7_in) := goodIn_app (goodIn_of _ (by decide +kernel)) ggX7_fault_X7_in
set_option maxRecDepth 20000 in
theorem ggX7_fault_X7_copies : GoodIn wsX7_fault wsX7_copies := goodIn_r _ [14] (by decide +kernel) (by decide +kernel)
set_option maxRecDepth 20000 in
theorem gX7_fault_X7_copies : GoodIn wsX7_fault (va_wsS RX7 194 yX7_copies wsX7_copies) := goodIn_app (goodIn_of _ (by decide +kernel)) ggX7_fault_X7_copies
set_option maxRecDepth 20000 in
theorem ggX7_fault_X7_plays : GoodIn wsX7_fault wsX7_plays := goodIn_r _ [18, 19, 20, 5, 21, 22, 1, 6, 7, 23, 24, 25, 10, 26, 27, 28, 29, 30, 31, 32, 8, 9, 11, 33, 34, 35, 36, 37, 38, 39, 40, 41, 42, 43, 44, 45, 46, 47, 48, 49, 50, 51, 52, 2, 53, 54, 55, 56, 57, 58, 59, 60, 61, 62, 63, 64, 65, 66, 67, 68, 69, 70, 71, 72, 73, 74, 75, 76, 4, 77, 78, 79, 80, 81, 82, 83, 84, 85, 86, 87, 88, 89, 90, 91, 92, 93, 94, 95, 96, 97, 98, 99, 100, 101, 102, 103, 104, 105, 106, 107, 108, 109, 110, 111, 112, 113, 114, 115, 116, 117, 118, 119, 120, 121, 122, 123, 124, 125, 126, 127, 128, 129, 130, 131, 132, 133, 134, 135, 136, 137, 138, 139, 140, 141, 142, 143, 144, 145, 146, 147, 148, 149, 150, 151, 152, 153, 154, 155, 156, 157, 158, 159, 160, 161, 162, 163, 164, 165, 166, 167, 168, 169, 170, 171, 172, 173, 174, 175, 176, 177, 178, 179, 180] (by decide +kernel) (by decide +kernel)
set_option maxRecDepth 20000 in
theorem gX7_fault_X7_plays : GoodIn wsX7_fault (wsV RX7 198 RX7 yX7_plays wsX7_plays) := goodIn_app (goodIn_of _ (by decide +kernel)) ggX7_fault_X7_plays
theorem dX7_fault_0 : decode cX7_fault 0 = .ok (.iload_n 1, 1) := by decide +kernel
theorem dX7_fault_1 : decode cX7_fault 1 = .ok (.iconst 0, 1) := by decide +kernel
theorem dX7_fault_2 : decode cX7_fault 2 = .ok (.iconst 2, 1) := by decide +kernel
theorem dX7_fault_3 : decode cX7_fault 3 = .ok (.invokestatic 61, 3) := by decide +kernel
theorem dX7_fault_6 : decode cX7_fault 6 = .ok (.ifCond .ne 6, 3) := by decide +kernel
theorem dX7_fault_9 : decode cX7_fault 9 = .ok (.ldc 65, 2) := by decide +kernel
theorem dX7_fault_11 : decode cX7_fault 11 = .ok (.ireturn, 1) := by decide +kernel
theorem dX7_fault_12 : decode cX7_fault 12 = .ok (.aload_n 0, 1) := by decide +kernel
theorem dX7_fault_13 : decode cX7_fault 13 = .ok (.getfield 7, 3) := by decide +kernel
theorem dX7_fault_16 : decode cX7_fault 16 = .ok (.aload_n 0, 1) := by decide +kernel
theorem dX7_fault_17 : decode cX7_fault 17 = .ok (.getfield 16, 3) := by decide +kernel
theorem dX7_fault_20 : decode cX7_fault 20 = .ok (.invokestatic 194, 3) := by decide +kernel
theorem dX7_fault_23 : decode cX7_fault 23 = .ok (.aload_n 0, 1) := by decide +kernel
theorem dX7_fault_24 : decode cX7_fault 24 = .ok (.invokevirtual 198, 3) := by decide +kernel
theorem dX7_fault_27 : decode cX7_fault 27 = .ok (.istore_n 2, 1) := by decide +kernel
theorem dX7_fault_28 : decode cX7_fault 28 = .ok (.aload_n 0, 1) := by decide +kernel
theorem dX7_fault_29 : decode cX7_fault 29 = .ok (.getfield 16, 3) := by decide +kernel
theorem dX7_fault_32 : decode cX7_fault 32 = .ok (.aload_n 0, 1) := by decide +kernel
theorem dX7_fault_33 : decode cX7_fault 33 = .ok (.getfield 7, 3) := by decide +kernel
theorem dX7_fault_36 : decode cX7_fault 36 = .ok (.invokestatic 194, 3) := by decide +kernel
theorem dX7_fault_39 : decode cX7_fault 39 = .ok (.iload_n 2, 1) := by decide +kernel
theorem dX7_fault_40 : decode cX7_fault 40 = .ok (.ifCond .eq 8, 3) := by decide +kernel
theorem dX7_fault_43 : decode cX7_fault 43 = .ok (.ldc 43, 2) := by decide +kernel
theorem dX7_fault_45 : decode cX7_fault 45 = .ok (.goto 30, 3) := by decide +kernel
theorem dX7_fault_48 : decode cX7_fault 48 = .ok (.iload_n 1, 1) := by decide +kernel
theorem dX7_fault_49 : decode cX7_fault 49 = .ok (.ifCond .ne 10, 3) := by decide +kernel
theorem dX7_fault_52 : decode cX7_fault 52 = .ok (.aload_n 0, 1) := by decide +kernel
theorem dX7_fault_53 : decode cX7_fault 53 = .ok (.getfield 175, 3) := by decide +kernel
theorem dX7_fault_56 : decode cX7_fault 56 = .ok (.goto 19, 3) := by decide +kernel
theorem dX7_fault_59 : decode cX7_fault 59 = .ok (.iload_n 1, 1) := by decide +kernel
theorem dX7_fault_60 : decode cX7_fault 60 = .ok (.iconst 1, 1) := by decide +kernel
theorem dX7_fault_61 : decode cX7_fault 61 = .ok (.if_icmp .ne 10, 3) := by decide +kernel
theorem dX7_fault_64 : decode cX7_fault 64 = .ok (.aload_n 0, 1) := by decide +kernel
theorem dX7_fault_65 : decode cX7_fault 65 = .ok (.getfield 188, 3) := by decide +kernel
theorem dX7_fault_68 : decode cX7_fault 68 = .ok (.goto 7, 3) := by decide +kernel
theorem dX7_fault_71 : decode cX7_fault 71 = .ok (.aload_n 0, 1) := by decide +kernel
theorem dX7_fault_72 : decode cX7_fault 72 = .ok (.getfield 191, 3) := by decide +kernel
theorem dX7_fault_75 : decode cX7_fault 75 = .ok (.ireturn, 1) := by decide +kernel
set_option maxRecDepth 20000 in
theorem ggX7_play_X7_copies : GoodIn wsX7_play wsX7_copies := goodIn_r _ [9] (by decide +kernel) (by decide +kernel)
set_option maxRecDepth 20000 in
theorem gX7_play_X7_copies : GoodIn wsX7_play (va_wsS RX7 194 yX7_copies wsX7_copies) := goodIn_app (goodIn_of _ (by decide +kernel)) ggX7_play_X7_copies
set_option maxRecDepth 20000 in
theorem ggX7_play_X7_plays : GoodIn wsX7_play wsX7_plays := goodIn_r _ [13, 14, 15, 16, 4, 17, 18, 19, 20, 21, 22, 23, 8, 24, 25, 26, 27, 28, 29, 30, 31, 32, 33, 34, 35, 36, 37, 38, 39, 40, 41, 42, 43, 44, 45, 46, 47, 48, 49, 50, 51, 52, 53, 1, 54, 55, 56, 57, 58, 59, 60, 61, 62, 63, 64, 65, 66, 67, 68, 3, 69, 70, 71, 72, 73, 74, 75, 76, 5, 77, 78, 79, 80, 81, 82, 83, 84, 85, 86, 87, 88, 89, 90, 91, 92, 93, 94, 95, 96, 97, 98, 99, 100, 101, 102, 103, 104, 105, 106, 107, 108, 109, 110, 111, 112, 113, 114, 115, 116, 117, 118, 119, 120, 121, 122, 123, 124, 125, 126, 127, 128, 129, 130, 131, 132, 133, 134, 135, 136, 137, 138, 139, 140, 141, 142, 143, 144, 145, 146, 147, 148, 149, 150, 151, 152, 153, 154, 155, 156, 157, 158, 159, 160, 161, 162, 163, 164, 165, 166, 167, 168, 169, 170, 171, 172, 173, 174, 175, 176, 177, 178, 179, 180] (by decide +kernel) (by decide +kernel)
set_option maxRecDepth 20000 in
theorem gX7_play_X7_plays : GoodIn wsX7_play (wsV RX7 198 RX7 yX7_plays wsX7_plays) := goodIn_app (goodIn_of _ (by decide +kernel)) ggX7_play_X7_plays
set_option maxRecDepth 20000 in
theorem ggX7_play_X7_changes : GoodIn wsX7_play wsX7_changes := goodIn_r _ [58, 14, 59, 60, 1, 163, 164, 165, 166, 167, 168, 169, 170, 171, 172, 173, 174, 175, 176, 177, 178, 179, 180] (by decide +kernel) (by decide +kernel)
set_option maxRecDepth 20000 in
theorem gX7_play_X7_changes : GoodIn wsX7_play (wsV RX7 67 RX7 yX7_changes wsX7_changes) := goodIn_app (goodIn_of _ (by decide +kernel)) ggX7_play_X7_changes
theorem dX7_play_0 : decode cX7_play 0 = .ok (.aload_n 0, 1) := by decide +kernel
theorem dX7_play_1 : decode cX7_play 1 = .ok (.getfield 7, 3) := by decide +kernel
theorem dX7_play_4 : decode cX7_play 4 = .ok (.aload_n 0, 1) := by decide +kernel
theorem dX7_play_5 : decode cX7_play 5 = .ok (.getfield 16, 3) := by decide +kernel
theorem dX7_play_8 : decode cX7_play 8 = .ok (.invokestatic 194, 3) := by decide +kernel
theorem dX7_play_11 : decode cX7_play 11 = .ok (.aload_n 0, 1) := by decide +kernel
theorem dX7_play_12 : decode cX7_play 12 = .ok (.invokevirtual 198, 3) := by decide +kernel
theorem dX7_play_15 : decode cX7_play 15 = .ok (.istore_n 1, 1) := by decide +kernel
theorem dX7_play_16 : decode cX7_play 16 = .ok (.aload_n 0, 1) := by decide +kernel
theorem dX7_play_17 : decode cX7_play 17 = .ok (.getfield 16, 3) := by decide +kernel
theorem dX7_play_20 : decode cX7_play 20 = .ok (.aload_n 0, 1) := by decide +kernel
theorem dX7_play_21 : decode cX7_play 21 = .ok (.getfield 7, 3) := by decide +kernel
theorem dX7_play_24 : decode cX7_play 24 = .ok (.invokestatic 194, 3) := by decide +kernel
theorem dX7_play_27 : decode cX7_play 27 = .ok (.iload_n 1, 1) := by decide +kernel
theorem dX7_play_28 : decode cX7_play 28 = .ok (.ifCond .ne 6, 3) := by decide +kernel
theorem dX7_play_31 : decode cX7_play 31 = .ok (.ldc 77, 2) := by decide +kernel
theorem dX7_play_33 : decode cX7_play 33 = .ok (.ireturn, 1) := by decide +kernel
theorem dX7_play_34 : decode cX7_play 34 = .ok (.aload_n 0, 1) := by decide +kernel
theorem dX7_play_35 : decode cX7_play 35 = .ok (.invokevirtual 67, 3) := by decide +kernel
theorem dX7_play_38 : decode cX7_play 38 = .ok (.aload_n 0, 1) := by decide +kernel
theorem dX7_play_39 : decode cX7_play 39 = .ok (.invokevirtual 198, 3) := by decide +kernel
theorem dX7_play_42 : decode cX7_play 42 = .ok (.ifCond .eq 10, 3) := by decide +kernel
theorem dX7_play_45 : decode cX7_play 45 = .ok (.aload_n 0, 1) := by decide +kernel
theorem dX7_play_46 : decode cX7_play 46 = .ok (.getfield 178, 3) := by decide +kernel
theorem dX7_play_49 : decode cX7_play 49 = .ok (.goto 5, 3) := by decide +kernel
theorem dX7_play_52 : decode cX7_play 52 = .ok (.ldc 43, 2) := by decide +kernel
theorem dX7_play_54 : decode cX7_play 54 = .ok (.ireturn, 1) := by decide +kernel
