theorem dL_cell_0 : decode cL_cell 0 = .ok (.iload_n 1, 1) := by decide +kernel
theorem dL_cell_1 : decode cL_cell 1 = .ok (.aload_n 0, 1) := by decide +kernel
theorem dL_cell_2 : decode cL_cell 2 = .ok (.arraylength, 1) := by decide +kernel
theorem dL_cell_3 : decode cL_cell 3 = .ok (.if_icmp .ge 9, 3) := by decide +kernel
theorem dL_cell_6 : decode cL_cell 6 = .ok (.aload_n 0, 1) := by decide +kernel
theorem dL_cell_7 : decode cL_cell 7 = .ok (.iload_n 1, 1) := by decide +kernel
theorem dL_cell_8 : decode cL_cell 8 = .ok (.iaload, 1) := by decide +kernel
theorem dL_cell_9 : decode cL_cell 9 = .ok (.goto 9, 3) := by decide +kernel
theorem dL_cell_12 : decode cL_cell 12 = .ok (.ldc 7, 2) := by decide +kernel
theorem dL_cell_14 : decode cL_cell 14 = .ok (.iload_n 1, 1) := by decide +kernel
theorem dL_cell_15 : decode cL_cell 15 = .ok (.iconst 3, 1) := by decide +kernel
theorem dL_cell_16 : decode cL_cell 16 = .ok (.iadd, 1) := by decide +kernel
theorem dL_cell_17 : decode cL_cell 17 = .ok (.imul, 1) := by decide +kernel
theorem dL_cell_18 : decode cL_cell 18 = .ok (.ireturn, 1) := by decide +kernel
theorem dL_low_0 : decode cL_low 0 = .ok (.iload_n 0, 1) := by decide +kernel
theorem dL_low_1 : decode cL_low 1 = .ok (.ldc 8, 2) := by decide +kernel
theorem dL_low_3 : decode cL_low 3 = .ok (.iand, 1) := by decide +kernel
theorem dL_low_4 : decode cL_low 4 = .ok (.iload_n 1, 1) := by decide +kernel
theorem dL_low_5 : decode cL_low 5 = .ok (.irem, 1) := by decide +kernel
theorem dL_low_6 : decode cL_low 6 = .ok (.ireturn, 1) := by decide +kernel
theorem dL_find_0 : decode cL_find 0 = .ok (.iconst 0, 1) := by decide +kernel
theorem dL_find_1 : decode cL_find 1 = .ok (.istore_n 3, 1) := by decide +kernel
theorem dL_find_2 : decode cL_find 2 = .ok (.iload_n 3, 1) := by decide +kernel
theorem dL_find_3 : decode cL_find 3 = .ok (.aload_n 0, 1) := by decide +kernel
theorem dL_find_4 : decode cL_find 4 = .ok (.bipush 6, 2) := by decide +kernel
theorem dL_find_6 : decode cL_find 6 = .ok (.iaload, 1) := by decide +kernel
theorem dL_find_7 : decode cL_find 7 = .ok (.if_icmp .ge 18, 3) := by decide +kernel
theorem dL_find_10 : decode cL_find 10 = .ok (.aload_n 1, 1) := by decide +kernel
theorem dL_find_11 : decode cL_find 11 = .ok (.iconst 4, 1) := by decide +kernel
theorem dL_find_12 : decode cL_find 12 = .ok (.iload_n 3, 1) := by decide +kernel
theorem dL_find_13 : decode cL_find 13 = .ok (.imul, 1) := by decide +kernel
theorem dL_find_14 : decode cL_find 14 = .ok (.iaload, 1) := by decide +kernel
theorem dL_find_15 : decode cL_find 15 = .ok (.iload_n 2, 1) := by decide +kernel
theorem dL_find_16 : decode cL_find 16 = .ok (.if_icmp .eq 9, 3) := by decide +kernel
theorem dL_find_19 : decode cL_find 19 = .ok (.iinc 3 1, 3) := by decide +kernel
theorem dL_find_22 : decode cL_find 22 = .ok (.goto (-20), 3) := by decide +kernel
theorem dL_find_25 : decode cL_find 25 = .ok (.iload_n 3, 1) := by decide +kernel
theorem dL_find_26 : decode cL_find 26 = .ok (.aload_n 0, 1) := by decide +kernel
theorem dL_find_27 : decode cL_find 27 = .ok (.bipush 6, 2) := by decide +kernel
theorem dL_find_29 : decode cL_find 29 = .ok (.iaload, 1) := by decide +kernel
theorem dL_find_30 : decode cL_find 30 = .ok (.if_icmp .ge 7, 3) := by decide +kernel
theorem dL_find_33 : decode cL_find 33 = .ok (.iload_n 3, 1) := by decide +kernel
theorem dL_find_34 : decode cL_find 34 = .ok (.goto 4, 3) := by decide +kernel
theorem dL_find_37 : decode cL_find 37 = .ok (.iconst (-1), 1) := by decide +kernel
theorem dL_find_38 : decode cL_find 38 = .ok (.ireturn, 1) := by decide +kernel
theorem dL_cup_0 : decode cL_cup 0 = .ok (.aload_n 0, 1) := by decide +kernel
theorem dL_cup_1 : decode cL_cup 1 = .ok (.iconst 4, 1) := by decide +kernel
theorem dL_cup_2 : decode cL_cup 2 = .ok (.iload_n 1, 1) := by decide +kernel
theorem dL_cup_3 : decode cL_cup 3 = .ok (.imul, 1) := by decide +kernel
theorem dL_cup_4 : decode cL_cup 4 = .ok (.iconst 2, 1) := by decide +kernel
theorem dL_cup_5 : decode cL_cup 5 = .ok (.iadd, 1) := by decide +kernel
theorem dL_cup_6 : decode cL_cup 6 = .ok (.iaload, 1) := by decide +kernel
theorem dL_cup_7 : decode cL_cup 7 = .ok (.iload_n 2, 1) := by decide +kernel
theorem dL_cup_8 : decode cL_cup 8 = .ok (.aload_n 0, 1) := by decide +kernel
theorem dL_cup_9 : decode cL_cup 9 = .ok (.iconst 4, 1) := by decide +kernel
theorem dL_cup_10 : decode cL_cup 10 = .ok (.iload_n 1, 1) := by decide +kernel
theorem dL_cup_11 : decode cL_cup 11 = .ok (.imul, 1) := by decide +kernel
theorem dL_cup_12 : decode cL_cup 12 = .ok (.iconst 3, 1) := by decide +kernel
theorem dL_cup_13 : decode cL_cup 13 = .ok (.iadd, 1) := by decide +kernel
theorem dL_cup_14 : decode cL_cup 14 = .ok (.iaload, 1) := by decide +kernel
theorem dL_cup_15 : decode cL_cup 15 = .ok (.isub, 1) := by decide +kernel
theorem dL_cup_16 : decode cL_cup 16 = .ok (.iconst 4, 1) := by decide +kernel
theorem dL_cup_17 : decode cL_cup 17 = .ok (.idiv, 1) := by decide +kernel
theorem dL_cup_18 : decode cL_cup 18 = .ok (.isub, 1) := by decide +kernel
theorem dL_cup_19 : decode cL_cup 19 = .ok (.istore_n 3, 1) := by decide +kernel
theorem dL_cup_20 : decode cL_cup 20 = .ok (.iload_n 3, 1) := by decide +kernel
theorem dL_cup_21 : decode cL_cup 21 = .ok (.bipush 60, 2) := by decide +kernel
theorem dL_cup_23 : decode cL_cup 23 = .ok (.if_icmp .le 7, 3) := by decide +kernel
theorem dL_cup_26 : decode cL_cup 26 = .ok (.iload_n 3, 1) := by decide +kernel
theorem dL_cup_27 : decode cL_cup 27 = .ok (.goto 5, 3) := by decide +kernel
theorem dL_cup_30 : decode cL_cup 30 = .ok (.bipush 60, 2) := by decide +kernel
theorem dL_cup_32 : decode cL_cup 32 = .ok (.ireturn, 1) := by decide +kernel
theorem dL_band_0 : decode cL_band 0 = .ok (.iload_n 0, 1) := by decide +kernel
theorem dL_band_1 : decode cL_band 1 = .ok (.bipush 89, 2) := by decide +kernel
theorem dL_band_3 : decode cL_band 3 = .ok (.if_icmp .le 7, 3) := by decide +kernel
theorem dL_band_6 : decode cL_band 6 = .ok (.iconst 3, 1) := by decide +kernel
theorem dL_band_7 : decode cL_band 7 = .ok (.goto 24, 3) := by decide +kernel
theorem dL_band_10 : decode cL_band 10 = .ok (.iload_n 0, 1) := by decide +kernel
theorem dL_band_11 : decode cL_band 11 = .ok (.bipush 79, 2) := by decide +kernel
theorem dL_band_13 : decode cL_band 13 = .ok (.if_icmp .le 7, 3) := by decide +kernel
theorem dL_band_16 : decode cL_band 16 = .ok (.iconst 2, 1) := by decide +kernel
theorem dL_band_17 : decode cL_band 17 = .ok (.goto 14, 3) := by decide +kernel
theorem dL_band_20 : decode cL_band 20 = .ok (.iload_n 0, 1) := by decide +kernel
theorem dL_band_21 : decode cL_band 21 = .ok (.bipush 69, 2) := by decide +kernel
theorem dL_band_23 : decode cL_band 23 = .ok (.if_icmp .le 7, 3) := by decide +kernel
theorem dL_band_26 : decode cL_band 26 = .ok (.iconst 1, 1) := by decide +kernel
theorem dL_band_27 : decode cL_band 27 = .ok (.goto 4, 3) := by decide +kernel
theorem dL_band_30 : decode cL_band 30 = .ok (.iconst 0, 1) := by decide +kernel
theorem dL_band_31 : decode cL_band 31 = .ok (.ireturn, 1) := by decide +kernel
theorem dL_paid_0 : decode cL_paid 0 = .ok (.iload 4, 2) := by decide +kernel
theorem dL_paid_2 : decode cL_paid 2 = .ok (.aload_n 1, 1) := by decide +kernel
theorem dL_paid_3 : decode cL_paid 3 = .ok (.iconst 4, 1) := by decide +kernel
theorem dL_paid_4 : decode cL_paid 4 = .ok (.iload_n 2, 1) := by decide +kernel
theorem dL_paid_5 : decode cL_paid 5 = .ok (.imul, 1) := by decide +kernel
theorem dL_paid_6 : decode cL_paid 6 = .ok (.iconst 3, 1) := by decide +kernel
theorem dL_paid_7 : decode cL_paid 7 = .ok (.iadd, 1) := by decide +kernel
theorem dL_paid_8 : decode cL_paid 8 = .ok (.iaload, 1) := by decide +kernel
theorem dL_paid_9 : decode cL_paid 9 = .ok (.isub, 1) := by decide +kernel
theorem dL_paid_10 : decode cL_paid 10 = .ok (.iconst 3, 1) := by decide +kernel
theorem dL_paid_11 : decode cL_paid 11 = .ok (.if_icmp .le 18, 3) := by decide +kernel
theorem dL_paid_14 : decode cL_paid 14 = .ok (.iload 4, 2) := by decide +kernel
theorem dL_paid_16 : decode cL_paid 16 = .ok (.aload_n 1, 1) := by decide +kernel
theorem dL_paid_17 : decode cL_paid 17 = .ok (.iconst 4, 1) := by decide +kernel
theorem dL_paid_18 : decode cL_paid 18 = .ok (.iload_n 2, 1) := by decide +kernel
theorem dL_paid_19 : decode cL_paid 19 = .ok (.imul, 1) := by decide +kernel
theorem dL_paid_20 : decode cL_paid 20 = .ok (.iconst 3, 1) := by decide +kernel
theorem dL_paid_21 : decode cL_paid 21 = .ok (.iadd, 1) := by decide +kernel
theorem dL_paid_22 : decode cL_paid 22 = .ok (.iaload, 1) := by decide +kernel
theorem dL_paid_23 : decode cL_paid 23 = .ok (.isub, 1) := by decide +kernel
theorem dL_paid_24 : decode cL_paid 24 = .ok (.iconst 3, 1) := by decide +kernel
theorem dL_paid_25 : decode cL_paid 25 = .ok (.isub, 1) := by decide +kernel
theorem dL_paid_26 : decode cL_paid 26 = .ok (.goto 4, 3) := by decide +kernel
theorem dL_paid_29 : decode cL_paid 29 = .ok (.iconst 0, 1) := by decide +kernel
theorem dL_paid_30 : decode cL_paid 30 = .ok (.istore 5, 2) := by decide +kernel
theorem dL_paid_32 : decode cL_paid 32 = .ok (.iload_n 3, 1) := by decide +kernel
theorem dL_paid_33 : decode cL_paid 33 = .ok (.aload_n 1, 1) := by decide +kernel
theorem dL_paid_34 : decode cL_paid 34 = .ok (.iload_n 2, 1) := by decide +kernel
theorem dL_paid_35 : decode cL_paid 35 = .ok (.iload 4, 2) := by decide +kernel
theorem dL_paid_37 : decode cL_paid 37 = .ok (.invokestatic 9, 3) := by decide +kernel
theorem dL_paid_40 : decode cL_paid 40 = .ok (.aload_n 0, 1) := by decide +kernel
theorem dL_paid_41 : decode cL_paid 41 = .ok (.bipush 10, 2) := by decide +kernel
theorem dL_paid_43 : decode cL_paid 43 = .ok (.iaload, 1) := by decide +kernel
theorem dL_paid_44 : decode cL_paid 44 = .ok (.imul, 1) := by decide +kernel
theorem dL_paid_45 : decode cL_paid 45 = .ok (.iadd, 1) := by decide +kernel
theorem dL_paid_46 : decode cL_paid 46 = .ok (.bipush 80, 2) := by decide +kernel
theorem dL_paid_48 : decode cL_paid 48 = .ok (.aload_n 0, 1) := by decide +kernel
theorem dL_paid_49 : decode cL_paid 49 = .ok (.bipush 10, 2) := by decide +kernel
theorem dL_paid_51 : decode cL_paid 51 = .ok (.iaload, 1) := by decide +kernel
theorem dL_paid_52 : decode cL_paid 52 = .ok (.imul, 1) := by decide +kernel
theorem dL_paid_53 : decode cL_paid 53 = .ok (.isub, 1) := by decide +kernel
theorem dL_paid_54 : decode cL_paid 54 = .ok (.iload 5, 2) := by decide +kernel
theorem dL_paid_56 : decode cL_paid 56 = .ok (.aload_n 0, 1) := by decide +kernel
theorem dL_paid_57 : decode cL_paid 57 = .ok (.bipush 11, 2) := by decide +kernel
theorem dL_paid_59 : decode cL_paid 59 = .ok (.iaload, 1) := by decide +kernel
theorem dL_paid_60 : decode cL_paid 60 = .ok (.imul, 1) := by decide +kernel
theorem dL_paid_61 : decode cL_paid 61 = .ok (.isub, 1) := by decide +kernel
theorem dL_paid_62 : decode cL_paid 62 = .ok (.istore 6, 2) := by decide +kernel
theorem dL_paid_64 : decode cL_paid 64 = .ok (.iload 6, 2) := by decide +kernel
theorem dL_paid_66 : decode cL_paid 66 = .ok (.iconst 1, 1) := by decide +kernel
theorem dL_paid_67 : decode cL_paid 67 = .ok (.if_icmp .le 8, 3) := by decide +kernel
theorem dL_paid_70 : decode cL_paid 70 = .ok (.iload 6, 2) := by decide +kernel
theorem dL_paid_72 : decode cL_paid 72 = .ok (.goto 4, 3) := by decide +kernel
theorem dL_paid_75 : decode cL_paid 75 = .ok (.iconst 1, 1) := by decide +kernel
theorem dL_paid_76 : decode cL_paid 76 = .ok (.ireturn, 1) := by decide +kernel
theorem dL_gain_0 : decode cL_gain 0 = .ok (.aload_n 0, 1) := by decide +kernel
theorem dL_gain_1 : decode cL_gain 1 = .ok (.aload_n 1, 1) := by decide +kernel
theorem dL_gain_2 : decode cL_gain 2 = .ok (.iload_n 2, 1) := by decide +kernel
theorem dL_gain_3 : decode cL_gain 3 = .ok (.iload_n 3, 1) := by decide +kernel
theorem dL_gain_4 : decode cL_gain 4 = .ok (.iload 4, 2) := by decide +kernel
theorem dL_gain_6 : decode cL_gain 6 = .ok (.invokestatic 15, 3) := by decide +kernel
theorem dL_gain_9 : decode cL_gain 9 = .ok (.aload_n 0, 1) := by decide +kernel
theorem dL_gain_10 : decode cL_gain 10 = .ok (.bipush 13, 2) := by decide +kernel
theorem dL_gain_12 : decode cL_gain 12 = .ok (.aload_n 1, 1) := by decide +kernel
theorem dL_gain_13 : decode cL_gain 13 = .ok (.iload_n 2, 1) := by decide +kernel
theorem dL_gain_14 : decode cL_gain 14 = .ok (.iload 4, 2) := by decide +kernel
theorem dL_gain_16 : decode cL_gain 16 = .ok (.invokestatic 9, 3) := by decide +kernel
theorem dL_gain_19 : decode cL_gain 19 = .ok (.invokestatic 19, 3) := by decide +kernel
theorem dL_gain_22 : decode cL_gain 22 = .ok (.iadd, 1) := by decide +kernel
theorem dL_gain_23 : decode cL_gain 23 = .ok (.iaload, 1) := by decide +kernel
theorem dL_gain_24 : decode cL_gain 24 = .ok (.isub, 1) := by decide +kernel
theorem dL_gain_25 : decode cL_gain 25 = .ok (.ireturn, 1) := by decide +kernel
theorem dL_makes_0 : decode cL_makes 0 = .ok (.iconst 4, 1) := by decide +kernel
theorem dL_makes_1 : decode cL_makes 1 = .ok (.aload_n 0, 1) := by decide +kernel
theorem dL_makes_2 : decode cL_makes 2 = .ok (.bipush 6, 2) := by decide +kernel
theorem dL_makes_4 : decode cL_makes 4 = .ok (.iaload, 1) := by decide +kernel
theorem dL_makes_5 : decode cL_makes 5 = .ok (.imul, 1) := by decide +kernel
theorem dL_makes_6 : decode cL_makes 6 = .ok (.istore 5, 2) := by decide +kernel
theorem dL_makes_8 : decode cL_makes 8 = .ok (.aload_n 1, 1) := by decide +kernel
theorem dL_makes_9 : decode cL_makes 9 = .ok (.iload 5, 2) := by decide +kernel
theorem dL_makes_11 : decode cL_makes 11 = .ok (.aload_n 0, 1) := by decide +kernel
theorem dL_makes_12 : decode cL_makes 12 = .ok (.iconst 5, 1) := by decide +kernel
theorem dL_makes_13 : decode cL_makes 13 = .ok (.iaload, 1) := by decide +kernel
theorem dL_makes_14 : decode cL_makes 14 = .ok (.iastore, 1) := by decide +kernel
theorem dL_makes_15 : decode cL_makes 15 = .ok (.aload_n 1, 1) := by decide +kernel
theorem dL_makes_16 : decode cL_makes 16 = .ok (.iload 5, 2) := by decide +kernel
theorem dL_makes_18 : decode cL_makes 18 = .ok (.iconst 1, 1) := by decide +kernel
theorem dL_makes_19 : decode cL_makes 19 = .ok (.iadd, 1) := by decide +kernel
theorem dL_makes_20 : decode cL_makes 20 = .ok (.iload_n 2, 1) := by decide +kernel
theorem dL_makes_21 : decode cL_makes 21 = .ok (.iastore, 1) := by decide +kernel
theorem dL_makes_22 : decode cL_makes 22 = .ok (.aload_n 1, 1) := by decide +kernel
theorem dL_makes_23 : decode cL_makes 23 = .ok (.iload 5, 2) := by decide +kernel
theorem dL_makes_25 : decode cL_makes 25 = .ok (.iconst 2, 1) := by decide +kernel
theorem dL_makes_26 : decode cL_makes 26 = .ok (.iadd, 1) := by decide +kernel
theorem dL_makes_27 : decode cL_makes 27 = .ok (.iload_n 3, 1) := by decide +kernel
theorem dL_makes_28 : decode cL_makes 28 = .ok (.iastore, 1) := by decide +kernel
theorem dL_makes_29 : decode cL_makes 29 = .ok (.aload_n 1, 1) := by decide +kernel
theorem dL_makes_30 : decode cL_makes 30 = .ok (.iload 5, 2) := by decide +kernel
theorem dL_makes_32 : decode cL_makes 32 = .ok (.iconst 3, 1) := by decide +kernel
theorem dL_makes_33 : decode cL_makes 33 = .ok (.iadd, 1) := by decide +kernel
theorem dL_makes_34 : decode cL_makes 34 = .ok (.iload 4, 2) := by decide +kernel
theorem dL_makes_36 : decode cL_makes 36 = .ok (.iastore, 1) := by decide +kernel
theorem dL_makes_37 : decode cL_makes 37 = .ok (.aload_n 0, 1) := by decide +kernel
theorem dL_makes_38 : decode cL_makes 38 = .ok (.iconst 5, 1) := by decide +kernel
theorem dL_makes_39 : decode cL_makes 39 = .ok (.dup2, 1) := by decide +kernel
theorem dL_makes_40 : decode cL_makes 40 = .ok (.iaload, 1) := by decide +kernel
theorem dL_makes_41 : decode cL_makes 41 = .ok (.iconst 1, 1) := by decide +kernel
theorem dL_makes_42 : decode cL_makes 42 = .ok (.iadd, 1) := by decide +kernel
theorem dL_makes_43 : decode cL_makes 43 = .ok (.iastore, 1) := by decide +kernel
theorem dL_makes_44 : decode cL_makes 44 = .ok (.aload_n 0, 1) := by decide +kernel
theorem dL_makes_45 : decode cL_makes 45 = .ok (.bipush 6, 2) := by decide +kernel
theorem dL_makes_47 : decode cL_makes 47 = .ok (.dup2, 1) := by decide +kernel
theorem dL_makes_48 : decode cL_makes 48 = .ok (.iaload, 1) := by decide +kernel
theorem dL_makes_49 : decode cL_makes 49 = .ok (.iconst 1, 1) := by decide +kernel
theorem dL_makes_50 : decode cL_makes 50 = .ok (.iadd, 1) := by decide +kernel
theorem dL_makes_51 : decode cL_makes 51 = .ok (.iastore, 1) := by decide +kernel
theorem dL_makes_52 : decode cL_makes 52 = .ok (.aload_n 0, 1) := by decide +kernel
theorem dL_makes_53 : decode cL_makes 53 = .ok (.iconst 5, 1) := by decide +kernel
theorem dL_makes_54 : decode cL_makes 54 = .ok (.iaload, 1) := by decide +kernel
theorem dL_makes_55 : decode cL_makes 55 = .ok (.iconst 1, 1) := by decide +kernel
theorem dL_makes_56 : decode cL_makes 56 = .ok (.isub, 1) := by decide +kernel
theorem dL_makes_57 : decode cL_makes 57 = .ok (.ireturn, 1) := by decide +kernel
theorem dL_takes_0 : decode cL_takes 0 = .ok (.aload_n 0, 1) := by decide +kernel
theorem dL_takes_1 : decode cL_takes 1 = .ok (.aload_n 1, 1) := by decide +kernel
theorem dL_takes_2 : decode cL_takes 2 = .ok (.iload_n 2, 1) := by decide +kernel
theorem dL_takes_3 : decode cL_takes 3 = .ok (.invokestatic 23, 3) := by decide +kernel
theorem dL_takes_6 : decode cL_takes 6 = .ok (.istore 4, 2) := by decide +kernel
theorem dL_takes_8 : decode cL_takes 8 = .ok (.aload_n 1, 1) := by decide +kernel
theorem dL_takes_9 : decode cL_takes 9 = .ok (.iconst 4, 1) := by decide +kernel
theorem dL_takes_10 : decode cL_takes 10 = .ok (.iload 4, 2) := by decide +kernel
theorem dL_takes_12 : decode cL_takes 12 = .ok (.imul, 1) := by decide +kernel
theorem dL_takes_13 : decode cL_takes 13 = .ok (.iconst 1, 1) := by decide +kernel
theorem dL_takes_14 : decode cL_takes 14 = .ok (.iadd, 1) := by decide +kernel
theorem dL_takes_15 : decode cL_takes 15 = .ok (.dup2, 1) := by decide +kernel
theorem dL_takes_16 : decode cL_takes 16 = .ok (.iaload, 1) := by decide +kernel
theorem dL_takes_17 : decode cL_takes 17 = .ok (.iload_n 3, 1) := by decide +kernel
theorem dL_takes_18 : decode cL_takes 18 = .ok (.isub, 1) := by decide +kernel
theorem dL_takes_19 : decode cL_takes 19 = .ok (.iastore, 1) := by decide +kernel
theorem dL_takes_20 : decode cL_takes 20 = .ok (.aload_n 1, 1) := by decide +kernel
theorem dL_takes_21 : decode cL_takes 21 = .ok (.iconst 4, 1) := by decide +kernel
theorem dL_takes_22 : decode cL_takes 22 = .ok (.iload 4, 2) := by decide +kernel
theorem dL_takes_24 : decode cL_takes 24 = .ok (.imul, 1) := by decide +kernel
theorem dL_takes_25 : decode cL_takes 25 = .ok (.iconst 1, 1) := by decide +kernel
theorem dL_takes_26 : decode cL_takes 26 = .ok (.iadd, 1) := by decide +kernel
theorem dL_takes_27 : decode cL_takes 27 = .ok (.iaload, 1) := by decide +kernel
theorem dL_takes_28 : decode cL_takes 28 = .ok (.ifCond .le 4, 3) := by decide +kernel
theorem dL_takes_31 : decode cL_takes 31 = .ok (.return_, 1) := by decide +kernel
theorem dL_takes_32 : decode cL_takes 32 = .ok (.aload_n 0, 1) := by decide +kernel
theorem dL_takes_33 : decode cL_takes 33 = .ok (.bipush 6, 2) := by decide +kernel
theorem dL_takes_35 : decode cL_takes 35 = .ok (.dup2, 1) := by decide +kernel
theorem dL_takes_36 : decode cL_takes 36 = .ok (.iaload, 1) := by decide +kernel
theorem dL_takes_37 : decode cL_takes 37 = .ok (.iconst 1, 1) := by decide +kernel
theorem dL_takes_38 : decode cL_takes 38 = .ok (.isub, 1) := by decide +kernel
theorem dL_takes_39 : decode cL_takes 39 = .ok (.iastore, 1) := by decide +kernel
theorem dL_takes_40 : decode cL_takes 40 = .ok (.iconst 4, 1) := by decide +kernel
theorem dL_takes_41 : decode cL_takes 41 = .ok (.iload 4, 2) := by decide +kernel
theorem dL_takes_43 : decode cL_takes 43 = .ok (.imul, 1) := by decide +kernel
theorem dL_takes_44 : decode cL_takes 44 = .ok (.istore 5, 2) := by decide +kernel
theorem dL_takes_46 : decode cL_takes 46 = .ok (.iload 5, 2) := by decide +kernel
theorem dL_takes_48 : decode cL_takes 48 = .ok (.iconst 4, 1) := by decide +kernel
theorem dL_takes_49 : decode cL_takes 49 = .ok (.aload_n 0, 1) := by decide +kernel
theorem dL_takes_50 : decode cL_takes 50 = .ok (.bipush 6, 2) := by decide +kernel
theorem dL_takes_52 : decode cL_takes 52 = .ok (.iaload, 1) := by decide +kernel
theorem dL_takes_53 : decode cL_takes 53 = .ok (.imul, 1) := by decide +kernel
theorem dL_takes_54 : decode cL_takes 54 = .ok (.if_icmp .ge 19, 3) := by decide +kernel
theorem dL_takes_57 : decode cL_takes 57 = .ok (.aload_n 1, 1) := by decide +kernel
theorem dL_takes_58 : decode cL_takes 58 = .ok (.iload 5, 2) := by decide +kernel
theorem dL_takes_60 : decode cL_takes 60 = .ok (.aload_n 1, 1) := by decide +kernel
theorem dL_takes_61 : decode cL_takes 61 = .ok (.iload 5, 2) := by decide +kernel
theorem dL_takes_63 : decode cL_takes 63 = .ok (.iconst 4, 1) := by decide +kernel
theorem dL_takes_64 : decode cL_takes 64 = .ok (.iadd, 1) := by decide +kernel
theorem dL_takes_65 : decode cL_takes 65 = .ok (.iaload, 1) := by decide +kernel
theorem dL_takes_66 : decode cL_takes 66 = .ok (.iastore, 1) := by decide +kernel
theorem dL_takes_67 : decode cL_takes 67 = .ok (.iinc 5 1, 3) := by decide +kernel
theorem dL_takes_70 : decode cL_takes 70 = .ok (.goto (-24), 3) := by decide +kernel
theorem dL_takes_73 : decode cL_takes 73 = .ok (.return_, 1) := by decide +kernel
theorem dL_gives_0 : decode cL_gives 0 = .ok (.iconst 0, 1) := by decide +kernel
theorem dL_gives_1 : decode cL_gives 1 = .ok (.istore 5, 2) := by decide +kernel
theorem dL_gives_3 : decode cL_gives 3 = .ok (.aload_n 0, 1) := by decide +kernel
theorem dL_gives_4 : decode cL_gives 4 = .ok (.bipush 8, 2) := by decide +kernel
theorem dL_gives_6 : decode cL_gives 6 = .ok (.iaload, 1) := by decide +kernel
theorem dL_gives_7 : decode cL_gives 7 = .ok (.istore 6, 2) := by decide +kernel
theorem dL_gives_9 : decode cL_gives 9 = .ok (.ldc 27, 2) := by decide +kernel
theorem dL_gives_11 : decode cL_gives 11 = .ok (.istore 7, 2) := by decide +kernel
theorem dL_gives_13 : decode cL_gives 13 = .ok (.iconst (-1), 1) := by decide +kernel
theorem dL_gives_14 : decode cL_gives 14 = .ok (.istore 8, 2) := by decide +kernel
theorem dL_gives_16 : decode cL_gives 16 = .ok (.iload 6, 2) := by decide +kernel
theorem dL_gives_18 : decode cL_gives 18 = .ok (.ifCond .le 206, 3) := by decide +kernel
theorem dL_gives_21 : decode cL_gives 21 = .ok (.iconst (-1), 1) := by decide +kernel
theorem dL_gives_22 : decode cL_gives 22 = .ok (.istore 9, 2) := by decide +kernel
theorem dL_gives_24 : decode cL_gives 24 = .ok (.iconst 0, 1) := by decide +kernel
theorem dL_gives_25 : decode cL_gives 25 = .ok (.istore 10, 2) := by decide +kernel
theorem dL_gives_27 : decode cL_gives 27 = .ok (.iload 10, 2) := by decide +kernel
theorem dL_gives_29 : decode cL_gives 29 = .ok (.aload_n 0, 1) := by decide +kernel
theorem dL_gives_30 : decode cL_gives 30 = .ok (.bipush 6, 2) := by decide +kernel
theorem dL_gives_32 : decode cL_gives 32 = .ok (.iaload, 1) := by decide +kernel
theorem dL_gives_33 : decode cL_gives 33 = .ok (.if_icmp .ge 93, 3) := by decide +kernel
theorem dL_gives_36 : decode cL_gives 36 = .ok (.aload_n 0, 1) := by decide +kernel
theorem dL_gives_37 : decode cL_gives 37 = .ok (.aload_n 1, 1) := by decide +kernel
theorem dL_gives_38 : decode cL_gives 38 = .ok (.iload 10, 2) := by decide +kernel
theorem dL_gives_40 : decode cL_gives 40 = .ok (.iload_n 2, 1) := by decide +kernel
theorem dL_gives_41 : decode cL_gives 41 = .ok (.iload_n 3, 1) := by decide +kernel
theorem dL_gives_42 : decode cL_gives 42 = .ok (.invokestatic 28, 3) := by decide +kernel
theorem dL_gives_45 : decode cL_gives 45 = .ok (.istore 11, 2) := by decide +kernel
theorem dL_gives_47 : decode cL_gives 47 = .ok (.iload 11, 2) := by decide +kernel
theorem dL_gives_49 : decode cL_gives 49 = .ok (.iload 7, 2) := by decide +kernel
theorem dL_gives_51 : decode cL_gives 51 = .ok (.if_icmp .lt 17, 3) := by decide +kernel
theorem dL_gives_54 : decode cL_gives 54 = .ok (.iload 11, 2) := by decide +kernel
theorem dL_gives_56 : decode cL_gives 56 = .ok (.iload 7, 2) := by decide +kernel
theorem dL_gives_58 : decode cL_gives 58 = .ok (.if_icmp .ne 14, 3) := by decide +kernel
theorem dL_gives_61 : decode cL_gives 61 = .ok (.iload 10, 2) := by decide +kernel
theorem dL_gives_63 : decode cL_gives 63 = .ok (.iload 8, 2) := by decide +kernel
theorem dL_gives_65 : decode cL_gives 65 = .ok (.if_icmp .le 7, 3) := by decide +kernel
theorem dL_gives_68 : decode cL_gives 68 = .ok (.iconst 1, 1) := by decide +kernel
theorem dL_gives_69 : decode cL_gives 69 = .ok (.goto 4, 3) := by decide +kernel
theorem dL_gives_72 : decode cL_gives 72 = .ok (.iconst 0, 1) := by decide +kernel
theorem dL_gives_73 : decode cL_gives 73 = .ok (.istore 12, 2) := by decide +kernel
theorem dL_gives_75 : decode cL_gives 75 = .ok (.iload 12, 2) := by decide +kernel
theorem dL_gives_77 : decode cL_gives 77 = .ok (.ifCond .eq 39, 3) := by decide +kernel
theorem dL_gives_80 : decode cL_gives 80 = .ok (.aload_n 1, 1) := by decide +kernel
theorem dL_gives_81 : decode cL_gives 81 = .ok (.iload 10, 2) := by decide +kernel
theorem dL_gives_83 : decode cL_gives 83 = .ok (.iload_n 3, 1) := by decide +kernel
theorem dL_gives_84 : decode cL_gives 84 = .ok (.invokestatic 9, 3) := by decide +kernel
theorem dL_gives_87 : decode cL_gives 87 = .ok (.bipush 69, 2) := by decide +kernel
theorem dL_gives_89 : decode cL_gives 89 = .ok (.if_icmp .le 27, 3) := by decide +kernel
theorem dL_gives_92 : decode cL_gives 92 = .ok (.iload 9, 2) := by decide +kernel
theorem dL_gives_94 : decode cL_gives 94 = .ok (.ifCond .lt 17, 3) := by decide +kernel
theorem dL_gives_97 : decode cL_gives 97 = .ok (.iload 11, 2) := by decide +kernel
theorem dL_gives_99 : decode cL_gives 99 = .ok (.aload_n 0, 1) := by decide +kernel
theorem dL_gives_100 : decode cL_gives 100 = .ok (.aload_n 1, 1) := by decide +kernel
theorem dL_gives_101 : decode cL_gives 101 = .ok (.iload 9, 2) := by decide +kernel
theorem dL_gives_103 : decode cL_gives 103 = .ok (.iload_n 2, 1) := by decide +kernel
theorem dL_gives_104 : decode cL_gives 104 = .ok (.iload_n 3, 1) := by decide +kernel
theorem dL_gives_105 : decode cL_gives 105 = .ok (.invokestatic 28, 3) := by decide +kernel
theorem dL_gives_108 : decode cL_gives 108 = .ok (.if_icmp .le 8, 3) := by decide +kernel
theorem dL_gives_111 : decode cL_gives 111 = .ok (.iload 10, 2) := by decide +kernel
theorem dL_gives_113 : decode cL_gives 113 = .ok (.goto 5, 3) := by decide +kernel
theorem dL_gives_116 : decode cL_gives 116 = .ok (.iload 9, 2) := by decide +kernel
theorem dL_gives_118 : decode cL_gives 118 = .ok (.istore 9, 2) := by decide +kernel
theorem dL_gives_120 : decode cL_gives 120 = .ok (.iinc 10 1, 3) := by decide +kernel
theorem dL_gives_123 : decode cL_gives 123 = .ok (.goto (-96), 3) := by decide +kernel
theorem dL_gives_126 : decode cL_gives 126 = .ok (.iload 9, 2) := by decide +kernel
theorem dL_gives_128 : decode cL_gives 128 = .ok (.ifCond .ge 13, 3) := by decide +kernel
theorem dL_gives_131 : decode cL_gives 131 = .ok (.aload 4, 2) := by decide +kernel
theorem dL_gives_133 : decode cL_gives 133 = .ok (.bipush 24, 2) := by decide +kernel
theorem dL_gives_135 : decode cL_gives 135 = .ok (.iload 6, 2) := by decide +kernel
theorem dL_gives_137 : decode cL_gives 137 = .ok (.iastore, 1) := by decide +kernel
theorem dL_gives_138 : decode cL_gives 138 = .ok (.iload 5, 2) := by decide +kernel
theorem dL_gives_140 : decode cL_gives 140 = .ok (.ireturn, 1) := by decide +kernel
theorem dL_gives_141 : decode cL_gives 141 = .ok (.aload_n 0, 1) := by decide +kernel
theorem dL_gives_142 : decode cL_gives 142 = .ok (.aload_n 1, 1) := by decide +kernel
theorem dL_gives_143 : decode cL_gives 143 = .ok (.iload 9, 2) := by decide +kernel
theorem dL_gives_145 : decode cL_gives 145 = .ok (.iload_n 2, 1) := by decide +kernel
theorem dL_gives_146 : decode cL_gives 146 = .ok (.iload_n 3, 1) := by decide +kernel
theorem dL_gives_147 : decode cL_gives 147 = .ok (.invokestatic 28, 3) := by decide +kernel
theorem dL_gives_150 : decode cL_gives 150 = .ok (.istore 7, 2) := by decide +kernel
theorem dL_gives_152 : decode cL_gives 152 = .ok (.iload 9, 2) := by decide +kernel
theorem dL_gives_154 : decode cL_gives 154 = .ok (.istore 8, 2) := by decide +kernel
theorem dL_gives_156 : decode cL_gives 156 = .ok (.aload 4, 2) := by decide +kernel
theorem dL_gives_158 : decode cL_gives 158 = .ok (.iconst 2, 1) := by decide +kernel
theorem dL_gives_159 : decode cL_gives 159 = .ok (.iload 5, 2) := by decide +kernel
theorem dL_gives_161 : decode cL_gives 161 = .ok (.imul, 1) := by decide +kernel
theorem dL_gives_162 : decode cL_gives 162 = .ok (.aload_n 1, 1) := by decide +kernel
theorem dL_gives_163 : decode cL_gives 163 = .ok (.iconst 4, 1) := by decide +kernel
theorem dL_gives_164 : decode cL_gives 164 = .ok (.iload 9, 2) := by decide +kernel
theorem dL_gives_166 : decode cL_gives 166 = .ok (.imul, 1) := by decide +kernel
theorem dL_gives_167 : decode cL_gives 167 = .ok (.iaload, 1) := by decide +kernel
theorem dL_gives_168 : decode cL_gives 168 = .ok (.iastore, 1) := by decide +kernel
theorem dL_gives_169 : decode cL_gives 169 = .ok (.aload 4, 2) := by decide +kernel
theorem dL_gives_171 : decode cL_gives 171 = .ok (.iconst 2, 1) := by decide +kernel
theorem dL_gives_172 : decode cL_gives 172 = .ok (.iload 5, 2) := by decide +kernel
theorem dL_gives_174 : decode cL_gives 174 = .ok (.imul, 1) := by decide +kernel
theorem dL_gives_175 : decode cL_gives 175 = .ok (.iconst 1, 1) := by decide +kernel
theorem dL_gives_176 : decode cL_gives 176 = .ok (.iadd, 1) := by decide +kernel
theorem dL_gives_177 : decode cL_gives 177 = .ok (.aload_n 1, 1) := by decide +kernel
theorem dL_gives_178 : decode cL_gives 178 = .ok (.iconst 4, 1) := by decide +kernel
theorem dL_gives_179 : decode cL_gives 179 = .ok (.iload 9, 2) := by decide +kernel
theorem dL_gives_181 : decode cL_gives 181 = .ok (.imul, 1) := by decide +kernel
theorem dL_gives_182 : decode cL_gives 182 = .ok (.iconst 1, 1) := by decide +kernel
theorem dL_gives_183 : decode cL_gives 183 = .ok (.iadd, 1) := by decide +kernel
theorem dL_gives_184 : decode cL_gives 184 = .ok (.iaload, 1) := by decide +kernel
theorem dL_gives_185 : decode cL_gives 185 = .ok (.iload 6, 2) := by decide +kernel
theorem dL_gives_187 : decode cL_gives 187 = .ok (.if_icmp .ge 14, 3) := by decide +kernel
theorem dL_gives_190 : decode cL_gives 190 = .ok (.aload_n 1, 1) := by decide +kernel
theorem dL_gives_191 : decode cL_gives 191 = .ok (.iconst 4, 1) := by decide +kernel
theorem dL_gives_192 : decode cL_gives 192 = .ok (.iload 9, 2) := by decide +kernel
theorem dL_gives_194 : decode cL_gives 194 = .ok (.imul, 1) := by decide +kernel
theorem dL_gives_195 : decode cL_gives 195 = .ok (.iconst 1, 1) := by decide +kernel
theorem dL_gives_196 : decode cL_gives 196 = .ok (.iadd, 1) := by decide +kernel
theorem dL_gives_197 : decode cL_gives 197 = .ok (.iaload, 1) := by decide +kernel
theorem dL_gives_198 : decode cL_gives 198 = .ok (.goto 5, 3) := by decide +kernel
theorem dL_gives_201 : decode cL_gives 201 = .ok (.iload 6, 2) := by decide +kernel
theorem dL_gives_203 : decode cL_gives 203 = .ok (.iastore, 1) := by decide +kernel
theorem dL_gives_204 : decode cL_gives 204 = .ok (.iload 6, 2) := by decide +kernel
theorem dL_gives_206 : decode cL_gives 206 = .ok (.aload 4, 2) := by decide +kernel
theorem dL_gives_208 : decode cL_gives 208 = .ok (.iconst 2, 1) := by decide +kernel
theorem dL_gives_209 : decode cL_gives 209 = .ok (.iload 5, 2) := by decide +kernel
theorem dL_gives_211 : decode cL_gives 211 = .ok (.imul, 1) := by decide +kernel
theorem dL_gives_212 : decode cL_gives 212 = .ok (.iconst 1, 1) := by decide +kernel
theorem dL_gives_213 : decode cL_gives 213 = .ok (.iadd, 1) := by decide +kernel
theorem dL_gives_214 : decode cL_gives 214 = .ok (.iaload, 1) := by decide +kernel
theorem dL_gives_215 : decode cL_gives 215 = .ok (.isub, 1) := by decide +kernel
theorem dL_gives_216 : decode cL_gives 216 = .ok (.istore 6, 2) := by decide +kernel
theorem dL_gives_218 : decode cL_gives 218 = .ok (.iinc 5 1, 3) := by decide +kernel
theorem dL_gives_221 : decode cL_gives 221 = .ok (.goto (-205), 3) := by decide +kernel
theorem dL_gives_224 : decode cL_gives 224 = .ok (.aload 4, 2) := by decide +kernel
theorem dL_gives_226 : decode cL_gives 226 = .ok (.bipush 24, 2) := by decide +kernel
theorem dL_gives_228 : decode cL_gives 228 = .ok (.iconst 0, 1) := by decide +kernel
theorem dL_gives_229 : decode cL_gives 229 = .ok (.iastore, 1) := by decide +kernel
theorem dL_gives_230 : decode cL_gives 230 = .ok (.iload 5, 2) := by decide +kernel
theorem dL_gives_232 : decode cL_gives 232 = .ok (.ireturn, 1) := by decide +kernel
theorem dL_paidAll_0 : decode cL_paidAll 0 = .ok (.iconst 0, 1) := by decide +kernel
theorem dL_paidAll_1 : decode cL_paidAll 1 = .ok (.istore 7, 2) := by decide +kernel
theorem dL_paidAll_3 : decode cL_paidAll 3 = .ok (.iconst 0, 1) := by decide +kernel
theorem dL_paidAll_4 : decode cL_paidAll 4 = .ok (.istore 8, 2) := by decide +kernel
theorem dL_paidAll_6 : decode cL_paidAll 6 = .ok (.iload 8, 2) := by decide +kernel
theorem dL_paidAll_8 : decode cL_paidAll 8 = .ok (.iload 5, 2) := by decide +kernel
theorem dL_paidAll_10 : decode cL_paidAll 10 = .ok (.if_icmp .ge 64, 3) := by decide +kernel
theorem dL_paidAll_13 : decode cL_paidAll 13 = .ok (.aload_n 0, 1) := by decide +kernel
theorem dL_paidAll_14 : decode cL_paidAll 14 = .ok (.aload_n 1, 1) := by decide +kernel
theorem dL_paidAll_15 : decode cL_paidAll 15 = .ok (.aload 4, 2) := by decide +kernel
theorem dL_paidAll_17 : decode cL_paidAll 17 = .ok (.iconst 2, 1) := by decide +kernel
theorem dL_paidAll_18 : decode cL_paidAll 18 = .ok (.iload 8, 2) := by decide +kernel
theorem dL_paidAll_20 : decode cL_paidAll 20 = .ok (.imul, 1) := by decide +kernel
theorem dL_paidAll_21 : decode cL_paidAll 21 = .ok (.iaload, 1) := by decide +kernel
theorem dL_paidAll_22 : decode cL_paidAll 22 = .ok (.invokestatic 23, 3) := by decide +kernel
theorem dL_paidAll_25 : decode cL_paidAll 25 = .ok (.istore 9, 2) := by decide +kernel
theorem dL_paidAll_27 : decode cL_paidAll 27 = .ok (.iload 7, 2) := by decide +kernel
theorem dL_paidAll_29 : decode cL_paidAll 29 = .ok (.aload 4, 2) := by decide +kernel
theorem dL_paidAll_31 : decode cL_paidAll 31 = .ok (.iconst 2, 1) := by decide +kernel
theorem dL_paidAll_32 : decode cL_paidAll 32 = .ok (.iload 8, 2) := by decide +kernel
theorem dL_paidAll_34 : decode cL_paidAll 34 = .ok (.imul, 1) := by decide +kernel
theorem dL_paidAll_35 : decode cL_paidAll 35 = .ok (.iconst 1, 1) := by decide +kernel
theorem dL_paidAll_36 : decode cL_paidAll 36 = .ok (.iadd, 1) := by decide +kernel
theorem dL_paidAll_37 : decode cL_paidAll 37 = .ok (.iaload, 1) := by decide +kernel
theorem dL_paidAll_38 : decode cL_paidAll 38 = .ok (.iload 6, 2) := by decide +kernel
theorem dL_paidAll_40 : decode cL_paidAll 40 = .ok (.ifCond .eq 15, 3) := by decide +kernel
theorem dL_paidAll_43 : decode cL_paidAll 43 = .ok (.aload_n 0, 1) := by decide +kernel
theorem dL_paidAll_44 : decode cL_paidAll 44 = .ok (.aload_n 1, 1) := by decide +kernel
theorem dL_paidAll_45 : decode cL_paidAll 45 = .ok (.iload 9, 2) := by decide +kernel
theorem dL_paidAll_47 : decode cL_paidAll 47 = .ok (.iload_n 2, 1) := by decide +kernel
theorem dL_paidAll_48 : decode cL_paidAll 48 = .ok (.iload_n 3, 1) := by decide +kernel
theorem dL_paidAll_49 : decode cL_paidAll 49 = .ok (.invokestatic 28, 3) := by decide +kernel
theorem dL_paidAll_52 : decode cL_paidAll 52 = .ok (.goto 12, 3) := by decide +kernel
theorem dL_paidAll_55 : decode cL_paidAll 55 = .ok (.aload_n 0, 1) := by decide +kernel
theorem dL_paidAll_56 : decode cL_paidAll 56 = .ok (.aload_n 1, 1) := by decide +kernel
theorem dL_paidAll_57 : decode cL_paidAll 57 = .ok (.iload 9, 2) := by decide +kernel
theorem dL_paidAll_59 : decode cL_paidAll 59 = .ok (.iload_n 2, 1) := by decide +kernel
theorem dL_paidAll_60 : decode cL_paidAll 60 = .ok (.iload_n 3, 1) := by decide +kernel
theorem dL_paidAll_61 : decode cL_paidAll 61 = .ok (.invokestatic 15, 3) := by decide +kernel
theorem dL_paidAll_64 : decode cL_paidAll 64 = .ok (.imul, 1) := by decide +kernel
theorem dL_paidAll_65 : decode cL_paidAll 65 = .ok (.iadd, 1) := by decide +kernel
theorem dL_paidAll_66 : decode cL_paidAll 66 = .ok (.istore 7, 2) := by decide +kernel
theorem dL_paidAll_68 : decode cL_paidAll 68 = .ok (.iinc 8 1, 3) := by decide +kernel
theorem dL_paidAll_71 : decode cL_paidAll 71 = .ok (.goto (-65), 3) := by decide +kernel
theorem dL_paidAll_74 : decode cL_paidAll 74 = .ok (.iload 7, 2) := by decide +kernel
theorem dL_paidAll_76 : decode cL_paidAll 76 = .ok (.ireturn, 1) := by decide +kernel
theorem dL_close_0 : decode cL_close 0 = .ok (.aload_n 0, 1) := by decide +kernel
theorem dL_close_1 : decode cL_close 1 = .ok (.bipush 7, 2) := by decide +kernel
theorem dL_close_3 : decode cL_close 3 = .ok (.dup2, 1) := by decide +kernel
theorem dL_close_4 : decode cL_close 4 = .ok (.iaload, 1) := by decide +kernel
theorem dL_close_5 : decode cL_close 5 = .ok (.iconst 1, 1) := by decide +kernel
theorem dL_close_6 : decode cL_close 6 = .ok (.isub, 1) := by decide +kernel
theorem dL_close_7 : decode cL_close 7 = .ok (.iastore, 1) := by decide +kernel
theorem dL_close_8 : decode cL_close 8 = .ok (.iconst 2, 1) := by decide +kernel
theorem dL_close_9 : decode cL_close 9 = .ok (.iload_n 2, 1) := by decide +kernel
theorem dL_close_10 : decode cL_close 10 = .ok (.imul, 1) := by decide +kernel
theorem dL_close_11 : decode cL_close 11 = .ok (.istore_n 3, 1) := by decide +kernel
theorem dL_close_12 : decode cL_close 12 = .ok (.iload_n 3, 1) := by decide +kernel
theorem dL_close_13 : decode cL_close 13 = .ok (.iconst 2, 1) := by decide +kernel
theorem dL_close_14 : decode cL_close 14 = .ok (.aload_n 0, 1) := by decide +kernel
theorem dL_close_15 : decode cL_close 15 = .ok (.bipush 7, 2) := by decide +kernel
theorem dL_close_17 : decode cL_close 17 = .ok (.iaload, 1) := by decide +kernel
theorem dL_close_18 : decode cL_close 18 = .ok (.imul, 1) := by decide +kernel
theorem dL_close_19 : decode cL_close 19 = .ok (.if_icmp .ge 17, 3) := by decide +kernel
theorem dL_close_22 : decode cL_close 22 = .ok (.aload_n 1, 1) := by decide +kernel
theorem dL_close_23 : decode cL_close 23 = .ok (.iload_n 3, 1) := by decide +kernel
theorem dL_close_24 : decode cL_close 24 = .ok (.aload_n 1, 1) := by decide +kernel
theorem dL_close_25 : decode cL_close 25 = .ok (.iload_n 3, 1) := by decide +kernel
theorem dL_close_26 : decode cL_close 26 = .ok (.iconst 2, 1) := by decide +kernel
theorem dL_close_27 : decode cL_close 27 = .ok (.iadd, 1) := by decide +kernel
theorem dL_close_28 : decode cL_close 28 = .ok (.iaload, 1) := by decide +kernel
theorem dL_close_29 : decode cL_close 29 = .ok (.iastore, 1) := by decide +kernel
theorem dL_close_30 : decode cL_close 30 = .ok (.iinc 3 1, 3) := by decide +kernel
theorem dL_close_33 : decode cL_close 33 = .ok (.goto (-21), 3) := by decide +kernel
theorem dL_close_36 : decode cL_close 36 = .ok (.return_, 1) := by decide +kernel
