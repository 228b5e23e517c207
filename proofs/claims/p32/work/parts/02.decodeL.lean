theorem dL_cell_0 : decode cL_cell 0 = .ok (.iload_n 1, 1) := by decide +kernel
theorem dL_cell_1 : decode cL_cell 1 = .ok (.aload_n 0, 1) := by decide +kernel
theorem dL_cell_2 : decode cL_cell 2 = .ok (.arraylength, 1) := by decide +kernel
theorem dL_cell_3 : decode cL_cell 3 = .ok (.if_icmp .ge 9, 3) := by decide +kernel
theorem dL_cell_6 : decode cL_cell 6 = .ok (.aload_n 0, 1) := by decide +kernel
theorem dL_cell_7 : decode cL_cell 7 = .ok (.iload_n 1, 1) := by decide +kernel
theorem dL_cell_8 : decode cL_cell 8 = .ok (.iaload, 1) := by decide +kernel
theorem dL_cell_9 : decode cL_cell 9 = .ok (.goto 9, 3) := by decide +kernel
theorem dL_cell_12 : decode cL_cell 12 = .ok (.ldc 7, 2) := by decide +kernel
theorem dL_cell_14 : decode cL_cell 14 = .ok (.iload_n 1, 1) := by decide +kernel
theorem dL_cell_15 : decode cL_cell 15 = .ok (.iconst 1, 1) := by decide +kernel
theorem dL_cell_16 : decode cL_cell 16 = .ok (.iadd, 1) := by decide +kernel
theorem dL_cell_17 : decode cL_cell 17 = .ok (.imul, 1) := by decide +kernel
theorem dL_cell_18 : decode cL_cell 18 = .ok (.ireturn, 1) := by decide +kernel
theorem dL_low_0 : decode cL_low 0 = .ok (.iload_n 0, 1) := by decide +kernel
theorem dL_low_1 : decode cL_low 1 = .ok (.ldc 8, 2) := by decide +kernel
theorem dL_low_3 : decode cL_low 3 = .ok (.iand, 1) := by decide +kernel
theorem dL_low_4 : decode cL_low 4 = .ok (.iload_n 1, 1) := by decide +kernel
theorem dL_low_5 : decode cL_low 5 = .ok (.irem, 1) := by decide +kernel
theorem dL_low_6 : decode cL_low 6 = .ok (.ireturn, 1) := by decide +kernel
theorem dL_earned_0 : decode cL_earned 0 = .ok (.aload_n 1, 1) := by decide +kernel
theorem dL_earned_1 : decode cL_earned 1 = .ok (.iconst 4, 1) := by decide +kernel
theorem dL_earned_2 : decode cL_earned 2 = .ok (.iload_n 2, 1) := by decide +kernel
theorem dL_earned_3 : decode cL_earned 3 = .ok (.imul, 1) := by decide +kernel
theorem dL_earned_4 : decode cL_earned 4 = .ok (.iaload, 1) := by decide +kernel
theorem dL_earned_5 : decode cL_earned 5 = .ok (.istore_n 3, 1) := by decide +kernel
theorem dL_earned_6 : decode cL_earned 6 = .ok (.aload_n 1, 1) := by decide +kernel
theorem dL_earned_7 : decode cL_earned 7 = .ok (.iconst 4, 1) := by decide +kernel
theorem dL_earned_8 : decode cL_earned 8 = .ok (.iload_n 2, 1) := by decide +kernel
theorem dL_earned_9 : decode cL_earned 9 = .ok (.imul, 1) := by decide +kernel
theorem dL_earned_10 : decode cL_earned 10 = .ok (.iconst 1, 1) := by decide +kernel
theorem dL_earned_11 : decode cL_earned 11 = .ok (.iadd, 1) := by decide +kernel
theorem dL_earned_12 : decode cL_earned 12 = .ok (.iaload, 1) := by decide +kernel
theorem dL_earned_13 : decode cL_earned 13 = .ok (.istore 4, 2) := by decide +kernel
theorem dL_earned_15 : decode cL_earned 15 = .ok (.aload_n 0, 1) := by decide +kernel
theorem dL_earned_16 : decode cL_earned 16 = .ok (.iconst 3, 1) := by decide +kernel
theorem dL_earned_17 : decode cL_earned 17 = .ok (.iload_n 2, 1) := by decide +kernel
theorem dL_earned_18 : decode cL_earned 18 = .ok (.imul, 1) := by decide +kernel
theorem dL_earned_19 : decode cL_earned 19 = .ok (.iaload, 1) := by decide +kernel
theorem dL_earned_20 : decode cL_earned 20 = .ok (.ifCond .ne 10, 3) := by decide +kernel
theorem dL_earned_23 : decode cL_earned 23 = .ok (.iload_n 3, 1) := by decide +kernel
theorem dL_earned_24 : decode cL_earned 24 = .ok (.iload 4, 2) := by decide +kernel
theorem dL_earned_26 : decode cL_earned 26 = .ok (.iadd, 1) := by decide +kernel
theorem dL_earned_27 : decode cL_earned 27 = .ok (.iconst 2, 1) := by decide +kernel
theorem dL_earned_28 : decode cL_earned 28 = .ok (.idiv, 1) := by decide +kernel
theorem dL_earned_29 : decode cL_earned 29 = .ok (.ireturn, 1) := by decide +kernel
theorem dL_earned_30 : decode cL_earned 30 = .ok (.aload_n 0, 1) := by decide +kernel
theorem dL_earned_31 : decode cL_earned 31 = .ok (.iconst 3, 1) := by decide +kernel
theorem dL_earned_32 : decode cL_earned 32 = .ok (.iload_n 2, 1) := by decide +kernel
theorem dL_earned_33 : decode cL_earned 33 = .ok (.imul, 1) := by decide +kernel
theorem dL_earned_34 : decode cL_earned 34 = .ok (.iaload, 1) := by decide +kernel
theorem dL_earned_35 : decode cL_earned 35 = .ok (.iconst 1, 1) := by decide +kernel
theorem dL_earned_36 : decode cL_earned 36 = .ok (.if_icmp .ne 10, 3) := by decide +kernel
theorem dL_earned_39 : decode cL_earned 39 = .ok (.iload_n 3, 1) := by decide +kernel
theorem dL_earned_40 : decode cL_earned 40 = .ok (.iload_n 3, 1) := by decide +kernel
theorem dL_earned_41 : decode cL_earned 41 = .ok (.iadd, 1) := by decide +kernel
theorem dL_earned_42 : decode cL_earned 42 = .ok (.iload 4, 2) := by decide +kernel
theorem dL_earned_44 : decode cL_earned 44 = .ok (.iadd, 1) := by decide +kernel
theorem dL_earned_45 : decode cL_earned 45 = .ok (.ireturn, 1) := by decide +kernel
theorem dL_earned_46 : decode cL_earned 46 = .ok (.aload_n 0, 1) := by decide +kernel
theorem dL_earned_47 : decode cL_earned 47 = .ok (.iconst 3, 1) := by decide +kernel
theorem dL_earned_48 : decode cL_earned 48 = .ok (.iload_n 2, 1) := by decide +kernel
theorem dL_earned_49 : decode cL_earned 49 = .ok (.imul, 1) := by decide +kernel
theorem dL_earned_50 : decode cL_earned 50 = .ok (.iaload, 1) := by decide +kernel
theorem dL_earned_51 : decode cL_earned 51 = .ok (.iconst 2, 1) := by decide +kernel
theorem dL_earned_52 : decode cL_earned 52 = .ok (.if_icmp .ne 22, 3) := by decide +kernel
theorem dL_earned_55 : decode cL_earned 55 = .ok (.iconst 2, 1) := by decide +kernel
theorem dL_earned_56 : decode cL_earned 56 = .ok (.iload_n 3, 1) := by decide +kernel
theorem dL_earned_57 : decode cL_earned 57 = .ok (.imul, 1) := by decide +kernel
theorem dL_earned_58 : decode cL_earned 58 = .ok (.iconst 2, 1) := by decide +kernel
theorem dL_earned_59 : decode cL_earned 59 = .ok (.iload 4, 2) := by decide +kernel
theorem dL_earned_61 : decode cL_earned 61 = .ok (.imul, 1) := by decide +kernel
theorem dL_earned_62 : decode cL_earned 62 = .ok (.iadd, 1) := by decide +kernel
theorem dL_earned_63 : decode cL_earned 63 = .ok (.iload_n 3, 1) := by decide +kernel
theorem dL_earned_64 : decode cL_earned 64 = .ok (.iload 4, 2) := by decide +kernel
theorem dL_earned_66 : decode cL_earned 66 = .ok (.iadd, 1) := by decide +kernel
theorem dL_earned_67 : decode cL_earned 67 = .ok (.bipush 7, 2) := by decide +kernel
theorem dL_earned_69 : decode cL_earned 69 = .ok (.idiv, 1) := by decide +kernel
theorem dL_earned_70 : decode cL_earned 70 = .ok (.iadd, 1) := by decide +kernel
theorem dL_earned_71 : decode cL_earned 71 = .ok (.goto 11, 3) := by decide +kernel
theorem dL_earned_74 : decode cL_earned 74 = .ok (.iconst 2, 1) := by decide +kernel
theorem dL_earned_75 : decode cL_earned 75 = .ok (.iload_n 3, 1) := by decide +kernel
theorem dL_earned_76 : decode cL_earned 76 = .ok (.iload_n 3, 1) := by decide +kernel
theorem dL_earned_77 : decode cL_earned 77 = .ok (.iadd, 1) := by decide +kernel
theorem dL_earned_78 : decode cL_earned 78 = .ok (.iload 4, 2) := by decide +kernel
theorem dL_earned_80 : decode cL_earned 80 = .ok (.iadd, 1) := by decide +kernel
theorem dL_earned_81 : decode cL_earned 81 = .ok (.imul, 1) := by decide +kernel
theorem dL_earned_82 : decode cL_earned 82 = .ok (.ireturn, 1) := by decide +kernel
theorem dL_balance_0 : decode cL_balance 0 = .ok (.aload_n 0, 1) := by decide +kernel
theorem dL_balance_1 : decode cL_balance 1 = .ok (.iconst 3, 1) := by decide +kernel
theorem dL_balance_2 : decode cL_balance 2 = .ok (.iload_n 3, 1) := by decide +kernel
theorem dL_balance_3 : decode cL_balance 3 = .ok (.imul, 1) := by decide +kernel
theorem dL_balance_4 : decode cL_balance 4 = .ok (.iconst 2, 1) := by decide +kernel
theorem dL_balance_5 : decode cL_balance 5 = .ok (.iadd, 1) := by decide +kernel
theorem dL_balance_6 : decode cL_balance 6 = .ok (.iaload, 1) := by decide +kernel
theorem dL_balance_7 : decode cL_balance 7 = .ok (.iconst 2, 1) := by decide +kernel
theorem dL_balance_8 : decode cL_balance 8 = .ok (.if_icmp .ne 7, 3) := by decide +kernel
theorem dL_balance_11 : decode cL_balance 11 = .ok (.iconst 0, 1) := by decide +kernel
theorem dL_balance_12 : decode cL_balance 12 = .ok (.goto 39, 3) := by decide +kernel
theorem dL_balance_15 : decode cL_balance 15 = .ok (.aload_n 0, 1) := by decide +kernel
theorem dL_balance_16 : decode cL_balance 16 = .ok (.aload_n 1, 1) := by decide +kernel
theorem dL_balance_17 : decode cL_balance 17 = .ok (.iload_n 3, 1) := by decide +kernel
theorem dL_balance_18 : decode cL_balance 18 = .ok (.invokestatic 9, 3) := by decide +kernel
theorem dL_balance_21 : decode cL_balance 21 = .ok (.aload_n 1, 1) := by decide +kernel
theorem dL_balance_22 : decode cL_balance 22 = .ok (.iconst 4, 1) := by decide +kernel
theorem dL_balance_23 : decode cL_balance 23 = .ok (.iload_n 3, 1) := by decide +kernel
theorem dL_balance_24 : decode cL_balance 24 = .ok (.imul, 1) := by decide +kernel
theorem dL_balance_25 : decode cL_balance 25 = .ok (.iconst 2, 1) := by decide +kernel
theorem dL_balance_26 : decode cL_balance 26 = .ok (.iadd, 1) := by decide +kernel
theorem dL_balance_27 : decode cL_balance 27 = .ok (.iaload, 1) := by decide +kernel
theorem dL_balance_28 : decode cL_balance 28 = .ok (.iadd, 1) := by decide +kernel
theorem dL_balance_29 : decode cL_balance 29 = .ok (.aload_n 2, 1) := by decide +kernel
theorem dL_balance_30 : decode cL_balance 30 = .ok (.iconst 3, 1) := by decide +kernel
theorem dL_balance_31 : decode cL_balance 31 = .ok (.iload_n 3, 1) := by decide +kernel
theorem dL_balance_32 : decode cL_balance 32 = .ok (.imul, 1) := by decide +kernel
theorem dL_balance_33 : decode cL_balance 33 = .ok (.iaload, 1) := by decide +kernel
theorem dL_balance_34 : decode cL_balance 34 = .ok (.isub, 1) := by decide +kernel
theorem dL_balance_35 : decode cL_balance 35 = .ok (.aload_n 2, 1) := by decide +kernel
theorem dL_balance_36 : decode cL_balance 36 = .ok (.iconst 3, 1) := by decide +kernel
theorem dL_balance_37 : decode cL_balance 37 = .ok (.iload_n 3, 1) := by decide +kernel
theorem dL_balance_38 : decode cL_balance 38 = .ok (.imul, 1) := by decide +kernel
theorem dL_balance_39 : decode cL_balance 39 = .ok (.iconst 1, 1) := by decide +kernel
theorem dL_balance_40 : decode cL_balance 40 = .ok (.iadd, 1) := by decide +kernel
theorem dL_balance_41 : decode cL_balance 41 = .ok (.iaload, 1) := by decide +kernel
theorem dL_balance_42 : decode cL_balance 42 = .ok (.isub, 1) := by decide +kernel
theorem dL_balance_43 : decode cL_balance 43 = .ok (.aload_n 2, 1) := by decide +kernel
theorem dL_balance_44 : decode cL_balance 44 = .ok (.iconst 3, 1) := by decide +kernel
theorem dL_balance_45 : decode cL_balance 45 = .ok (.iload_n 3, 1) := by decide +kernel
theorem dL_balance_46 : decode cL_balance 46 = .ok (.imul, 1) := by decide +kernel
theorem dL_balance_47 : decode cL_balance 47 = .ok (.iconst 2, 1) := by decide +kernel
theorem dL_balance_48 : decode cL_balance 48 = .ok (.iadd, 1) := by decide +kernel
theorem dL_balance_49 : decode cL_balance 49 = .ok (.iaload, 1) := by decide +kernel
theorem dL_balance_50 : decode cL_balance 50 = .ok (.isub, 1) := by decide +kernel
theorem dL_balance_51 : decode cL_balance 51 = .ok (.ireturn, 1) := by decide +kernel
theorem dL_spend_0 : decode cL_spend 0 = .ok (.iload_n 1, 1) := by decide +kernel
theorem dL_spend_1 : decode cL_spend 1 = .ok (.aload_n 0, 1) := by decide +kernel
theorem dL_spend_2 : decode cL_spend 2 = .ok (.iconst 5, 1) := by decide +kernel
theorem dL_spend_3 : decode cL_spend 3 = .ok (.iaload, 1) := by decide +kernel
theorem dL_spend_4 : decode cL_spend 4 = .ok (.if_icmp .le 11, 3) := by decide +kernel
theorem dL_spend_7 : decode cL_spend 7 = .ok (.iload_n 1, 1) := by decide +kernel
theorem dL_spend_8 : decode cL_spend 8 = .ok (.aload_n 0, 1) := by decide +kernel
theorem dL_spend_9 : decode cL_spend 9 = .ok (.iconst 5, 1) := by decide +kernel
theorem dL_spend_10 : decode cL_spend 10 = .ok (.iaload, 1) := by decide +kernel
theorem dL_spend_11 : decode cL_spend 11 = .ok (.isub, 1) := by decide +kernel
theorem dL_spend_12 : decode cL_spend 12 = .ok (.goto 4, 3) := by decide +kernel
theorem dL_spend_15 : decode cL_spend 15 = .ok (.iconst 0, 1) := by decide +kernel
theorem dL_spend_16 : decode cL_spend 16 = .ok (.istore_n 2, 1) := by decide +kernel
theorem dL_spend_17 : decode cL_spend 17 = .ok (.aload_n 0, 1) := by decide +kernel
theorem dL_spend_18 : decode cL_spend 18 = .ok (.bipush 6, 2) := by decide +kernel
theorem dL_spend_20 : decode cL_spend 20 = .ok (.dup2, 1) := by decide +kernel
theorem dL_spend_21 : decode cL_spend 21 = .ok (.iaload, 1) := by decide +kernel
theorem dL_spend_22 : decode cL_spend 22 = .ok (.iload_n 2, 1) := by decide +kernel
theorem dL_spend_23 : decode cL_spend 23 = .ok (.iadd, 1) := by decide +kernel
theorem dL_spend_24 : decode cL_spend 24 = .ok (.iastore, 1) := by decide +kernel
theorem dL_spend_25 : decode cL_spend 25 = .ok (.aload_n 0, 1) := by decide +kernel
theorem dL_spend_26 : decode cL_spend 26 = .ok (.iconst 5, 1) := by decide +kernel
theorem dL_spend_27 : decode cL_spend 27 = .ok (.dup2, 1) := by decide +kernel
theorem dL_spend_28 : decode cL_spend 28 = .ok (.iaload, 1) := by decide +kernel
theorem dL_spend_29 : decode cL_spend 29 = .ok (.iload_n 2, 1) := by decide +kernel
theorem dL_spend_30 : decode cL_spend 30 = .ok (.iload_n 1, 1) := by decide +kernel
theorem dL_spend_31 : decode cL_spend 31 = .ok (.isub, 1) := by decide +kernel
theorem dL_spend_32 : decode cL_spend 32 = .ok (.iadd, 1) := by decide +kernel
theorem dL_spend_33 : decode cL_spend 33 = .ok (.iastore, 1) := by decide +kernel
theorem dL_spend_34 : decode cL_spend 34 = .ok (.return_, 1) := by decide +kernel
theorem dL_write_0 : decode cL_write 0 = .ok (.iload 4, 2) := by decide +kernel
theorem dL_write_2 : decode cL_write 2 = .ok (.ifCond .ne 4, 3) := by decide +kernel
theorem dL_write_5 : decode cL_write 5 = .ok (.return_, 1) := by decide +kernel
theorem dL_write_6 : decode cL_write 6 = .ok (.bipush 23, 2) := by decide +kernel
theorem dL_write_8 : decode cL_write 8 = .ok (.istore 5, 2) := by decide +kernel
theorem dL_write_10 : decode cL_write 10 = .ok (.iload 5, 2) := by decide +kernel
theorem dL_write_12 : decode cL_write 12 = .ok (.iconst 2, 1) := by decide +kernel
theorem dL_write_13 : decode cL_write 13 = .ok (.if_icmp .le 19, 3) := by decide +kernel
theorem dL_write_16 : decode cL_write 16 = .ok (.aload_n 1, 1) := by decide +kernel
theorem dL_write_17 : decode cL_write 17 = .ok (.iload 5, 2) := by decide +kernel
theorem dL_write_19 : decode cL_write 19 = .ok (.aload_n 1, 1) := by decide +kernel
theorem dL_write_20 : decode cL_write 20 = .ok (.iload 5, 2) := by decide +kernel
theorem dL_write_22 : decode cL_write 22 = .ok (.iconst 3, 1) := by decide +kernel
theorem dL_write_23 : decode cL_write 23 = .ok (.isub, 1) := by decide +kernel
theorem dL_write_24 : decode cL_write 24 = .ok (.iaload, 1) := by decide +kernel
theorem dL_write_25 : decode cL_write 25 = .ok (.iastore, 1) := by decide +kernel
theorem dL_write_26 : decode cL_write 26 = .ok (.iinc 5 (-1), 3) := by decide +kernel
theorem dL_write_29 : decode cL_write 29 = .ok (.goto (-19), 3) := by decide +kernel
theorem dL_write_32 : decode cL_write 32 = .ok (.aload_n 1, 1) := by decide +kernel
theorem dL_write_33 : decode cL_write 33 = .ok (.iconst 0, 1) := by decide +kernel
theorem dL_write_34 : decode cL_write 34 = .ok (.iload_n 2, 1) := by decide +kernel
theorem dL_write_35 : decode cL_write 35 = .ok (.iastore, 1) := by decide +kernel
theorem dL_write_36 : decode cL_write 36 = .ok (.aload_n 1, 1) := by decide +kernel
theorem dL_write_37 : decode cL_write 37 = .ok (.iconst 1, 1) := by decide +kernel
theorem dL_write_38 : decode cL_write 38 = .ok (.iload_n 3, 1) := by decide +kernel
theorem dL_write_39 : decode cL_write 39 = .ok (.iastore, 1) := by decide +kernel
theorem dL_write_40 : decode cL_write 40 = .ok (.aload_n 1, 1) := by decide +kernel
theorem dL_write_41 : decode cL_write 41 = .ok (.iconst 2, 1) := by decide +kernel
theorem dL_write_42 : decode cL_write 42 = .ok (.iload 4, 2) := by decide +kernel
theorem dL_write_44 : decode cL_write 44 = .ok (.iastore, 1) := by decide +kernel
theorem dL_write_45 : decode cL_write 45 = .ok (.aload_n 0, 1) := by decide +kernel
theorem dL_write_46 : decode cL_write 46 = .ok (.bipush 16, 2) := by decide +kernel
theorem dL_write_48 : decode cL_write 48 = .ok (.aload_n 0, 1) := by decide +kernel
theorem dL_write_49 : decode cL_write 49 = .ok (.bipush 16, 2) := by decide +kernel
theorem dL_write_51 : decode cL_write 51 = .ok (.iaload, 1) := by decide +kernel
theorem dL_write_52 : decode cL_write 52 = .ok (.bipush 8, 2) := by decide +kernel
theorem dL_write_54 : decode cL_write 54 = .ok (.if_icmp .ne 8, 3) := by decide +kernel
theorem dL_write_57 : decode cL_write 57 = .ok (.bipush 8, 2) := by decide +kernel
theorem dL_write_59 : decode cL_write 59 = .ok (.goto 9, 3) := by decide +kernel
theorem dL_write_62 : decode cL_write 62 = .ok (.aload_n 0, 1) := by decide +kernel
theorem dL_write_63 : decode cL_write 63 = .ok (.bipush 16, 2) := by decide +kernel
theorem dL_write_65 : decode cL_write 65 = .ok (.iaload, 1) := by decide +kernel
theorem dL_write_66 : decode cL_write 66 = .ok (.iconst 1, 1) := by decide +kernel
theorem dL_write_67 : decode cL_write 67 = .ok (.iadd, 1) := by decide +kernel
theorem dL_write_68 : decode cL_write 68 = .ok (.iastore, 1) := by decide +kernel
theorem dL_write_69 : decode cL_write 69 = .ok (.return_, 1) := by decide +kernel
theorem dL_fine_0 : decode cL_fine 0 = .ok (.aload_n 1, 1) := by decide +kernel
theorem dL_fine_1 : decode cL_fine 1 = .ok (.iconst 3, 1) := by decide +kernel
theorem dL_fine_2 : decode cL_fine 2 = .ok (.iload_n 3, 1) := by decide +kernel
theorem dL_fine_3 : decode cL_fine 3 = .ok (.imul, 1) := by decide +kernel
theorem dL_fine_4 : decode cL_fine 4 = .ok (.iconst 1, 1) := by decide +kernel
theorem dL_fine_5 : decode cL_fine 5 = .ok (.iadd, 1) := by decide +kernel
theorem dL_fine_6 : decode cL_fine 6 = .ok (.dup2, 1) := by decide +kernel
theorem dL_fine_7 : decode cL_fine 7 = .ok (.iaload, 1) := by decide +kernel
theorem dL_fine_8 : decode cL_fine 8 = .ok (.iload 4, 2) := by decide +kernel
theorem dL_fine_10 : decode cL_fine 10 = .ok (.iadd, 1) := by decide +kernel
theorem dL_fine_11 : decode cL_fine 11 = .ok (.iastore, 1) := by decide +kernel
theorem dL_fine_12 : decode cL_fine 12 = .ok (.aload_n 0, 1) := by decide +kernel
theorem dL_fine_13 : decode cL_fine 13 = .ok (.bipush 11, 2) := by decide +kernel
theorem dL_fine_15 : decode cL_fine 15 = .ok (.dup2, 1) := by decide +kernel
theorem dL_fine_16 : decode cL_fine 16 = .ok (.iaload, 1) := by decide +kernel
theorem dL_fine_17 : decode cL_fine 17 = .ok (.iload 4, 2) := by decide +kernel
theorem dL_fine_19 : decode cL_fine 19 = .ok (.iadd, 1) := by decide +kernel
theorem dL_fine_20 : decode cL_fine 20 = .ok (.iastore, 1) := by decide +kernel
theorem dL_fine_21 : decode cL_fine 21 = .ok (.aload_n 0, 1) := by decide +kernel
theorem dL_fine_22 : decode cL_fine 22 = .ok (.aload_n 2, 1) := by decide +kernel
theorem dL_fine_23 : decode cL_fine 23 = .ok (.iload_n 3, 1) := by decide +kernel
theorem dL_fine_24 : decode cL_fine 24 = .ok (.iconst 1, 1) := by decide +kernel
theorem dL_fine_25 : decode cL_fine 25 = .ok (.iload 4, 2) := by decide +kernel
theorem dL_fine_27 : decode cL_fine 27 = .ok (.invokestatic 15, 3) := by decide +kernel
theorem dL_fine_30 : decode cL_fine 30 = .ok (.return_, 1) := by decide +kernel
theorem dL_pay_0 : decode cL_pay 0 = .ok (.aload_n 1, 1) := by decide +kernel
theorem dL_pay_1 : decode cL_pay 1 = .ok (.iconst 4, 1) := by decide +kernel
theorem dL_pay_2 : decode cL_pay 2 = .ok (.iload_n 3, 1) := by decide +kernel
theorem dL_pay_3 : decode cL_pay 3 = .ok (.imul, 1) := by decide +kernel
theorem dL_pay_4 : decode cL_pay 4 = .ok (.iconst 3, 1) := by decide +kernel
theorem dL_pay_5 : decode cL_pay 5 = .ok (.iadd, 1) := by decide +kernel
theorem dL_pay_6 : decode cL_pay 6 = .ok (.dup2, 1) := by decide +kernel
theorem dL_pay_7 : decode cL_pay 7 = .ok (.iaload, 1) := by decide +kernel
theorem dL_pay_8 : decode cL_pay 8 = .ok (.iload 4, 2) := by decide +kernel
theorem dL_pay_10 : decode cL_pay 10 = .ok (.iadd, 1) := by decide +kernel
theorem dL_pay_11 : decode cL_pay 11 = .ok (.iastore, 1) := by decide +kernel
theorem dL_pay_12 : decode cL_pay 12 = .ok (.aload_n 0, 1) := by decide +kernel
theorem dL_pay_13 : decode cL_pay 13 = .ok (.bipush 9, 2) := by decide +kernel
theorem dL_pay_15 : decode cL_pay 15 = .ok (.dup2, 1) := by decide +kernel
theorem dL_pay_16 : decode cL_pay 16 = .ok (.iaload, 1) := by decide +kernel
theorem dL_pay_17 : decode cL_pay 17 = .ok (.iload 4, 2) := by decide +kernel
theorem dL_pay_19 : decode cL_pay 19 = .ok (.iadd, 1) := by decide +kernel
theorem dL_pay_20 : decode cL_pay 20 = .ok (.iastore, 1) := by decide +kernel
theorem dL_pay_21 : decode cL_pay 21 = .ok (.aload_n 0, 1) := by decide +kernel
theorem dL_pay_22 : decode cL_pay 22 = .ok (.iload 4, 2) := by decide +kernel
theorem dL_pay_24 : decode cL_pay 24 = .ok (.invokestatic 19, 3) := by decide +kernel
theorem dL_pay_27 : decode cL_pay 27 = .ok (.aload_n 0, 1) := by decide +kernel
theorem dL_pay_28 : decode cL_pay 28 = .ok (.aload_n 2, 1) := by decide +kernel
theorem dL_pay_29 : decode cL_pay 29 = .ok (.iload_n 3, 1) := by decide +kernel
theorem dL_pay_30 : decode cL_pay 30 = .ok (.iconst 3, 1) := by decide +kernel
theorem dL_pay_31 : decode cL_pay 31 = .ok (.iload 4, 2) := by decide +kernel
theorem dL_pay_33 : decode cL_pay 33 = .ok (.invokestatic 15, 3) := by decide +kernel
theorem dL_pay_36 : decode cL_pay 36 = .ok (.return_, 1) := by decide +kernel
theorem dL_clear_0 : decode cL_clear 0 = .ok (.aload_n 0, 1) := by decide +kernel
theorem dL_clear_1 : decode cL_clear 1 = .ok (.iconst 4, 1) := by decide +kernel
theorem dL_clear_2 : decode cL_clear 2 = .ok (.iload_n 2, 1) := by decide +kernel
theorem dL_clear_3 : decode cL_clear 3 = .ok (.imul, 1) := by decide +kernel
theorem dL_clear_4 : decode cL_clear 4 = .ok (.iconst 0, 1) := by decide +kernel
theorem dL_clear_5 : decode cL_clear 5 = .ok (.iastore, 1) := by decide +kernel
theorem dL_clear_6 : decode cL_clear 6 = .ok (.aload_n 0, 1) := by decide +kernel
theorem dL_clear_7 : decode cL_clear 7 = .ok (.iconst 4, 1) := by decide +kernel
theorem dL_clear_8 : decode cL_clear 8 = .ok (.iload_n 2, 1) := by decide +kernel
theorem dL_clear_9 : decode cL_clear 9 = .ok (.imul, 1) := by decide +kernel
theorem dL_clear_10 : decode cL_clear 10 = .ok (.iconst 1, 1) := by decide +kernel
theorem dL_clear_11 : decode cL_clear 11 = .ok (.iadd, 1) := by decide +kernel
theorem dL_clear_12 : decode cL_clear 12 = .ok (.iconst 0, 1) := by decide +kernel
theorem dL_clear_13 : decode cL_clear 13 = .ok (.iastore, 1) := by decide +kernel
theorem dL_clear_14 : decode cL_clear 14 = .ok (.aload_n 0, 1) := by decide +kernel
theorem dL_clear_15 : decode cL_clear 15 = .ok (.iconst 4, 1) := by decide +kernel
theorem dL_clear_16 : decode cL_clear 16 = .ok (.iload_n 2, 1) := by decide +kernel
theorem dL_clear_17 : decode cL_clear 17 = .ok (.imul, 1) := by decide +kernel
theorem dL_clear_18 : decode cL_clear 18 = .ok (.iconst 2, 1) := by decide +kernel
theorem dL_clear_19 : decode cL_clear 19 = .ok (.iadd, 1) := by decide +kernel
theorem dL_clear_20 : decode cL_clear 20 = .ok (.iload_n 3, 1) := by decide +kernel
theorem dL_clear_21 : decode cL_clear 21 = .ok (.iastore, 1) := by decide +kernel
theorem dL_clear_22 : decode cL_clear 22 = .ok (.iconst 0, 1) := by decide +kernel
theorem dL_clear_23 : decode cL_clear 23 = .ok (.istore 4, 2) := by decide +kernel
theorem dL_clear_25 : decode cL_clear 25 = .ok (.iload 4, 2) := by decide +kernel
theorem dL_clear_27 : decode cL_clear 27 = .ok (.iconst 3, 1) := by decide +kernel
theorem dL_clear_28 : decode cL_clear 28 = .ok (.if_icmp .ge 18, 3) := by decide +kernel
theorem dL_clear_31 : decode cL_clear 31 = .ok (.aload_n 1, 1) := by decide +kernel
theorem dL_clear_32 : decode cL_clear 32 = .ok (.iconst 3, 1) := by decide +kernel
theorem dL_clear_33 : decode cL_clear 33 = .ok (.iload_n 2, 1) := by decide +kernel
theorem dL_clear_34 : decode cL_clear 34 = .ok (.imul, 1) := by decide +kernel
theorem dL_clear_35 : decode cL_clear 35 = .ok (.iload 4, 2) := by decide +kernel
theorem dL_clear_37 : decode cL_clear 37 = .ok (.iadd, 1) := by decide +kernel
theorem dL_clear_38 : decode cL_clear 38 = .ok (.iconst 0, 1) := by decide +kernel
theorem dL_clear_39 : decode cL_clear 39 = .ok (.iastore, 1) := by decide +kernel
theorem dL_clear_40 : decode cL_clear 40 = .ok (.iinc 4 1, 3) := by decide +kernel
theorem dL_clear_43 : decode cL_clear 43 = .ok (.goto (-18), 3) := by decide +kernel
theorem dL_clear_46 : decode cL_clear 46 = .ok (.return_, 1) := by decide +kernel
theorem dL_why_0 : decode cL_why 0 = .ok (.aload_n 1, 1) := by decide +kernel
theorem dL_why_1 : decode cL_why 1 = .ok (.iconst 3, 1) := by decide +kernel
theorem dL_why_2 : decode cL_why 2 = .ok (.iload 5, 2) := by decide +kernel
theorem dL_why_4 : decode cL_why 4 = .ok (.imul, 1) := by decide +kernel
theorem dL_why_5 : decode cL_why 5 = .ok (.iconst 2, 1) := by decide +kernel
theorem dL_why_6 : decode cL_why 6 = .ok (.iadd, 1) := by decide +kernel
theorem dL_why_7 : decode cL_why 7 = .ok (.iaload, 1) := by decide +kernel
theorem dL_why_8 : decode cL_why 8 = .ok (.ifCond .le 5, 3) := by decide +kernel
theorem dL_why_11 : decode cL_why 11 = .ok (.iconst 1, 1) := by decide +kernel
theorem dL_why_12 : decode cL_why 12 = .ok (.ireturn, 1) := by decide +kernel
theorem dL_why_13 : decode cL_why 13 = .ok (.aload 4, 2) := by decide +kernel
theorem dL_why_15 : decode cL_why 15 = .ok (.iconst 5, 1) := by decide +kernel
theorem dL_why_16 : decode cL_why 16 = .ok (.iload 6, 2) := by decide +kernel
theorem dL_why_18 : decode cL_why 18 = .ok (.imul, 1) := by decide +kernel
theorem dL_why_19 : decode cL_why 19 = .ok (.iaload, 1) := by decide +kernel
theorem dL_why_20 : decode cL_why 20 = .ok (.iload 7, 2) := by decide +kernel
theorem dL_why_22 : decode cL_why 22 = .ok (.if_icmp .ge 7, 3) := by decide +kernel
theorem dL_why_25 : decode cL_why 25 = .ok (.iconst 2, 1) := by decide +kernel
theorem dL_why_26 : decode cL_why 26 = .ok (.goto 36, 3) := by decide +kernel
theorem dL_why_29 : decode cL_why 29 = .ok (.aload_n 1, 1) := by decide +kernel
theorem dL_why_30 : decode cL_why 30 = .ok (.aload_n 2, 1) := by decide +kernel
theorem dL_why_31 : decode cL_why 31 = .ok (.aload_n 3, 1) := by decide +kernel
theorem dL_why_32 : decode cL_why 32 = .ok (.iload 5, 2) := by decide +kernel
theorem dL_why_34 : decode cL_why 34 = .ok (.invokestatic 23, 3) := by decide +kernel
theorem dL_why_37 : decode cL_why 37 = .ok (.aload_n 0, 1) := by decide +kernel
theorem dL_why_38 : decode cL_why 38 = .ok (.bipush 13, 2) := by decide +kernel
theorem dL_why_40 : decode cL_why 40 = .ok (.iaload, 1) := by decide +kernel
theorem dL_why_41 : decode cL_why 41 = .ok (.iadd, 1) := by decide +kernel
theorem dL_why_42 : decode cL_why 42 = .ok (.iload 7, 2) := by decide +kernel
theorem dL_why_44 : decode cL_why 44 = .ok (.aload 4, 2) := by decide +kernel
theorem dL_why_46 : decode cL_why 46 = .ok (.iconst 5, 1) := by decide +kernel
theorem dL_why_47 : decode cL_why 47 = .ok (.iload 6, 2) := by decide +kernel
theorem dL_why_49 : decode cL_why 49 = .ok (.imul, 1) := by decide +kernel
theorem dL_why_50 : decode cL_why 50 = .ok (.iconst 1, 1) := by decide +kernel
theorem dL_why_51 : decode cL_why 51 = .ok (.iadd, 1) := by decide +kernel
theorem dL_why_52 : decode cL_why 52 = .ok (.iaload, 1) := by decide +kernel
theorem dL_why_53 : decode cL_why 53 = .ok (.imul, 1) := by decide +kernel
theorem dL_why_54 : decode cL_why 54 = .ok (.if_icmp .ge 7, 3) := by decide +kernel
theorem dL_why_57 : decode cL_why 57 = .ok (.iconst 3, 1) := by decide +kernel
theorem dL_why_58 : decode cL_why 58 = .ok (.goto 4, 3) := by decide +kernel
theorem dL_why_61 : decode cL_why 61 = .ok (.iconst 0, 1) := by decide +kernel
theorem dL_why_62 : decode cL_why 62 = .ok (.ireturn, 1) := by decide +kernel
theorem dL_people_0 : decode cL_people 0 = .ok (.iload_n 1, 1) := by decide +kernel
theorem dL_people_1 : decode cL_people 1 = .ok (.bipush 12, 2) := by decide +kernel
theorem dL_people_3 : decode cL_people 3 = .ok (.invokestatic 27, 3) := by decide +kernel
theorem dL_people_6 : decode cL_people 6 = .ok (.istore 9, 2) := by decide +kernel
theorem dL_people_8 : decode cL_people 8 = .ok (.ldc 33, 2) := by decide +kernel
theorem dL_people_10 : decode cL_people 10 = .ok (.istore 10, 2) := by decide +kernel
theorem dL_people_12 : decode cL_people 12 = .ok (.ldc 34, 2) := by decide +kernel
theorem dL_people_14 : decode cL_people 14 = .ok (.istore 11, 2) := by decide +kernel
theorem dL_people_16 : decode cL_people 16 = .ok (.iload 9, 2) := by decide +kernel
theorem dL_people_18 : decode cL_people 18 = .ok (.iconst 2, 1) := by decide +kernel
theorem dL_people_19 : decode cL_people 19 = .ok (.if_icmp .lt 9, 3) := by decide +kernel
theorem dL_people_22 : decode cL_people 22 = .ok (.aload_n 3, 1) := by decide +kernel
theorem dL_people_23 : decode cL_people 23 = .ok (.iconst 4, 1) := by decide +kernel
theorem dL_people_24 : decode cL_people 24 = .ok (.iaload, 1) := by decide +kernel
theorem dL_people_25 : decode cL_people 25 = .ok (.ifCond .ne 166, 3) := by decide +kernel
theorem dL_people_28 : decode cL_people 28 = .ok (.iload_n 2, 1) := by decide +kernel
theorem dL_people_29 : decode cL_people 29 = .ok (.iconst 4, 1) := by decide +kernel
theorem dL_people_30 : decode cL_people 30 = .ok (.invokestatic 27, 3) := by decide +kernel
theorem dL_people_33 : decode cL_people 33 = .ok (.istore 12, 2) := by decide +kernel
theorem dL_people_35 : decode cL_people 35 = .ok (.iload_n 2, 1) := by decide +kernel
theorem dL_people_36 : decode cL_people 36 = .ok (.iconst 2, 1) := by decide +kernel
theorem dL_people_37 : decode cL_people 37 = .ok (.ishr, 1) := by decide +kernel
theorem dL_people_38 : decode cL_people 38 = .ok (.iconst 1, 1) := by decide +kernel
theorem dL_people_39 : decode cL_people 39 = .ok (.iand, 1) := by decide +kernel
theorem dL_people_40 : decode cL_people 40 = .ok (.istore 13, 2) := by decide +kernel
theorem dL_people_42 : decode cL_people 42 = .ok (.aload_n 3, 1) := by decide +kernel
theorem dL_people_43 : decode cL_people 43 = .ok (.iconst 1, 1) := by decide +kernel
theorem dL_people_44 : decode cL_people 44 = .ok (.iaload, 1) := by decide +kernel
theorem dL_people_45 : decode cL_people 45 = .ok (.iconst 1, 1) := by decide +kernel
theorem dL_people_46 : decode cL_people 46 = .ok (.if_icmp .eq 11, 3) := by decide +kernel
theorem dL_people_49 : decode cL_people 49 = .ok (.aload_n 3, 1) := by decide +kernel
theorem dL_people_50 : decode cL_people 50 = .ok (.iconst 4, 1) := by decide +kernel
theorem dL_people_51 : decode cL_people 51 = .ok (.iaload, 1) := by decide +kernel
theorem dL_people_52 : decode cL_people 52 = .ok (.bipush 16, 2) := by decide +kernel
theorem dL_people_54 : decode cL_people 54 = .ok (.if_icmp .ne 56, 3) := by decide +kernel
theorem dL_people_57 : decode cL_people 57 = .ok (.aload_n 0, 1) := by decide +kernel
theorem dL_people_58 : decode cL_people 58 = .ok (.iload 12, 2) := by decide +kernel
theorem dL_people_60 : decode cL_people 60 = .ok (.iload 13, 2) := by decide +kernel
theorem dL_people_62 : decode cL_people 62 = .ok (.invokevirtual 35, 3) := by decide +kernel
theorem dL_people_65 : decode cL_people 65 = .ok (.aload_n 3, 1) := by decide +kernel
theorem dL_people_66 : decode cL_people 66 = .ok (.iconst 1, 1) := by decide +kernel
theorem dL_people_67 : decode cL_people 67 = .ok (.iaload, 1) := by decide +kernel
theorem dL_people_68 : decode cL_people 68 = .ok (.iconst 1, 1) := by decide +kernel
theorem dL_people_69 : decode cL_people 69 = .ok (.if_icmp .ne 8, 3) := by decide +kernel
theorem dL_people_72 : decode cL_people 72 = .ok (.iload 10, 2) := by decide +kernel
theorem dL_people_74 : decode cL_people 74 = .ok (.goto 5, 3) := by decide +kernel
theorem dL_people_77 : decode cL_people 77 = .ok (.ldc 38, 2) := by decide +kernel
theorem dL_people_79 : decode cL_people 79 = .ok (.if_icmp .ne 29, 3) := by decide +kernel
theorem dL_people_82 : decode cL_people 82 = .ok (.aload_n 0, 1) := by decide +kernel
theorem dL_people_83 : decode cL_people 83 = .ok (.iconst 4, 1) := by decide +kernel
theorem dL_people_84 : decode cL_people 84 = .ok (.iconst 0, 1) := by decide +kernel
theorem dL_people_85 : decode cL_people 85 = .ok (.invokevirtual 35, 3) := by decide +kernel
theorem dL_people_88 : decode cL_people 88 = .ok (.iload 11, 2) := by decide +kernel
theorem dL_people_90 : decode cL_people 90 = .ok (.if_icmp .ne 18, 3) := by decide +kernel
theorem dL_people_93 : decode cL_people 93 = .ok (.aload_n 0, 1) := by decide +kernel
theorem dL_people_94 : decode cL_people 94 = .ok (.iconst 0, 1) := by decide +kernel
theorem dL_people_95 : decode cL_people 95 = .ok (.iconst 2, 1) := by decide +kernel
theorem dL_people_96 : decode cL_people 96 = .ok (.invokevirtual 35, 3) := by decide +kernel
theorem dL_people_99 : decode cL_people 99 = .ok (.iload 11, 2) := by decide +kernel
theorem dL_people_101 : decode cL_people 101 = .ok (.if_icmp .ne 7, 3) := by decide +kernel
theorem dL_people_104 : decode cL_people 104 = .ok (.iconst 1, 1) := by decide +kernel
theorem dL_people_105 : decode cL_people 105 = .ok (.goto 4, 3) := by decide +kernel
theorem dL_people_108 : decode cL_people 108 = .ok (.iconst 0, 1) := by decide +kernel
theorem dL_people_109 : decode cL_people 109 = .ok (.ireturn, 1) := by decide +kernel
theorem dL_people_110 : decode cL_people 110 = .ok (.aload_n 3, 1) := by decide +kernel
theorem dL_people_111 : decode cL_people 111 = .ok (.iconst 4, 1) := by decide +kernel
theorem dL_people_112 : decode cL_people 112 = .ok (.iaload, 1) := by decide +kernel
theorem dL_people_113 : decode cL_people 113 = .ok (.istore 14, 2) := by decide +kernel
theorem dL_people_115 : decode cL_people 115 = .ok (.aload 4, 2) := by decide +kernel
theorem dL_people_117 : decode cL_people 117 = .ok (.iconst 3, 1) := by decide +kernel
theorem dL_people_118 : decode cL_people 118 = .ok (.iload 14, 2) := by decide +kernel
theorem dL_people_120 : decode cL_people 120 = .ok (.imul, 1) := by decide +kernel
theorem dL_people_121 : decode cL_people 121 = .ok (.iload 12, 2) := by decide +kernel
theorem dL_people_123 : decode cL_people 123 = .ok (.iastore, 1) := by decide +kernel
theorem dL_people_124 : decode cL_people 124 = .ok (.aload 4, 2) := by decide +kernel
theorem dL_people_126 : decode cL_people 126 = .ok (.iconst 3, 1) := by decide +kernel
theorem dL_people_127 : decode cL_people 127 = .ok (.iload 14, 2) := by decide +kernel
theorem dL_people_129 : decode cL_people 129 = .ok (.imul, 1) := by decide +kernel
theorem dL_people_130 : decode cL_people 130 = .ok (.iconst 1, 1) := by decide +kernel
theorem dL_people_131 : decode cL_people 131 = .ok (.iadd, 1) := by decide +kernel
theorem dL_people_132 : decode cL_people 132 = .ok (.iload 13, 2) := by decide +kernel
theorem dL_people_134 : decode cL_people 134 = .ok (.iastore, 1) := by decide +kernel
theorem dL_people_135 : decode cL_people 135 = .ok (.aload 4, 2) := by decide +kernel
theorem dL_people_137 : decode cL_people 137 = .ok (.iconst 3, 1) := by decide +kernel
theorem dL_people_138 : decode cL_people 138 = .ok (.iload 14, 2) := by decide +kernel
theorem dL_people_140 : decode cL_people 140 = .ok (.imul, 1) := by decide +kernel
theorem dL_people_141 : decode cL_people 141 = .ok (.iconst 2, 1) := by decide +kernel
theorem dL_people_142 : decode cL_people 142 = .ok (.iadd, 1) := by decide +kernel
theorem dL_people_143 : decode cL_people 143 = .ok (.iconst 0, 1) := by decide +kernel
theorem dL_people_144 : decode cL_people 144 = .ok (.iastore, 1) := by decide +kernel
theorem dL_people_145 : decode cL_people 145 = .ok (.aload 5, 2) := by decide +kernel
theorem dL_people_147 : decode cL_people 147 = .ok (.iconst 4, 1) := by decide +kernel
theorem dL_people_148 : decode cL_people 148 = .ok (.iload 14, 2) := by decide +kernel
theorem dL_people_150 : decode cL_people 150 = .ok (.imul, 1) := by decide +kernel
theorem dL_people_151 : decode cL_people 151 = .ok (.iconst 3, 1) := by decide +kernel
theorem dL_people_152 : decode cL_people 152 = .ok (.iadd, 1) := by decide +kernel
theorem dL_people_153 : decode cL_people 153 = .ok (.iconst 0, 1) := by decide +kernel
theorem dL_people_154 : decode cL_people 154 = .ok (.iastore, 1) := by decide +kernel
theorem dL_people_155 : decode cL_people 155 = .ok (.aload 5, 2) := by decide +kernel
theorem dL_people_157 : decode cL_people 157 = .ok (.aload 6, 2) := by decide +kernel
theorem dL_people_159 : decode cL_people 159 = .ok (.iload 14, 2) := by decide +kernel
theorem dL_people_161 : decode cL_people 161 = .ok (.iconst 0, 1) := by decide +kernel
theorem dL_people_162 : decode cL_people 162 = .ok (.invokestatic 39, 3) := by decide +kernel
theorem dL_people_165 : decode cL_people 165 = .ok (.aload_n 3, 1) := by decide +kernel
theorem dL_people_166 : decode cL_people 166 = .ok (.iconst 4, 1) := by decide +kernel
theorem dL_people_167 : decode cL_people 167 = .ok (.dup2, 1) := by decide +kernel
theorem dL_people_168 : decode cL_people 168 = .ok (.iaload, 1) := by decide +kernel
theorem dL_people_169 : decode cL_people 169 = .ok (.iconst 1, 1) := by decide +kernel
theorem dL_people_170 : decode cL_people 170 = .ok (.iadd, 1) := by decide +kernel
theorem dL_people_171 : decode cL_people 171 = .ok (.iastore, 1) := by decide +kernel
theorem dL_people_172 : decode cL_people 172 = .ok (.aload_n 0, 1) := by decide +kernel
theorem dL_people_173 : decode cL_people 173 = .ok (.iload 12, 2) := by decide +kernel
theorem dL_people_175 : decode cL_people 175 = .ok (.iload 13, 2) := by decide +kernel
theorem dL_people_177 : decode cL_people 177 = .ok (.invokevirtual 35, 3) := by decide +kernel
theorem dL_people_180 : decode cL_people 180 = .ok (.iload 14, 2) := by decide +kernel
theorem dL_people_182 : decode cL_people 182 = .ok (.if_icmp .ne 7, 3) := by decide +kernel
theorem dL_people_185 : decode cL_people 185 = .ok (.iconst 1, 1) := by decide +kernel
theorem dL_people_186 : decode cL_people 186 = .ok (.goto 4, 3) := by decide +kernel
theorem dL_people_189 : decode cL_people 189 = .ok (.iconst 0, 1) := by decide +kernel
theorem dL_people_190 : decode cL_people 190 = .ok (.ireturn, 1) := by decide +kernel
theorem dL_people_191 : decode cL_people 191 = .ok (.iload_n 2, 1) := by decide +kernel
theorem dL_people_192 : decode cL_people 192 = .ok (.aload_n 3, 1) := by decide +kernel
theorem dL_people_193 : decode cL_people 193 = .ok (.iconst 4, 1) := by decide +kernel
theorem dL_people_194 : decode cL_people 194 = .ok (.iaload, 1) := by decide +kernel
theorem dL_people_195 : decode cL_people 195 = .ok (.invokestatic 27, 3) := by decide +kernel
theorem dL_people_198 : decode cL_people 198 = .ok (.istore 12, 2) := by decide +kernel
theorem dL_people_200 : decode cL_people 200 = .ok (.aload 4, 2) := by decide +kernel
theorem dL_people_202 : decode cL_people 202 = .ok (.iconst 3, 1) := by decide +kernel
theorem dL_people_203 : decode cL_people 203 = .ok (.iload 12, 2) := by decide +kernel
theorem dL_people_205 : decode cL_people 205 = .ok (.imul, 1) := by decide +kernel
theorem dL_people_206 : decode cL_people 206 = .ok (.iconst 2, 1) := by decide +kernel
theorem dL_people_207 : decode cL_people 207 = .ok (.iadd, 1) := by decide +kernel
theorem dL_people_208 : decode cL_people 208 = .ok (.iaload, 1) := by decide +kernel
theorem dL_people_209 : decode cL_people 209 = .ok (.istore 13, 2) := by decide +kernel
theorem dL_people_211 : decode cL_people 211 = .ok (.aload 4, 2) := by decide +kernel
theorem dL_people_213 : decode cL_people 213 = .ok (.aload 5, 2) := by decide +kernel
theorem dL_people_215 : decode cL_people 215 = .ok (.aload 6, 2) := by decide +kernel
theorem dL_people_217 : decode cL_people 217 = .ok (.iload 12, 2) := by decide +kernel
theorem dL_people_219 : decode cL_people 219 = .ok (.invokestatic 23, 3) := by decide +kernel
theorem dL_people_222 : decode cL_people 222 = .ok (.istore 14, 2) := by decide +kernel
theorem dL_people_224 : decode cL_people 224 = .ok (.iconst 1, 1) := by decide +kernel
theorem dL_people_225 : decode cL_people 225 = .ok (.iload_n 2, 1) := by decide +kernel
theorem dL_people_226 : decode cL_people 226 = .ok (.bipush 6, 2) := by decide +kernel
theorem dL_people_228 : decode cL_people 228 = .ok (.ishr, 1) := by decide +kernel
theorem dL_people_229 : decode cL_people 229 = .ok (.iload_n 2, 1) := by decide +kernel
theorem dL_people_230 : decode cL_people 230 = .ok (.bipush 16, 2) := by decide +kernel
theorem dL_people_232 : decode cL_people 232 = .ok (.ishr, 1) := by decide +kernel
theorem dL_people_233 : decode cL_people 233 = .ok (.iconst 3, 1) := by decide +kernel
theorem dL_people_234 : decode cL_people 234 = .ok (.iand, 1) := by decide +kernel
theorem dL_people_235 : decode cL_people 235 = .ok (.ifCond .ne 9, 3) := by decide +kernel
theorem dL_people_238 : decode cL_people 238 = .ok (.sipush 999, 3) := by decide +kernel
theorem dL_people_241 : decode cL_people 241 = .ok (.goto 5, 3) := by decide +kernel
theorem dL_people_244 : decode cL_people 244 = .ok (.bipush 40, 2) := by decide +kernel
theorem dL_people_246 : decode cL_people 246 = .ok (.invokestatic 27, 3) := by decide +kernel
theorem dL_people_249 : decode cL_people 249 = .ok (.iadd, 1) := by decide +kernel
theorem dL_people_250 : decode cL_people 250 = .ok (.istore 15, 2) := by decide +kernel
theorem dL_people_252 : decode cL_people 252 = .ok (.iload 9, 2) := by decide +kernel
theorem dL_people_254 : decode cL_people 254 = .ok (.iconst 5, 1) := by decide +kernel
theorem dL_people_255 : decode cL_people 255 = .ok (.if_icmp .ge 253, 3) := by decide +kernel
theorem dL_people_258 : decode cL_people 258 = .ok (.iload_n 2, 1) := by decide +kernel
theorem dL_people_259 : decode cL_people 259 = .ok (.iconst 4, 1) := by decide +kernel
theorem dL_people_260 : decode cL_people 260 = .ok (.ishr, 1) := by decide +kernel
theorem dL_people_261 : decode cL_people 261 = .ok (.bipush 6, 2) := by decide +kernel
theorem dL_people_263 : decode cL_people 263 = .ok (.invokestatic 27, 3) := by decide +kernel
theorem dL_people_266 : decode cL_people 266 = .ok (.istore 16, 2) := by decide +kernel
theorem dL_people_268 : decode cL_people 268 = .ok (.iconst 1, 1) := by decide +kernel
theorem dL_people_269 : decode cL_people 269 = .ok (.iload_n 2, 1) := by decide +kernel
theorem dL_people_270 : decode cL_people 270 = .ok (.bipush 7, 2) := by decide +kernel
theorem dL_people_272 : decode cL_people 272 = .ok (.ishr, 1) := by decide +kernel
theorem dL_people_273 : decode cL_people 273 = .ok (.iload_n 2, 1) := by decide +kernel
theorem dL_people_274 : decode cL_people 274 = .ok (.bipush 16, 2) := by decide +kernel
theorem dL_people_276 : decode cL_people 276 = .ok (.ishr, 1) := by decide +kernel
theorem dL_people_277 : decode cL_people 277 = .ok (.iconst 3, 1) := by decide +kernel
theorem dL_people_278 : decode cL_people 278 = .ok (.iand, 1) := by decide +kernel
theorem dL_people_279 : decode cL_people 279 = .ok (.ifCond .ne 8, 3) := by decide +kernel
theorem dL_people_282 : decode cL_people 282 = .ok (.bipush 99, 2) := by decide +kernel
theorem dL_people_284 : decode cL_people 284 = .ok (.goto 4, 3) := by decide +kernel
theorem dL_people_287 : decode cL_people 287 = .ok (.iconst 4, 1) := by decide +kernel
theorem dL_people_288 : decode cL_people 288 = .ok (.invokestatic 27, 3) := by decide +kernel
theorem dL_people_291 : decode cL_people 291 = .ok (.iadd, 1) := by decide +kernel
theorem dL_people_292 : decode cL_people 292 = .ok (.istore 17, 2) := by decide +kernel
theorem dL_people_294 : decode cL_people 294 = .ok (.aload_n 3, 1) := by decide +kernel
theorem dL_people_295 : decode cL_people 295 = .ok (.aload 4, 2) := by decide +kernel
theorem dL_people_297 : decode cL_people 297 = .ok (.aload 5, 2) := by decide +kernel
theorem dL_people_299 : decode cL_people 299 = .ok (.aload 6, 2) := by decide +kernel
theorem dL_people_301 : decode cL_people 301 = .ok (.aload 7, 2) := by decide +kernel
theorem dL_people_303 : decode cL_people 303 = .ok (.iload 12, 2) := by decide +kernel
theorem dL_people_305 : decode cL_people 305 = .ok (.iload 16, 2) := by decide +kernel
theorem dL_people_307 : decode cL_people 307 = .ok (.iload 17, 2) := by decide +kernel
theorem dL_people_309 : decode cL_people 309 = .ok (.invokestatic 43, 3) := by decide +kernel
theorem dL_people_312 : decode cL_people 312 = .ok (.istore 18, 2) := by decide +kernel
theorem dL_people_314 : decode cL_people 314 = .ok (.iload 18, 2) := by decide +kernel
theorem dL_people_316 : decode cL_people 316 = .ok (.ifCond .le 85, 3) := by decide +kernel
theorem dL_people_319 : decode cL_people 319 = .ok (.aload_n 0, 1) := by decide +kernel
theorem dL_people_320 : decode cL_people 320 = .ok (.iload 12, 2) := by decide +kernel
theorem dL_people_322 : decode cL_people 322 = .ok (.iload 16, 2) := by decide +kernel
theorem dL_people_324 : decode cL_people 324 = .ok (.iload 17, 2) := by decide +kernel
theorem dL_people_326 : decode cL_people 326 = .ok (.invokevirtual 47, 3) := by decide +kernel
theorem dL_people_329 : decode cL_people 329 = .ok (.iload 10, 2) := by decide +kernel
theorem dL_people_331 : decode cL_people 331 = .ok (.if_icmp .ne 68, 3) := by decide +kernel
theorem dL_people_334 : decode cL_people 334 = .ok (.aload_n 0, 1) := by decide +kernel
theorem dL_people_335 : decode cL_people 335 = .ok (.iload 12, 2) := by decide +kernel
theorem dL_people_337 : decode cL_people 337 = .ok (.iload 16, 2) := by decide +kernel
theorem dL_people_339 : decode cL_people 339 = .ok (.iload 17, 2) := by decide +kernel
theorem dL_people_341 : decode cL_people 341 = .ok (.invokevirtual 51, 3) := by decide +kernel
theorem dL_people_344 : decode cL_people 344 = .ok (.iload 18, 2) := by decide +kernel
theorem dL_people_346 : decode cL_people 346 = .ok (.if_icmp .ne 53, 3) := by decide +kernel
theorem dL_people_349 : decode cL_people 349 = .ok (.aload_n 0, 1) := by decide +kernel
theorem dL_people_350 : decode cL_people 350 = .ok (.aload_n 3, 1) := by decide +kernel
theorem dL_people_351 : decode cL_people 351 = .ok (.iconst 4, 1) := by decide +kernel
theorem dL_people_352 : decode cL_people 352 = .ok (.iaload, 1) := by decide +kernel
theorem dL_people_353 : decode cL_people 353 = .ok (.iload 16, 2) := by decide +kernel
theorem dL_people_355 : decode cL_people 355 = .ok (.iload 17, 2) := by decide +kernel
theorem dL_people_357 : decode cL_people 357 = .ok (.invokevirtual 47, 3) := by decide +kernel
theorem dL_people_360 : decode cL_people 360 = .ok (.iload 11, 2) := by decide +kernel
theorem dL_people_362 : decode cL_people 362 = .ok (.if_icmp .ne 37, 3) := by decide +kernel
theorem dL_people_365 : decode cL_people 365 = .ok (.aload_n 0, 1) := by decide +kernel
theorem dL_people_366 : decode cL_people 366 = .ok (.iload 12, 2) := by decide +kernel
theorem dL_people_368 : decode cL_people 368 = .ok (.bipush 6, 2) := by decide +kernel
theorem dL_people_370 : decode cL_people 370 = .ok (.iload 17, 2) := by decide +kernel
theorem dL_people_372 : decode cL_people 372 = .ok (.invokevirtual 47, 3) := by decide +kernel
theorem dL_people_375 : decode cL_people 375 = .ok (.iload 11, 2) := by decide +kernel
theorem dL_people_377 : decode cL_people 377 = .ok (.if_icmp .ne 22, 3) := by decide +kernel
theorem dL_people_380 : decode cL_people 380 = .ok (.aload_n 0, 1) := by decide +kernel
theorem dL_people_381 : decode cL_people 381 = .ok (.iload 12, 2) := by decide +kernel
theorem dL_people_383 : decode cL_people 383 = .ok (.iload 16, 2) := by decide +kernel
theorem dL_people_385 : decode cL_people 385 = .ok (.bipush 100, 2) := by decide +kernel
theorem dL_people_387 : decode cL_people 387 = .ok (.invokevirtual 47, 3) := by decide +kernel
theorem dL_people_390 : decode cL_people 390 = .ok (.iload 11, 2) := by decide +kernel
theorem dL_people_392 : decode cL_people 392 = .ok (.if_icmp .ne 7, 3) := by decide +kernel
theorem dL_people_395 : decode cL_people 395 = .ok (.iconst 1, 1) := by decide +kernel
theorem dL_people_396 : decode cL_people 396 = .ok (.goto 4, 3) := by decide +kernel
theorem dL_people_399 : decode cL_people 399 = .ok (.iconst 0, 1) := by decide +kernel
theorem dL_people_400 : decode cL_people 400 = .ok (.ireturn, 1) := by decide +kernel
theorem dL_people_401 : decode cL_people 401 = .ok (.iload 17, 2) := by decide +kernel
theorem dL_people_403 : decode cL_people 403 = .ok (.aload 7, 2) := by decide +kernel
theorem dL_people_405 : decode cL_people 405 = .ok (.iconst 5, 1) := by decide +kernel
theorem dL_people_406 : decode cL_people 406 = .ok (.iload 16, 2) := by decide +kernel
theorem dL_people_408 : decode cL_people 408 = .ok (.imul, 1) := by decide +kernel
theorem dL_people_409 : decode cL_people 409 = .ok (.iconst 1, 1) := by decide +kernel
theorem dL_people_410 : decode cL_people 410 = .ok (.iadd, 1) := by decide +kernel
theorem dL_people_411 : decode cL_people 411 = .ok (.iaload, 1) := by decide +kernel
theorem dL_people_412 : decode cL_people 412 = .ok (.imul, 1) := by decide +kernel
theorem dL_people_413 : decode cL_people 413 = .ok (.istore 19, 2) := by decide +kernel
theorem dL_people_415 : decode cL_people 415 = .ok (.aload 7, 2) := by decide +kernel
theorem dL_people_417 : decode cL_people 417 = .ok (.iconst 5, 1) := by decide +kernel
theorem dL_people_418 : decode cL_people 418 = .ok (.iload 16, 2) := by decide +kernel
theorem dL_people_420 : decode cL_people 420 = .ok (.imul, 1) := by decide +kernel
theorem dL_people_421 : decode cL_people 421 = .ok (.dup2, 1) := by decide +kernel
theorem dL_people_422 : decode cL_people 422 = .ok (.iaload, 1) := by decide +kernel
theorem dL_people_423 : decode cL_people 423 = .ok (.iload 17, 2) := by decide +kernel
theorem dL_people_425 : decode cL_people 425 = .ok (.isub, 1) := by decide +kernel
theorem dL_people_426 : decode cL_people 426 = .ok (.iastore, 1) := by decide +kernel
theorem dL_people_427 : decode cL_people 427 = .ok (.aload 7, 2) := by decide +kernel
theorem dL_people_429 : decode cL_people 429 = .ok (.iconst 5, 1) := by decide +kernel
theorem dL_people_430 : decode cL_people 430 = .ok (.iload 16, 2) := by decide +kernel
theorem dL_people_432 : decode cL_people 432 = .ok (.imul, 1) := by decide +kernel
theorem dL_people_433 : decode cL_people 433 = .ok (.iconst 3, 1) := by decide +kernel
theorem dL_people_434 : decode cL_people 434 = .ok (.iadd, 1) := by decide +kernel
theorem dL_people_435 : decode cL_people 435 = .ok (.dup2, 1) := by decide +kernel
theorem dL_people_436 : decode cL_people 436 = .ok (.iaload, 1) := by decide +kernel
theorem dL_people_437 : decode cL_people 437 = .ok (.iload 17, 2) := by decide +kernel
theorem dL_people_439 : decode cL_people 439 = .ok (.iadd, 1) := by decide +kernel
theorem dL_people_440 : decode cL_people 440 = .ok (.iastore, 1) := by decide +kernel
theorem dL_people_441 : decode cL_people 441 = .ok (.aload 7, 2) := by decide +kernel
theorem dL_people_443 : decode cL_people 443 = .ok (.iconst 5, 1) := by decide +kernel
theorem dL_people_444 : decode cL_people 444 = .ok (.iload 16, 2) := by decide +kernel
theorem dL_people_446 : decode cL_people 446 = .ok (.imul, 1) := by decide +kernel
theorem dL_people_447 : decode cL_people 447 = .ok (.iconst 4, 1) := by decide +kernel
theorem dL_people_448 : decode cL_people 448 = .ok (.iadd, 1) := by decide +kernel
theorem dL_people_449 : decode cL_people 449 = .ok (.dup2, 1) := by decide +kernel
theorem dL_people_450 : decode cL_people 450 = .ok (.iaload, 1) := by decide +kernel
theorem dL_people_451 : decode cL_people 451 = .ok (.iload 19, 2) := by decide +kernel
theorem dL_people_453 : decode cL_people 453 = .ok (.iadd, 1) := by decide +kernel
theorem dL_people_454 : decode cL_people 454 = .ok (.iastore, 1) := by decide +kernel
theorem dL_people_455 : decode cL_people 455 = .ok (.aload 6, 2) := by decide +kernel
theorem dL_people_457 : decode cL_people 457 = .ok (.iconst 3, 1) := by decide +kernel
theorem dL_people_458 : decode cL_people 458 = .ok (.iload 12, 2) := by decide +kernel
theorem dL_people_460 : decode cL_people 460 = .ok (.imul, 1) := by decide +kernel
theorem dL_people_461 : decode cL_people 461 = .ok (.dup2, 1) := by decide +kernel
theorem dL_people_462 : decode cL_people 462 = .ok (.iaload, 1) := by decide +kernel
theorem dL_people_463 : decode cL_people 463 = .ok (.iload 19, 2) := by decide +kernel
theorem dL_people_465 : decode cL_people 465 = .ok (.iadd, 1) := by decide +kernel
theorem dL_people_466 : decode cL_people 466 = .ok (.iastore, 1) := by decide +kernel
theorem dL_people_467 : decode cL_people 467 = .ok (.aload_n 3, 1) := by decide +kernel
theorem dL_people_468 : decode cL_people 468 = .ok (.bipush 10, 2) := by decide +kernel
theorem dL_people_470 : decode cL_people 470 = .ok (.dup2, 1) := by decide +kernel
theorem dL_people_471 : decode cL_people 471 = .ok (.iaload, 1) := by decide +kernel
theorem dL_people_472 : decode cL_people 472 = .ok (.iload 19, 2) := by decide +kernel
theorem dL_people_474 : decode cL_people 474 = .ok (.iadd, 1) := by decide +kernel
theorem dL_people_475 : decode cL_people 475 = .ok (.iastore, 1) := by decide +kernel
theorem dL_people_476 : decode cL_people 476 = .ok (.aload_n 3, 1) := by decide +kernel
theorem dL_people_477 : decode cL_people 477 = .ok (.aload 8, 2) := by decide +kernel
theorem dL_people_479 : decode cL_people 479 = .ok (.iload 12, 2) := by decide +kernel
theorem dL_people_481 : decode cL_people 481 = .ok (.iconst 0, 1) := by decide +kernel
theorem dL_people_482 : decode cL_people 482 = .ok (.iload 19, 2) := by decide +kernel
theorem dL_people_484 : decode cL_people 484 = .ok (.invokestatic 15, 3) := by decide +kernel
theorem dL_people_487 : decode cL_people 487 = .ok (.aload_n 0, 1) := by decide +kernel
theorem dL_people_488 : decode cL_people 488 = .ok (.iload 12, 2) := by decide +kernel
theorem dL_people_490 : decode cL_people 490 = .ok (.iload 16, 2) := by decide +kernel
theorem dL_people_492 : decode cL_people 492 = .ok (.iload 17, 2) := by decide +kernel
theorem dL_people_494 : decode cL_people 494 = .ok (.invokevirtual 47, 3) := by decide +kernel
theorem dL_people_497 : decode cL_people 497 = .ok (.iload 19, 2) := by decide +kernel
theorem dL_people_499 : decode cL_people 499 = .ok (.if_icmp .ne 7, 3) := by decide +kernel
theorem dL_people_502 : decode cL_people 502 = .ok (.iconst 1, 1) := by decide +kernel
theorem dL_people_503 : decode cL_people 503 = .ok (.goto 4, 3) := by decide +kernel
theorem dL_people_506 : decode cL_people 506 = .ok (.iconst 0, 1) := by decide +kernel
theorem dL_people_507 : decode cL_people 507 = .ok (.ireturn, 1) := by decide +kernel
theorem dL_people_508 : decode cL_people 508 = .ok (.iload 9, 2) := by decide +kernel
theorem dL_people_510 : decode cL_people 510 = .ok (.iconst 5, 1) := by decide +kernel
theorem dL_people_511 : decode cL_people 511 = .ok (.if_icmp .ne 125, 3) := by decide +kernel
theorem dL_people_514 : decode cL_people 514 = .ok (.aload_n 3, 1) := by decide +kernel
theorem dL_people_515 : decode cL_people 515 = .ok (.iconst 1, 1) := by decide +kernel
theorem dL_people_516 : decode cL_people 516 = .ok (.iaload, 1) := by decide +kernel
theorem dL_people_517 : decode cL_people 517 = .ok (.iconst 1, 1) := by decide +kernel
theorem dL_people_518 : decode cL_people 518 = .ok (.if_icmp .eq 16, 3) := by decide +kernel
theorem dL_people_521 : decode cL_people 521 = .ok (.iload 13, 2) := by decide +kernel
theorem dL_people_523 : decode cL_people 523 = .ok (.iconst 2, 1) := by decide +kernel
theorem dL_people_524 : decode cL_people 524 = .ok (.if_icmp .eq 10, 3) := by decide +kernel
theorem dL_people_527 : decode cL_people 527 = .ok (.iload 14, 2) := by decide +kernel
theorem dL_people_529 : decode cL_people 529 = .ok (.iload 15, 2) := by decide +kernel
theorem dL_people_531 : decode cL_people 531 = .ok (.if_icmp .ge 45, 3) := by decide +kernel
theorem dL_people_534 : decode cL_people 534 = .ok (.aload_n 0, 1) := by decide +kernel
theorem dL_people_535 : decode cL_people 535 = .ok (.iload 12, 2) := by decide +kernel
theorem dL_people_537 : decode cL_people 537 = .ok (.iload 15, 2) := by decide +kernel
theorem dL_people_539 : decode cL_people 539 = .ok (.invokevirtual 53, 3) := by decide +kernel
theorem dL_people_542 : decode cL_people 542 = .ok (.iload 10, 2) := by decide +kernel
theorem dL_people_544 : decode cL_people 544 = .ok (.if_icmp .ne 30, 3) := by decide +kernel
theorem dL_people_547 : decode cL_people 547 = .ok (.aload_n 0, 1) := by decide +kernel
theorem dL_people_548 : decode cL_people 548 = .ok (.iload 12, 2) := by decide +kernel
theorem dL_people_550 : decode cL_people 550 = .ok (.iconst 0, 1) := by decide +kernel
theorem dL_people_551 : decode cL_people 551 = .ok (.invokevirtual 53, 3) := by decide +kernel
theorem dL_people_554 : decode cL_people 554 = .ok (.iload 11, 2) := by decide +kernel
theorem dL_people_556 : decode cL_people 556 = .ok (.if_icmp .ne 18, 3) := by decide +kernel
theorem dL_people_559 : decode cL_people 559 = .ok (.aload_n 0, 1) := by decide +kernel
theorem dL_people_560 : decode cL_people 560 = .ok (.iconst (-1), 1) := by decide +kernel
theorem dL_people_561 : decode cL_people 561 = .ok (.iconst 5, 1) := by decide +kernel
theorem dL_people_562 : decode cL_people 562 = .ok (.invokevirtual 53, 3) := by decide +kernel
theorem dL_people_565 : decode cL_people 565 = .ok (.iload 11, 2) := by decide +kernel
theorem dL_people_567 : decode cL_people 567 = .ok (.if_icmp .ne 7, 3) := by decide +kernel
theorem dL_people_570 : decode cL_people 570 = .ok (.iconst 1, 1) := by decide +kernel
theorem dL_people_571 : decode cL_people 571 = .ok (.goto 4, 3) := by decide +kernel
theorem dL_people_574 : decode cL_people 574 = .ok (.iconst 0, 1) := by decide +kernel
theorem dL_people_575 : decode cL_people 575 = .ok (.ireturn, 1) := by decide +kernel
theorem dL_people_576 : decode cL_people 576 = .ok (.aload 6, 2) := by decide +kernel
theorem dL_people_578 : decode cL_people 578 = .ok (.iconst 3, 1) := by decide +kernel
theorem dL_people_579 : decode cL_people 579 = .ok (.iload 12, 2) := by decide +kernel
theorem dL_people_581 : decode cL_people 581 = .ok (.imul, 1) := by decide +kernel
theorem dL_people_582 : decode cL_people 582 = .ok (.iconst 2, 1) := by decide +kernel
theorem dL_people_583 : decode cL_people 583 = .ok (.iadd, 1) := by decide +kernel
theorem dL_people_584 : decode cL_people 584 = .ok (.dup2, 1) := by decide +kernel
theorem dL_people_585 : decode cL_people 585 = .ok (.iaload, 1) := by decide +kernel
theorem dL_people_586 : decode cL_people 586 = .ok (.iload 15, 2) := by decide +kernel
theorem dL_people_588 : decode cL_people 588 = .ok (.iadd, 1) := by decide +kernel
theorem dL_people_589 : decode cL_people 589 = .ok (.iastore, 1) := by decide +kernel
theorem dL_people_590 : decode cL_people 590 = .ok (.aload_n 3, 1) := by decide +kernel
theorem dL_people_591 : decode cL_people 591 = .ok (.bipush 8, 2) := by decide +kernel
theorem dL_people_593 : decode cL_people 593 = .ok (.dup2, 1) := by decide +kernel
theorem dL_people_594 : decode cL_people 594 = .ok (.iaload, 1) := by decide +kernel
theorem dL_people_595 : decode cL_people 595 = .ok (.iload 15, 2) := by decide +kernel
theorem dL_people_597 : decode cL_people 597 = .ok (.iadd, 1) := by decide +kernel
theorem dL_people_598 : decode cL_people 598 = .ok (.iastore, 1) := by decide +kernel
theorem dL_people_599 : decode cL_people 599 = .ok (.aload_n 3, 1) := by decide +kernel
theorem dL_people_600 : decode cL_people 600 = .ok (.iload 15, 2) := by decide +kernel
theorem dL_people_602 : decode cL_people 602 = .ok (.invokestatic 19, 3) := by decide +kernel
theorem dL_people_605 : decode cL_people 605 = .ok (.aload_n 3, 1) := by decide +kernel
theorem dL_people_606 : decode cL_people 606 = .ok (.aload 8, 2) := by decide +kernel
theorem dL_people_608 : decode cL_people 608 = .ok (.iload 12, 2) := by decide +kernel
theorem dL_people_610 : decode cL_people 610 = .ok (.iconst 2, 1) := by decide +kernel
theorem dL_people_611 : decode cL_people 611 = .ok (.iload 15, 2) := by decide +kernel
theorem dL_people_613 : decode cL_people 613 = .ok (.invokestatic 15, 3) := by decide +kernel
theorem dL_people_616 : decode cL_people 616 = .ok (.aload_n 0, 1) := by decide +kernel
theorem dL_people_617 : decode cL_people 617 = .ok (.iload 12, 2) := by decide +kernel
theorem dL_people_619 : decode cL_people 619 = .ok (.iload 15, 2) := by decide +kernel
theorem dL_people_621 : decode cL_people 621 = .ok (.invokevirtual 53, 3) := by decide +kernel
theorem dL_people_624 : decode cL_people 624 = .ok (.aload_n 3, 1) := by decide +kernel
theorem dL_people_625 : decode cL_people 625 = .ok (.iconst 5, 1) := by decide +kernel
theorem dL_people_626 : decode cL_people 626 = .ok (.iaload, 1) := by decide +kernel
theorem dL_people_627 : decode cL_people 627 = .ok (.if_icmp .ne 7, 3) := by decide +kernel
theorem dL_people_630 : decode cL_people 630 = .ok (.iconst 1, 1) := by decide +kernel
theorem dL_people_631 : decode cL_people 631 = .ok (.goto 4, 3) := by decide +kernel
theorem dL_people_634 : decode cL_people 634 = .ok (.iconst 0, 1) := by decide +kernel
theorem dL_people_635 : decode cL_people 635 = .ok (.ireturn, 1) := by decide +kernel
theorem dL_people_636 : decode cL_people 636 = .ok (.iload 9, 2) := by decide +kernel
theorem dL_people_638 : decode cL_people 638 = .ok (.bipush 6, 2) := by decide +kernel
theorem dL_people_640 : decode cL_people 640 = .ok (.if_icmp .ne 91, 3) := by decide +kernel
theorem dL_people_643 : decode cL_people 643 = .ok (.iload 13, 2) := by decide +kernel
theorem dL_people_645 : decode cL_people 645 = .ok (.iconst 2, 1) := by decide +kernel
theorem dL_people_646 : decode cL_people 646 = .ok (.if_icmp .eq 14, 3) := by decide +kernel
theorem dL_people_649 : decode cL_people 649 = .ok (.iload 14, 2) := by decide +kernel
theorem dL_people_651 : decode cL_people 651 = .ok (.iload 15, 2) := by decide +kernel
theorem dL_people_653 : decode cL_people 653 = .ok (.isub, 1) := by decide +kernel
theorem dL_people_654 : decode cL_people 654 = .ok (.sipush (-4000), 3) := by decide +kernel
theorem dL_people_657 : decode cL_people 657 = .ok (.if_icmp .ge 36, 3) := by decide +kernel
theorem dL_people_660 : decode cL_people 660 = .ok (.aload_n 0, 1) := by decide +kernel
theorem dL_people_661 : decode cL_people 661 = .ok (.iload 12, 2) := by decide +kernel
theorem dL_people_663 : decode cL_people 663 = .ok (.iload 15, 2) := by decide +kernel
theorem dL_people_665 : decode cL_people 665 = .ok (.invokevirtual 56, 3) := by decide +kernel
theorem dL_people_668 : decode cL_people 668 = .ok (.iload 10, 2) := by decide +kernel
theorem dL_people_670 : decode cL_people 670 = .ok (.if_icmp .ne 21, 3) := by decide +kernel
theorem dL_people_673 : decode cL_people 673 = .ok (.aload_n 0, 1) := by decide +kernel
theorem dL_people_674 : decode cL_people 674 = .ok (.iload 12, 2) := by decide +kernel
theorem dL_people_676 : decode cL_people 676 = .ok (.sipush 1000, 3) := by decide +kernel
theorem dL_people_679 : decode cL_people 679 = .ok (.invokevirtual 56, 3) := by decide +kernel
theorem dL_people_682 : decode cL_people 682 = .ok (.iload 11, 2) := by decide +kernel
theorem dL_people_684 : decode cL_people 684 = .ok (.if_icmp .ne 7, 3) := by decide +kernel
theorem dL_people_687 : decode cL_people 687 = .ok (.iconst 1, 1) := by decide +kernel
theorem dL_people_688 : decode cL_people 688 = .ok (.goto 4, 3) := by decide +kernel
theorem dL_people_691 : decode cL_people 691 = .ok (.iconst 0, 1) := by decide +kernel
theorem dL_people_692 : decode cL_people 692 = .ok (.ireturn, 1) := by decide +kernel
theorem dL_people_693 : decode cL_people 693 = .ok (.aload_n 3, 1) := by decide +kernel
theorem dL_people_694 : decode cL_people 694 = .ok (.aload 6, 2) := by decide +kernel
theorem dL_people_696 : decode cL_people 696 = .ok (.aload 8, 2) := by decide +kernel
theorem dL_people_698 : decode cL_people 698 = .ok (.iload 12, 2) := by decide +kernel
theorem dL_people_700 : decode cL_people 700 = .ok (.iload 15, 2) := by decide +kernel
theorem dL_people_702 : decode cL_people 702 = .ok (.invokestatic 59, 3) := by decide +kernel
theorem dL_people_705 : decode cL_people 705 = .ok (.aload_n 0, 1) := by decide +kernel
theorem dL_people_706 : decode cL_people 706 = .ok (.iload 12, 2) := by decide +kernel
theorem dL_people_708 : decode cL_people 708 = .ok (.iload 15, 2) := by decide +kernel
theorem dL_people_710 : decode cL_people 710 = .ok (.invokevirtual 56, 3) := by decide +kernel
theorem dL_people_713 : decode cL_people 713 = .ok (.sipush 5000, 3) := by decide +kernel
theorem dL_people_716 : decode cL_people 716 = .ok (.iload 14, 2) := by decide +kernel
theorem dL_people_718 : decode cL_people 718 = .ok (.iadd, 1) := by decide +kernel
theorem dL_people_719 : decode cL_people 719 = .ok (.iload 15, 2) := by decide +kernel
theorem dL_people_721 : decode cL_people 721 = .ok (.isub, 1) := by decide +kernel
theorem dL_people_722 : decode cL_people 722 = .ok (.if_icmp .ne 7, 3) := by decide +kernel
theorem dL_people_725 : decode cL_people 725 = .ok (.iconst 1, 1) := by decide +kernel
theorem dL_people_726 : decode cL_people 726 = .ok (.goto 4, 3) := by decide +kernel
theorem dL_people_729 : decode cL_people 729 = .ok (.iconst 0, 1) := by decide +kernel
theorem dL_people_730 : decode cL_people 730 = .ok (.ireturn, 1) := by decide +kernel
theorem dL_people_731 : decode cL_people 731 = .ok (.iload 9, 2) := by decide +kernel
theorem dL_people_733 : decode cL_people 733 = .ok (.bipush 7, 2) := by decide +kernel
theorem dL_people_735 : decode cL_people 735 = .ok (.if_icmp .ne 318, 3) := by decide +kernel
theorem dL_people_738 : decode cL_people 738 = .ok (.iload_n 2, 1) := by decide +kernel
theorem dL_people_739 : decode cL_people 739 = .ok (.iconst 5, 1) := by decide +kernel
theorem dL_people_740 : decode cL_people 740 = .ok (.ishr, 1) := by decide +kernel
theorem dL_people_741 : decode cL_people 741 = .ok (.iconst 1, 1) := by decide +kernel
theorem dL_people_742 : decode cL_people 742 = .ok (.iand, 1) := by decide +kernel
theorem dL_people_743 : decode cL_people 743 = .ok (.istore 16, 2) := by decide +kernel
theorem dL_people_745 : decode cL_people 745 = .ok (.iconst 0, 1) := by decide +kernel
theorem dL_people_746 : decode cL_people 746 = .ok (.istore 17, 2) := by decide +kernel
theorem dL_people_748 : decode cL_people 748 = .ok (.iconst 1, 1) := by decide +kernel
theorem dL_people_749 : decode cL_people 749 = .ok (.istore 18, 2) := by decide +kernel
theorem dL_people_751 : decode cL_people 751 = .ok (.iconst 0, 1) := by decide +kernel
theorem dL_people_752 : decode cL_people 752 = .ok (.istore 19, 2) := by decide +kernel
theorem dL_people_754 : decode cL_people 754 = .ok (.iload 19, 2) := by decide +kernel
theorem dL_people_756 : decode cL_people 756 = .ok (.aload_n 3, 1) := by decide +kernel
theorem dL_people_757 : decode cL_people 757 = .ok (.iconst 4, 1) := by decide +kernel
theorem dL_people_758 : decode cL_people 758 = .ok (.iaload, 1) := by decide +kernel
theorem dL_people_759 : decode cL_people 759 = .ok (.if_icmp .ge 46, 3) := by decide +kernel
theorem dL_people_762 : decode cL_people 762 = .ok (.iload 17, 2) := by decide +kernel
theorem dL_people_764 : decode cL_people 764 = .ok (.aload 4, 2) := by decide +kernel
theorem dL_people_766 : decode cL_people 766 = .ok (.iconst 3, 1) := by decide +kernel
theorem dL_people_767 : decode cL_people 767 = .ok (.iload 19, 2) := by decide +kernel
theorem dL_people_769 : decode cL_people 769 = .ok (.imul, 1) := by decide +kernel
theorem dL_people_770 : decode cL_people 770 = .ok (.iconst 1, 1) := by decide +kernel
theorem dL_people_771 : decode cL_people 771 = .ok (.iadd, 1) := by decide +kernel
theorem dL_people_772 : decode cL_people 772 = .ok (.iaload, 1) := by decide +kernel
theorem dL_people_773 : decode cL_people 773 = .ok (.iload 16, 2) := by decide +kernel
theorem dL_people_775 : decode cL_people 775 = .ok (.if_icmp .ne 20, 3) := by decide +kernel
theorem dL_people_778 : decode cL_people 778 = .ok (.aload 4, 2) := by decide +kernel
theorem dL_people_780 : decode cL_people 780 = .ok (.iconst 3, 1) := by decide +kernel
theorem dL_people_781 : decode cL_people 781 = .ok (.iload 19, 2) := by decide +kernel
theorem dL_people_783 : decode cL_people 783 = .ok (.imul, 1) := by decide +kernel
theorem dL_people_784 : decode cL_people 784 = .ok (.iconst 2, 1) := by decide +kernel
theorem dL_people_785 : decode cL_people 785 = .ok (.iadd, 1) := by decide +kernel
theorem dL_people_786 : decode cL_people 786 = .ok (.iaload, 1) := by decide +kernel
theorem dL_people_787 : decode cL_people 787 = .ok (.iconst 2, 1) := by decide +kernel
theorem dL_people_788 : decode cL_people 788 = .ok (.if_icmp .ge 7, 3) := by decide +kernel
theorem dL_people_791 : decode cL_people 791 = .ok (.iconst 1, 1) := by decide +kernel
theorem dL_people_792 : decode cL_people 792 = .ok (.goto 4, 3) := by decide +kernel
theorem dL_people_795 : decode cL_people 795 = .ok (.iconst 0, 1) := by decide +kernel
theorem dL_people_796 : decode cL_people 796 = .ok (.iadd, 1) := by decide +kernel
theorem dL_people_797 : decode cL_people 797 = .ok (.istore 17, 2) := by decide +kernel
theorem dL_people_799 : decode cL_people 799 = .ok (.iinc 19 1, 3) := by decide +kernel
theorem dL_people_802 : decode cL_people 802 = .ok (.goto (-48), 3) := by decide +kernel
theorem dL_people_805 : decode cL_people 805 = .ok (.iconst 0, 1) := by decide +kernel
theorem dL_people_806 : decode cL_people 806 = .ok (.istore 19, 2) := by decide +kernel
theorem dL_people_808 : decode cL_people 808 = .ok (.iconst 0, 1) := by decide +kernel
theorem dL_people_809 : decode cL_people 809 = .ok (.istore 20, 2) := by decide +kernel
theorem dL_people_811 : decode cL_people 811 = .ok (.iload 20, 2) := by decide +kernel
theorem dL_people_813 : decode cL_people 813 = .ok (.aload_n 3, 1) := by decide +kernel
theorem dL_people_814 : decode cL_people 814 = .ok (.iconst 4, 1) := by decide +kernel
theorem dL_people_815 : decode cL_people 815 = .ok (.iaload, 1) := by decide +kernel
theorem dL_people_816 : decode cL_people 816 = .ok (.if_icmp .ge 93, 3) := by decide +kernel
theorem dL_people_819 : decode cL_people 819 = .ok (.aload 4, 2) := by decide +kernel
theorem dL_people_821 : decode cL_people 821 = .ok (.iconst 3, 1) := by decide +kernel
theorem dL_people_822 : decode cL_people 822 = .ok (.iload 20, 2) := by decide +kernel
theorem dL_people_824 : decode cL_people 824 = .ok (.imul, 1) := by decide +kernel
theorem dL_people_825 : decode cL_people 825 = .ok (.iconst 1, 1) := by decide +kernel
theorem dL_people_826 : decode cL_people 826 = .ok (.iadd, 1) := by decide +kernel
theorem dL_people_827 : decode cL_people 827 = .ok (.iaload, 1) := by decide +kernel
theorem dL_people_828 : decode cL_people 828 = .ok (.iload 16, 2) := by decide +kernel
theorem dL_people_830 : decode cL_people 830 = .ok (.if_icmp .ne 73, 3) := by decide +kernel
theorem dL_people_833 : decode cL_people 833 = .ok (.aload 4, 2) := by decide +kernel
theorem dL_people_835 : decode cL_people 835 = .ok (.iconst 3, 1) := by decide +kernel
theorem dL_people_836 : decode cL_people 836 = .ok (.iload 20, 2) := by decide +kernel
theorem dL_people_838 : decode cL_people 838 = .ok (.imul, 1) := by decide +kernel
theorem dL_people_839 : decode cL_people 839 = .ok (.iconst 2, 1) := by decide +kernel
theorem dL_people_840 : decode cL_people 840 = .ok (.iadd, 1) := by decide +kernel
theorem dL_people_841 : decode cL_people 841 = .ok (.iaload, 1) := by decide +kernel
theorem dL_people_842 : decode cL_people 842 = .ok (.iconst 2, 1) := by decide +kernel
theorem dL_people_843 : decode cL_people 843 = .ok (.if_icmp .ne 6, 3) := by decide +kernel
theorem dL_people_846 : decode cL_people 846 = .ok (.goto 57, 3) := by decide +kernel
theorem dL_people_849 : decode cL_people 849 = .ok (.iload 18, 2) := by decide +kernel
theorem dL_people_851 : decode cL_people 851 = .ok (.ifCond .eq 46, 3) := by decide +kernel
theorem dL_people_854 : decode cL_people 854 = .ok (.aload 4, 2) := by decide +kernel
theorem dL_people_856 : decode cL_people 856 = .ok (.aload 5, 2) := by decide +kernel
theorem dL_people_858 : decode cL_people 858 = .ok (.aload 6, 2) := by decide +kernel
theorem dL_people_860 : decode cL_people 860 = .ok (.iload 20, 2) := by decide +kernel
theorem dL_people_862 : decode cL_people 862 = .ok (.invokestatic 23, 3) := by decide +kernel
theorem dL_people_865 : decode cL_people 865 = .ok (.iload 15, 2) := by decide +kernel
theorem dL_people_867 : decode cL_people 867 = .ok (.iload 17, 2) := by decide +kernel
theorem dL_people_869 : decode cL_people 869 = .ok (.idiv, 1) := by decide +kernel
theorem dL_people_870 : decode cL_people 870 = .ok (.isub, 1) := by decide +kernel
theorem dL_people_871 : decode cL_people 871 = .ok (.iload 19, 2) := by decide +kernel
theorem dL_people_873 : decode cL_people 873 = .ok (.iload 15, 2) := by decide +kernel
theorem dL_people_875 : decode cL_people 875 = .ok (.iload 17, 2) := by decide +kernel
theorem dL_people_877 : decode cL_people 877 = .ok (.irem, 1) := by decide +kernel
theorem dL_people_878 : decode cL_people 878 = .ok (.if_icmp .ge 7, 3) := by decide +kernel
theorem dL_people_881 : decode cL_people 881 = .ok (.iconst 1, 1) := by decide +kernel
theorem dL_people_882 : decode cL_people 882 = .ok (.goto 4, 3) := by decide +kernel
theorem dL_people_885 : decode cL_people 885 = .ok (.iconst 0, 1) := by decide +kernel
theorem dL_people_886 : decode cL_people 886 = .ok (.isub, 1) := by decide +kernel
theorem dL_people_887 : decode cL_people 887 = .ok (.sipush (-4000), 3) := by decide +kernel
theorem dL_people_890 : decode cL_people 890 = .ok (.if_icmp .lt 7, 3) := by decide +kernel
theorem dL_people_893 : decode cL_people 893 = .ok (.iconst 1, 1) := by decide +kernel
theorem dL_people_894 : decode cL_people 894 = .ok (.goto 4, 3) := by decide +kernel
theorem dL_people_897 : decode cL_people 897 = .ok (.iconst 0, 1) := by decide +kernel
theorem dL_people_898 : decode cL_people 898 = .ok (.istore 18, 2) := by decide +kernel
theorem dL_people_900 : decode cL_people 900 = .ok (.iinc 19 1, 3) := by decide +kernel
theorem dL_people_903 : decode cL_people 903 = .ok (.iinc 20 1, 3) := by decide +kernel
theorem dL_people_906 : decode cL_people 906 = .ok (.goto (-95), 3) := by decide +kernel
theorem dL_people_909 : decode cL_people 909 = .ok (.iload 17, 2) := by decide +kernel
theorem dL_people_911 : decode cL_people 911 = .ok (.ifCond .eq 8, 3) := by decide +kernel
theorem dL_people_914 : decode cL_people 914 = .ok (.iload 18, 2) := by decide +kernel
theorem dL_people_916 : decode cL_people 916 = .ok (.ifCond .ne 34, 3) := by decide +kernel
theorem dL_people_919 : decode cL_people 919 = .ok (.aload_n 0, 1) := by decide +kernel
theorem dL_people_920 : decode cL_people 920 = .ok (.iload 16, 2) := by decide +kernel
theorem dL_people_922 : decode cL_people 922 = .ok (.iload 15, 2) := by decide +kernel
theorem dL_people_924 : decode cL_people 924 = .ok (.invokevirtual 62, 3) := by decide +kernel
theorem dL_people_927 : decode cL_people 927 = .ok (.iload 10, 2) := by decide +kernel
theorem dL_people_929 : decode cL_people 929 = .ok (.if_icmp .ne 19, 3) := by decide +kernel
theorem dL_people_932 : decode cL_people 932 = .ok (.aload_n 0, 1) := by decide +kernel
theorem dL_people_933 : decode cL_people 933 = .ok (.iconst 2, 1) := by decide +kernel
theorem dL_people_934 : decode cL_people 934 = .ok (.iload 15, 2) := by decide +kernel
theorem dL_people_936 : decode cL_people 936 = .ok (.invokevirtual 62, 3) := by decide +kernel
theorem dL_people_939 : decode cL_people 939 = .ok (.iload 11, 2) := by decide +kernel
theorem dL_people_941 : decode cL_people 941 = .ok (.if_icmp .ne 7, 3) := by decide +kernel
theorem dL_people_944 : decode cL_people 944 = .ok (.iconst 1, 1) := by decide +kernel
theorem dL_people_945 : decode cL_people 945 = .ok (.goto 4, 3) := by decide +kernel
theorem dL_people_948 : decode cL_people 948 = .ok (.iconst 0, 1) := by decide +kernel
theorem dL_people_949 : decode cL_people 949 = .ok (.ireturn, 1) := by decide +kernel
theorem dL_people_950 : decode cL_people 950 = .ok (.iconst 0, 1) := by decide +kernel
theorem dL_people_951 : decode cL_people 951 = .ok (.istore 19, 2) := by decide +kernel
theorem dL_people_953 : decode cL_people 953 = .ok (.iconst 0, 1) := by decide +kernel
theorem dL_people_954 : decode cL_people 954 = .ok (.istore 20, 2) := by decide +kernel
theorem dL_people_956 : decode cL_people 956 = .ok (.iload 20, 2) := by decide +kernel
theorem dL_people_958 : decode cL_people 958 = .ok (.aload_n 3, 1) := by decide +kernel
theorem dL_people_959 : decode cL_people 959 = .ok (.iconst 4, 1) := by decide +kernel
theorem dL_people_960 : decode cL_people 960 = .ok (.iaload, 1) := by decide +kernel
theorem dL_people_961 : decode cL_people 961 = .ok (.if_icmp .ge 73, 3) := by decide +kernel
theorem dL_people_964 : decode cL_people 964 = .ok (.aload 4, 2) := by decide +kernel
theorem dL_people_966 : decode cL_people 966 = .ok (.iconst 3, 1) := by decide +kernel
theorem dL_people_967 : decode cL_people 967 = .ok (.iload 20, 2) := by decide +kernel
theorem dL_people_969 : decode cL_people 969 = .ok (.imul, 1) := by decide +kernel
theorem dL_people_970 : decode cL_people 970 = .ok (.iconst 1, 1) := by decide +kernel
theorem dL_people_971 : decode cL_people 971 = .ok (.iadd, 1) := by decide +kernel
theorem dL_people_972 : decode cL_people 972 = .ok (.iaload, 1) := by decide +kernel
theorem dL_people_973 : decode cL_people 973 = .ok (.iload 16, 2) := by decide +kernel
theorem dL_people_975 : decode cL_people 975 = .ok (.if_icmp .ne 53, 3) := by decide +kernel
theorem dL_people_978 : decode cL_people 978 = .ok (.aload 4, 2) := by decide +kernel
theorem dL_people_980 : decode cL_people 980 = .ok (.iconst 3, 1) := by decide +kernel
theorem dL_people_981 : decode cL_people 981 = .ok (.iload 20, 2) := by decide +kernel
theorem dL_people_983 : decode cL_people 983 = .ok (.imul, 1) := by decide +kernel
theorem dL_people_984 : decode cL_people 984 = .ok (.iconst 2, 1) := by decide +kernel
theorem dL_people_985 : decode cL_people 985 = .ok (.iadd, 1) := by decide +kernel
theorem dL_people_986 : decode cL_people 986 = .ok (.iaload, 1) := by decide +kernel
theorem dL_people_987 : decode cL_people 987 = .ok (.iconst 2, 1) := by decide +kernel
theorem dL_people_988 : decode cL_people 988 = .ok (.if_icmp .ne 6, 3) := by decide +kernel
theorem dL_people_991 : decode cL_people 991 = .ok (.goto 37, 3) := by decide +kernel
theorem dL_people_994 : decode cL_people 994 = .ok (.aload_n 3, 1) := by decide +kernel
theorem dL_people_995 : decode cL_people 995 = .ok (.aload 6, 2) := by decide +kernel
theorem dL_people_997 : decode cL_people 997 = .ok (.aload 8, 2) := by decide +kernel
theorem dL_people_999 : decode cL_people 999 = .ok (.iload 20, 2) := by decide +kernel
theorem dL_people_1001 : decode cL_people 1001 = .ok (.iload 15, 2) := by decide +kernel
theorem dL_people_1003 : decode cL_people 1003 = .ok (.iload 17, 2) := by decide +kernel
theorem dL_people_1005 : decode cL_people 1005 = .ok (.idiv, 1) := by decide +kernel
theorem dL_people_1006 : decode cL_people 1006 = .ok (.iload 19, 2) := by decide +kernel
theorem dL_people_1008 : decode cL_people 1008 = .ok (.iload 15, 2) := by decide +kernel
theorem dL_people_1010 : decode cL_people 1010 = .ok (.iload 17, 2) := by decide +kernel
theorem dL_people_1012 : decode cL_people 1012 = .ok (.irem, 1) := by decide +kernel
theorem dL_people_1013 : decode cL_people 1013 = .ok (.if_icmp .ge 7, 3) := by decide +kernel
theorem dL_people_1016 : decode cL_people 1016 = .ok (.iconst 1, 1) := by decide +kernel
theorem dL_people_1017 : decode cL_people 1017 = .ok (.goto 4, 3) := by decide +kernel
theorem dL_people_1020 : decode cL_people 1020 = .ok (.iconst 0, 1) := by decide +kernel
theorem dL_people_1021 : decode cL_people 1021 = .ok (.iadd, 1) := by decide +kernel
theorem dL_people_1022 : decode cL_people 1022 = .ok (.invokestatic 59, 3) := by decide +kernel
theorem dL_people_1025 : decode cL_people 1025 = .ok (.iinc 19 1, 3) := by decide +kernel
theorem dL_people_1028 : decode cL_people 1028 = .ok (.iinc 20 1, 3) := by decide +kernel
theorem dL_people_1031 : decode cL_people 1031 = .ok (.goto (-75), 3) := by decide +kernel
theorem dL_people_1034 : decode cL_people 1034 = .ok (.aload_n 0, 1) := by decide +kernel
theorem dL_people_1035 : decode cL_people 1035 = .ok (.iload 16, 2) := by decide +kernel
theorem dL_people_1037 : decode cL_people 1037 = .ok (.iload 15, 2) := by decide +kernel
theorem dL_people_1039 : decode cL_people 1039 = .ok (.invokevirtual 62, 3) := by decide +kernel
theorem dL_people_1042 : decode cL_people 1042 = .ok (.iload 17, 2) := by decide +kernel
theorem dL_people_1044 : decode cL_people 1044 = .ok (.if_icmp .ne 7, 3) := by decide +kernel
theorem dL_people_1047 : decode cL_people 1047 = .ok (.iconst 1, 1) := by decide +kernel
theorem dL_people_1048 : decode cL_people 1048 = .ok (.goto 4, 3) := by decide +kernel
theorem dL_people_1051 : decode cL_people 1051 = .ok (.iconst 0, 1) := by decide +kernel
theorem dL_people_1052 : decode cL_people 1052 = .ok (.ireturn, 1) := by decide +kernel
theorem dL_people_1053 : decode cL_people 1053 = .ok (.iload 9, 2) := by decide +kernel
theorem dL_people_1055 : decode cL_people 1055 = .ok (.bipush 8, 2) := by decide +kernel
theorem dL_people_1057 : decode cL_people 1057 = .ok (.if_icmp .ne 99, 3) := by decide +kernel
theorem dL_people_1060 : decode cL_people 1060 = .ok (.aload_n 3, 1) := by decide +kernel
theorem dL_people_1061 : decode cL_people 1061 = .ok (.iconst 1, 1) := by decide +kernel
theorem dL_people_1062 : decode cL_people 1062 = .ok (.iaload, 1) := by decide +kernel
theorem dL_people_1063 : decode cL_people 1063 = .ok (.iconst 1, 1) := by decide +kernel
theorem dL_people_1064 : decode cL_people 1064 = .ok (.if_icmp .eq 14, 3) := by decide +kernel
theorem dL_people_1067 : decode cL_people 1067 = .ok (.iload 13, 2) := by decide +kernel
theorem dL_people_1069 : decode cL_people 1069 = .ok (.iconst 2, 1) := by decide +kernel
theorem dL_people_1070 : decode cL_people 1070 = .ok (.if_icmp .eq 8, 3) := by decide +kernel
theorem dL_people_1073 : decode cL_people 1073 = .ok (.iload 14, 2) := by decide +kernel
theorem dL_people_1075 : decode cL_people 1075 = .ok (.ifCond .ge 32, 3) := by decide +kernel
theorem dL_people_1078 : decode cL_people 1078 = .ok (.aload_n 0, 1) := by decide +kernel
theorem dL_people_1079 : decode cL_people 1079 = .ok (.iload 12, 2) := by decide +kernel
theorem dL_people_1081 : decode cL_people 1081 = .ok (.invokevirtual 65, 3) := by decide +kernel
theorem dL_people_1084 : decode cL_people 1084 = .ok (.iload 10, 2) := by decide +kernel
theorem dL_people_1086 : decode cL_people 1086 = .ok (.if_icmp .ne 19, 3) := by decide +kernel
theorem dL_people_1089 : decode cL_people 1089 = .ok (.aload_n 0, 1) := by decide +kernel
theorem dL_people_1090 : decode cL_people 1090 = .ok (.aload_n 3, 1) := by decide +kernel
theorem dL_people_1091 : decode cL_people 1091 = .ok (.iconst 4, 1) := by decide +kernel
theorem dL_people_1092 : decode cL_people 1092 = .ok (.iaload, 1) := by decide +kernel
theorem dL_people_1093 : decode cL_people 1093 = .ok (.invokevirtual 65, 3) := by decide +kernel
theorem dL_people_1096 : decode cL_people 1096 = .ok (.iload 11, 2) := by decide +kernel
theorem dL_people_1098 : decode cL_people 1098 = .ok (.if_icmp .ne 7, 3) := by decide +kernel
theorem dL_people_1101 : decode cL_people 1101 = .ok (.iconst 1, 1) := by decide +kernel
theorem dL_people_1102 : decode cL_people 1102 = .ok (.goto 4, 3) := by decide +kernel
theorem dL_people_1105 : decode cL_people 1105 = .ok (.iconst 0, 1) := by decide +kernel
theorem dL_people_1106 : decode cL_people 1106 = .ok (.ireturn, 1) := by decide +kernel
theorem dL_people_1107 : decode cL_people 1107 = .ok (.aload_n 3, 1) := by decide +kernel
theorem dL_people_1108 : decode cL_people 1108 = .ok (.aload 5, 2) := by decide +kernel
theorem dL_people_1110 : decode cL_people 1110 = .ok (.aload 8, 2) := by decide +kernel
theorem dL_people_1112 : decode cL_people 1112 = .ok (.iload 12, 2) := by decide +kernel
theorem dL_people_1114 : decode cL_people 1114 = .ok (.iload 14, 2) := by decide +kernel
theorem dL_people_1116 : decode cL_people 1116 = .ok (.invokestatic 69, 3) := by decide +kernel
theorem dL_people_1119 : decode cL_people 1119 = .ok (.aload 5, 2) := by decide +kernel
theorem dL_people_1121 : decode cL_people 1121 = .ok (.aload 6, 2) := by decide +kernel
theorem dL_people_1123 : decode cL_people 1123 = .ok (.iload 12, 2) := by decide +kernel
theorem dL_people_1125 : decode cL_people 1125 = .ok (.iconst 0, 1) := by decide +kernel
theorem dL_people_1126 : decode cL_people 1126 = .ok (.invokestatic 39, 3) := by decide +kernel
theorem dL_people_1129 : decode cL_people 1129 = .ok (.aload 4, 2) := by decide +kernel
theorem dL_people_1131 : decode cL_people 1131 = .ok (.iconst 3, 1) := by decide +kernel
theorem dL_people_1132 : decode cL_people 1132 = .ok (.iload 12, 2) := by decide +kernel
theorem dL_people_1134 : decode cL_people 1134 = .ok (.imul, 1) := by decide +kernel
theorem dL_people_1135 : decode cL_people 1135 = .ok (.iconst 2, 1) := by decide +kernel
theorem dL_people_1136 : decode cL_people 1136 = .ok (.iadd, 1) := by decide +kernel
theorem dL_people_1137 : decode cL_people 1137 = .ok (.iconst 2, 1) := by decide +kernel
theorem dL_people_1138 : decode cL_people 1138 = .ok (.iastore, 1) := by decide +kernel
theorem dL_people_1139 : decode cL_people 1139 = .ok (.aload_n 0, 1) := by decide +kernel
theorem dL_people_1140 : decode cL_people 1140 = .ok (.iload 12, 2) := by decide +kernel
theorem dL_people_1142 : decode cL_people 1142 = .ok (.invokevirtual 65, 3) := by decide +kernel
theorem dL_people_1145 : decode cL_people 1145 = .ok (.iload 14, 2) := by decide +kernel
theorem dL_people_1147 : decode cL_people 1147 = .ok (.if_icmp .ne 7, 3) := by decide +kernel
theorem dL_people_1150 : decode cL_people 1150 = .ok (.iconst 1, 1) := by decide +kernel
theorem dL_people_1151 : decode cL_people 1151 = .ok (.goto 4, 3) := by decide +kernel
theorem dL_people_1154 : decode cL_people 1154 = .ok (.iconst 0, 1) := by decide +kernel
theorem dL_people_1155 : decode cL_people 1155 = .ok (.ireturn, 1) := by decide +kernel
theorem dL_people_1156 : decode cL_people 1156 = .ok (.iload_n 2, 1) := by decide +kernel
theorem dL_people_1157 : decode cL_people 1157 = .ok (.bipush 6, 2) := by decide +kernel
theorem dL_people_1159 : decode cL_people 1159 = .ok (.ishr, 1) := by decide +kernel
theorem dL_people_1160 : decode cL_people 1160 = .ok (.iload_n 2, 1) := by decide +kernel
theorem dL_people_1161 : decode cL_people 1161 = .ok (.bipush 16, 2) := by decide +kernel
theorem dL_people_1163 : decode cL_people 1163 = .ok (.ishr, 1) := by decide +kernel
theorem dL_people_1164 : decode cL_people 1164 = .ok (.iconst 1, 1) := by decide +kernel
theorem dL_people_1165 : decode cL_people 1165 = .ok (.iand, 1) := by decide +kernel
theorem dL_people_1166 : decode cL_people 1166 = .ok (.ifCond .ne 7, 3) := by decide +kernel
theorem dL_people_1169 : decode cL_people 1169 = .ok (.iconst 3, 1) := by decide +kernel
theorem dL_people_1170 : decode cL_people 1170 = .ok (.goto 5, 3) := by decide +kernel
theorem dL_people_1173 : decode cL_people 1173 = .ok (.bipush 100, 2) := by decide +kernel
theorem dL_people_1175 : decode cL_people 1175 = .ok (.invokestatic 27, 3) := by decide +kernel
theorem dL_people_1178 : decode cL_people 1178 = .ok (.istore 16, 2) := by decide +kernel
theorem dL_people_1180 : decode cL_people 1180 = .ok (.iload 13, 2) := by decide +kernel
theorem dL_people_1182 : decode cL_people 1182 = .ok (.iconst 1, 1) := by decide +kernel
theorem dL_people_1183 : decode cL_people 1183 = .ok (.if_icmp .ne 19, 3) := by decide +kernel
theorem dL_people_1186 : decode cL_people 1186 = .ok (.iload 14, 2) := by decide +kernel
theorem dL_people_1188 : decode cL_people 1188 = .ok (.iload 16, 2) := by decide +kernel
theorem dL_people_1190 : decode cL_people 1190 = .ok (.aload_n 3, 1) := by decide +kernel
theorem dL_people_1191 : decode cL_people 1191 = .ok (.bipush 15, 2) := by decide +kernel
theorem dL_people_1193 : decode cL_people 1193 = .ok (.iaload, 1) := by decide +kernel
theorem dL_people_1194 : decode cL_people 1194 = .ok (.imul, 1) := by decide +kernel
theorem dL_people_1195 : decode cL_people 1195 = .ok (.isub, 1) := by decide +kernel
theorem dL_people_1196 : decode cL_people 1196 = .ok (.sipush (-4000), 3) := by decide +kernel
theorem dL_people_1199 : decode cL_people 1199 = .ok (.if_icmp .ge 35, 3) := by decide +kernel
theorem dL_people_1202 : decode cL_people 1202 = .ok (.aload_n 0, 1) := by decide +kernel
theorem dL_people_1203 : decode cL_people 1203 = .ok (.iload 12, 2) := by decide +kernel
theorem dL_people_1205 : decode cL_people 1205 = .ok (.iload 16, 2) := by decide +kernel
theorem dL_people_1207 : decode cL_people 1207 = .ok (.invokevirtual 72, 3) := by decide +kernel
theorem dL_people_1210 : decode cL_people 1210 = .ok (.iload 10, 2) := by decide +kernel
theorem dL_people_1212 : decode cL_people 1212 = .ok (.if_icmp .ne 20, 3) := by decide +kernel
theorem dL_people_1215 : decode cL_people 1215 = .ok (.aload_n 0, 1) := by decide +kernel
theorem dL_people_1216 : decode cL_people 1216 = .ok (.iload 12, 2) := by decide +kernel
theorem dL_people_1218 : decode cL_people 1218 = .ok (.bipush 100, 2) := by decide +kernel
theorem dL_people_1220 : decode cL_people 1220 = .ok (.invokevirtual 72, 3) := by decide +kernel
theorem dL_people_1223 : decode cL_people 1223 = .ok (.iload 11, 2) := by decide +kernel
theorem dL_people_1225 : decode cL_people 1225 = .ok (.if_icmp .ne 7, 3) := by decide +kernel
theorem dL_people_1228 : decode cL_people 1228 = .ok (.iconst 1, 1) := by decide +kernel
theorem dL_people_1229 : decode cL_people 1229 = .ok (.goto 4, 3) := by decide +kernel
theorem dL_people_1232 : decode cL_people 1232 = .ok (.iconst 0, 1) := by decide +kernel
theorem dL_people_1233 : decode cL_people 1233 = .ok (.ireturn, 1) := by decide +kernel
theorem dL_people_1234 : decode cL_people 1234 = .ok (.aload 4, 2) := by decide +kernel
theorem dL_people_1236 : decode cL_people 1236 = .ok (.iconst 3, 1) := by decide +kernel
theorem dL_people_1237 : decode cL_people 1237 = .ok (.iload 12, 2) := by decide +kernel
theorem dL_people_1239 : decode cL_people 1239 = .ok (.imul, 1) := by decide +kernel
theorem dL_people_1240 : decode cL_people 1240 = .ok (.iconst 2, 1) := by decide +kernel
theorem dL_people_1241 : decode cL_people 1241 = .ok (.iadd, 1) := by decide +kernel
theorem dL_people_1242 : decode cL_people 1242 = .ok (.iconst 0, 1) := by decide +kernel
theorem dL_people_1243 : decode cL_people 1243 = .ok (.iastore, 1) := by decide +kernel
theorem dL_people_1244 : decode cL_people 1244 = .ok (.aload_n 3, 1) := by decide +kernel
theorem dL_people_1245 : decode cL_people 1245 = .ok (.aload 6, 2) := by decide +kernel
theorem dL_people_1247 : decode cL_people 1247 = .ok (.aload 8, 2) := by decide +kernel
theorem dL_people_1249 : decode cL_people 1249 = .ok (.iload 12, 2) := by decide +kernel
theorem dL_people_1251 : decode cL_people 1251 = .ok (.iload 16, 2) := by decide +kernel
theorem dL_people_1253 : decode cL_people 1253 = .ok (.aload_n 3, 1) := by decide +kernel
theorem dL_people_1254 : decode cL_people 1254 = .ok (.bipush 15, 2) := by decide +kernel
theorem dL_people_1256 : decode cL_people 1256 = .ok (.iaload, 1) := by decide +kernel
theorem dL_people_1257 : decode cL_people 1257 = .ok (.imul, 1) := by decide +kernel
theorem dL_people_1258 : decode cL_people 1258 = .ok (.invokestatic 59, 3) := by decide +kernel
theorem dL_people_1261 : decode cL_people 1261 = .ok (.aload_n 0, 1) := by decide +kernel
theorem dL_people_1262 : decode cL_people 1262 = .ok (.iload 12, 2) := by decide +kernel
theorem dL_people_1264 : decode cL_people 1264 = .ok (.iload 16, 2) := by decide +kernel
theorem dL_people_1266 : decode cL_people 1266 = .ok (.invokevirtual 72, 3) := by decide +kernel
theorem dL_people_1269 : decode cL_people 1269 = .ok (.iload 16, 2) := by decide +kernel
theorem dL_people_1271 : decode cL_people 1271 = .ok (.aload_n 3, 1) := by decide +kernel
theorem dL_people_1272 : decode cL_people 1272 = .ok (.bipush 15, 2) := by decide +kernel
theorem dL_people_1274 : decode cL_people 1274 = .ok (.iaload, 1) := by decide +kernel
theorem dL_people_1275 : decode cL_people 1275 = .ok (.imul, 1) := by decide +kernel
theorem dL_people_1276 : decode cL_people 1276 = .ok (.if_icmp .ne 7, 3) := by decide +kernel
theorem dL_people_1279 : decode cL_people 1279 = .ok (.iconst 1, 1) := by decide +kernel
theorem dL_people_1280 : decode cL_people 1280 = .ok (.goto 4, 3) := by decide +kernel
theorem dL_people_1283 : decode cL_people 1283 = .ok (.iconst 0, 1) := by decide +kernel
theorem dL_people_1284 : decode cL_people 1284 = .ok (.ireturn, 1) := by decide +kernel
theorem dL_ship_0 : decode cL_ship 0 = .ok (.iload_n 1, 1) := by decide +kernel
theorem dL_ship_1 : decode cL_ship 1 = .ok (.bipush 12, 2) := by decide +kernel
theorem dL_ship_3 : decode cL_ship 3 = .ok (.invokestatic 27, 3) := by decide +kernel
theorem dL_ship_6 : decode cL_ship 6 = .ok (.istore 9, 2) := by decide +kernel
theorem dL_ship_8 : decode cL_ship 8 = .ok (.ldc 33, 2) := by decide +kernel
theorem dL_ship_10 : decode cL_ship 10 = .ok (.istore 10, 2) := by decide +kernel
theorem dL_ship_12 : decode cL_ship 12 = .ok (.ldc 34, 2) := by decide +kernel
theorem dL_ship_14 : decode cL_ship 14 = .ok (.istore 11, 2) := by decide +kernel
theorem dL_ship_16 : decode cL_ship 16 = .ok (.iload 9, 2) := by decide +kernel
theorem dL_ship_18 : decode cL_ship 18 = .ok (.iconst 3, 1) := by decide +kernel
theorem dL_ship_19 : decode cL_ship 19 = .ok (.if_icmp .ge 233, 3) := by decide +kernel
theorem dL_ship_22 : decode cL_ship 22 = .ok (.iload_n 2, 1) := by decide +kernel
theorem dL_ship_23 : decode cL_ship 23 = .ok (.bipush 6, 2) := by decide +kernel
theorem dL_ship_25 : decode cL_ship 25 = .ok (.invokestatic 27, 3) := by decide +kernel
theorem dL_ship_28 : decode cL_ship 28 = .ok (.istore 12, 2) := by decide +kernel
theorem dL_ship_30 : decode cL_ship 30 = .ok (.iconst 1, 1) := by decide +kernel
theorem dL_ship_31 : decode cL_ship 31 = .ok (.iload_n 2, 1) := by decide +kernel
theorem dL_ship_32 : decode cL_ship 32 = .ok (.iconst 3, 1) := by decide +kernel
theorem dL_ship_33 : decode cL_ship 33 = .ok (.ishr, 1) := by decide +kernel
theorem dL_ship_34 : decode cL_ship 34 = .ok (.bipush 99, 2) := by decide +kernel
theorem dL_ship_36 : decode cL_ship 36 = .ok (.invokestatic 27, 3) := by decide +kernel
theorem dL_ship_39 : decode cL_ship 39 = .ok (.iadd, 1) := by decide +kernel
theorem dL_ship_40 : decode cL_ship 40 = .ok (.istore 13, 2) := by decide +kernel
theorem dL_ship_42 : decode cL_ship 42 = .ok (.iconst 1, 1) := by decide +kernel
theorem dL_ship_43 : decode cL_ship 43 = .ok (.iload_n 2, 1) := by decide +kernel
theorem dL_ship_44 : decode cL_ship 44 = .ok (.bipush 10, 2) := by decide +kernel
theorem dL_ship_46 : decode cL_ship 46 = .ok (.ishr, 1) := by decide +kernel
theorem dL_ship_47 : decode cL_ship 47 = .ok (.iload_n 2, 1) := by decide +kernel
theorem dL_ship_48 : decode cL_ship 48 = .ok (.bipush 18, 2) := by decide +kernel
theorem dL_ship_50 : decode cL_ship 50 = .ok (.ishr, 1) := by decide +kernel
theorem dL_ship_51 : decode cL_ship 51 = .ok (.iconst 1, 1) := by decide +kernel
theorem dL_ship_52 : decode cL_ship 52 = .ok (.iand, 1) := by decide +kernel
theorem dL_ship_53 : decode cL_ship 53 = .ok (.ifCond .ne 8, 3) := by decide +kernel
theorem dL_ship_56 : decode cL_ship 56 = .ok (.bipush 8, 2) := by decide +kernel
theorem dL_ship_58 : decode cL_ship 58 = .ok (.goto 5, 3) := by decide +kernel
theorem dL_ship_61 : decode cL_ship 61 = .ok (.bipush 99, 2) := by decide +kernel
theorem dL_ship_63 : decode cL_ship 63 = .ok (.invokestatic 27, 3) := by decide +kernel
theorem dL_ship_66 : decode cL_ship 66 = .ok (.iadd, 1) := by decide +kernel
theorem dL_ship_67 : decode cL_ship 67 = .ok (.istore 14, 2) := by decide +kernel
theorem dL_ship_69 : decode cL_ship 69 = .ok (.aload_n 3, 1) := by decide +kernel
theorem dL_ship_70 : decode cL_ship 70 = .ok (.iconst 1, 1) := by decide +kernel
theorem dL_ship_71 : decode cL_ship 71 = .ok (.iaload, 1) := by decide +kernel
theorem dL_ship_72 : decode cL_ship 72 = .ok (.iconst 1, 1) := by decide +kernel
theorem dL_ship_73 : decode cL_ship 73 = .ok (.if_icmp .eq 19, 3) := by decide +kernel
theorem dL_ship_76 : decode cL_ship 76 = .ok (.aload 7, 2) := by decide +kernel
theorem dL_ship_78 : decode cL_ship 78 = .ok (.iconst 5, 1) := by decide +kernel
theorem dL_ship_79 : decode cL_ship 79 = .ok (.iload 12, 2) := by decide +kernel
theorem dL_ship_81 : decode cL_ship 81 = .ok (.imul, 1) := by decide +kernel
theorem dL_ship_82 : decode cL_ship 82 = .ok (.iaload, 1) := by decide +kernel
theorem dL_ship_83 : decode cL_ship 83 = .ok (.iload 13, 2) := by decide +kernel
theorem dL_ship_85 : decode cL_ship 85 = .ok (.iadd, 1) := by decide +kernel
theorem dL_ship_86 : decode cL_ship 86 = .ok (.sipush 500, 3) := by decide +kernel
theorem dL_ship_89 : decode cL_ship 89 = .ok (.if_icmp .le 66, 3) := by decide +kernel
theorem dL_ship_92 : decode cL_ship 92 = .ok (.aload_n 0, 1) := by decide +kernel
theorem dL_ship_93 : decode cL_ship 93 = .ok (.iload 12, 2) := by decide +kernel
theorem dL_ship_95 : decode cL_ship 95 = .ok (.iload 13, 2) := by decide +kernel
theorem dL_ship_97 : decode cL_ship 97 = .ok (.iload 14, 2) := by decide +kernel
theorem dL_ship_99 : decode cL_ship 99 = .ok (.invokevirtual 75, 3) := by decide +kernel
theorem dL_ship_102 : decode cL_ship 102 = .ok (.aload_n 3, 1) := by decide +kernel
theorem dL_ship_103 : decode cL_ship 103 = .ok (.iconst 1, 1) := by decide +kernel
theorem dL_ship_104 : decode cL_ship 104 = .ok (.iaload, 1) := by decide +kernel
theorem dL_ship_105 : decode cL_ship 105 = .ok (.iconst 1, 1) := by decide +kernel
theorem dL_ship_106 : decode cL_ship 106 = .ok (.if_icmp .ne 8, 3) := by decide +kernel
theorem dL_ship_109 : decode cL_ship 109 = .ok (.iload 10, 2) := by decide +kernel
theorem dL_ship_111 : decode cL_ship 111 = .ok (.goto 5, 3) := by decide +kernel
theorem dL_ship_114 : decode cL_ship 114 = .ok (.ldc 38, 2) := by decide +kernel
theorem dL_ship_116 : decode cL_ship 116 = .ok (.if_icmp .ne 37, 3) := by decide +kernel
theorem dL_ship_119 : decode cL_ship 119 = .ok (.aload_n 0, 1) := by decide +kernel
theorem dL_ship_120 : decode cL_ship 120 = .ok (.bipush 6, 2) := by decide +kernel
theorem dL_ship_122 : decode cL_ship 122 = .ok (.iload 13, 2) := by decide +kernel
theorem dL_ship_124 : decode cL_ship 124 = .ok (.iload 14, 2) := by decide +kernel
theorem dL_ship_126 : decode cL_ship 126 = .ok (.invokevirtual 75, 3) := by decide +kernel
theorem dL_ship_129 : decode cL_ship 129 = .ok (.iload 11, 2) := by decide +kernel
theorem dL_ship_131 : decode cL_ship 131 = .ok (.if_icmp .ne 22, 3) := by decide +kernel
theorem dL_ship_134 : decode cL_ship 134 = .ok (.aload_n 0, 1) := by decide +kernel
theorem dL_ship_135 : decode cL_ship 135 = .ok (.iload 12, 2) := by decide +kernel
theorem dL_ship_137 : decode cL_ship 137 = .ok (.iload 13, 2) := by decide +kernel
theorem dL_ship_139 : decode cL_ship 139 = .ok (.bipush 100, 2) := by decide +kernel
theorem dL_ship_141 : decode cL_ship 141 = .ok (.invokevirtual 75, 3) := by decide +kernel
theorem dL_ship_144 : decode cL_ship 144 = .ok (.iload 11, 2) := by decide +kernel
theorem dL_ship_146 : decode cL_ship 146 = .ok (.if_icmp .ne 7, 3) := by decide +kernel
theorem dL_ship_149 : decode cL_ship 149 = .ok (.iconst 1, 1) := by decide +kernel
theorem dL_ship_150 : decode cL_ship 150 = .ok (.goto 4, 3) := by decide +kernel
theorem dL_ship_153 : decode cL_ship 153 = .ok (.iconst 0, 1) := by decide +kernel
theorem dL_ship_154 : decode cL_ship 154 = .ok (.ireturn, 1) := by decide +kernel
theorem dL_ship_155 : decode cL_ship 155 = .ok (.aload 7, 2) := by decide +kernel
theorem dL_ship_157 : decode cL_ship 157 = .ok (.iconst 5, 1) := by decide +kernel
theorem dL_ship_158 : decode cL_ship 158 = .ok (.iload 12, 2) := by decide +kernel
theorem dL_ship_160 : decode cL_ship 160 = .ok (.imul, 1) := by decide +kernel
theorem dL_ship_161 : decode cL_ship 161 = .ok (.dup2, 1) := by decide +kernel
theorem dL_ship_162 : decode cL_ship 162 = .ok (.iaload, 1) := by decide +kernel
theorem dL_ship_163 : decode cL_ship 163 = .ok (.iload 13, 2) := by decide +kernel
theorem dL_ship_165 : decode cL_ship 165 = .ok (.iadd, 1) := by decide +kernel
theorem dL_ship_166 : decode cL_ship 166 = .ok (.iastore, 1) := by decide +kernel
theorem dL_ship_167 : decode cL_ship 167 = .ok (.aload 7, 2) := by decide +kernel
theorem dL_ship_169 : decode cL_ship 169 = .ok (.iconst 5, 1) := by decide +kernel
theorem dL_ship_170 : decode cL_ship 170 = .ok (.iload 12, 2) := by decide +kernel
theorem dL_ship_172 : decode cL_ship 172 = .ok (.imul, 1) := by decide +kernel
theorem dL_ship_173 : decode cL_ship 173 = .ok (.iconst 1, 1) := by decide +kernel
theorem dL_ship_174 : decode cL_ship 174 = .ok (.iadd, 1) := by decide +kernel
theorem dL_ship_175 : decode cL_ship 175 = .ok (.iload 14, 2) := by decide +kernel
theorem dL_ship_177 : decode cL_ship 177 = .ok (.iload 14, 2) := by decide +kernel
theorem dL_ship_179 : decode cL_ship 179 = .ok (.aload_n 3, 1) := by decide +kernel
theorem dL_ship_180 : decode cL_ship 180 = .ok (.bipush 14, 2) := by decide +kernel
theorem dL_ship_182 : decode cL_ship 182 = .ok (.iaload, 1) := by decide +kernel
theorem dL_ship_183 : decode cL_ship 183 = .ok (.imul, 1) := by decide +kernel
theorem dL_ship_184 : decode cL_ship 184 = .ok (.bipush 100, 2) := by decide +kernel
theorem dL_ship_186 : decode cL_ship 186 = .ok (.idiv, 1) := by decide +kernel
theorem dL_ship_187 : decode cL_ship 187 = .ok (.iadd, 1) := by decide +kernel
theorem dL_ship_188 : decode cL_ship 188 = .ok (.iastore, 1) := by decide +kernel
theorem dL_ship_189 : decode cL_ship 189 = .ok (.aload 7, 2) := by decide +kernel
theorem dL_ship_191 : decode cL_ship 191 = .ok (.iconst 5, 1) := by decide +kernel
theorem dL_ship_192 : decode cL_ship 192 = .ok (.iload 12, 2) := by decide +kernel
theorem dL_ship_194 : decode cL_ship 194 = .ok (.imul, 1) := by decide +kernel
theorem dL_ship_195 : decode cL_ship 195 = .ok (.iconst 2, 1) := by decide +kernel
theorem dL_ship_196 : decode cL_ship 196 = .ok (.iadd, 1) := by decide +kernel
theorem dL_ship_197 : decode cL_ship 197 = .ok (.dup2, 1) := by decide +kernel
theorem dL_ship_198 : decode cL_ship 198 = .ok (.iaload, 1) := by decide +kernel
theorem dL_ship_199 : decode cL_ship 199 = .ok (.iload 13, 2) := by decide +kernel
theorem dL_ship_201 : decode cL_ship 201 = .ok (.iadd, 1) := by decide +kernel
theorem dL_ship_202 : decode cL_ship 202 = .ok (.iastore, 1) := by decide +kernel
theorem dL_ship_203 : decode cL_ship 203 = .ok (.aload_n 3, 1) := by decide +kernel
theorem dL_ship_204 : decode cL_ship 204 = .ok (.bipush 7, 2) := by decide +kernel
theorem dL_ship_206 : decode cL_ship 206 = .ok (.dup2, 1) := by decide +kernel
theorem dL_ship_207 : decode cL_ship 207 = .ok (.iaload, 1) := by decide +kernel
theorem dL_ship_208 : decode cL_ship 208 = .ok (.iload 13, 2) := by decide +kernel
theorem dL_ship_210 : decode cL_ship 210 = .ok (.iload 14, 2) := by decide +kernel
theorem dL_ship_212 : decode cL_ship 212 = .ok (.imul, 1) := by decide +kernel
theorem dL_ship_213 : decode cL_ship 213 = .ok (.iadd, 1) := by decide +kernel
theorem dL_ship_214 : decode cL_ship 214 = .ok (.iastore, 1) := by decide +kernel
theorem dL_ship_215 : decode cL_ship 215 = .ok (.aload_n 3, 1) := by decide +kernel
theorem dL_ship_216 : decode cL_ship 216 = .ok (.iload 13, 2) := by decide +kernel
theorem dL_ship_218 : decode cL_ship 218 = .ok (.iload 14, 2) := by decide +kernel
theorem dL_ship_220 : decode cL_ship 220 = .ok (.imul, 1) := by decide +kernel
theorem dL_ship_221 : decode cL_ship 221 = .ok (.invokestatic 19, 3) := by decide +kernel
theorem dL_ship_224 : decode cL_ship 224 = .ok (.aload_n 0, 1) := by decide +kernel
theorem dL_ship_225 : decode cL_ship 225 = .ok (.iload 12, 2) := by decide +kernel
theorem dL_ship_227 : decode cL_ship 227 = .ok (.iload 13, 2) := by decide +kernel
theorem dL_ship_229 : decode cL_ship 229 = .ok (.iload 14, 2) := by decide +kernel
theorem dL_ship_231 : decode cL_ship 231 = .ok (.invokevirtual 75, 3) := by decide +kernel
theorem dL_ship_234 : decode cL_ship 234 = .ok (.aload 7, 2) := by decide +kernel
theorem dL_ship_236 : decode cL_ship 236 = .ok (.iconst 5, 1) := by decide +kernel
theorem dL_ship_237 : decode cL_ship 237 = .ok (.iload 12, 2) := by decide +kernel
theorem dL_ship_239 : decode cL_ship 239 = .ok (.imul, 1) := by decide +kernel
theorem dL_ship_240 : decode cL_ship 240 = .ok (.iconst 1, 1) := by decide +kernel
theorem dL_ship_241 : decode cL_ship 241 = .ok (.iadd, 1) := by decide +kernel
theorem dL_ship_242 : decode cL_ship 242 = .ok (.iaload, 1) := by decide +kernel
theorem dL_ship_243 : decode cL_ship 243 = .ok (.if_icmp .ne 7, 3) := by decide +kernel
theorem dL_ship_246 : decode cL_ship 246 = .ok (.iconst 1, 1) := by decide +kernel
theorem dL_ship_247 : decode cL_ship 247 = .ok (.goto 4, 3) := by decide +kernel
theorem dL_ship_250 : decode cL_ship 250 = .ok (.iconst 0, 1) := by decide +kernel
theorem dL_ship_251 : decode cL_ship 251 = .ok (.ireturn, 1) := by decide +kernel
theorem dL_ship_252 : decode cL_ship 252 = .ok (.iload 9, 2) := by decide +kernel
theorem dL_ship_254 : decode cL_ship 254 = .ok (.bipush 6, 2) := by decide +kernel
theorem dL_ship_256 : decode cL_ship 256 = .ok (.if_icmp .ge 155, 3) := by decide +kernel
theorem dL_ship_259 : decode cL_ship 259 = .ok (.iconst 1, 1) := by decide +kernel
theorem dL_ship_260 : decode cL_ship 260 = .ok (.iload_n 2, 1) := by decide +kernel
theorem dL_ship_261 : decode cL_ship 261 = .ok (.iload_n 2, 1) := by decide +kernel
theorem dL_ship_262 : decode cL_ship 262 = .ok (.bipush 9, 2) := by decide +kernel
theorem dL_ship_264 : decode cL_ship 264 = .ok (.ishr, 1) := by decide +kernel
theorem dL_ship_265 : decode cL_ship 265 = .ok (.iconst 3, 1) := by decide +kernel
theorem dL_ship_266 : decode cL_ship 266 = .ok (.iand, 1) := by decide +kernel
theorem dL_ship_267 : decode cL_ship 267 = .ok (.ifCond .ne 8, 3) := by decide +kernel
theorem dL_ship_270 : decode cL_ship 270 = .ok (.bipush 99, 2) := by decide +kernel
theorem dL_ship_272 : decode cL_ship 272 = .ok (.goto 5, 3) := by decide +kernel
theorem dL_ship_275 : decode cL_ship 275 = .ok (.bipush 12, 2) := by decide +kernel
theorem dL_ship_277 : decode cL_ship 277 = .ok (.invokestatic 27, 3) := by decide +kernel
theorem dL_ship_280 : decode cL_ship 280 = .ok (.iadd, 1) := by decide +kernel
theorem dL_ship_281 : decode cL_ship 281 = .ok (.istore 12, 2) := by decide +kernel
theorem dL_ship_283 : decode cL_ship 283 = .ok (.aload_n 3, 1) := by decide +kernel
theorem dL_ship_284 : decode cL_ship 284 = .ok (.iconst 2, 1) := by decide +kernel
theorem dL_ship_285 : decode cL_ship 285 = .ok (.iaload, 1) := by decide +kernel
theorem dL_ship_286 : decode cL_ship 286 = .ok (.iload 12, 2) := by decide +kernel
theorem dL_ship_288 : decode cL_ship 288 = .ok (.iadd, 1) := by decide +kernel
theorem dL_ship_289 : decode cL_ship 289 = .ok (.sipush 999, 3) := by decide +kernel
theorem dL_ship_292 : decode cL_ship 292 = .ok (.if_icmp .le 31, 3) := by decide +kernel
theorem dL_ship_295 : decode cL_ship 295 = .ok (.aload_n 0, 1) := by decide +kernel
theorem dL_ship_296 : decode cL_ship 296 = .ok (.iload 12, 2) := by decide +kernel
theorem dL_ship_298 : decode cL_ship 298 = .ok (.invokevirtual 78, 3) := by decide +kernel
theorem dL_ship_301 : decode cL_ship 301 = .ok (.ldc 38, 2) := by decide +kernel
theorem dL_ship_303 : decode cL_ship 303 = .ok (.if_icmp .ne 18, 3) := by decide +kernel
theorem dL_ship_306 : decode cL_ship 306 = .ok (.aload_n 0, 1) := by decide +kernel
theorem dL_ship_307 : decode cL_ship 307 = .ok (.bipush 100, 2) := by decide +kernel
theorem dL_ship_309 : decode cL_ship 309 = .ok (.invokevirtual 78, 3) := by decide +kernel
theorem dL_ship_312 : decode cL_ship 312 = .ok (.iload 11, 2) := by decide +kernel
theorem dL_ship_314 : decode cL_ship 314 = .ok (.if_icmp .ne 7, 3) := by decide +kernel
theorem dL_ship_317 : decode cL_ship 317 = .ok (.iconst 1, 1) := by decide +kernel
theorem dL_ship_318 : decode cL_ship 318 = .ok (.goto 4, 3) := by decide +kernel
theorem dL_ship_321 : decode cL_ship 321 = .ok (.iconst 0, 1) := by decide +kernel
theorem dL_ship_322 : decode cL_ship 322 = .ok (.ireturn, 1) := by decide +kernel
theorem dL_ship_323 : decode cL_ship 323 = .ok (.aload_n 3, 1) := by decide +kernel
theorem dL_ship_324 : decode cL_ship 324 = .ok (.iconst 2, 1) := by decide +kernel
theorem dL_ship_325 : decode cL_ship 325 = .ok (.dup2, 1) := by decide +kernel
theorem dL_ship_326 : decode cL_ship 326 = .ok (.iaload, 1) := by decide +kernel
theorem dL_ship_327 : decode cL_ship 327 = .ok (.iload 12, 2) := by decide +kernel
theorem dL_ship_329 : decode cL_ship 329 = .ok (.iadd, 1) := by decide +kernel
theorem dL_ship_330 : decode cL_ship 330 = .ok (.iastore, 1) := by decide +kernel
theorem dL_ship_331 : decode cL_ship 331 = .ok (.iconst 0, 1) := by decide +kernel
theorem dL_ship_332 : decode cL_ship 332 = .ok (.istore 13, 2) := by decide +kernel
theorem dL_ship_334 : decode cL_ship 334 = .ok (.iload 13, 2) := by decide +kernel
theorem dL_ship_336 : decode cL_ship 336 = .ok (.aload_n 3, 1) := by decide +kernel
theorem dL_ship_337 : decode cL_ship 337 = .ok (.iconst 4, 1) := by decide +kernel
theorem dL_ship_338 : decode cL_ship 338 = .ok (.iaload, 1) := by decide +kernel
theorem dL_ship_339 : decode cL_ship 339 = .ok (.if_icmp .ge 44, 3) := by decide +kernel
theorem dL_ship_342 : decode cL_ship 342 = .ok (.aload 5, 2) := by decide +kernel
theorem dL_ship_344 : decode cL_ship 344 = .ok (.iconst 4, 1) := by decide +kernel
theorem dL_ship_345 : decode cL_ship 345 = .ok (.iload 13, 2) := by decide +kernel
theorem dL_ship_347 : decode cL_ship 347 = .ok (.imul, 1) := by decide +kernel
theorem dL_ship_348 : decode cL_ship 348 = .ok (.iconst 1, 1) := by decide +kernel
theorem dL_ship_349 : decode cL_ship 349 = .ok (.iadd, 1) := by decide +kernel
theorem dL_ship_350 : decode cL_ship 350 = .ok (.aload_n 3, 1) := by decide +kernel
theorem dL_ship_351 : decode cL_ship 351 = .ok (.iconst 1, 1) := by decide +kernel
theorem dL_ship_352 : decode cL_ship 352 = .ok (.iaload, 1) := by decide +kernel
theorem dL_ship_353 : decode cL_ship 353 = .ok (.isub, 1) := by decide +kernel
theorem dL_ship_354 : decode cL_ship 354 = .ok (.dup2, 1) := by decide +kernel
theorem dL_ship_355 : decode cL_ship 355 = .ok (.iaload, 1) := by decide +kernel
theorem dL_ship_356 : decode cL_ship 356 = .ok (.aload 4, 2) := by decide +kernel
theorem dL_ship_358 : decode cL_ship 358 = .ok (.iconst 3, 1) := by decide +kernel
theorem dL_ship_359 : decode cL_ship 359 = .ok (.iload 13, 2) := by decide +kernel
theorem dL_ship_361 : decode cL_ship 361 = .ok (.imul, 1) := by decide +kernel
theorem dL_ship_362 : decode cL_ship 362 = .ok (.iconst 2, 1) := by decide +kernel
theorem dL_ship_363 : decode cL_ship 363 = .ok (.iadd, 1) := by decide +kernel
theorem dL_ship_364 : decode cL_ship 364 = .ok (.iaload, 1) := by decide +kernel
theorem dL_ship_365 : decode cL_ship 365 = .ok (.iconst 2, 1) := by decide +kernel
theorem dL_ship_366 : decode cL_ship 366 = .ok (.if_icmp .ge 8, 3) := by decide +kernel
theorem dL_ship_369 : decode cL_ship 369 = .ok (.iload 12, 2) := by decide +kernel
theorem dL_ship_371 : decode cL_ship 371 = .ok (.goto 4, 3) := by decide +kernel
theorem dL_ship_374 : decode cL_ship 374 = .ok (.iconst 0, 1) := by decide +kernel
theorem dL_ship_375 : decode cL_ship 375 = .ok (.iadd, 1) := by decide +kernel
theorem dL_ship_376 : decode cL_ship 376 = .ok (.iastore, 1) := by decide +kernel
theorem dL_ship_377 : decode cL_ship 377 = .ok (.iinc 13 1, 3) := by decide +kernel
theorem dL_ship_380 : decode cL_ship 380 = .ok (.goto (-46), 3) := by decide +kernel
theorem dL_ship_383 : decode cL_ship 383 = .ok (.aload_n 0, 1) := by decide +kernel
theorem dL_ship_384 : decode cL_ship 384 = .ok (.iload 12, 2) := by decide +kernel
theorem dL_ship_386 : decode cL_ship 386 = .ok (.invokevirtual 78, 3) := by decide +kernel
theorem dL_ship_389 : decode cL_ship 389 = .ok (.aload_n 3, 1) := by decide +kernel
theorem dL_ship_390 : decode cL_ship 390 = .ok (.iconst 2, 1) := by decide +kernel
theorem dL_ship_391 : decode cL_ship 391 = .ok (.iaload, 1) := by decide +kernel
theorem dL_ship_392 : decode cL_ship 392 = .ok (.if_icmp .ne 17, 3) := by decide +kernel
theorem dL_ship_395 : decode cL_ship 395 = .ok (.aload_n 0, 1) := by decide +kernel
theorem dL_ship_396 : decode cL_ship 396 = .ok (.iconst 0, 1) := by decide +kernel
theorem dL_ship_397 : decode cL_ship 397 = .ok (.invokevirtual 78, 3) := by decide +kernel
theorem dL_ship_400 : decode cL_ship 400 = .ok (.iload 11, 2) := by decide +kernel
theorem dL_ship_402 : decode cL_ship 402 = .ok (.if_icmp .ne 7, 3) := by decide +kernel
theorem dL_ship_405 : decode cL_ship 405 = .ok (.iconst 1, 1) := by decide +kernel
theorem dL_ship_406 : decode cL_ship 406 = .ok (.goto 4, 3) := by decide +kernel
theorem dL_ship_409 : decode cL_ship 409 = .ok (.iconst 0, 1) := by decide +kernel
theorem dL_ship_410 : decode cL_ship 410 = .ok (.ireturn, 1) := by decide +kernel
theorem dL_ship_411 : decode cL_ship 411 = .ok (.iload 9, 2) := by decide +kernel
theorem dL_ship_413 : decode cL_ship 413 = .ok (.bipush 6, 2) := by decide +kernel
theorem dL_ship_415 : decode cL_ship 415 = .ok (.if_icmp .ne 218, 3) := by decide +kernel
theorem dL_ship_418 : decode cL_ship 418 = .ok (.iload_n 2, 1) := by decide +kernel
theorem dL_ship_419 : decode cL_ship 419 = .ok (.iconst 1, 1) := by decide +kernel
theorem dL_ship_420 : decode cL_ship 420 = .ok (.iand, 1) := by decide +kernel
theorem dL_ship_421 : decode cL_ship 421 = .ok (.istore 12, 2) := by decide +kernel
theorem dL_ship_423 : decode cL_ship 423 = .ok (.iconst 0, 1) := by decide +kernel
theorem dL_ship_424 : decode cL_ship 424 = .ok (.istore 13, 2) := by decide +kernel
theorem dL_ship_426 : decode cL_ship 426 = .ok (.iconst 0, 1) := by decide +kernel
theorem dL_ship_427 : decode cL_ship 427 = .ok (.istore 14, 2) := by decide +kernel
theorem dL_ship_429 : decode cL_ship 429 = .ok (.iconst 0, 1) := by decide +kernel
theorem dL_ship_430 : decode cL_ship 430 = .ok (.istore 15, 2) := by decide +kernel
theorem dL_ship_432 : decode cL_ship 432 = .ok (.iload 15, 2) := by decide +kernel
theorem dL_ship_434 : decode cL_ship 434 = .ok (.aload_n 3, 1) := by decide +kernel
theorem dL_ship_435 : decode cL_ship 435 = .ok (.iconst 4, 1) := by decide +kernel
theorem dL_ship_436 : decode cL_ship 436 = .ok (.iaload, 1) := by decide +kernel
theorem dL_ship_437 : decode cL_ship 437 = .ok (.if_icmp .ge 70, 3) := by decide +kernel
theorem dL_ship_440 : decode cL_ship 440 = .ok (.iload 13, 2) := by decide +kernel
theorem dL_ship_442 : decode cL_ship 442 = .ok (.aload 4, 2) := by decide +kernel
theorem dL_ship_444 : decode cL_ship 444 = .ok (.iconst 3, 1) := by decide +kernel
theorem dL_ship_445 : decode cL_ship 445 = .ok (.iload 15, 2) := by decide +kernel
theorem dL_ship_447 : decode cL_ship 447 = .ok (.imul, 1) := by decide +kernel
theorem dL_ship_448 : decode cL_ship 448 = .ok (.iconst 1, 1) := by decide +kernel
theorem dL_ship_449 : decode cL_ship 449 = .ok (.iadd, 1) := by decide +kernel
theorem dL_ship_450 : decode cL_ship 450 = .ok (.iaload, 1) := by decide +kernel
theorem dL_ship_451 : decode cL_ship 451 = .ok (.iload 12, 2) := by decide +kernel
theorem dL_ship_453 : decode cL_ship 453 = .ok (.if_icmp .ne 19, 3) := by decide +kernel
theorem dL_ship_456 : decode cL_ship 456 = .ok (.aload 4, 2) := by decide +kernel
theorem dL_ship_458 : decode cL_ship 458 = .ok (.iconst 3, 1) := by decide +kernel
theorem dL_ship_459 : decode cL_ship 459 = .ok (.iload 15, 2) := by decide +kernel
theorem dL_ship_461 : decode cL_ship 461 = .ok (.imul, 1) := by decide +kernel
theorem dL_ship_462 : decode cL_ship 462 = .ok (.iconst 2, 1) := by decide +kernel
theorem dL_ship_463 : decode cL_ship 463 = .ok (.iadd, 1) := by decide +kernel
theorem dL_ship_464 : decode cL_ship 464 = .ok (.iaload, 1) := by decide +kernel
theorem dL_ship_465 : decode cL_ship 465 = .ok (.ifCond .ne 7, 3) := by decide +kernel
theorem dL_ship_468 : decode cL_ship 468 = .ok (.iconst 1, 1) := by decide +kernel
theorem dL_ship_469 : decode cL_ship 469 = .ok (.goto 4, 3) := by decide +kernel
theorem dL_ship_472 : decode cL_ship 472 = .ok (.iconst 0, 1) := by decide +kernel
theorem dL_ship_473 : decode cL_ship 473 = .ok (.iadd, 1) := by decide +kernel
theorem dL_ship_474 : decode cL_ship 474 = .ok (.istore 13, 2) := by decide +kernel
theorem dL_ship_476 : decode cL_ship 476 = .ok (.iload 14, 2) := by decide +kernel
theorem dL_ship_478 : decode cL_ship 478 = .ok (.ifCond .ne 16, 3) := by decide +kernel
theorem dL_ship_481 : decode cL_ship 481 = .ok (.aload 4, 2) := by decide +kernel
theorem dL_ship_483 : decode cL_ship 483 = .ok (.iconst 3, 1) := by decide +kernel
theorem dL_ship_484 : decode cL_ship 484 = .ok (.iload 15, 2) := by decide +kernel
theorem dL_ship_486 : decode cL_ship 486 = .ok (.imul, 1) := by decide +kernel
theorem dL_ship_487 : decode cL_ship 487 = .ok (.iconst 2, 1) := by decide +kernel
theorem dL_ship_488 : decode cL_ship 488 = .ok (.iadd, 1) := by decide +kernel
theorem dL_ship_489 : decode cL_ship 489 = .ok (.iaload, 1) := by decide +kernel
theorem dL_ship_490 : decode cL_ship 490 = .ok (.iconst 1, 1) := by decide +kernel
theorem dL_ship_491 : decode cL_ship 491 = .ok (.if_icmp .ne 7, 3) := by decide +kernel
theorem dL_ship_494 : decode cL_ship 494 = .ok (.iconst 1, 1) := by decide +kernel
theorem dL_ship_495 : decode cL_ship 495 = .ok (.goto 4, 3) := by decide +kernel
theorem dL_ship_498 : decode cL_ship 498 = .ok (.iconst 0, 1) := by decide +kernel
theorem dL_ship_499 : decode cL_ship 499 = .ok (.istore 14, 2) := by decide +kernel
theorem dL_ship_501 : decode cL_ship 501 = .ok (.iinc 15 1, 3) := by decide +kernel
theorem dL_ship_504 : decode cL_ship 504 = .ok (.goto (-72), 3) := by decide +kernel
theorem dL_ship_507 : decode cL_ship 507 = .ok (.aload_n 3, 1) := by decide +kernel
theorem dL_ship_508 : decode cL_ship 508 = .ok (.iconst 1, 1) := by decide +kernel
theorem dL_ship_509 : decode cL_ship 509 = .ok (.iaload, 1) := by decide +kernel
theorem dL_ship_510 : decode cL_ship 510 = .ok (.iconst 1, 1) := by decide +kernel
theorem dL_ship_511 : decode cL_ship 511 = .ok (.if_icmp .eq 13, 3) := by decide +kernel
theorem dL_ship_514 : decode cL_ship 514 = .ok (.iload 14, 2) := by decide +kernel
theorem dL_ship_516 : decode cL_ship 516 = .ok (.ifCond .ne 8, 3) := by decide +kernel
theorem dL_ship_519 : decode cL_ship 519 = .ok (.iload 13, 2) := by decide +kernel
theorem dL_ship_521 : decode cL_ship 521 = .ok (.ifCond .ne 30, 3) := by decide +kernel
theorem dL_ship_524 : decode cL_ship 524 = .ok (.aload_n 0, 1) := by decide +kernel
theorem dL_ship_525 : decode cL_ship 525 = .ok (.iload 12, 2) := by decide +kernel
theorem dL_ship_527 : decode cL_ship 527 = .ok (.invokevirtual 81, 3) := by decide +kernel
theorem dL_ship_530 : decode cL_ship 530 = .ok (.iload 10, 2) := by decide +kernel
theorem dL_ship_532 : decode cL_ship 532 = .ok (.if_icmp .ne 17, 3) := by decide +kernel
theorem dL_ship_535 : decode cL_ship 535 = .ok (.aload_n 0, 1) := by decide +kernel
theorem dL_ship_536 : decode cL_ship 536 = .ok (.iconst 2, 1) := by decide +kernel
theorem dL_ship_537 : decode cL_ship 537 = .ok (.invokevirtual 81, 3) := by decide +kernel
theorem dL_ship_540 : decode cL_ship 540 = .ok (.iload 11, 2) := by decide +kernel
theorem dL_ship_542 : decode cL_ship 542 = .ok (.if_icmp .ne 7, 3) := by decide +kernel
theorem dL_ship_545 : decode cL_ship 545 = .ok (.iconst 1, 1) := by decide +kernel
theorem dL_ship_546 : decode cL_ship 546 = .ok (.goto 4, 3) := by decide +kernel
theorem dL_ship_549 : decode cL_ship 549 = .ok (.iconst 0, 1) := by decide +kernel
theorem dL_ship_550 : decode cL_ship 550 = .ok (.ireturn, 1) := by decide +kernel
theorem dL_ship_551 : decode cL_ship 551 = .ok (.iconst 0, 1) := by decide +kernel
theorem dL_ship_552 : decode cL_ship 552 = .ok (.istore 15, 2) := by decide +kernel
theorem dL_ship_554 : decode cL_ship 554 = .ok (.iload 15, 2) := by decide +kernel
theorem dL_ship_556 : decode cL_ship 556 = .ok (.aload_n 3, 1) := by decide +kernel
theorem dL_ship_557 : decode cL_ship 557 = .ok (.iconst 4, 1) := by decide +kernel
theorem dL_ship_558 : decode cL_ship 558 = .ok (.iaload, 1) := by decide +kernel
theorem dL_ship_559 : decode cL_ship 559 = .ok (.if_icmp .ge 57, 3) := by decide +kernel
theorem dL_ship_562 : decode cL_ship 562 = .ok (.aload 4, 2) := by decide +kernel
theorem dL_ship_564 : decode cL_ship 564 = .ok (.iconst 3, 1) := by decide +kernel
theorem dL_ship_565 : decode cL_ship 565 = .ok (.iload 15, 2) := by decide +kernel
theorem dL_ship_567 : decode cL_ship 567 = .ok (.imul, 1) := by decide +kernel
theorem dL_ship_568 : decode cL_ship 568 = .ok (.iconst 2, 1) := by decide +kernel
theorem dL_ship_569 : decode cL_ship 569 = .ok (.iadd, 1) := by decide +kernel
theorem dL_ship_570 : decode cL_ship 570 = .ok (.aload 4, 2) := by decide +kernel
theorem dL_ship_572 : decode cL_ship 572 = .ok (.iconst 3, 1) := by decide +kernel
theorem dL_ship_573 : decode cL_ship 573 = .ok (.iload 15, 2) := by decide +kernel
theorem dL_ship_575 : decode cL_ship 575 = .ok (.imul, 1) := by decide +kernel
theorem dL_ship_576 : decode cL_ship 576 = .ok (.iconst 1, 1) := by decide +kernel
theorem dL_ship_577 : decode cL_ship 577 = .ok (.iadd, 1) := by decide +kernel
theorem dL_ship_578 : decode cL_ship 578 = .ok (.iaload, 1) := by decide +kernel
theorem dL_ship_579 : decode cL_ship 579 = .ok (.iload 12, 2) := by decide +kernel
theorem dL_ship_581 : decode cL_ship 581 = .ok (.if_icmp .ne 19, 3) := by decide +kernel
theorem dL_ship_584 : decode cL_ship 584 = .ok (.aload 4, 2) := by decide +kernel
theorem dL_ship_586 : decode cL_ship 586 = .ok (.iconst 3, 1) := by decide +kernel
theorem dL_ship_587 : decode cL_ship 587 = .ok (.iload 15, 2) := by decide +kernel
theorem dL_ship_589 : decode cL_ship 589 = .ok (.imul, 1) := by decide +kernel
theorem dL_ship_590 : decode cL_ship 590 = .ok (.iconst 2, 1) := by decide +kernel
theorem dL_ship_591 : decode cL_ship 591 = .ok (.iadd, 1) := by decide +kernel
theorem dL_ship_592 : decode cL_ship 592 = .ok (.iaload, 1) := by decide +kernel
theorem dL_ship_593 : decode cL_ship 593 = .ok (.ifCond .ne 7, 3) := by decide +kernel
theorem dL_ship_596 : decode cL_ship 596 = .ok (.iconst 1, 1) := by decide +kernel
theorem dL_ship_597 : decode cL_ship 597 = .ok (.goto 12, 3) := by decide +kernel
theorem dL_ship_600 : decode cL_ship 600 = .ok (.aload 4, 2) := by decide +kernel
theorem dL_ship_602 : decode cL_ship 602 = .ok (.iconst 3, 1) := by decide +kernel
theorem dL_ship_603 : decode cL_ship 603 = .ok (.iload 15, 2) := by decide +kernel
theorem dL_ship_605 : decode cL_ship 605 = .ok (.imul, 1) := by decide +kernel
theorem dL_ship_606 : decode cL_ship 606 = .ok (.iconst 2, 1) := by decide +kernel
theorem dL_ship_607 : decode cL_ship 607 = .ok (.iadd, 1) := by decide +kernel
theorem dL_ship_608 : decode cL_ship 608 = .ok (.iaload, 1) := by decide +kernel
theorem dL_ship_609 : decode cL_ship 609 = .ok (.iastore, 1) := by decide +kernel
theorem dL_ship_610 : decode cL_ship 610 = .ok (.iinc 15 1, 3) := by decide +kernel
theorem dL_ship_613 : decode cL_ship 613 = .ok (.goto (-59), 3) := by decide +kernel
theorem dL_ship_616 : decode cL_ship 616 = .ok (.aload_n 0, 1) := by decide +kernel
theorem dL_ship_617 : decode cL_ship 617 = .ok (.iload 12, 2) := by decide +kernel
theorem dL_ship_619 : decode cL_ship 619 = .ok (.invokevirtual 81, 3) := by decide +kernel
theorem dL_ship_622 : decode cL_ship 622 = .ok (.iload 13, 2) := by decide +kernel
theorem dL_ship_624 : decode cL_ship 624 = .ok (.if_icmp .ne 7, 3) := by decide +kernel
theorem dL_ship_627 : decode cL_ship 627 = .ok (.iconst 1, 1) := by decide +kernel
theorem dL_ship_628 : decode cL_ship 628 = .ok (.goto 4, 3) := by decide +kernel
theorem dL_ship_631 : decode cL_ship 631 = .ok (.iconst 0, 1) := by decide +kernel
theorem dL_ship_632 : decode cL_ship 632 = .ok (.ireturn, 1) := by decide +kernel
theorem dL_ship_633 : decode cL_ship 633 = .ok (.iload 9, 2) := by decide +kernel
theorem dL_ship_635 : decode cL_ship 635 = .ok (.bipush 7, 2) := by decide +kernel
theorem dL_ship_637 : decode cL_ship 637 = .ok (.if_icmp .eq 10, 3) := by decide +kernel
theorem dL_ship_640 : decode cL_ship 640 = .ok (.iload 9, 2) := by decide +kernel
theorem dL_ship_642 : decode cL_ship 642 = .ok (.bipush 8, 2) := by decide +kernel
theorem dL_ship_644 : decode cL_ship 644 = .ok (.if_icmp .ne 151, 3) := by decide +kernel
theorem dL_ship_647 : decode cL_ship 647 = .ok (.aload_n 3, 1) := by decide +kernel
theorem dL_ship_648 : decode cL_ship 648 = .ok (.iconst 1, 1) := by decide +kernel
theorem dL_ship_649 : decode cL_ship 649 = .ok (.iaload, 1) := by decide +kernel
theorem dL_ship_650 : decode cL_ship 650 = .ok (.iconst 1, 1) := by decide +kernel
theorem dL_ship_651 : decode cL_ship 651 = .ok (.if_icmp .ne 39, 3) := by decide +kernel
theorem dL_ship_654 : decode cL_ship 654 = .ok (.aload_n 3, 1) := by decide +kernel
theorem dL_ship_655 : decode cL_ship 655 = .ok (.iconst 1, 1) := by decide +kernel
theorem dL_ship_656 : decode cL_ship 656 = .ok (.iconst 0, 1) := by decide +kernel
theorem dL_ship_657 : decode cL_ship 657 = .ok (.iastore, 1) := by decide +kernel
theorem dL_ship_658 : decode cL_ship 658 = .ok (.aload_n 3, 1) := by decide +kernel
theorem dL_ship_659 : decode cL_ship 659 = .ok (.iconst 3, 1) := by decide +kernel
theorem dL_ship_660 : decode cL_ship 660 = .ok (.dup2, 1) := by decide +kernel
theorem dL_ship_661 : decode cL_ship 661 = .ok (.iaload, 1) := by decide +kernel
theorem dL_ship_662 : decode cL_ship 662 = .ok (.iconst 1, 1) := by decide +kernel
theorem dL_ship_663 : decode cL_ship 663 = .ok (.iadd, 1) := by decide +kernel
theorem dL_ship_664 : decode cL_ship 664 = .ok (.iastore, 1) := by decide +kernel
theorem dL_ship_665 : decode cL_ship 665 = .ok (.aload_n 0, 1) := by decide +kernel
theorem dL_ship_666 : decode cL_ship 666 = .ok (.invokevirtual 84, 3) := by decide +kernel
theorem dL_ship_669 : decode cL_ship 669 = .ok (.iload 10, 2) := by decide +kernel
theorem dL_ship_671 : decode cL_ship 671 = .ok (.if_icmp .ne 17, 3) := by decide +kernel
theorem dL_ship_674 : decode cL_ship 674 = .ok (.aload_n 0, 1) := by decide +kernel
theorem dL_ship_675 : decode cL_ship 675 = .ok (.invokevirtual 88, 3) := by decide +kernel
theorem dL_ship_678 : decode cL_ship 678 = .ok (.aload_n 3, 1) := by decide +kernel
theorem dL_ship_679 : decode cL_ship 679 = .ok (.iconst 3, 1) := by decide +kernel
theorem dL_ship_680 : decode cL_ship 680 = .ok (.iaload, 1) := by decide +kernel
theorem dL_ship_681 : decode cL_ship 681 = .ok (.if_icmp .ne 7, 3) := by decide +kernel
theorem dL_ship_684 : decode cL_ship 684 = .ok (.iconst 1, 1) := by decide +kernel
theorem dL_ship_685 : decode cL_ship 685 = .ok (.goto 4, 3) := by decide +kernel
theorem dL_ship_688 : decode cL_ship 688 = .ok (.iconst 0, 1) := by decide +kernel
theorem dL_ship_689 : decode cL_ship 689 = .ok (.ireturn, 1) := by decide +kernel
theorem dL_ship_690 : decode cL_ship 690 = .ok (.iconst 0, 1) := by decide +kernel
theorem dL_ship_691 : decode cL_ship 691 = .ok (.istore 12, 2) := by decide +kernel
theorem dL_ship_693 : decode cL_ship 693 = .ok (.iconst 0, 1) := by decide +kernel
theorem dL_ship_694 : decode cL_ship 694 = .ok (.istore 13, 2) := by decide +kernel
theorem dL_ship_696 : decode cL_ship 696 = .ok (.iload 13, 2) := by decide +kernel
theorem dL_ship_698 : decode cL_ship 698 = .ok (.aload_n 3, 1) := by decide +kernel
theorem dL_ship_699 : decode cL_ship 699 = .ok (.iconst 4, 1) := by decide +kernel
theorem dL_ship_700 : decode cL_ship 700 = .ok (.iaload, 1) := by decide +kernel
theorem dL_ship_701 : decode cL_ship 701 = .ok (.if_icmp .ge 66, 3) := by decide +kernel
theorem dL_ship_704 : decode cL_ship 704 = .ok (.aload 4, 2) := by decide +kernel
theorem dL_ship_706 : decode cL_ship 706 = .ok (.iconst 3, 1) := by decide +kernel
theorem dL_ship_707 : decode cL_ship 707 = .ok (.iload 13, 2) := by decide +kernel
theorem dL_ship_709 : decode cL_ship 709 = .ok (.imul, 1) := by decide +kernel
theorem dL_ship_710 : decode cL_ship 710 = .ok (.iconst 2, 1) := by decide +kernel
theorem dL_ship_711 : decode cL_ship 711 = .ok (.iadd, 1) := by decide +kernel
theorem dL_ship_712 : decode cL_ship 712 = .ok (.iaload, 1) := by decide +kernel
theorem dL_ship_713 : decode cL_ship 713 = .ok (.iconst 1, 1) := by decide +kernel
theorem dL_ship_714 : decode cL_ship 714 = .ok (.if_icmp .eq 6, 3) := by decide +kernel
theorem dL_ship_717 : decode cL_ship 717 = .ok (.goto 44, 3) := by decide +kernel
theorem dL_ship_720 : decode cL_ship 720 = .ok (.aload_n 3, 1) := by decide +kernel
theorem dL_ship_721 : decode cL_ship 721 = .ok (.bipush 12, 2) := by decide +kernel
theorem dL_ship_723 : decode cL_ship 723 = .ok (.dup2, 1) := by decide +kernel
theorem dL_ship_724 : decode cL_ship 724 = .ok (.iaload, 1) := by decide +kernel
theorem dL_ship_725 : decode cL_ship 725 = .ok (.aload 4, 2) := by decide +kernel
theorem dL_ship_727 : decode cL_ship 727 = .ok (.aload 5, 2) := by decide +kernel
theorem dL_ship_729 : decode cL_ship 729 = .ok (.aload 6, 2) := by decide +kernel
theorem dL_ship_731 : decode cL_ship 731 = .ok (.iload 13, 2) := by decide +kernel
theorem dL_ship_733 : decode cL_ship 733 = .ok (.invokestatic 23, 3) := by decide +kernel
theorem dL_ship_736 : decode cL_ship 736 = .ok (.iadd, 1) := by decide +kernel
theorem dL_ship_737 : decode cL_ship 737 = .ok (.iastore, 1) := by decide +kernel
theorem dL_ship_738 : decode cL_ship 738 = .ok (.aload 4, 2) := by decide +kernel
theorem dL_ship_740 : decode cL_ship 740 = .ok (.iconst 3, 1) := by decide +kernel
theorem dL_ship_741 : decode cL_ship 741 = .ok (.iload 13, 2) := by decide +kernel
theorem dL_ship_743 : decode cL_ship 743 = .ok (.imul, 1) := by decide +kernel
theorem dL_ship_744 : decode cL_ship 744 = .ok (.iconst 2, 1) := by decide +kernel
theorem dL_ship_745 : decode cL_ship 745 = .ok (.iadd, 1) := by decide +kernel
theorem dL_ship_746 : decode cL_ship 746 = .ok (.iconst 2, 1) := by decide +kernel
theorem dL_ship_747 : decode cL_ship 747 = .ok (.iastore, 1) := by decide +kernel
theorem dL_ship_748 : decode cL_ship 748 = .ok (.aload 5, 2) := by decide +kernel
theorem dL_ship_750 : decode cL_ship 750 = .ok (.aload 6, 2) := by decide +kernel
theorem dL_ship_752 : decode cL_ship 752 = .ok (.iload 13, 2) := by decide +kernel
theorem dL_ship_754 : decode cL_ship 754 = .ok (.iconst 0, 1) := by decide +kernel
theorem dL_ship_755 : decode cL_ship 755 = .ok (.invokestatic 39, 3) := by decide +kernel
theorem dL_ship_758 : decode cL_ship 758 = .ok (.iinc 12 1, 3) := by decide +kernel
theorem dL_ship_761 : decode cL_ship 761 = .ok (.iinc 13 1, 3) := by decide +kernel
theorem dL_ship_764 : decode cL_ship 764 = .ok (.goto (-68), 3) := by decide +kernel
theorem dL_ship_767 : decode cL_ship 767 = .ok (.aload_n 3, 1) := by decide +kernel
theorem dL_ship_768 : decode cL_ship 768 = .ok (.iconst 1, 1) := by decide +kernel
theorem dL_ship_769 : decode cL_ship 769 = .ok (.iconst 1, 1) := by decide +kernel
theorem dL_ship_770 : decode cL_ship 770 = .ok (.iastore, 1) := by decide +kernel
theorem dL_ship_771 : decode cL_ship 771 = .ok (.aload_n 0, 1) := by decide +kernel
theorem dL_ship_772 : decode cL_ship 772 = .ok (.invokevirtual 88, 3) := by decide +kernel
theorem dL_ship_775 : decode cL_ship 775 = .ok (.iload 10, 2) := by decide +kernel
theorem dL_ship_777 : decode cL_ship 777 = .ok (.if_icmp .ne 16, 3) := by decide +kernel
theorem dL_ship_780 : decode cL_ship 780 = .ok (.aload_n 0, 1) := by decide +kernel
theorem dL_ship_781 : decode cL_ship 781 = .ok (.invokevirtual 84, 3) := by decide +kernel
theorem dL_ship_784 : decode cL_ship 784 = .ok (.iload 12, 2) := by decide +kernel
theorem dL_ship_786 : decode cL_ship 786 = .ok (.if_icmp .ne 7, 3) := by decide +kernel
theorem dL_ship_789 : decode cL_ship 789 = .ok (.iconst 1, 1) := by decide +kernel
theorem dL_ship_790 : decode cL_ship 790 = .ok (.goto 4, 3) := by decide +kernel
theorem dL_ship_793 : decode cL_ship 793 = .ok (.iconst 0, 1) := by decide +kernel
theorem dL_ship_794 : decode cL_ship 794 = .ok (.ireturn, 1) := by decide +kernel
theorem dL_ship_795 : decode cL_ship 795 = .ok (.iload 9, 2) := by decide +kernel
theorem dL_ship_797 : decode cL_ship 797 = .ok (.bipush 11, 2) := by decide +kernel
theorem dL_ship_799 : decode cL_ship 799 = .ok (.if_icmp .ge 159, 3) := by decide +kernel
theorem dL_ship_802 : decode cL_ship 802 = .ok (.aload_n 3, 1) := by decide +kernel
theorem dL_ship_803 : decode cL_ship 803 = .ok (.iconst 1, 1) := by decide +kernel
theorem dL_ship_804 : decode cL_ship 804 = .ok (.iaload, 1) := by decide +kernel
theorem dL_ship_805 : decode cL_ship 805 = .ok (.iconst 1, 1) := by decide +kernel
theorem dL_ship_806 : decode cL_ship 806 = .ok (.if_icmp .eq 9, 3) := by decide +kernel
theorem dL_ship_809 : decode cL_ship 809 = .ok (.aload_n 3, 1) := by decide +kernel
theorem dL_ship_810 : decode cL_ship 810 = .ok (.iconst 2, 1) := by decide +kernel
theorem dL_ship_811 : decode cL_ship 811 = .ok (.iaload, 1) := by decide +kernel
theorem dL_ship_812 : decode cL_ship 812 = .ok (.ifCond .ne 18, 3) := by decide +kernel
theorem dL_ship_815 : decode cL_ship 815 = .ok (.aload_n 0, 1) := by decide +kernel
theorem dL_ship_816 : decode cL_ship 816 = .ok (.invokevirtual 91, 3) := by decide +kernel
theorem dL_ship_819 : decode cL_ship 819 = .ok (.iload 10, 2) := by decide +kernel
theorem dL_ship_821 : decode cL_ship 821 = .ok (.if_icmp .ne 7, 3) := by decide +kernel
theorem dL_ship_824 : decode cL_ship 824 = .ok (.iconst 1, 1) := by decide +kernel
theorem dL_ship_825 : decode cL_ship 825 = .ok (.goto 4, 3) := by decide +kernel
theorem dL_ship_828 : decode cL_ship 828 = .ok (.iconst 0, 1) := by decide +kernel
theorem dL_ship_829 : decode cL_ship 829 = .ok (.ireturn, 1) := by decide +kernel
theorem dL_ship_830 : decode cL_ship 830 = .ok (.iconst 0, 1) := by decide +kernel
theorem dL_ship_831 : decode cL_ship 831 = .ok (.istore 12, 2) := by decide +kernel
theorem dL_ship_833 : decode cL_ship 833 = .ok (.iconst 0, 1) := by decide +kernel
theorem dL_ship_834 : decode cL_ship 834 = .ok (.istore 13, 2) := by decide +kernel
theorem dL_ship_836 : decode cL_ship 836 = .ok (.iload 13, 2) := by decide +kernel
theorem dL_ship_838 : decode cL_ship 838 = .ok (.aload_n 3, 1) := by decide +kernel
theorem dL_ship_839 : decode cL_ship 839 = .ok (.iconst 4, 1) := by decide +kernel
theorem dL_ship_840 : decode cL_ship 840 = .ok (.iaload, 1) := by decide +kernel
theorem dL_ship_841 : decode cL_ship 841 = .ok (.if_icmp .ge 91, 3) := by decide +kernel
theorem dL_ship_844 : decode cL_ship 844 = .ok (.aload 4, 2) := by decide +kernel
theorem dL_ship_846 : decode cL_ship 846 = .ok (.iconst 3, 1) := by decide +kernel
theorem dL_ship_847 : decode cL_ship 847 = .ok (.iload 13, 2) := by decide +kernel
theorem dL_ship_849 : decode cL_ship 849 = .ok (.imul, 1) := by decide +kernel
theorem dL_ship_850 : decode cL_ship 850 = .ok (.iconst 2, 1) := by decide +kernel
theorem dL_ship_851 : decode cL_ship 851 = .ok (.iadd, 1) := by decide +kernel
theorem dL_ship_852 : decode cL_ship 852 = .ok (.iaload, 1) := by decide +kernel
theorem dL_ship_853 : decode cL_ship 853 = .ok (.iconst 2, 1) := by decide +kernel
theorem dL_ship_854 : decode cL_ship 854 = .ok (.if_icmp .ne 6, 3) := by decide +kernel
theorem dL_ship_857 : decode cL_ship 857 = .ok (.goto 69, 3) := by decide +kernel
theorem dL_ship_860 : decode cL_ship 860 = .ok (.aload 4, 2) := by decide +kernel
theorem dL_ship_862 : decode cL_ship 862 = .ok (.aload 5, 2) := by decide +kernel
theorem dL_ship_864 : decode cL_ship 864 = .ok (.aload 6, 2) := by decide +kernel
theorem dL_ship_866 : decode cL_ship 866 = .ok (.iload 13, 2) := by decide +kernel
theorem dL_ship_868 : decode cL_ship 868 = .ok (.invokestatic 23, 3) := by decide +kernel
theorem dL_ship_871 : decode cL_ship 871 = .ok (.istore 14, 2) := by decide +kernel
theorem dL_ship_873 : decode cL_ship 873 = .ok (.iload 14, 2) := by decide +kernel
theorem dL_ship_875 : decode cL_ship 875 = .ok (.ifCond .le 15, 3) := by decide +kernel
theorem dL_ship_878 : decode cL_ship 878 = .ok (.aload_n 3, 1) := by decide +kernel
theorem dL_ship_879 : decode cL_ship 879 = .ok (.aload 5, 2) := by decide +kernel
theorem dL_ship_881 : decode cL_ship 881 = .ok (.aload 8, 2) := by decide +kernel
theorem dL_ship_883 : decode cL_ship 883 = .ok (.iload 13, 2) := by decide +kernel
theorem dL_ship_885 : decode cL_ship 885 = .ok (.iload 14, 2) := by decide +kernel
theorem dL_ship_887 : decode cL_ship 887 = .ok (.invokestatic 69, 3) := by decide +kernel
theorem dL_ship_890 : decode cL_ship 890 = .ok (.iload 12, 2) := by decide +kernel
theorem dL_ship_892 : decode cL_ship 892 = .ok (.iload 14, 2) := by decide +kernel
theorem dL_ship_894 : decode cL_ship 894 = .ok (.ifCond .le 8, 3) := by decide +kernel
theorem dL_ship_897 : decode cL_ship 897 = .ok (.iload 14, 2) := by decide +kernel
theorem dL_ship_899 : decode cL_ship 899 = .ok (.goto 4, 3) := by decide +kernel
theorem dL_ship_902 : decode cL_ship 902 = .ok (.iconst 0, 1) := by decide +kernel
theorem dL_ship_903 : decode cL_ship 903 = .ok (.iadd, 1) := by decide +kernel
theorem dL_ship_904 : decode cL_ship 904 = .ok (.istore 12, 2) := by decide +kernel
theorem dL_ship_906 : decode cL_ship 906 = .ok (.aload 5, 2) := by decide +kernel
theorem dL_ship_908 : decode cL_ship 908 = .ok (.aload 6, 2) := by decide +kernel
theorem dL_ship_910 : decode cL_ship 910 = .ok (.iload 13, 2) := by decide +kernel
theorem dL_ship_912 : decode cL_ship 912 = .ok (.iload 14, 2) := by decide +kernel
theorem dL_ship_914 : decode cL_ship 914 = .ok (.ifCond .ge 8, 3) := by decide +kernel
theorem dL_ship_917 : decode cL_ship 917 = .ok (.iload 14, 2) := by decide +kernel
theorem dL_ship_919 : decode cL_ship 919 = .ok (.goto 4, 3) := by decide +kernel
theorem dL_ship_922 : decode cL_ship 922 = .ok (.iconst 0, 1) := by decide +kernel
theorem dL_ship_923 : decode cL_ship 923 = .ok (.invokestatic 39, 3) := by decide +kernel
theorem dL_ship_926 : decode cL_ship 926 = .ok (.iinc 13 1, 3) := by decide +kernel
theorem dL_ship_929 : decode cL_ship 929 = .ok (.goto (-93), 3) := by decide +kernel
theorem dL_ship_932 : decode cL_ship 932 = .ok (.aload_n 3, 1) := by decide +kernel
theorem dL_ship_933 : decode cL_ship 933 = .ok (.iconst 0, 1) := by decide +kernel
theorem dL_ship_934 : decode cL_ship 934 = .ok (.dup2, 1) := by decide +kernel
theorem dL_ship_935 : decode cL_ship 935 = .ok (.iaload, 1) := by decide +kernel
theorem dL_ship_936 : decode cL_ship 936 = .ok (.iconst 1, 1) := by decide +kernel
theorem dL_ship_937 : decode cL_ship 937 = .ok (.iadd, 1) := by decide +kernel
theorem dL_ship_938 : decode cL_ship 938 = .ok (.iastore, 1) := by decide +kernel
theorem dL_ship_939 : decode cL_ship 939 = .ok (.aload_n 3, 1) := by decide +kernel
theorem dL_ship_940 : decode cL_ship 940 = .ok (.iconst 2, 1) := by decide +kernel
theorem dL_ship_941 : decode cL_ship 941 = .ok (.iconst 0, 1) := by decide +kernel
theorem dL_ship_942 : decode cL_ship 942 = .ok (.iastore, 1) := by decide +kernel
theorem dL_ship_943 : decode cL_ship 943 = .ok (.aload_n 0, 1) := by decide +kernel
theorem dL_ship_944 : decode cL_ship 944 = .ok (.invokevirtual 91, 3) := by decide +kernel
theorem dL_ship_947 : decode cL_ship 947 = .ok (.iload 12, 2) := by decide +kernel
theorem dL_ship_949 : decode cL_ship 949 = .ok (.if_icmp .ne 7, 3) := by decide +kernel
theorem dL_ship_952 : decode cL_ship 952 = .ok (.iconst 1, 1) := by decide +kernel
theorem dL_ship_953 : decode cL_ship 953 = .ok (.goto 4, 3) := by decide +kernel
theorem dL_ship_956 : decode cL_ship 956 = .ok (.iconst 0, 1) := by decide +kernel
theorem dL_ship_957 : decode cL_ship 957 = .ok (.ireturn, 1) := by decide +kernel
theorem dL_ship_958 : decode cL_ship 958 = .ok (.iload_n 2, 1) := by decide +kernel
theorem dL_ship_959 : decode cL_ship 959 = .ok (.iconst 3, 1) := by decide +kernel
theorem dL_ship_960 : decode cL_ship 960 = .ok (.invokestatic 27, 3) := by decide +kernel
theorem dL_ship_963 : decode cL_ship 963 = .ok (.istore 12, 2) := by decide +kernel
theorem dL_ship_965 : decode cL_ship 965 = .ok (.aload_n 3, 1) := by decide +kernel
theorem dL_ship_966 : decode cL_ship 966 = .ok (.bipush 13, 2) := by decide +kernel
theorem dL_ship_968 : decode cL_ship 968 = .ok (.iload 12, 2) := by decide +kernel
theorem dL_ship_970 : decode cL_ship 970 = .ok (.iadd, 1) := by decide +kernel
theorem dL_ship_971 : decode cL_ship 971 = .ok (.iaload, 1) := by decide +kernel
theorem dL_ship_972 : decode cL_ship 972 = .ok (.istore 13, 2) := by decide +kernel
theorem dL_ship_974 : decode cL_ship 974 = .ok (.aload_n 3, 1) := by decide +kernel
theorem dL_ship_975 : decode cL_ship 975 = .ok (.bipush 13, 2) := by decide +kernel
theorem dL_ship_977 : decode cL_ship 977 = .ok (.iload 12, 2) := by decide +kernel
theorem dL_ship_979 : decode cL_ship 979 = .ok (.iadd, 1) := by decide +kernel
theorem dL_ship_980 : decode cL_ship 980 = .ok (.iload_n 2, 1) := by decide +kernel
theorem dL_ship_981 : decode cL_ship 981 = .ok (.iconst 2, 1) := by decide +kernel
theorem dL_ship_982 : decode cL_ship 982 = .ok (.ishr, 1) := by decide +kernel
theorem dL_ship_983 : decode cL_ship 983 = .ok (.iload 12, 2) := by decide +kernel
theorem dL_ship_985 : decode cL_ship 985 = .ok (.ifCond .ne 9, 3) := by decide +kernel
theorem dL_ship_988 : decode cL_ship 988 = .ok (.sipush 501, 3) := by decide +kernel
theorem dL_ship_991 : decode cL_ship 991 = .ok (.goto 17, 3) := by decide +kernel
theorem dL_ship_994 : decode cL_ship 994 = .ok (.iload 12, 2) := by decide +kernel
theorem dL_ship_996 : decode cL_ship 996 = .ok (.iconst 1, 1) := by decide +kernel
theorem dL_ship_997 : decode cL_ship 997 = .ok (.if_icmp .ne 9, 3) := by decide +kernel
theorem dL_ship_1000 : decode cL_ship 1000 = .ok (.sipush 201, 3) := by decide +kernel
theorem dL_ship_1003 : decode cL_ship 1003 = .ok (.goto 5, 3) := by decide +kernel
theorem dL_ship_1006 : decode cL_ship 1006 = .ok (.bipush 51, 2) := by decide +kernel
theorem dL_ship_1008 : decode cL_ship 1008 = .ok (.invokestatic 27, 3) := by decide +kernel
theorem dL_ship_1011 : decode cL_ship 1011 = .ok (.iastore, 1) := by decide +kernel
theorem dL_ship_1012 : decode cL_ship 1012 = .ok (.aload_n 0, 1) := by decide +kernel
theorem dL_ship_1013 : decode cL_ship 1013 = .ok (.iload 12, 2) := by decide +kernel
theorem dL_ship_1015 : decode cL_ship 1015 = .ok (.aload_n 3, 1) := by decide +kernel
theorem dL_ship_1016 : decode cL_ship 1016 = .ok (.bipush 13, 2) := by decide +kernel
theorem dL_ship_1018 : decode cL_ship 1018 = .ok (.iload 12, 2) := by decide +kernel
theorem dL_ship_1020 : decode cL_ship 1020 = .ok (.iadd, 1) := by decide +kernel
theorem dL_ship_1021 : decode cL_ship 1021 = .ok (.iaload, 1) := by decide +kernel
theorem dL_ship_1022 : decode cL_ship 1022 = .ok (.invokevirtual 94, 3) := by decide +kernel
theorem dL_ship_1025 : decode cL_ship 1025 = .ok (.iload 13, 2) := by decide +kernel
theorem dL_ship_1027 : decode cL_ship 1027 = .ok (.if_icmp .ne 41, 3) := by decide +kernel
theorem dL_ship_1030 : decode cL_ship 1030 = .ok (.aload_n 0, 1) := by decide +kernel
theorem dL_ship_1031 : decode cL_ship 1031 = .ok (.iconst 3, 1) := by decide +kernel
theorem dL_ship_1032 : decode cL_ship 1032 = .ok (.iconst 0, 1) := by decide +kernel
theorem dL_ship_1033 : decode cL_ship 1033 = .ok (.invokevirtual 94, 3) := by decide +kernel
theorem dL_ship_1036 : decode cL_ship 1036 = .ok (.iload 11, 2) := by decide +kernel
theorem dL_ship_1038 : decode cL_ship 1038 = .ok (.if_icmp .ne 30, 3) := by decide +kernel
theorem dL_ship_1041 : decode cL_ship 1041 = .ok (.aload_n 0, 1) := by decide +kernel
theorem dL_ship_1042 : decode cL_ship 1042 = .ok (.iconst 2, 1) := by decide +kernel
theorem dL_ship_1043 : decode cL_ship 1043 = .ok (.bipush 51, 2) := by decide +kernel
theorem dL_ship_1045 : decode cL_ship 1045 = .ok (.invokevirtual 94, 3) := by decide +kernel
theorem dL_ship_1048 : decode cL_ship 1048 = .ok (.iload 11, 2) := by decide +kernel
theorem dL_ship_1050 : decode cL_ship 1050 = .ok (.if_icmp .ne 18, 3) := by decide +kernel
theorem dL_ship_1053 : decode cL_ship 1053 = .ok (.aload_n 0, 1) := by decide +kernel
theorem dL_ship_1054 : decode cL_ship 1054 = .ok (.iconst 0, 1) := by decide +kernel
theorem dL_ship_1055 : decode cL_ship 1055 = .ok (.iconst (-1), 1) := by decide +kernel
theorem dL_ship_1056 : decode cL_ship 1056 = .ok (.invokevirtual 94, 3) := by decide +kernel
theorem dL_ship_1059 : decode cL_ship 1059 = .ok (.iload 11, 2) := by decide +kernel
theorem dL_ship_1061 : decode cL_ship 1061 = .ok (.if_icmp .ne 7, 3) := by decide +kernel
theorem dL_ship_1064 : decode cL_ship 1064 = .ok (.iconst 1, 1) := by decide +kernel
theorem dL_ship_1065 : decode cL_ship 1065 = .ok (.goto 4, 3) := by decide +kernel
theorem dL_ship_1068 : decode cL_ship 1068 = .ok (.iconst 0, 1) := by decide +kernel
theorem dL_ship_1069 : decode cL_ship 1069 = .ok (.ireturn, 1) := by decide +kernel
theorem dL_bits_0 : decode cL_bits 0 = .ok (.iload_n 0, 1) := by decide +kernel
theorem dL_bits_1 : decode cL_bits 1 = .ok (.ifCond .ne 5, 3) := by decide +kernel
theorem dL_bits_4 : decode cL_bits 4 = .ok (.iconst 0, 1) := by decide +kernel
theorem dL_bits_5 : decode cL_bits 5 = .ok (.ireturn, 1) := by decide +kernel
theorem dL_bits_6 : decode cL_bits 6 = .ok (.iconst 0, 1) := by decide +kernel
theorem dL_bits_7 : decode cL_bits 7 = .ok (.istore_n 2, 1) := by decide +kernel
theorem dL_bits_8 : decode cL_bits 8 = .ok (.iload_n 0, 1) := by decide +kernel
theorem dL_bits_9 : decode cL_bits 9 = .ok (.i2l, 1) := by decide +kernel
theorem dL_bits_10 : decode cL_bits 10 = .ok (.iload_n 2, 1) := by decide +kernel
theorem dL_bits_11 : decode cL_bits 11 = .ok (.lshl, 1) := by decide +kernel
theorem dL_bits_12 : decode cL_bits 12 = .ok (.iload_n 1, 1) := by decide +kernel
theorem dL_bits_13 : decode cL_bits 13 = .ok (.i2l, 1) := by decide +kernel
theorem dL_bits_14 : decode cL_bits 14 = .ok (.ldiv, 1) := by decide +kernel
theorem dL_bits_15 : decode cL_bits 15 = .ok (.ldc2_w 97, 3) := by decide +kernel
theorem dL_bits_18 : decode cL_bits 18 = .ok (.lcmp, 1) := by decide +kernel
theorem dL_bits_19 : decode cL_bits 19 = .ok (.ifCond .ge 9, 3) := by decide +kernel
theorem dL_bits_22 : decode cL_bits 22 = .ok (.iinc 2 1, 3) := by decide +kernel
theorem dL_bits_25 : decode cL_bits 25 = .ok (.goto (-17), 3) := by decide +kernel
theorem dL_bits_28 : decode cL_bits 28 = .ok (.iload_n 0, 1) := by decide +kernel
theorem dL_bits_29 : decode cL_bits 29 = .ok (.i2l, 1) := by decide +kernel
theorem dL_bits_30 : decode cL_bits 30 = .ok (.iload_n 2, 1) := by decide +kernel
theorem dL_bits_31 : decode cL_bits 31 = .ok (.lshl, 1) := by decide +kernel
theorem dL_bits_32 : decode cL_bits 32 = .ok (.iload_n 1, 1) := by decide +kernel
theorem dL_bits_33 : decode cL_bits 33 = .ok (.i2l, 1) := by decide +kernel
theorem dL_bits_34 : decode cL_bits 34 = .ok (.ldiv, 1) := by decide +kernel
theorem dL_bits_35 : decode cL_bits 35 = .ok (.lstore_n 3, 1) := by decide +kernel
theorem dL_bits_36 : decode cL_bits 36 = .ok (.ldc2_w 99, 3) := by decide +kernel
theorem dL_bits_39 : decode cL_bits 39 = .ok (.iload_n 0, 1) := by decide +kernel
theorem dL_bits_40 : decode cL_bits 40 = .ok (.i2l, 1) := by decide +kernel
theorem dL_bits_41 : decode cL_bits 41 = .ok (.iload_n 2, 1) := by decide +kernel
theorem dL_bits_42 : decode cL_bits 42 = .ok (.lshl, 1) := by decide +kernel
theorem dL_bits_43 : decode cL_bits 43 = .ok (.lload_n 3, 1) := by decide +kernel
theorem dL_bits_44 : decode cL_bits 44 = .ok (.iload_n 1, 1) := by decide +kernel
theorem dL_bits_45 : decode cL_bits 45 = .ok (.i2l, 1) := by decide +kernel
theorem dL_bits_46 : decode cL_bits 46 = .ok (.lmul, 1) := by decide +kernel
theorem dL_bits_47 : decode cL_bits 47 = .ok (.lsub, 1) := by decide +kernel
theorem dL_bits_48 : decode cL_bits 48 = .ok (.lmul, 1) := by decide +kernel
theorem dL_bits_49 : decode cL_bits 49 = .ok (.lstore 5, 2) := by decide +kernel
theorem dL_bits_51 : decode cL_bits 51 = .ok (.lload_n 3, 1) := by decide +kernel
theorem dL_bits_52 : decode cL_bits 52 = .ok (.lload 5, 2) := by decide +kernel
theorem dL_bits_54 : decode cL_bits 54 = .ok (.iload_n 1, 1) := by decide +kernel
theorem dL_bits_55 : decode cL_bits 55 = .ok (.i2l, 1) := by decide +kernel
theorem dL_bits_56 : decode cL_bits 56 = .ok (.lcmp, 1) := by decide +kernel
theorem dL_bits_57 : decode cL_bits 57 = .ok (.ifCond .gt 21, 3) := by decide +kernel
theorem dL_bits_60 : decode cL_bits 60 = .ok (.lload 5, 2) := by decide +kernel
theorem dL_bits_62 : decode cL_bits 62 = .ok (.iload_n 1, 1) := by decide +kernel
theorem dL_bits_63 : decode cL_bits 63 = .ok (.i2l, 1) := by decide +kernel
theorem dL_bits_64 : decode cL_bits 64 = .ok (.lcmp, 1) := by decide +kernel
theorem dL_bits_65 : decode cL_bits 65 = .ok (.ifCond .ne 17, 3) := by decide +kernel
theorem dL_bits_68 : decode cL_bits 68 = .ok (.lload_n 3, 1) := by decide +kernel
theorem dL_bits_69 : decode cL_bits 69 = .ok (.ldc2_w 99, 3) := by decide +kernel
theorem dL_bits_72 : decode cL_bits 72 = .ok (.lrem, 1) := by decide +kernel
theorem dL_bits_73 : decode cL_bits 73 = .ok (.lconst 1, 1) := by decide +kernel
theorem dL_bits_74 : decode cL_bits 74 = .ok (.lcmp, 1) := by decide +kernel
theorem dL_bits_75 : decode cL_bits 75 = .ok (.ifCond .ne 7, 3) := by decide +kernel
theorem dL_bits_78 : decode cL_bits 78 = .ok (.lconst 1, 1) := by decide +kernel
theorem dL_bits_79 : decode cL_bits 79 = .ok (.goto 4, 3) := by decide +kernel
theorem dL_bits_82 : decode cL_bits 82 = .ok (.lconst 0, 1) := by decide +kernel
theorem dL_bits_83 : decode cL_bits 83 = .ok (.ladd, 1) := by decide +kernel
theorem dL_bits_84 : decode cL_bits 84 = .ok (.lstore_n 3, 1) := by decide +kernel
theorem dL_bits_85 : decode cL_bits 85 = .ok (.sipush 150, 3) := by decide +kernel
theorem dL_bits_88 : decode cL_bits 88 = .ok (.iload_n 2, 1) := by decide +kernel
theorem dL_bits_89 : decode cL_bits 89 = .ok (.isub, 1) := by decide +kernel
theorem dL_bits_90 : decode cL_bits 90 = .ok (.bipush 23, 2) := by decide +kernel
theorem dL_bits_92 : decode cL_bits 92 = .ok (.ishl, 1) := by decide +kernel
theorem dL_bits_93 : decode cL_bits 93 = .ok (.lload_n 3, 1) := by decide +kernel
theorem dL_bits_94 : decode cL_bits 94 = .ok (.ldc2_w 97, 3) := by decide +kernel
theorem dL_bits_97 : decode cL_bits 97 = .ok (.lsub, 1) := by decide +kernel
theorem dL_bits_98 : decode cL_bits 98 = .ok (.l2i, 1) := by decide +kernel
theorem dL_bits_99 : decode cL_bits 99 = .ok (.iadd, 1) := by decide +kernel
theorem dL_bits_100 : decode cL_bits 100 = .ok (.ireturn, 1) := by decide +kernel
theorem dL_areSailors_0 : decode cL_areSailors 0 = .ok (.iconst 0, 1) := by decide +kernel
theorem dL_areSailors_1 : decode cL_areSailors 1 = .ok (.istore 6, 2) := by decide +kernel
theorem dL_areSailors_3 : decode cL_areSailors 3 = .ok (.iconst 0, 1) := by decide +kernel
theorem dL_areSailors_4 : decode cL_areSailors 4 = .ok (.istore 7, 2) := by decide +kernel
theorem dL_areSailors_6 : decode cL_areSailors 6 = .ok (.iconst 0, 1) := by decide +kernel
theorem dL_areSailors_7 : decode cL_areSailors 7 = .ok (.istore 8, 2) := by decide +kernel
theorem dL_areSailors_9 : decode cL_areSailors 9 = .ok (.iconst 0, 1) := by decide +kernel
theorem dL_areSailors_10 : decode cL_areSailors 10 = .ok (.istore 9, 2) := by decide +kernel
theorem dL_areSailors_12 : decode cL_areSailors 12 = .ok (.iconst 0, 1) := by decide +kernel
theorem dL_areSailors_13 : decode cL_areSailors 13 = .ok (.istore 10, 2) := by decide +kernel
theorem dL_areSailors_15 : decode cL_areSailors 15 = .ok (.iconst 0, 1) := by decide +kernel
theorem dL_areSailors_16 : decode cL_areSailors 16 = .ok (.istore 11, 2) := by decide +kernel
theorem dL_areSailors_18 : decode cL_areSailors 18 = .ok (.iconst 0, 1) := by decide +kernel
theorem dL_areSailors_19 : decode cL_areSailors 19 = .ok (.istore 12, 2) := by decide +kernel
theorem dL_areSailors_21 : decode cL_areSailors 21 = .ok (.iload 12, 2) := by decide +kernel
theorem dL_areSailors_23 : decode cL_areSailors 23 = .ok (.aload_n 1, 1) := by decide +kernel
theorem dL_areSailors_24 : decode cL_areSailors 24 = .ok (.iconst 4, 1) := by decide +kernel
theorem dL_areSailors_25 : decode cL_areSailors 25 = .ok (.iaload, 1) := by decide +kernel
theorem dL_areSailors_26 : decode cL_areSailors 26 = .ok (.if_icmp .ge 473, 3) := by decide +kernel
theorem dL_areSailors_29 : decode cL_areSailors 29 = .ok (.aload_n 2, 1) := by decide +kernel
theorem dL_areSailors_30 : decode cL_areSailors 30 = .ok (.aload_n 3, 1) := by decide +kernel
theorem dL_areSailors_31 : decode cL_areSailors 31 = .ok (.aload 4, 2) := by decide +kernel
theorem dL_areSailors_33 : decode cL_areSailors 33 = .ok (.iload 12, 2) := by decide +kernel
theorem dL_areSailors_35 : decode cL_areSailors 35 = .ok (.invokestatic 23, 3) := by decide +kernel
theorem dL_areSailors_38 : decode cL_areSailors 38 = .ok (.istore 13, 2) := by decide +kernel
theorem dL_areSailors_40 : decode cL_areSailors 40 = .ok (.iconst 0, 1) := by decide +kernel
theorem dL_areSailors_41 : decode cL_areSailors 41 = .ok (.istore 14, 2) := by decide +kernel
theorem dL_areSailors_43 : decode cL_areSailors 43 = .ok (.iconst 0, 1) := by decide +kernel
theorem dL_areSailors_44 : decode cL_areSailors 44 = .ok (.istore 15, 2) := by decide +kernel
theorem dL_areSailors_46 : decode cL_areSailors 46 = .ok (.iload 15, 2) := by decide +kernel
theorem dL_areSailors_48 : decode cL_areSailors 48 = .ok (.aload_n 1, 1) := by decide +kernel
theorem dL_areSailors_49 : decode cL_areSailors 49 = .ok (.iconst 4, 1) := by decide +kernel
theorem dL_areSailors_50 : decode cL_areSailors 50 = .ok (.iaload, 1) := by decide +kernel
theorem dL_areSailors_51 : decode cL_areSailors 51 = .ok (.if_icmp .ge 66, 3) := by decide +kernel
theorem dL_areSailors_54 : decode cL_areSailors 54 = .ok (.iload 14, 2) := by decide +kernel
theorem dL_areSailors_56 : decode cL_areSailors 56 = .ok (.aload_n 2, 1) := by decide +kernel
theorem dL_areSailors_57 : decode cL_areSailors 57 = .ok (.iconst 3, 1) := by decide +kernel
theorem dL_areSailors_58 : decode cL_areSailors 58 = .ok (.iload 15, 2) := by decide +kernel
theorem dL_areSailors_60 : decode cL_areSailors 60 = .ok (.imul, 1) := by decide +kernel
theorem dL_areSailors_61 : decode cL_areSailors 61 = .ok (.iconst 2, 1) := by decide +kernel
theorem dL_areSailors_62 : decode cL_areSailors 62 = .ok (.iadd, 1) := by decide +kernel
theorem dL_areSailors_63 : decode cL_areSailors 63 = .ok (.iaload, 1) := by decide +kernel
theorem dL_areSailors_64 : decode cL_areSailors 64 = .ok (.iconst 2, 1) := by decide +kernel
theorem dL_areSailors_65 : decode cL_areSailors 65 = .ok (.if_icmp .ge 42, 3) := by decide +kernel
theorem dL_areSailors_68 : decode cL_areSailors 68 = .ok (.aload_n 2, 1) := by decide +kernel
theorem dL_areSailors_69 : decode cL_areSailors 69 = .ok (.aload_n 3, 1) := by decide +kernel
theorem dL_areSailors_70 : decode cL_areSailors 70 = .ok (.aload 4, 2) := by decide +kernel
theorem dL_areSailors_72 : decode cL_areSailors 72 = .ok (.iload 15, 2) := by decide +kernel
theorem dL_areSailors_74 : decode cL_areSailors 74 = .ok (.invokestatic 23, 3) := by decide +kernel
theorem dL_areSailors_77 : decode cL_areSailors 77 = .ok (.iload 13, 2) := by decide +kernel
theorem dL_areSailors_79 : decode cL_areSailors 79 = .ok (.if_icmp .lt 24, 3) := by decide +kernel
theorem dL_areSailors_82 : decode cL_areSailors 82 = .ok (.aload_n 2, 1) := by decide +kernel
theorem dL_areSailors_83 : decode cL_areSailors 83 = .ok (.aload_n 3, 1) := by decide +kernel
theorem dL_areSailors_84 : decode cL_areSailors 84 = .ok (.aload 4, 2) := by decide +kernel
theorem dL_areSailors_86 : decode cL_areSailors 86 = .ok (.iload 15, 2) := by decide +kernel
theorem dL_areSailors_88 : decode cL_areSailors 88 = .ok (.invokestatic 23, 3) := by decide +kernel
theorem dL_areSailors_91 : decode cL_areSailors 91 = .ok (.iload 13, 2) := by decide +kernel
theorem dL_areSailors_93 : decode cL_areSailors 93 = .ok (.if_icmp .ne 14, 3) := by decide +kernel
theorem dL_areSailors_96 : decode cL_areSailors 96 = .ok (.iload 15, 2) := by decide +kernel
theorem dL_areSailors_98 : decode cL_areSailors 98 = .ok (.iload 12, 2) := by decide +kernel
theorem dL_areSailors_100 : decode cL_areSailors 100 = .ok (.if_icmp .ge 7, 3) := by decide +kernel
theorem dL_areSailors_103 : decode cL_areSailors 103 = .ok (.iconst 1, 1) := by decide +kernel
theorem dL_areSailors_104 : decode cL_areSailors 104 = .ok (.goto 4, 3) := by decide +kernel
theorem dL_areSailors_107 : decode cL_areSailors 107 = .ok (.iconst 0, 1) := by decide +kernel
theorem dL_areSailors_108 : decode cL_areSailors 108 = .ok (.iadd, 1) := by decide +kernel
theorem dL_areSailors_109 : decode cL_areSailors 109 = .ok (.istore 14, 2) := by decide +kernel
theorem dL_areSailors_111 : decode cL_areSailors 111 = .ok (.iinc 15 1, 3) := by decide +kernel
theorem dL_areSailors_114 : decode cL_areSailors 114 = .ok (.goto (-68), 3) := by decide +kernel
theorem dL_areSailors_117 : decode cL_areSailors 117 = .ok (.iconst 0, 1) := by decide +kernel
theorem dL_areSailors_118 : decode cL_areSailors 118 = .ok (.istore 15, 2) := by decide +kernel
theorem dL_areSailors_120 : decode cL_areSailors 120 = .ok (.iload 15, 2) := by decide +kernel
theorem dL_areSailors_122 : decode cL_areSailors 122 = .ok (.iconst 3, 1) := by decide +kernel
theorem dL_areSailors_123 : decode cL_areSailors 123 = .ok (.if_icmp .ge 55, 3) := by decide +kernel
theorem dL_areSailors_126 : decode cL_areSailors 126 = .ok (.aload_n 0, 1) := by decide +kernel
theorem dL_areSailors_127 : decode cL_areSailors 127 = .ok (.iload 12, 2) := by decide +kernel
theorem dL_areSailors_129 : decode cL_areSailors 129 = .ok (.iload 15, 2) := by decide +kernel
theorem dL_areSailors_131 : decode cL_areSailors 131 = .ok (.invokevirtual 101, 3) := by decide +kernel
theorem dL_areSailors_134 : decode cL_areSailors 134 = .ok (.aload_n 2, 1) := by decide +kernel
theorem dL_areSailors_135 : decode cL_areSailors 135 = .ok (.iconst 3, 1) := by decide +kernel
theorem dL_areSailors_136 : decode cL_areSailors 136 = .ok (.iload 12, 2) := by decide +kernel
theorem dL_areSailors_138 : decode cL_areSailors 138 = .ok (.imul, 1) := by decide +kernel
theorem dL_areSailors_139 : decode cL_areSailors 139 = .ok (.iload 15, 2) := by decide +kernel
theorem dL_areSailors_141 : decode cL_areSailors 141 = .ok (.iadd, 1) := by decide +kernel
theorem dL_areSailors_142 : decode cL_areSailors 142 = .ok (.iaload, 1) := by decide +kernel
theorem dL_areSailors_143 : decode cL_areSailors 143 = .ok (.if_icmp .ne 27, 3) := by decide +kernel
theorem dL_areSailors_146 : decode cL_areSailors 146 = .ok (.aload_n 0, 1) := by decide +kernel
theorem dL_areSailors_147 : decode cL_areSailors 147 = .ok (.iload 12, 2) := by decide +kernel
theorem dL_areSailors_149 : decode cL_areSailors 149 = .ok (.bipush 8, 2) := by decide +kernel
theorem dL_areSailors_151 : decode cL_areSailors 151 = .ok (.iload 15, 2) := by decide +kernel
theorem dL_areSailors_153 : decode cL_areSailors 153 = .ok (.iadd, 1) := by decide +kernel
theorem dL_areSailors_154 : decode cL_areSailors 154 = .ok (.invokevirtual 101, 3) := by decide +kernel
theorem dL_areSailors_157 : decode cL_areSailors 157 = .ok (.aload 4, 2) := by decide +kernel
theorem dL_areSailors_159 : decode cL_areSailors 159 = .ok (.iconst 3, 1) := by decide +kernel
theorem dL_areSailors_160 : decode cL_areSailors 160 = .ok (.iload 12, 2) := by decide +kernel
theorem dL_areSailors_162 : decode cL_areSailors 162 = .ok (.imul, 1) := by decide +kernel
theorem dL_areSailors_163 : decode cL_areSailors 163 = .ok (.iload 15, 2) := by decide +kernel
theorem dL_areSailors_165 : decode cL_areSailors 165 = .ok (.iadd, 1) := by decide +kernel
theorem dL_areSailors_166 : decode cL_areSailors 166 = .ok (.iaload, 1) := by decide +kernel
theorem dL_areSailors_167 : decode cL_areSailors 167 = .ok (.if_icmp .eq 5, 3) := by decide +kernel
theorem dL_areSailors_170 : decode cL_areSailors 170 = .ok (.iconst 0, 1) := by decide +kernel
theorem dL_areSailors_171 : decode cL_areSailors 171 = .ok (.ireturn, 1) := by decide +kernel
theorem dL_areSailors_172 : decode cL_areSailors 172 = .ok (.iinc 15 1, 3) := by decide +kernel
theorem dL_areSailors_175 : decode cL_areSailors 175 = .ok (.goto (-55), 3) := by decide +kernel
theorem dL_areSailors_178 : decode cL_areSailors 178 = .ok (.aload_n 0, 1) := by decide +kernel
theorem dL_areSailors_179 : decode cL_areSailors 179 = .ok (.iload 12, 2) := by decide +kernel
theorem dL_areSailors_181 : decode cL_areSailors 181 = .ok (.iconst 3, 1) := by decide +kernel
theorem dL_areSailors_182 : decode cL_areSailors 182 = .ok (.invokevirtual 101, 3) := by decide +kernel
theorem dL_areSailors_185 : decode cL_areSailors 185 = .ok (.sipush 10000, 3) := by decide +kernel
theorem dL_areSailors_188 : decode cL_areSailors 188 = .ok (.iload 13, 2) := by decide +kernel
theorem dL_areSailors_190 : decode cL_areSailors 190 = .ok (.iadd, 1) := by decide +kernel
theorem dL_areSailors_191 : decode cL_areSailors 191 = .ok (.if_icmp .ne 111, 3) := by decide +kernel
theorem dL_areSailors_194 : decode cL_areSailors 194 = .ok (.aload_n 0, 1) := by decide +kernel
theorem dL_areSailors_195 : decode cL_areSailors 195 = .ok (.iload 12, 2) := by decide +kernel
theorem dL_areSailors_197 : decode cL_areSailors 197 = .ok (.iconst 4, 1) := by decide +kernel
theorem dL_areSailors_198 : decode cL_areSailors 198 = .ok (.invokevirtual 101, 3) := by decide +kernel
theorem dL_areSailors_201 : decode cL_areSailors 201 = .ok (.sipush 10000, 3) := by decide +kernel
theorem dL_areSailors_204 : decode cL_areSailors 204 = .ok (.iload 13, 2) := by decide +kernel
theorem dL_areSailors_206 : decode cL_areSailors 206 = .ok (.iadd, 1) := by decide +kernel
theorem dL_areSailors_207 : decode cL_areSailors 207 = .ok (.if_icmp .ne 95, 3) := by decide +kernel
theorem dL_areSailors_210 : decode cL_areSailors 210 = .ok (.aload_n 0, 1) := by decide +kernel
theorem dL_areSailors_211 : decode cL_areSailors 211 = .ok (.iload 12, 2) := by decide +kernel
theorem dL_areSailors_213 : decode cL_areSailors 213 = .ok (.iconst 5, 1) := by decide +kernel
theorem dL_areSailors_214 : decode cL_areSailors 214 = .ok (.invokevirtual 101, 3) := by decide +kernel
theorem dL_areSailors_217 : decode cL_areSailors 217 = .ok (.aload_n 3, 1) := by decide +kernel
theorem dL_areSailors_218 : decode cL_areSailors 218 = .ok (.iconst 4, 1) := by decide +kernel
theorem dL_areSailors_219 : decode cL_areSailors 219 = .ok (.iload 12, 2) := by decide +kernel
theorem dL_areSailors_221 : decode cL_areSailors 221 = .ok (.imul, 1) := by decide +kernel
theorem dL_areSailors_222 : decode cL_areSailors 222 = .ok (.iaload, 1) := by decide +kernel
theorem dL_areSailors_223 : decode cL_areSailors 223 = .ok (.if_icmp .ne 79, 3) := by decide +kernel
theorem dL_areSailors_226 : decode cL_areSailors 226 = .ok (.aload_n 0, 1) := by decide +kernel
theorem dL_areSailors_227 : decode cL_areSailors 227 = .ok (.iload 12, 2) := by decide +kernel
theorem dL_areSailors_229 : decode cL_areSailors 229 = .ok (.bipush 6, 2) := by decide +kernel
theorem dL_areSailors_231 : decode cL_areSailors 231 = .ok (.invokevirtual 101, 3) := by decide +kernel
theorem dL_areSailors_234 : decode cL_areSailors 234 = .ok (.aload_n 3, 1) := by decide +kernel
theorem dL_areSailors_235 : decode cL_areSailors 235 = .ok (.iconst 4, 1) := by decide +kernel
theorem dL_areSailors_236 : decode cL_areSailors 236 = .ok (.iload 12, 2) := by decide +kernel
theorem dL_areSailors_238 : decode cL_areSailors 238 = .ok (.imul, 1) := by decide +kernel
theorem dL_areSailors_239 : decode cL_areSailors 239 = .ok (.iconst 1, 1) := by decide +kernel
theorem dL_areSailors_240 : decode cL_areSailors 240 = .ok (.iadd, 1) := by decide +kernel
theorem dL_areSailors_241 : decode cL_areSailors 241 = .ok (.iaload, 1) := by decide +kernel
theorem dL_areSailors_242 : decode cL_areSailors 242 = .ok (.if_icmp .ne 60, 3) := by decide +kernel
theorem dL_areSailors_245 : decode cL_areSailors 245 = .ok (.aload_n 0, 1) := by decide +kernel
theorem dL_areSailors_246 : decode cL_areSailors 246 = .ok (.iload 12, 2) := by decide +kernel
theorem dL_areSailors_248 : decode cL_areSailors 248 = .ok (.bipush 7, 2) := by decide +kernel
theorem dL_areSailors_250 : decode cL_areSailors 250 = .ok (.invokevirtual 101, 3) := by decide +kernel
theorem dL_areSailors_253 : decode cL_areSailors 253 = .ok (.aload_n 2, 1) := by decide +kernel
theorem dL_areSailors_254 : decode cL_areSailors 254 = .ok (.aload_n 3, 1) := by decide +kernel
theorem dL_areSailors_255 : decode cL_areSailors 255 = .ok (.iload 12, 2) := by decide +kernel
theorem dL_areSailors_257 : decode cL_areSailors 257 = .ok (.invokestatic 9, 3) := by decide +kernel
theorem dL_areSailors_260 : decode cL_areSailors 260 = .ok (.if_icmp .ne 42, 3) := by decide +kernel
theorem dL_areSailors_263 : decode cL_areSailors 263 = .ok (.aload_n 0, 1) := by decide +kernel
theorem dL_areSailors_264 : decode cL_areSailors 264 = .ok (.iload 12, 2) := by decide +kernel
theorem dL_areSailors_266 : decode cL_areSailors 266 = .ok (.bipush 11, 2) := by decide +kernel
theorem dL_areSailors_268 : decode cL_areSailors 268 = .ok (.invokevirtual 101, 3) := by decide +kernel
theorem dL_areSailors_271 : decode cL_areSailors 271 = .ok (.aload_n 3, 1) := by decide +kernel
theorem dL_areSailors_272 : decode cL_areSailors 272 = .ok (.iconst 4, 1) := by decide +kernel
theorem dL_areSailors_273 : decode cL_areSailors 273 = .ok (.iload 12, 2) := by decide +kernel
theorem dL_areSailors_275 : decode cL_areSailors 275 = .ok (.imul, 1) := by decide +kernel
theorem dL_areSailors_276 : decode cL_areSailors 276 = .ok (.iconst 2, 1) := by decide +kernel
theorem dL_areSailors_277 : decode cL_areSailors 277 = .ok (.iadd, 1) := by decide +kernel
theorem dL_areSailors_278 : decode cL_areSailors 278 = .ok (.iaload, 1) := by decide +kernel
theorem dL_areSailors_279 : decode cL_areSailors 279 = .ok (.ineg, 1) := by decide +kernel
theorem dL_areSailors_280 : decode cL_areSailors 280 = .ok (.if_icmp .ne 22, 3) := by decide +kernel
theorem dL_areSailors_283 : decode cL_areSailors 283 = .ok (.aload_n 0, 1) := by decide +kernel
theorem dL_areSailors_284 : decode cL_areSailors 284 = .ok (.iload 12, 2) := by decide +kernel
theorem dL_areSailors_286 : decode cL_areSailors 286 = .ok (.bipush 12, 2) := by decide +kernel
theorem dL_areSailors_288 : decode cL_areSailors 288 = .ok (.invokevirtual 101, 3) := by decide +kernel
theorem dL_areSailors_291 : decode cL_areSailors 291 = .ok (.aload_n 3, 1) := by decide +kernel
theorem dL_areSailors_292 : decode cL_areSailors 292 = .ok (.iconst 4, 1) := by decide +kernel
theorem dL_areSailors_293 : decode cL_areSailors 293 = .ok (.iload 12, 2) := by decide +kernel
theorem dL_areSailors_295 : decode cL_areSailors 295 = .ok (.imul, 1) := by decide +kernel
theorem dL_areSailors_296 : decode cL_areSailors 296 = .ok (.iconst 3, 1) := by decide +kernel
theorem dL_areSailors_297 : decode cL_areSailors 297 = .ok (.iadd, 1) := by decide +kernel
theorem dL_areSailors_298 : decode cL_areSailors 298 = .ok (.iaload, 1) := by decide +kernel
theorem dL_areSailors_299 : decode cL_areSailors 299 = .ok (.if_icmp .eq 5, 3) := by decide +kernel
theorem dL_areSailors_302 : decode cL_areSailors 302 = .ok (.iconst 0, 1) := by decide +kernel
theorem dL_areSailors_303 : decode cL_areSailors 303 = .ok (.ireturn, 1) := by decide +kernel
theorem dL_areSailors_304 : decode cL_areSailors 304 = .ok (.iload 12, 2) := by decide +kernel
theorem dL_areSailors_306 : decode cL_areSailors 306 = .ok (.aload_n 1, 1) := by decide +kernel
theorem dL_areSailors_307 : decode cL_areSailors 307 = .ok (.iconst 2, 1) := by decide +kernel
theorem dL_areSailors_308 : decode cL_areSailors 308 = .ok (.iaload, 1) := by decide +kernel
theorem dL_areSailors_309 : decode cL_areSailors 309 = .ok (.iadd, 1) := by decide +kernel
theorem dL_areSailors_310 : decode cL_areSailors 310 = .ok (.bipush 6, 2) := by decide +kernel
theorem dL_areSailors_312 : decode cL_areSailors 312 = .ok (.irem, 1) := by decide +kernel
theorem dL_areSailors_313 : decode cL_areSailors 313 = .ok (.istore 15, 2) := by decide +kernel
theorem dL_areSailors_315 : decode cL_areSailors 315 = .ok (.iconst 0, 1) := by decide +kernel
theorem dL_areSailors_316 : decode cL_areSailors 316 = .ok (.istore 16, 2) := by decide +kernel
theorem dL_areSailors_318 : decode cL_areSailors 318 = .ok (.iload 16, 2) := by decide +kernel
theorem dL_areSailors_320 : decode cL_areSailors 320 = .ok (.bipush 99, 2) := by decide +kernel
theorem dL_areSailors_322 : decode cL_areSailors 322 = .ok (.if_icmp .ge 30, 3) := by decide +kernel
theorem dL_areSailors_325 : decode cL_areSailors 325 = .ok (.aload_n 1, 1) := by decide +kernel
theorem dL_areSailors_326 : decode cL_areSailors 326 = .ok (.aload_n 2, 1) := by decide +kernel
theorem dL_areSailors_327 : decode cL_areSailors 327 = .ok (.aload_n 3, 1) := by decide +kernel
theorem dL_areSailors_328 : decode cL_areSailors 328 = .ok (.aload 4, 2) := by decide +kernel
theorem dL_areSailors_330 : decode cL_areSailors 330 = .ok (.aload 5, 2) := by decide +kernel
theorem dL_areSailors_332 : decode cL_areSailors 332 = .ok (.iload 12, 2) := by decide +kernel
theorem dL_areSailors_334 : decode cL_areSailors 334 = .ok (.iload 15, 2) := by decide +kernel
theorem dL_areSailors_336 : decode cL_areSailors 336 = .ok (.iload 16, 2) := by decide +kernel
theorem dL_areSailors_338 : decode cL_areSailors 338 = .ok (.iconst 1, 1) := by decide +kernel
theorem dL_areSailors_339 : decode cL_areSailors 339 = .ok (.iadd, 1) := by decide +kernel
theorem dL_areSailors_340 : decode cL_areSailors 340 = .ok (.invokestatic 43, 3) := by decide +kernel
theorem dL_areSailors_343 : decode cL_areSailors 343 = .ok (.ifCond .ne 9, 3) := by decide +kernel
theorem dL_areSailors_346 : decode cL_areSailors 346 = .ok (.iinc 16 1, 3) := by decide +kernel
theorem dL_areSailors_349 : decode cL_areSailors 349 = .ok (.goto (-31), 3) := by decide +kernel
theorem dL_areSailors_352 : decode cL_areSailors 352 = .ok (.aload_n 0, 1) := by decide +kernel
theorem dL_areSailors_353 : decode cL_areSailors 353 = .ok (.iload 12, 2) := by decide +kernel
theorem dL_areSailors_355 : decode cL_areSailors 355 = .ok (.iload 15, 2) := by decide +kernel
theorem dL_areSailors_357 : decode cL_areSailors 357 = .ok (.invokevirtual 104, 3) := by decide +kernel
theorem dL_areSailors_360 : decode cL_areSailors 360 = .ok (.iload 16, 2) := by decide +kernel
theorem dL_areSailors_362 : decode cL_areSailors 362 = .ok (.if_icmp .eq 5, 3) := by decide +kernel
theorem dL_areSailors_365 : decode cL_areSailors 365 = .ok (.iconst 0, 1) := by decide +kernel
theorem dL_areSailors_366 : decode cL_areSailors 366 = .ok (.ireturn, 1) := by decide +kernel
theorem dL_areSailors_367 : decode cL_areSailors 367 = .ok (.aload_n 2, 1) := by decide +kernel
theorem dL_areSailors_368 : decode cL_areSailors 368 = .ok (.iconst 3, 1) := by decide +kernel
theorem dL_areSailors_369 : decode cL_areSailors 369 = .ok (.iload 12, 2) := by decide +kernel
theorem dL_areSailors_371 : decode cL_areSailors 371 = .ok (.imul, 1) := by decide +kernel
theorem dL_areSailors_372 : decode cL_areSailors 372 = .ok (.iconst 2, 1) := by decide +kernel
theorem dL_areSailors_373 : decode cL_areSailors 373 = .ok (.iadd, 1) := by decide +kernel
theorem dL_areSailors_374 : decode cL_areSailors 374 = .ok (.iaload, 1) := by decide +kernel
theorem dL_areSailors_375 : decode cL_areSailors 375 = .ok (.iconst 2, 1) := by decide +kernel
theorem dL_areSailors_376 : decode cL_areSailors 376 = .ok (.if_icmp .ne 6, 3) := by decide +kernel
theorem dL_areSailors_379 : decode cL_areSailors 379 = .ok (.goto 114, 3) := by decide +kernel
theorem dL_areSailors_382 : decode cL_areSailors 382 = .ok (.iinc 6 1, 3) := by decide +kernel
theorem dL_areSailors_385 : decode cL_areSailors 385 = .ok (.iload 7, 2) := by decide +kernel
theorem dL_areSailors_387 : decode cL_areSailors 387 = .ok (.aload_n 2, 1) := by decide +kernel
theorem dL_areSailors_388 : decode cL_areSailors 388 = .ok (.aload_n 3, 1) := by decide +kernel
theorem dL_areSailors_389 : decode cL_areSailors 389 = .ok (.iload 12, 2) := by decide +kernel
theorem dL_areSailors_391 : decode cL_areSailors 391 = .ok (.invokestatic 9, 3) := by decide +kernel
theorem dL_areSailors_394 : decode cL_areSailors 394 = .ok (.iadd, 1) := by decide +kernel
theorem dL_areSailors_395 : decode cL_areSailors 395 = .ok (.istore 7, 2) := by decide +kernel
theorem dL_areSailors_397 : decode cL_areSailors 397 = .ok (.iload 8, 2) := by decide +kernel
theorem dL_areSailors_399 : decode cL_areSailors 399 = .ok (.aload 4, 2) := by decide +kernel
theorem dL_areSailors_401 : decode cL_areSailors 401 = .ok (.iconst 3, 1) := by decide +kernel
theorem dL_areSailors_402 : decode cL_areSailors 402 = .ok (.iload 12, 2) := by decide +kernel
theorem dL_areSailors_404 : decode cL_areSailors 404 = .ok (.imul, 1) := by decide +kernel
theorem dL_areSailors_405 : decode cL_areSailors 405 = .ok (.iaload, 1) := by decide +kernel
theorem dL_areSailors_406 : decode cL_areSailors 406 = .ok (.aload 4, 2) := by decide +kernel
theorem dL_areSailors_408 : decode cL_areSailors 408 = .ok (.iconst 3, 1) := by decide +kernel
theorem dL_areSailors_409 : decode cL_areSailors 409 = .ok (.iload 12, 2) := by decide +kernel
theorem dL_areSailors_411 : decode cL_areSailors 411 = .ok (.imul, 1) := by decide +kernel
theorem dL_areSailors_412 : decode cL_areSailors 412 = .ok (.iconst 1, 1) := by decide +kernel
theorem dL_areSailors_413 : decode cL_areSailors 413 = .ok (.iadd, 1) := by decide +kernel
theorem dL_areSailors_414 : decode cL_areSailors 414 = .ok (.iaload, 1) := by decide +kernel
theorem dL_areSailors_415 : decode cL_areSailors 415 = .ok (.iadd, 1) := by decide +kernel
theorem dL_areSailors_416 : decode cL_areSailors 416 = .ok (.aload 4, 2) := by decide +kernel
theorem dL_areSailors_418 : decode cL_areSailors 418 = .ok (.iconst 3, 1) := by decide +kernel
theorem dL_areSailors_419 : decode cL_areSailors 419 = .ok (.iload 12, 2) := by decide +kernel
theorem dL_areSailors_421 : decode cL_areSailors 421 = .ok (.imul, 1) := by decide +kernel
theorem dL_areSailors_422 : decode cL_areSailors 422 = .ok (.iconst 2, 1) := by decide +kernel
theorem dL_areSailors_423 : decode cL_areSailors 423 = .ok (.iadd, 1) := by decide +kernel
theorem dL_areSailors_424 : decode cL_areSailors 424 = .ok (.iaload, 1) := by decide +kernel
theorem dL_areSailors_425 : decode cL_areSailors 425 = .ok (.iadd, 1) := by decide +kernel
theorem dL_areSailors_426 : decode cL_areSailors 426 = .ok (.iadd, 1) := by decide +kernel
theorem dL_areSailors_427 : decode cL_areSailors 427 = .ok (.istore 8, 2) := by decide +kernel
theorem dL_areSailors_429 : decode cL_areSailors 429 = .ok (.iload 9, 2) := by decide +kernel
theorem dL_areSailors_431 : decode cL_areSailors 431 = .ok (.iload 13, 2) := by decide +kernel
theorem dL_areSailors_433 : decode cL_areSailors 433 = .ok (.ifCond .le 8, 3) := by decide +kernel
theorem dL_areSailors_436 : decode cL_areSailors 436 = .ok (.iload 13, 2) := by decide +kernel
theorem dL_areSailors_438 : decode cL_areSailors 438 = .ok (.goto 4, 3) := by decide +kernel
theorem dL_areSailors_441 : decode cL_areSailors 441 = .ok (.iconst 0, 1) := by decide +kernel
theorem dL_areSailors_442 : decode cL_areSailors 442 = .ok (.iadd, 1) := by decide +kernel
theorem dL_areSailors_443 : decode cL_areSailors 443 = .ok (.istore 9, 2) := by decide +kernel
theorem dL_areSailors_445 : decode cL_areSailors 445 = .ok (.iload 10, 2) := by decide +kernel
theorem dL_areSailors_447 : decode cL_areSailors 447 = .ok (.iload 13, 2) := by decide +kernel
theorem dL_areSailors_449 : decode cL_areSailors 449 = .ok (.ifCond .ge 9, 3) := by decide +kernel
theorem dL_areSailors_452 : decode cL_areSailors 452 = .ok (.iload 13, 2) := by decide +kernel
theorem dL_areSailors_454 : decode cL_areSailors 454 = .ok (.ineg, 1) := by decide +kernel
theorem dL_areSailors_455 : decode cL_areSailors 455 = .ok (.goto 4, 3) := by decide +kernel
theorem dL_areSailors_458 : decode cL_areSailors 458 = .ok (.iconst 0, 1) := by decide +kernel
theorem dL_areSailors_459 : decode cL_areSailors 459 = .ok (.iadd, 1) := by decide +kernel
theorem dL_areSailors_460 : decode cL_areSailors 460 = .ok (.istore 10, 2) := by decide +kernel
theorem dL_areSailors_462 : decode cL_areSailors 462 = .ok (.iload 11, 2) := by decide +kernel
theorem dL_areSailors_464 : decode cL_areSailors 464 = .ok (.iload 13, 2) := by decide +kernel
theorem dL_areSailors_466 : decode cL_areSailors 466 = .ok (.ifCond .ge 10, 3) := by decide +kernel
theorem dL_areSailors_469 : decode cL_areSailors 469 = .ok (.iconst 1, 1) := by decide +kernel
theorem dL_areSailors_470 : decode cL_areSailors 470 = .ok (.iload 12, 2) := by decide +kernel
theorem dL_areSailors_472 : decode cL_areSailors 472 = .ok (.ishl, 1) := by decide +kernel
theorem dL_areSailors_473 : decode cL_areSailors 473 = .ok (.goto 4, 3) := by decide +kernel
theorem dL_areSailors_476 : decode cL_areSailors 476 = .ok (.iconst 0, 1) := by decide +kernel
theorem dL_areSailors_477 : decode cL_areSailors 477 = .ok (.ior, 1) := by decide +kernel
theorem dL_areSailors_478 : decode cL_areSailors 478 = .ok (.istore 11, 2) := by decide +kernel
theorem dL_areSailors_480 : decode cL_areSailors 480 = .ok (.aload_n 0, 1) := by decide +kernel
theorem dL_areSailors_481 : decode cL_areSailors 481 = .ok (.iload 14, 2) := by decide +kernel
theorem dL_areSailors_483 : decode cL_areSailors 483 = .ok (.invokevirtual 107, 3) := by decide +kernel
theorem dL_areSailors_486 : decode cL_areSailors 486 = .ok (.iload 12, 2) := by decide +kernel
theorem dL_areSailors_488 : decode cL_areSailors 488 = .ok (.if_icmp .eq 5, 3) := by decide +kernel
theorem dL_areSailors_491 : decode cL_areSailors 491 = .ok (.iconst 0, 1) := by decide +kernel
theorem dL_areSailors_492 : decode cL_areSailors 492 = .ok (.ireturn, 1) := by decide +kernel
theorem dL_areSailors_493 : decode cL_areSailors 493 = .ok (.iinc 12 1, 3) := by decide +kernel
theorem dL_areSailors_496 : decode cL_areSailors 496 = .ok (.goto (-475), 3) := by decide +kernel
theorem dL_areSailors_499 : decode cL_areSailors 499 = .ok (.aload_n 0, 1) := by decide +kernel
theorem dL_areSailors_500 : decode cL_areSailors 500 = .ok (.invokevirtual 110, 3) := by decide +kernel
theorem dL_areSailors_503 : decode cL_areSailors 503 = .ok (.iload 7, 2) := by decide +kernel
theorem dL_areSailors_505 : decode cL_areSailors 505 = .ok (.ifCond .ne 8, 3) := by decide +kernel
theorem dL_areSailors_508 : decode cL_areSailors 508 = .ok (.ldc 113, 2) := by decide +kernel
theorem dL_areSailors_510 : decode cL_areSailors 510 = .ok (.goto 10, 3) := by decide +kernel
theorem dL_areSailors_513 : decode cL_areSailors 513 = .ok (.iload 8, 2) := by decide +kernel
theorem dL_areSailors_515 : decode cL_areSailors 515 = .ok (.iload 7, 2) := by decide +kernel
theorem dL_areSailors_517 : decode cL_areSailors 517 = .ok (.invokestatic 114, 3) := by decide +kernel
theorem dL_areSailors_520 : decode cL_areSailors 520 = .ok (.if_icmp .eq 5, 3) := by decide +kernel
theorem dL_areSailors_523 : decode cL_areSailors 523 = .ok (.iconst 0, 1) := by decide +kernel
theorem dL_areSailors_524 : decode cL_areSailors 524 = .ok (.ireturn, 1) := by decide +kernel
theorem dL_areSailors_525 : decode cL_areSailors 525 = .ok (.aload_n 0, 1) := by decide +kernel
theorem dL_areSailors_526 : decode cL_areSailors 526 = .ok (.iload 6, 2) := by decide +kernel
theorem dL_areSailors_528 : decode cL_areSailors 528 = .ok (.invokevirtual 107, 3) := by decide +kernel
theorem dL_areSailors_531 : decode cL_areSailors 531 = .ok (.ldc 113, 2) := by decide +kernel
theorem dL_areSailors_533 : decode cL_areSailors 533 = .ok (.if_icmp .ne 63, 3) := by decide +kernel
theorem dL_areSailors_536 : decode cL_areSailors 536 = .ok (.aload_n 0, 1) := by decide +kernel
theorem dL_areSailors_537 : decode cL_areSailors 537 = .ok (.iconst 0, 1) := by decide +kernel
theorem dL_areSailors_538 : decode cL_areSailors 538 = .ok (.invokevirtual 117, 3) := by decide +kernel
theorem dL_areSailors_541 : decode cL_areSailors 541 = .ok (.iload 9, 2) := by decide +kernel
theorem dL_areSailors_543 : decode cL_areSailors 543 = .ok (.if_icmp .ne 53, 3) := by decide +kernel
theorem dL_areSailors_546 : decode cL_areSailors 546 = .ok (.aload_n 0, 1) := by decide +kernel
theorem dL_areSailors_547 : decode cL_areSailors 547 = .ok (.iconst 1, 1) := by decide +kernel
theorem dL_areSailors_548 : decode cL_areSailors 548 = .ok (.invokevirtual 117, 3) := by decide +kernel
theorem dL_areSailors_551 : decode cL_areSailors 551 = .ok (.iload 9, 2) := by decide +kernel
theorem dL_areSailors_553 : decode cL_areSailors 553 = .ok (.aload_n 1, 1) := by decide +kernel
theorem dL_areSailors_554 : decode cL_areSailors 554 = .ok (.iconst 5, 1) := by decide +kernel
theorem dL_areSailors_555 : decode cL_areSailors 555 = .ok (.iaload, 1) := by decide +kernel
theorem dL_areSailors_556 : decode cL_areSailors 556 = .ok (.if_icmp .le 12, 3) := by decide +kernel
theorem dL_areSailors_559 : decode cL_areSailors 559 = .ok (.iload 9, 2) := by decide +kernel
theorem dL_areSailors_561 : decode cL_areSailors 561 = .ok (.aload_n 1, 1) := by decide +kernel
theorem dL_areSailors_562 : decode cL_areSailors 562 = .ok (.iconst 5, 1) := by decide +kernel
theorem dL_areSailors_563 : decode cL_areSailors 563 = .ok (.iaload, 1) := by decide +kernel
theorem dL_areSailors_564 : decode cL_areSailors 564 = .ok (.isub, 1) := by decide +kernel
theorem dL_areSailors_565 : decode cL_areSailors 565 = .ok (.goto 4, 3) := by decide +kernel
theorem dL_areSailors_568 : decode cL_areSailors 568 = .ok (.iconst 0, 1) := by decide +kernel
theorem dL_areSailors_569 : decode cL_areSailors 569 = .ok (.if_icmp .ne 27, 3) := by decide +kernel
theorem dL_areSailors_572 : decode cL_areSailors 572 = .ok (.aload_n 0, 1) := by decide +kernel
theorem dL_areSailors_573 : decode cL_areSailors 573 = .ok (.iconst 2, 1) := by decide +kernel
theorem dL_areSailors_574 : decode cL_areSailors 574 = .ok (.invokevirtual 117, 3) := by decide +kernel
theorem dL_areSailors_577 : decode cL_areSailors 577 = .ok (.iload 10, 2) := by decide +kernel
theorem dL_areSailors_579 : decode cL_areSailors 579 = .ok (.if_icmp .ne 17, 3) := by decide +kernel
theorem dL_areSailors_582 : decode cL_areSailors 582 = .ok (.aload_n 0, 1) := by decide +kernel
theorem dL_areSailors_583 : decode cL_areSailors 583 = .ok (.iconst 3, 1) := by decide +kernel
theorem dL_areSailors_584 : decode cL_areSailors 584 = .ok (.invokevirtual 117, 3) := by decide +kernel
theorem dL_areSailors_587 : decode cL_areSailors 587 = .ok (.iload 11, 2) := by decide +kernel
theorem dL_areSailors_589 : decode cL_areSailors 589 = .ok (.if_icmp .ne 7, 3) := by decide +kernel
theorem dL_areSailors_592 : decode cL_areSailors 592 = .ok (.iconst 1, 1) := by decide +kernel
theorem dL_areSailors_593 : decode cL_areSailors 593 = .ok (.goto 4, 3) := by decide +kernel
theorem dL_areSailors_596 : decode cL_areSailors 596 = .ok (.iconst 0, 1) := by decide +kernel
theorem dL_areSailors_597 : decode cL_areSailors 597 = .ok (.ireturn, 1) := by decide +kernel
theorem dL_isClear_0 : decode cL_isClear 0 = .ok (.aload_n 3, 1) := by decide +kernel
theorem dL_isClear_1 : decode cL_isClear 1 = .ok (.iconst 3, 1) := by decide +kernel
theorem dL_isClear_2 : decode cL_isClear 2 = .ok (.iload_n 1, 1) := by decide +kernel
theorem dL_isClear_3 : decode cL_isClear 3 = .ok (.imul, 1) := by decide +kernel
theorem dL_isClear_4 : decode cL_isClear 4 = .ok (.iconst 2, 1) := by decide +kernel
theorem dL_isClear_5 : decode cL_isClear 5 = .ok (.iadd, 1) := by decide +kernel
theorem dL_isClear_6 : decode cL_isClear 6 = .ok (.iaload, 1) := by decide +kernel
theorem dL_isClear_7 : decode cL_isClear 7 = .ok (.iconst 2, 1) := by decide +kernel
theorem dL_isClear_8 : decode cL_isClear 8 = .ok (.if_icmp .ne 19, 3) := by decide +kernel
theorem dL_isClear_11 : decode cL_isClear 11 = .ok (.aload_n 0, 1) := by decide +kernel
theorem dL_isClear_12 : decode cL_isClear 12 = .ok (.iload_n 1, 1) := by decide +kernel
theorem dL_isClear_13 : decode cL_isClear 13 = .ok (.invokevirtual 120, 3) := by decide +kernel
theorem dL_isClear_16 : decode cL_isClear 16 = .ok (.ldc 33, 2) := by decide +kernel
theorem dL_isClear_18 : decode cL_isClear 18 = .ok (.if_icmp .ne 7, 3) := by decide +kernel
theorem dL_isClear_21 : decode cL_isClear 21 = .ok (.iconst 1, 1) := by decide +kernel
theorem dL_isClear_22 : decode cL_isClear 22 = .ok (.goto 4, 3) := by decide +kernel
theorem dL_isClear_25 : decode cL_isClear 25 = .ok (.iconst 0, 1) := by decide +kernel
theorem dL_isClear_26 : decode cL_isClear 26 = .ok (.ireturn, 1) := by decide +kernel
theorem dL_isClear_27 : decode cL_isClear 27 = .ok (.iconst 4, 1) := by decide +kernel
theorem dL_isClear_28 : decode cL_isClear 28 = .ok (.iload_n 1, 1) := by decide +kernel
theorem dL_isClear_29 : decode cL_isClear 29 = .ok (.imul, 1) := by decide +kernel
theorem dL_isClear_30 : decode cL_isClear 30 = .ok (.iconst 1, 1) := by decide +kernel
theorem dL_isClear_31 : decode cL_isClear 31 = .ok (.iadd, 1) := by decide +kernel
theorem dL_isClear_32 : decode cL_isClear 32 = .ok (.aload_n 2, 1) := by decide +kernel
theorem dL_isClear_33 : decode cL_isClear 33 = .ok (.iconst 1, 1) := by decide +kernel
theorem dL_isClear_34 : decode cL_isClear 34 = .ok (.iaload, 1) := by decide +kernel
theorem dL_isClear_35 : decode cL_isClear 35 = .ok (.isub, 1) := by decide +kernel
theorem dL_isClear_36 : decode cL_isClear 36 = .ok (.istore 6, 2) := by decide +kernel
theorem dL_isClear_38 : decode cL_isClear 38 = .ok (.aload 4, 2) := by decide +kernel
theorem dL_isClear_40 : decode cL_isClear 40 = .ok (.iload 6, 2) := by decide +kernel
theorem dL_isClear_42 : decode cL_isClear 42 = .ok (.iaload, 1) := by decide +kernel
theorem dL_isClear_43 : decode cL_isClear 43 = .ok (.istore 7, 2) := by decide +kernel
theorem dL_isClear_45 : decode cL_isClear 45 = .ok (.iconst 0, 1) := by decide +kernel
theorem dL_isClear_46 : decode cL_isClear 46 = .ok (.istore 8, 2) := by decide +kernel
theorem dL_isClear_48 : decode cL_isClear 48 = .ok (.iload 8, 2) := by decide +kernel
theorem dL_isClear_50 : decode cL_isClear 50 = .ok (.sipush 401, 3) := by decide +kernel
theorem dL_isClear_53 : decode cL_isClear 53 = .ok (.if_icmp .ge 30, 3) := by decide +kernel
theorem dL_isClear_56 : decode cL_isClear 56 = .ok (.aload_n 3, 1) := by decide +kernel
theorem dL_isClear_57 : decode cL_isClear 57 = .ok (.aload 4, 2) := by decide +kernel
theorem dL_isClear_59 : decode cL_isClear 59 = .ok (.aload 5, 2) := by decide +kernel
theorem dL_isClear_61 : decode cL_isClear 61 = .ok (.iload_n 1, 1) := by decide +kernel
theorem dL_isClear_62 : decode cL_isClear 62 = .ok (.invokestatic 23, 3) := by decide +kernel
theorem dL_isClear_65 : decode cL_isClear 65 = .ok (.ifCond .ge 18, 3) := by decide +kernel
theorem dL_isClear_68 : decode cL_isClear 68 = .ok (.aload 4, 2) := by decide +kernel
theorem dL_isClear_70 : decode cL_isClear 70 = .ok (.iload 6, 2) := by decide +kernel
theorem dL_isClear_72 : decode cL_isClear 72 = .ok (.dup2, 1) := by decide +kernel
theorem dL_isClear_73 : decode cL_isClear 73 = .ok (.iaload, 1) := by decide +kernel
theorem dL_isClear_74 : decode cL_isClear 74 = .ok (.iconst 1, 1) := by decide +kernel
theorem dL_isClear_75 : decode cL_isClear 75 = .ok (.iadd, 1) := by decide +kernel
theorem dL_isClear_76 : decode cL_isClear 76 = .ok (.iastore, 1) := by decide +kernel
theorem dL_isClear_77 : decode cL_isClear 77 = .ok (.iinc 8 1, 3) := by decide +kernel
theorem dL_isClear_80 : decode cL_isClear 80 = .ok (.goto (-32), 3) := by decide +kernel
theorem dL_isClear_83 : decode cL_isClear 83 = .ok (.aload 4, 2) := by decide +kernel
theorem dL_isClear_85 : decode cL_isClear 85 = .ok (.iload 6, 2) := by decide +kernel
theorem dL_isClear_87 : decode cL_isClear 87 = .ok (.iload 7, 2) := by decide +kernel
theorem dL_isClear_89 : decode cL_isClear 89 = .ok (.iastore, 1) := by decide +kernel
theorem dL_isClear_90 : decode cL_isClear 90 = .ok (.aload_n 0, 1) := by decide +kernel
theorem dL_isClear_91 : decode cL_isClear 91 = .ok (.iload_n 1, 1) := by decide +kernel
theorem dL_isClear_92 : decode cL_isClear 92 = .ok (.invokevirtual 120, 3) := by decide +kernel
theorem dL_isClear_95 : decode cL_isClear 95 = .ok (.iload 8, 2) := by decide +kernel
theorem dL_isClear_97 : decode cL_isClear 97 = .ok (.sipush 400, 3) := by decide +kernel
theorem dL_isClear_100 : decode cL_isClear 100 = .ok (.if_icmp .le 8, 3) := by decide +kernel
theorem dL_isClear_103 : decode cL_isClear 103 = .ok (.ldc 113, 2) := by decide +kernel
theorem dL_isClear_105 : decode cL_isClear 105 = .ok (.goto 5, 3) := by decide +kernel
theorem dL_isClear_108 : decode cL_isClear 108 = .ok (.iload 8, 2) := by decide +kernel
theorem dL_isClear_110 : decode cL_isClear 110 = .ok (.if_icmp .ne 7, 3) := by decide +kernel
theorem dL_isClear_113 : decode cL_isClear 113 = .ok (.iconst 1, 1) := by decide +kernel
theorem dL_isClear_114 : decode cL_isClear 114 = .ok (.goto 4, 3) := by decide +kernel
theorem dL_isClear_117 : decode cL_isClear 117 = .ok (.iconst 0, 1) := by decide +kernel
theorem dL_isClear_118 : decode cL_isClear 118 = .ok (.ireturn, 1) := by decide +kernel
theorem dL_isSo_0 : decode cL_isSo 0 = .ok (.iconst 3, 1) := by decide +kernel
theorem dL_isSo_1 : decode cL_isSo 1 = .ok (.newarray .int, 2) := by decide +kernel
theorem dL_isSo_3 : decode cL_isSo 3 = .ok (.astore 7, 2) := by decide +kernel
theorem dL_isSo_5 : decode cL_isSo 5 = .ok (.iconst 0, 1) := by decide +kernel
theorem dL_isSo_6 : decode cL_isSo 6 = .ok (.istore 8, 2) := by decide +kernel
theorem dL_isSo_8 : decode cL_isSo 8 = .ok (.iload 8, 2) := by decide +kernel
theorem dL_isSo_10 : decode cL_isSo 10 = .ok (.aload_n 1, 1) := by decide +kernel
theorem dL_isSo_11 : decode cL_isSo 11 = .ok (.iconst 4, 1) := by decide +kernel
theorem dL_isSo_12 : decode cL_isSo 12 = .ok (.iaload, 1) := by decide +kernel
theorem dL_isSo_13 : decode cL_isSo 13 = .ok (.if_icmp .ge 27, 3) := by decide +kernel
theorem dL_isSo_16 : decode cL_isSo 16 = .ok (.aload 7, 2) := by decide +kernel
theorem dL_isSo_18 : decode cL_isSo 18 = .ok (.aload_n 2, 1) := by decide +kernel
theorem dL_isSo_19 : decode cL_isSo 19 = .ok (.iconst 3, 1) := by decide +kernel
theorem dL_isSo_20 : decode cL_isSo 20 = .ok (.iload 8, 2) := by decide +kernel
theorem dL_isSo_22 : decode cL_isSo 22 = .ok (.imul, 1) := by decide +kernel
theorem dL_isSo_23 : decode cL_isSo 23 = .ok (.iconst 2, 1) := by decide +kernel
theorem dL_isSo_24 : decode cL_isSo 24 = .ok (.iadd, 1) := by decide +kernel
theorem dL_isSo_25 : decode cL_isSo 25 = .ok (.iaload, 1) := by decide +kernel
theorem dL_isSo_26 : decode cL_isSo 26 = .ok (.dup2, 1) := by decide +kernel
theorem dL_isSo_27 : decode cL_isSo 27 = .ok (.iaload, 1) := by decide +kernel
theorem dL_isSo_28 : decode cL_isSo 28 = .ok (.iconst 1, 1) := by decide +kernel
theorem dL_isSo_29 : decode cL_isSo 29 = .ok (.iload 8, 2) := by decide +kernel
theorem dL_isSo_31 : decode cL_isSo 31 = .ok (.ishl, 1) := by decide +kernel
theorem dL_isSo_32 : decode cL_isSo 32 = .ok (.ior, 1) := by decide +kernel
theorem dL_isSo_33 : decode cL_isSo 33 = .ok (.iastore, 1) := by decide +kernel
theorem dL_isSo_34 : decode cL_isSo 34 = .ok (.iinc 8 1, 3) := by decide +kernel
theorem dL_isSo_37 : decode cL_isSo 37 = .ok (.goto (-29), 3) := by decide +kernel
theorem dL_isSo_40 : decode cL_isSo 40 = .ok (.iconst 0, 1) := by decide +kernel
theorem dL_isSo_41 : decode cL_isSo 41 = .ok (.istore 8, 2) := by decide +kernel
theorem dL_isSo_43 : decode cL_isSo 43 = .ok (.iload 8, 2) := by decide +kernel
theorem dL_isSo_45 : decode cL_isSo 45 = .ok (.iconst 5, 1) := by decide +kernel
theorem dL_isSo_46 : decode cL_isSo 46 = .ok (.if_icmp .ge 24, 3) := by decide +kernel
theorem dL_isSo_49 : decode cL_isSo 49 = .ok (.aload_n 0, 1) := by decide +kernel
theorem dL_isSo_50 : decode cL_isSo 50 = .ok (.iload 8, 2) := by decide +kernel
theorem dL_isSo_52 : decode cL_isSo 52 = .ok (.invokevirtual 123, 3) := by decide +kernel
theorem dL_isSo_55 : decode cL_isSo 55 = .ok (.aload_n 1, 1) := by decide +kernel
theorem dL_isSo_56 : decode cL_isSo 56 = .ok (.iload 8, 2) := by decide +kernel
theorem dL_isSo_58 : decode cL_isSo 58 = .ok (.iaload, 1) := by decide +kernel
theorem dL_isSo_59 : decode cL_isSo 59 = .ok (.if_icmp .eq 5, 3) := by decide +kernel
theorem dL_isSo_62 : decode cL_isSo 62 = .ok (.iconst 0, 1) := by decide +kernel
theorem dL_isSo_63 : decode cL_isSo 63 = .ok (.ireturn, 1) := by decide +kernel
theorem dL_isSo_64 : decode cL_isSo 64 = .ok (.iinc 8 1, 3) := by decide +kernel
theorem dL_isSo_67 : decode cL_isSo 67 = .ok (.goto (-24), 3) := by decide +kernel
theorem dL_isSo_70 : decode cL_isSo 70 = .ok (.iconst 0, 1) := by decide +kernel
theorem dL_isSo_71 : decode cL_isSo 71 = .ok (.istore 8, 2) := by decide +kernel
theorem dL_isSo_73 : decode cL_isSo 73 = .ok (.iload 8, 2) := by decide +kernel
theorem dL_isSo_75 : decode cL_isSo 75 = .ok (.bipush 7, 2) := by decide +kernel
theorem dL_isSo_77 : decode cL_isSo 77 = .ok (.if_icmp .ge 29, 3) := by decide +kernel
theorem dL_isSo_80 : decode cL_isSo 80 = .ok (.aload_n 0, 1) := by decide +kernel
theorem dL_isSo_81 : decode cL_isSo 81 = .ok (.bipush 8, 2) := by decide +kernel
theorem dL_isSo_83 : decode cL_isSo 83 = .ok (.iload 8, 2) := by decide +kernel
theorem dL_isSo_85 : decode cL_isSo 85 = .ok (.iadd, 1) := by decide +kernel
theorem dL_isSo_86 : decode cL_isSo 86 = .ok (.invokevirtual 123, 3) := by decide +kernel
theorem dL_isSo_89 : decode cL_isSo 89 = .ok (.aload_n 1, 1) := by decide +kernel
theorem dL_isSo_90 : decode cL_isSo 90 = .ok (.iconst 5, 1) := by decide +kernel
theorem dL_isSo_91 : decode cL_isSo 91 = .ok (.iload 8, 2) := by decide +kernel
theorem dL_isSo_93 : decode cL_isSo 93 = .ok (.iadd, 1) := by decide +kernel
theorem dL_isSo_94 : decode cL_isSo 94 = .ok (.iaload, 1) := by decide +kernel
theorem dL_isSo_95 : decode cL_isSo 95 = .ok (.if_icmp .eq 5, 3) := by decide +kernel
theorem dL_isSo_98 : decode cL_isSo 98 = .ok (.iconst 0, 1) := by decide +kernel
theorem dL_isSo_99 : decode cL_isSo 99 = .ok (.ireturn, 1) := by decide +kernel
theorem dL_isSo_100 : decode cL_isSo 100 = .ok (.iinc 8 1, 3) := by decide +kernel
theorem dL_isSo_103 : decode cL_isSo 103 = .ok (.goto (-30), 3) := by decide +kernel
theorem dL_isSo_106 : decode cL_isSo 106 = .ok (.iconst 0, 1) := by decide +kernel
theorem dL_isSo_107 : decode cL_isSo 107 = .ok (.istore 8, 2) := by decide +kernel
theorem dL_isSo_109 : decode cL_isSo 109 = .ok (.iload 8, 2) := by decide +kernel
theorem dL_isSo_111 : decode cL_isSo 111 = .ok (.iconst 3, 1) := by decide +kernel
theorem dL_isSo_112 : decode cL_isSo 112 = .ok (.if_icmp .ge 46, 3) := by decide +kernel
theorem dL_isSo_115 : decode cL_isSo 115 = .ok (.aload_n 0, 1) := by decide +kernel
theorem dL_isSo_116 : decode cL_isSo 116 = .ok (.iconst 5, 1) := by decide +kernel
theorem dL_isSo_117 : decode cL_isSo 117 = .ok (.iload 8, 2) := by decide +kernel
theorem dL_isSo_119 : decode cL_isSo 119 = .ok (.iadd, 1) := by decide +kernel
theorem dL_isSo_120 : decode cL_isSo 120 = .ok (.invokevirtual 123, 3) := by decide +kernel
theorem dL_isSo_123 : decode cL_isSo 123 = .ok (.aload 7, 2) := by decide +kernel
theorem dL_isSo_125 : decode cL_isSo 125 = .ok (.iload 8, 2) := by decide +kernel
theorem dL_isSo_127 : decode cL_isSo 127 = .ok (.iaload, 1) := by decide +kernel
theorem dL_isSo_128 : decode cL_isSo 128 = .ok (.if_icmp .ne 22, 3) := by decide +kernel
theorem dL_isSo_131 : decode cL_isSo 131 = .ok (.aload_n 0, 1) := by decide +kernel
theorem dL_isSo_132 : decode cL_isSo 132 = .ok (.bipush 20, 2) := by decide +kernel
theorem dL_isSo_134 : decode cL_isSo 134 = .ok (.iload 8, 2) := by decide +kernel
theorem dL_isSo_136 : decode cL_isSo 136 = .ok (.iadd, 1) := by decide +kernel
theorem dL_isSo_137 : decode cL_isSo 137 = .ok (.invokevirtual 123, 3) := by decide +kernel
theorem dL_isSo_140 : decode cL_isSo 140 = .ok (.aload_n 1, 1) := by decide +kernel
theorem dL_isSo_141 : decode cL_isSo 141 = .ok (.bipush 13, 2) := by decide +kernel
theorem dL_isSo_143 : decode cL_isSo 143 = .ok (.iload 8, 2) := by decide +kernel
theorem dL_isSo_145 : decode cL_isSo 145 = .ok (.iadd, 1) := by decide +kernel
theorem dL_isSo_146 : decode cL_isSo 146 = .ok (.iaload, 1) := by decide +kernel
theorem dL_isSo_147 : decode cL_isSo 147 = .ok (.if_icmp .eq 5, 3) := by decide +kernel
theorem dL_isSo_150 : decode cL_isSo 150 = .ok (.iconst 0, 1) := by decide +kernel
theorem dL_isSo_151 : decode cL_isSo 151 = .ok (.ireturn, 1) := by decide +kernel
theorem dL_isSo_152 : decode cL_isSo 152 = .ok (.iinc 8 1, 3) := by decide +kernel
theorem dL_isSo_155 : decode cL_isSo 155 = .ok (.goto (-46), 3) := by decide +kernel
theorem dL_isSo_158 : decode cL_isSo 158 = .ok (.iconst 0, 1) := by decide +kernel
theorem dL_isSo_159 : decode cL_isSo 159 = .ok (.istore 8, 2) := by decide +kernel
theorem dL_isSo_161 : decode cL_isSo 161 = .ok (.iload 8, 2) := by decide +kernel
theorem dL_isSo_163 : decode cL_isSo 163 = .ok (.bipush 30, 2) := by decide +kernel
theorem dL_isSo_165 : decode cL_isSo 165 = .ok (.if_icmp .ge 31, 3) := by decide +kernel
theorem dL_isSo_168 : decode cL_isSo 168 = .ok (.aload_n 0, 1) := by decide +kernel
theorem dL_isSo_169 : decode cL_isSo 169 = .ok (.iload 8, 2) := by decide +kernel
theorem dL_isSo_171 : decode cL_isSo 171 = .ok (.iconst 5, 1) := by decide +kernel
theorem dL_isSo_172 : decode cL_isSo 172 = .ok (.idiv, 1) := by decide +kernel
theorem dL_isSo_173 : decode cL_isSo 173 = .ok (.iload 8, 2) := by decide +kernel
theorem dL_isSo_175 : decode cL_isSo 175 = .ok (.iconst 5, 1) := by decide +kernel
theorem dL_isSo_176 : decode cL_isSo 176 = .ok (.irem, 1) := by decide +kernel
theorem dL_isSo_177 : decode cL_isSo 177 = .ok (.invokevirtual 126, 3) := by decide +kernel
theorem dL_isSo_180 : decode cL_isSo 180 = .ok (.aload 5, 2) := by decide +kernel
theorem dL_isSo_182 : decode cL_isSo 182 = .ok (.iload 8, 2) := by decide +kernel
theorem dL_isSo_184 : decode cL_isSo 184 = .ok (.iaload, 1) := by decide +kernel
theorem dL_isSo_185 : decode cL_isSo 185 = .ok (.if_icmp .eq 5, 3) := by decide +kernel
theorem dL_isSo_188 : decode cL_isSo 188 = .ok (.iconst 0, 1) := by decide +kernel
theorem dL_isSo_189 : decode cL_isSo 189 = .ok (.ireturn, 1) := by decide +kernel
theorem dL_isSo_190 : decode cL_isSo 190 = .ok (.iinc 8 1, 3) := by decide +kernel
theorem dL_isSo_193 : decode cL_isSo 193 = .ok (.goto (-32), 3) := by decide +kernel
theorem dL_isSo_196 : decode cL_isSo 196 = .ok (.iconst 0, 1) := by decide +kernel
theorem dL_isSo_197 : decode cL_isSo 197 = .ok (.istore 8, 2) := by decide +kernel
theorem dL_isSo_199 : decode cL_isSo 199 = .ok (.iload 8, 2) := by decide +kernel
theorem dL_isSo_201 : decode cL_isSo 201 = .ok (.iconst 3, 1) := by decide +kernel
theorem dL_isSo_202 : decode cL_isSo 202 = .ok (.aload_n 1, 1) := by decide +kernel
theorem dL_isSo_203 : decode cL_isSo 203 = .ok (.bipush 16, 2) := by decide +kernel
theorem dL_isSo_205 : decode cL_isSo 205 = .ok (.iaload, 1) := by decide +kernel
theorem dL_isSo_206 : decode cL_isSo 206 = .ok (.imul, 1) := by decide +kernel
theorem dL_isSo_207 : decode cL_isSo 207 = .ok (.if_icmp .ge 31, 3) := by decide +kernel
theorem dL_isSo_210 : decode cL_isSo 210 = .ok (.aload_n 0, 1) := by decide +kernel
theorem dL_isSo_211 : decode cL_isSo 211 = .ok (.iload 8, 2) := by decide +kernel
theorem dL_isSo_213 : decode cL_isSo 213 = .ok (.iconst 3, 1) := by decide +kernel
theorem dL_isSo_214 : decode cL_isSo 214 = .ok (.idiv, 1) := by decide +kernel
theorem dL_isSo_215 : decode cL_isSo 215 = .ok (.iload 8, 2) := by decide +kernel
theorem dL_isSo_217 : decode cL_isSo 217 = .ok (.iconst 3, 1) := by decide +kernel
theorem dL_isSo_218 : decode cL_isSo 218 = .ok (.irem, 1) := by decide +kernel
theorem dL_isSo_219 : decode cL_isSo 219 = .ok (.invokevirtual 129, 3) := by decide +kernel
theorem dL_isSo_222 : decode cL_isSo 222 = .ok (.aload 6, 2) := by decide +kernel
theorem dL_isSo_224 : decode cL_isSo 224 = .ok (.iload 8, 2) := by decide +kernel
theorem dL_isSo_226 : decode cL_isSo 226 = .ok (.iaload, 1) := by decide +kernel
theorem dL_isSo_227 : decode cL_isSo 227 = .ok (.if_icmp .eq 5, 3) := by decide +kernel
theorem dL_isSo_230 : decode cL_isSo 230 = .ok (.iconst 0, 1) := by decide +kernel
theorem dL_isSo_231 : decode cL_isSo 231 = .ok (.ireturn, 1) := by decide +kernel
theorem dL_isSo_232 : decode cL_isSo 232 = .ok (.iinc 8 1, 3) := by decide +kernel
theorem dL_isSo_235 : decode cL_isSo 235 = .ok (.goto (-36), 3) := by decide +kernel
theorem dL_isSo_238 : decode cL_isSo 238 = .ok (.aload_n 0, 1) := by decide +kernel
theorem dL_isSo_239 : decode cL_isSo 239 = .ok (.aload_n 1, 1) := by decide +kernel
theorem dL_isSo_240 : decode cL_isSo 240 = .ok (.aload_n 2, 1) := by decide +kernel
theorem dL_isSo_241 : decode cL_isSo 241 = .ok (.aload_n 3, 1) := by decide +kernel
theorem dL_isSo_242 : decode cL_isSo 242 = .ok (.aload 4, 2) := by decide +kernel
theorem dL_isSo_244 : decode cL_isSo 244 = .ok (.aload 5, 2) := by decide +kernel
theorem dL_isSo_246 : decode cL_isSo 246 = .ok (.invokestatic 132, 3) := by decide +kernel
theorem dL_isSo_249 : decode cL_isSo 249 = .ok (.ifCond .eq 50, 3) := by decide +kernel
theorem dL_isSo_252 : decode cL_isSo 252 = .ok (.aload_n 0, 1) := by decide +kernel
theorem dL_isSo_253 : decode cL_isSo 253 = .ok (.bipush 15, 2) := by decide +kernel
theorem dL_isSo_255 : decode cL_isSo 255 = .ok (.invokevirtual 123, 3) := by decide +kernel
theorem dL_isSo_258 : decode cL_isSo 258 = .ok (.ldc 136, 2) := by decide +kernel
theorem dL_isSo_260 : decode cL_isSo 260 = .ok (.aload_n 1, 1) := by decide +kernel
theorem dL_isSo_261 : decode cL_isSo 261 = .ok (.bipush 12, 2) := by decide +kernel
theorem dL_isSo_263 : decode cL_isSo 263 = .ok (.iaload, 1) := by decide +kernel
theorem dL_isSo_264 : decode cL_isSo 264 = .ok (.iadd, 1) := by decide +kernel
theorem dL_isSo_265 : decode cL_isSo 265 = .ok (.if_icmp .ne 34, 3) := by decide +kernel
theorem dL_isSo_268 : decode cL_isSo 268 = .ok (.aload_n 0, 1) := by decide +kernel
theorem dL_isSo_269 : decode cL_isSo 269 = .ok (.bipush 16, 2) := by decide +kernel
theorem dL_isSo_271 : decode cL_isSo 271 = .ok (.invokevirtual 123, 3) := by decide +kernel
theorem dL_isSo_274 : decode cL_isSo 274 = .ok (.aload_n 1, 1) := by decide +kernel
theorem dL_isSo_275 : decode cL_isSo 275 = .ok (.bipush 16, 2) := by decide +kernel
theorem dL_isSo_277 : decode cL_isSo 277 = .ok (.iaload, 1) := by decide +kernel
theorem dL_isSo_278 : decode cL_isSo 278 = .ok (.if_icmp .ne 21, 3) := by decide +kernel
theorem dL_isSo_281 : decode cL_isSo 281 = .ok (.aload_n 0, 1) := by decide +kernel
theorem dL_isSo_282 : decode cL_isSo 282 = .ok (.aload_n 1, 1) := by decide +kernel
theorem dL_isSo_283 : decode cL_isSo 283 = .ok (.bipush 16, 2) := by decide +kernel
theorem dL_isSo_285 : decode cL_isSo 285 = .ok (.iaload, 1) := by decide +kernel
theorem dL_isSo_286 : decode cL_isSo 286 = .ok (.iconst 0, 1) := by decide +kernel
theorem dL_isSo_287 : decode cL_isSo 287 = .ok (.invokevirtual 129, 3) := by decide +kernel
theorem dL_isSo_290 : decode cL_isSo 290 = .ok (.ldc 113, 2) := by decide +kernel
theorem dL_isSo_292 : decode cL_isSo 292 = .ok (.if_icmp .ne 7, 3) := by decide +kernel
theorem dL_isSo_295 : decode cL_isSo 295 = .ok (.iconst 1, 1) := by decide +kernel
theorem dL_isSo_296 : decode cL_isSo 296 = .ok (.goto 4, 3) := by decide +kernel
theorem dL_isSo_299 : decode cL_isSo 299 = .ok (.iconst 0, 1) := by decide +kernel
theorem dL_isSo_300 : decode cL_isSo 300 = .ok (.ireturn, 1) := by decide +kernel
theorem dL_law_0 : decode cL_law 0 = .ok (.new 31, 3) := by decide +kernel
theorem dL_law_3 : decode cL_law 3 = .ok (.dup, 1) := by decide +kernel
theorem dL_law_4 : decode cL_law 4 = .ok (.invokespecial 137, 3) := by decide +kernel
theorem dL_law_7 : decode cL_law 7 = .ok (.astore_n 1, 1) := by decide +kernel
theorem dL_law_8 : decode cL_law 8 = .ok (.bipush 17, 2) := by decide +kernel
theorem dL_law_10 : decode cL_law 10 = .ok (.newarray .int, 2) := by decide +kernel
theorem dL_law_12 : decode cL_law 12 = .ok (.astore_n 2, 1) := by decide +kernel
theorem dL_law_13 : decode cL_law 13 = .ok (.bipush 48, 2) := by decide +kernel
theorem dL_law_15 : decode cL_law 15 = .ok (.newarray .int, 2) := by decide +kernel
theorem dL_law_17 : decode cL_law 17 = .ok (.astore_n 3, 1) := by decide +kernel
theorem dL_law_18 : decode cL_law 18 = .ok (.bipush 64, 2) := by decide +kernel
theorem dL_law_20 : decode cL_law 20 = .ok (.newarray .int, 2) := by decide +kernel
theorem dL_law_22 : decode cL_law 22 = .ok (.astore 4, 2) := by decide +kernel
theorem dL_law_24 : decode cL_law 24 = .ok (.bipush 48, 2) := by decide +kernel
theorem dL_law_26 : decode cL_law 26 = .ok (.newarray .int, 2) := by decide +kernel
theorem dL_law_28 : decode cL_law 28 = .ok (.astore 5, 2) := by decide +kernel
theorem dL_law_30 : decode cL_law 30 = .ok (.bipush 30, 2) := by decide +kernel
theorem dL_law_32 : decode cL_law 32 = .ok (.newarray .int, 2) := by decide +kernel
theorem dL_law_34 : decode cL_law 34 = .ok (.astore 6, 2) := by decide +kernel
theorem dL_law_36 : decode cL_law 36 = .ok (.bipush 24, 2) := by decide +kernel
theorem dL_law_38 : decode cL_law 38 = .ok (.newarray .int, 2) := by decide +kernel
theorem dL_law_40 : decode cL_law 40 = .ok (.astore 7, 2) := by decide +kernel
theorem dL_law_42 : decode cL_law 42 = .ok (.aload_n 2, 1) := by decide +kernel
theorem dL_law_43 : decode cL_law 43 = .ok (.iconst 5, 1) := by decide +kernel
theorem dL_law_44 : decode cL_law 44 = .ok (.sipush 500, 3) := by decide +kernel
theorem dL_law_47 : decode cL_law 47 = .ok (.iastore, 1) := by decide +kernel
theorem dL_law_48 : decode cL_law 48 = .ok (.aload_n 2, 1) := by decide +kernel
theorem dL_law_49 : decode cL_law 49 = .ok (.bipush 13, 2) := by decide +kernel
theorem dL_law_51 : decode cL_law 51 = .ok (.bipush 50, 2) := by decide +kernel
theorem dL_law_53 : decode cL_law 53 = .ok (.iastore, 1) := by decide +kernel
theorem dL_law_54 : decode cL_law 54 = .ok (.aload_n 2, 1) := by decide +kernel
theorem dL_law_55 : decode cL_law 55 = .ok (.bipush 14, 2) := by decide +kernel
theorem dL_law_57 : decode cL_law 57 = .ok (.bipush 25, 2) := by decide +kernel
theorem dL_law_59 : decode cL_law 59 = .ok (.iastore, 1) := by decide +kernel
theorem dL_law_60 : decode cL_law 60 = .ok (.aload_n 2, 1) := by decide +kernel
theorem dL_law_61 : decode cL_law 61 = .ok (.bipush 15, 2) := by decide +kernel
theorem dL_law_63 : decode cL_law 63 = .ok (.iconst 2, 1) := by decide +kernel
theorem dL_law_64 : decode cL_law 64 = .ok (.iastore, 1) := by decide +kernel
theorem dL_law_65 : decode cL_law 65 = .ok (.aload_n 1, 1) := by decide +kernel
theorem dL_law_66 : decode cL_law 66 = .ok (.aload_n 2, 1) := by decide +kernel
theorem dL_law_67 : decode cL_law 67 = .ok (.aload_n 3, 1) := by decide +kernel
theorem dL_law_68 : decode cL_law 68 = .ok (.aload 4, 2) := by decide +kernel
theorem dL_law_70 : decode cL_law 70 = .ok (.aload 5, 2) := by decide +kernel
theorem dL_law_72 : decode cL_law 72 = .ok (.aload 6, 2) := by decide +kernel
theorem dL_law_74 : decode cL_law 74 = .ok (.aload 7, 2) := by decide +kernel
theorem dL_law_76 : decode cL_law 76 = .ok (.invokestatic 138, 3) := by decide +kernel
theorem dL_law_79 : decode cL_law 79 = .ok (.ifCond .eq 21, 3) := by decide +kernel
theorem dL_law_82 : decode cL_law 82 = .ok (.aload_n 1, 1) := by decide +kernel
theorem dL_law_83 : decode cL_law 83 = .ok (.invokevirtual 142, 3) := by decide +kernel
theorem dL_law_86 : decode cL_law 86 = .ok (.ldc 33, 2) := by decide +kernel
theorem dL_law_88 : decode cL_law 88 = .ok (.if_icmp .ne 12, 3) := by decide +kernel
theorem dL_law_91 : decode cL_law 91 = .ok (.aload_n 1, 1) := by decide +kernel
theorem dL_law_92 : decode cL_law 92 = .ok (.invokevirtual 91, 3) := by decide +kernel
theorem dL_law_95 : decode cL_law 95 = .ok (.ldc 33, 2) := by decide +kernel
theorem dL_law_97 : decode cL_law 97 = .ok (.if_icmp .eq 5, 3) := by decide +kernel
theorem dL_law_100 : decode cL_law 100 = .ok (.iconst 0, 1) := by decide +kernel
theorem dL_law_101 : decode cL_law 101 = .ok (.ireturn, 1) := by decide +kernel
theorem dL_law_102 : decode cL_law 102 = .ok (.iconst 0, 1) := by decide +kernel
theorem dL_law_103 : decode cL_law 103 = .ok (.istore 8, 2) := by decide +kernel
theorem dL_law_105 : decode cL_law 105 = .ok (.iload 8, 2) := by decide +kernel
theorem dL_law_107 : decode cL_law 107 = .ok (.bipush 60, 2) := by decide +kernel
theorem dL_law_109 : decode cL_law 109 = .ok (.if_icmp .ge 183, 3) := by decide +kernel
theorem dL_law_112 : decode cL_law 112 = .ok (.aload_n 0, 1) := by decide +kernel
theorem dL_law_113 : decode cL_law 113 = .ok (.iconst 2, 1) := by decide +kernel
theorem dL_law_114 : decode cL_law 114 = .ok (.iload 8, 2) := by decide +kernel
theorem dL_law_116 : decode cL_law 116 = .ok (.imul, 1) := by decide +kernel
theorem dL_law_117 : decode cL_law 117 = .ok (.invokestatic 145, 3) := by decide +kernel
theorem dL_law_120 : decode cL_law 120 = .ok (.istore 9, 2) := by decide +kernel
theorem dL_law_122 : decode cL_law 122 = .ok (.aload_n 0, 1) := by decide +kernel
theorem dL_law_123 : decode cL_law 123 = .ok (.iconst 2, 1) := by decide +kernel
theorem dL_law_124 : decode cL_law 124 = .ok (.iload 8, 2) := by decide +kernel
theorem dL_law_126 : decode cL_law 126 = .ok (.imul, 1) := by decide +kernel
theorem dL_law_127 : decode cL_law 127 = .ok (.iconst 1, 1) := by decide +kernel
theorem dL_law_128 : decode cL_law 128 = .ok (.iadd, 1) := by decide +kernel
theorem dL_law_129 : decode cL_law 129 = .ok (.invokestatic 145, 3) := by decide +kernel
theorem dL_law_132 : decode cL_law 132 = .ok (.istore 10, 2) := by decide +kernel
theorem dL_law_134 : decode cL_law 134 = .ok (.iload 8, 2) := by decide +kernel
theorem dL_law_136 : decode cL_law 136 = .ok (.iconst 5, 1) := by decide +kernel
theorem dL_law_137 : decode cL_law 137 = .ok (.if_icmp .le 24, 3) := by decide +kernel
theorem dL_law_140 : decode cL_law 140 = .ok (.iload 8, 2) := by decide +kernel
theorem dL_law_142 : decode cL_law 142 = .ok (.bipush 9, 2) := by decide +kernel
theorem dL_law_144 : decode cL_law 144 = .ok (.if_icmp .lt 13, 3) := by decide +kernel
theorem dL_law_147 : decode cL_law 147 = .ok (.iload 9, 2) := by decide +kernel
theorem dL_law_149 : decode cL_law 149 = .ok (.bipush 8, 2) := by decide +kernel
theorem dL_law_151 : decode cL_law 151 = .ok (.ishr, 1) := by decide +kernel
theorem dL_law_152 : decode cL_law 152 = .ok (.iconst 1, 1) := by decide +kernel
theorem dL_law_153 : decode cL_law 153 = .ok (.iand, 1) := by decide +kernel
theorem dL_law_154 : decode cL_law 154 = .ok (.ifCond .ne 7, 3) := by decide +kernel
theorem dL_law_157 : decode cL_law 157 = .ok (.iconst 1, 1) := by decide +kernel
theorem dL_law_158 : decode cL_law 158 = .ok (.goto 4, 3) := by decide +kernel
theorem dL_law_161 : decode cL_law 161 = .ok (.iconst 0, 1) := by decide +kernel
theorem dL_law_162 : decode cL_law 162 = .ok (.istore 11, 2) := by decide +kernel
theorem dL_law_164 : decode cL_law 164 = .ok (.iload 11, 2) := by decide +kernel
theorem dL_law_166 : decode cL_law 166 = .ok (.ifCond .eq 35, 3) := by decide +kernel
theorem dL_law_169 : decode cL_law 169 = .ok (.aload_n 1, 1) := by decide +kernel
theorem dL_law_170 : decode cL_law 170 = .ok (.iload 8, 2) := by decide +kernel
theorem dL_law_172 : decode cL_law 172 = .ok (.bipush 9, 2) := by decide +kernel
theorem dL_law_174 : decode cL_law 174 = .ok (.if_icmp .ge 7, 3) := by decide +kernel
theorem dL_law_177 : decode cL_law 177 = .ok (.iconst 0, 1) := by decide +kernel
theorem dL_law_178 : decode cL_law 178 = .ok (.goto 5, 3) := by decide +kernel
theorem dL_law_181 : decode cL_law 181 = .ok (.iload 9, 2) := by decide +kernel
theorem dL_law_183 : decode cL_law 183 = .ok (.iload 10, 2) := by decide +kernel
theorem dL_law_185 : decode cL_law 185 = .ok (.aload_n 2, 1) := by decide +kernel
theorem dL_law_186 : decode cL_law 186 = .ok (.aload_n 3, 1) := by decide +kernel
theorem dL_law_187 : decode cL_law 187 = .ok (.aload 4, 2) := by decide +kernel
theorem dL_law_189 : decode cL_law 189 = .ok (.aload 5, 2) := by decide +kernel
theorem dL_law_191 : decode cL_law 191 = .ok (.aload 6, 2) := by decide +kernel
theorem dL_law_193 : decode cL_law 193 = .ok (.aload 7, 2) := by decide +kernel
theorem dL_law_195 : decode cL_law 195 = .ok (.invokestatic 149, 3) := by decide +kernel
theorem dL_law_198 : decode cL_law 198 = .ok (.goto 32, 3) := by decide +kernel
theorem dL_law_201 : decode cL_law 201 = .ok (.aload_n 1, 1) := by decide +kernel
theorem dL_law_202 : decode cL_law 202 = .ok (.iload 8, 2) := by decide +kernel
theorem dL_law_204 : decode cL_law 204 = .ok (.bipush 6, 2) := by decide +kernel
theorem dL_law_206 : decode cL_law 206 = .ok (.if_icmp .ge 7, 3) := by decide +kernel
theorem dL_law_209 : decode cL_law 209 = .ok (.iconst 0, 1) := by decide +kernel
theorem dL_law_210 : decode cL_law 210 = .ok (.goto 5, 3) := by decide +kernel
theorem dL_law_213 : decode cL_law 213 = .ok (.iload 9, 2) := by decide +kernel
theorem dL_law_215 : decode cL_law 215 = .ok (.iload 10, 2) := by decide +kernel
theorem dL_law_217 : decode cL_law 217 = .ok (.aload_n 2, 1) := by decide +kernel
theorem dL_law_218 : decode cL_law 218 = .ok (.aload_n 3, 1) := by decide +kernel
theorem dL_law_219 : decode cL_law 219 = .ok (.aload 4, 2) := by decide +kernel
theorem dL_law_221 : decode cL_law 221 = .ok (.aload 5, 2) := by decide +kernel
theorem dL_law_223 : decode cL_law 223 = .ok (.aload 6, 2) := by decide +kernel
theorem dL_law_225 : decode cL_law 225 = .ok (.aload 7, 2) := by decide +kernel
theorem dL_law_227 : decode cL_law 227 = .ok (.invokestatic 153, 3) := by decide +kernel
theorem dL_law_230 : decode cL_law 230 = .ok (.istore 12, 2) := by decide +kernel
theorem dL_law_232 : decode cL_law 232 = .ok (.iload 12, 2) := by decide +kernel
theorem dL_law_234 : decode cL_law 234 = .ok (.ifCond .eq 50, 3) := by decide +kernel
theorem dL_law_237 : decode cL_law 237 = .ok (.aload_n 1, 1) := by decide +kernel
theorem dL_law_238 : decode cL_law 238 = .ok (.aload_n 2, 1) := by decide +kernel
theorem dL_law_239 : decode cL_law 239 = .ok (.aload_n 3, 1) := by decide +kernel
theorem dL_law_240 : decode cL_law 240 = .ok (.aload 4, 2) := by decide +kernel
theorem dL_law_242 : decode cL_law 242 = .ok (.aload 5, 2) := by decide +kernel
theorem dL_law_244 : decode cL_law 244 = .ok (.aload 6, 2) := by decide +kernel
theorem dL_law_246 : decode cL_law 246 = .ok (.aload 7, 2) := by decide +kernel
theorem dL_law_248 : decode cL_law 248 = .ok (.invokestatic 138, 3) := by decide +kernel
theorem dL_law_251 : decode cL_law 251 = .ok (.ifCond .eq 33, 3) := by decide +kernel
theorem dL_law_254 : decode cL_law 254 = .ok (.aload_n 2, 1) := by decide +kernel
theorem dL_law_255 : decode cL_law 255 = .ok (.iconst 4, 1) := by decide +kernel
theorem dL_law_256 : decode cL_law 256 = .ok (.iaload, 1) := by decide +kernel
theorem dL_law_257 : decode cL_law 257 = .ok (.ifCond .le 29, 3) := by decide +kernel
theorem dL_law_260 : decode cL_law 260 = .ok (.aload_n 1, 1) := by decide +kernel
theorem dL_law_261 : decode cL_law 261 = .ok (.iload 9, 2) := by decide +kernel
theorem dL_law_263 : decode cL_law 263 = .ok (.bipush 9, 2) := by decide +kernel
theorem dL_law_265 : decode cL_law 265 = .ok (.ishr, 1) := by decide +kernel
theorem dL_law_266 : decode cL_law 266 = .ok (.aload_n 2, 1) := by decide +kernel
theorem dL_law_267 : decode cL_law 267 = .ok (.iconst 4, 1) := by decide +kernel
theorem dL_law_268 : decode cL_law 268 = .ok (.iaload, 1) := by decide +kernel
theorem dL_law_269 : decode cL_law 269 = .ok (.invokestatic 27, 3) := by decide +kernel
theorem dL_law_272 : decode cL_law 272 = .ok (.aload_n 2, 1) := by decide +kernel
theorem dL_law_273 : decode cL_law 273 = .ok (.aload_n 3, 1) := by decide +kernel
theorem dL_law_274 : decode cL_law 274 = .ok (.aload 4, 2) := by decide +kernel
theorem dL_law_276 : decode cL_law 276 = .ok (.aload 5, 2) := by decide +kernel
theorem dL_law_278 : decode cL_law 278 = .ok (.invokestatic 156, 3) := by decide +kernel
theorem dL_law_281 : decode cL_law 281 = .ok (.ifCond .ne 5, 3) := by decide +kernel
theorem dL_law_284 : decode cL_law 284 = .ok (.iconst 0, 1) := by decide +kernel
theorem dL_law_285 : decode cL_law 285 = .ok (.ireturn, 1) := by decide +kernel
theorem dL_law_286 : decode cL_law 286 = .ok (.iinc 8 1, 3) := by decide +kernel
theorem dL_law_289 : decode cL_law 289 = .ok (.goto (-184), 3) := by decide +kernel
theorem dL_law_292 : decode cL_law 292 = .ok (.aload_n 1, 1) := by decide +kernel
theorem dL_law_293 : decode cL_law 293 = .ok (.aload_n 2, 1) := by decide +kernel
theorem dL_law_294 : decode cL_law 294 = .ok (.iconst 4, 1) := by decide +kernel
theorem dL_law_295 : decode cL_law 295 = .ok (.iaload, 1) := by decide +kernel
theorem dL_law_296 : decode cL_law 296 = .ok (.iconst 0, 1) := by decide +kernel
theorem dL_law_297 : decode cL_law 297 = .ok (.invokevirtual 101, 3) := by decide +kernel
theorem dL_law_300 : decode cL_law 300 = .ok (.ldc 34, 2) := by decide +kernel
theorem dL_law_302 : decode cL_law 302 = .ok (.if_icmp .ne 98, 3) := by decide +kernel
theorem dL_law_305 : decode cL_law 305 = .ok (.aload_n 1, 1) := by decide +kernel
theorem dL_law_306 : decode cL_law 306 = .ok (.iconst 0, 1) := by decide +kernel
theorem dL_law_307 : decode cL_law 307 = .ok (.bipush 13, 2) := by decide +kernel
theorem dL_law_309 : decode cL_law 309 = .ok (.invokevirtual 101, 3) := by decide +kernel
theorem dL_law_312 : decode cL_law 312 = .ok (.ldc 34, 2) := by decide +kernel
theorem dL_law_314 : decode cL_law 314 = .ok (.if_icmp .ne 86, 3) := by decide +kernel
theorem dL_law_317 : decode cL_law 317 = .ok (.aload_n 1, 1) := by decide +kernel
theorem dL_law_318 : decode cL_law 318 = .ok (.bipush 6, 2) := by decide +kernel
theorem dL_law_320 : decode cL_law 320 = .ok (.iconst 0, 1) := by decide +kernel
theorem dL_law_321 : decode cL_law 321 = .ok (.invokevirtual 126, 3) := by decide +kernel
theorem dL_law_324 : decode cL_law 324 = .ok (.ldc 34, 2) := by decide +kernel
theorem dL_law_326 : decode cL_law 326 = .ok (.if_icmp .ne 74, 3) := by decide +kernel
theorem dL_law_329 : decode cL_law 329 = .ok (.aload_n 1, 1) := by decide +kernel
theorem dL_law_330 : decode cL_law 330 = .ok (.iconst (-1), 1) := by decide +kernel
theorem dL_law_331 : decode cL_law 331 = .ok (.iconst 0, 1) := by decide +kernel
theorem dL_law_332 : decode cL_law 332 = .ok (.invokevirtual 129, 3) := by decide +kernel
theorem dL_law_335 : decode cL_law 335 = .ok (.ldc 34, 2) := by decide +kernel
theorem dL_law_337 : decode cL_law 337 = .ok (.if_icmp .ne 63, 3) := by decide +kernel
theorem dL_law_340 : decode cL_law 340 = .ok (.aload_n 1, 1) := by decide +kernel
theorem dL_law_341 : decode cL_law 341 = .ok (.iconst 0, 1) := by decide +kernel
theorem dL_law_342 : decode cL_law 342 = .ok (.iconst 0, 1) := by decide +kernel
theorem dL_law_343 : decode cL_law 343 = .ok (.bipush 100, 2) := by decide +kernel
theorem dL_law_345 : decode cL_law 345 = .ok (.invokevirtual 51, 3) := by decide +kernel
theorem dL_law_348 : decode cL_law 348 = .ok (.ldc 34, 2) := by decide +kernel
theorem dL_law_350 : decode cL_law 350 = .ok (.if_icmp .ne 50, 3) := by decide +kernel
theorem dL_law_353 : decode cL_law 353 = .ok (.aload_n 1, 1) := by decide +kernel
theorem dL_law_354 : decode cL_law 354 = .ok (.iconst 0, 1) := by decide +kernel
theorem dL_law_355 : decode cL_law 355 = .ok (.bipush 6, 2) := by decide +kernel
theorem dL_law_357 : decode cL_law 357 = .ok (.invokevirtual 104, 3) := by decide +kernel
theorem dL_law_360 : decode cL_law 360 = .ok (.ldc 34, 2) := by decide +kernel
theorem dL_law_362 : decode cL_law 362 = .ok (.if_icmp .ne 38, 3) := by decide +kernel
theorem dL_law_365 : decode cL_law 365 = .ok (.aload_n 1, 1) := by decide +kernel
theorem dL_law_366 : decode cL_law 366 = .ok (.iconst 4, 1) := by decide +kernel
theorem dL_law_367 : decode cL_law 367 = .ok (.invokevirtual 117, 3) := by decide +kernel
theorem dL_law_370 : decode cL_law 370 = .ok (.ldc 34, 2) := by decide +kernel
theorem dL_law_372 : decode cL_law 372 = .ok (.if_icmp .ne 28, 3) := by decide +kernel
theorem dL_law_375 : decode cL_law 375 = .ok (.aload_n 1, 1) := by decide +kernel
theorem dL_law_376 : decode cL_law 376 = .ok (.iconst (-1), 1) := by decide +kernel
theorem dL_law_377 : decode cL_law 377 = .ok (.invokevirtual 107, 3) := by decide +kernel
theorem dL_law_380 : decode cL_law 380 = .ok (.ldc 34, 2) := by decide +kernel
theorem dL_law_382 : decode cL_law 382 = .ok (.if_icmp .ne 18, 3) := by decide +kernel
theorem dL_law_385 : decode cL_law 385 = .ok (.aload_n 1, 1) := by decide +kernel
theorem dL_law_386 : decode cL_law 386 = .ok (.bipush 19, 2) := by decide +kernel
theorem dL_law_388 : decode cL_law 388 = .ok (.invokevirtual 123, 3) := by decide +kernel
theorem dL_law_391 : decode cL_law 391 = .ok (.ldc 34, 2) := by decide +kernel
theorem dL_law_393 : decode cL_law 393 = .ok (.if_icmp .ne 7, 3) := by decide +kernel
theorem dL_law_396 : decode cL_law 396 = .ok (.iconst 1, 1) := by decide +kernel
theorem dL_law_397 : decode cL_law 397 = .ok (.goto 4, 3) := by decide +kernel
theorem dL_law_400 : decode cL_law 400 = .ok (.iconst 0, 1) := by decide +kernel
theorem dL_law_401 : decode cL_law 401 = .ok (.ireturn, 1) := by decide +kernel
