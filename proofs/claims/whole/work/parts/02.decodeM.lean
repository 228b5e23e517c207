theorem dX10_init_0 : decode cX10_init 0 = .ok (.aload_n 0, 1) := by decide +kernel
theorem dX10_init_1 : decode cX10_init 1 = .ok (.invokespecial 1, 3) := by decide +kernel
theorem dX10_init_4 : decode cX10_init 4 = .ok (.aload_n 0, 1) := by decide +kernel
theorem dX10_init_5 : decode cX10_init 5 = .ok (.sipush 231, 3) := by decide +kernel
theorem dX10_init_8 : decode cX10_init 8 = .ok (.newarray .int, 2) := by decide +kernel
theorem dX10_init_10 : decode cX10_init 10 = .ok (.putfield 7, 3) := by decide +kernel
theorem dX10_init_13 : decode cX10_init 13 = .ok (.aload_n 0, 1) := by decide +kernel
theorem dX10_init_14 : decode cX10_init 14 = .ok (.sipush 231, 3) := by decide +kernel
theorem dX10_init_17 : decode cX10_init 17 = .ok (.newarray .int, 2) := by decide +kernel
theorem dX10_init_19 : decode cX10_init 19 = .ok (.putfield 13, 3) := by decide +kernel
theorem dX10_init_22 : decode cX10_init 22 = .ok (.aload_n 0, 1) := by decide +kernel
theorem dX10_init_23 : decode cX10_init 23 = .ok (.sipush 924, 3) := by decide +kernel
theorem dX10_init_26 : decode cX10_init 26 = .ok (.newarray .int, 2) := by decide +kernel
theorem dX10_init_28 : decode cX10_init 28 = .ok (.putfield 16, 3) := by decide +kernel
theorem dX10_init_31 : decode cX10_init 31 = .ok (.aload_n 0, 1) := by decide +kernel
theorem dX10_init_32 : decode cX10_init 32 = .ok (.bipush 60, 2) := by decide +kernel
theorem dX10_init_34 : decode cX10_init 34 = .ok (.newarray .int, 2) := by decide +kernel
theorem dX10_init_36 : decode cX10_init 36 = .ok (.putfield 19, 3) := by decide +kernel
theorem dX10_init_39 : decode cX10_init 39 = .ok (.aload_n 0, 1) := by decide +kernel
theorem dX10_init_40 : decode cX10_init 40 = .ok (.iconst 3, 1) := by decide +kernel
theorem dX10_init_41 : decode cX10_init 41 = .ok (.newarray .int, 2) := by decide +kernel
theorem dX10_init_43 : decode cX10_init 43 = .ok (.putfield 22, 3) := by decide +kernel
theorem dX10_init_46 : decode cX10_init 46 = .ok (.aload_n 0, 1) := by decide +kernel
theorem dX10_init_47 : decode cX10_init 47 = .ok (.getfield 7, 3) := by decide +kernel
theorem dX10_init_50 : decode cX10_init 50 = .ok (.sipush 195, 3) := by decide +kernel
theorem dX10_init_53 : decode cX10_init 53 = .ok (.sipush 500, 3) := by decide +kernel
theorem dX10_init_56 : decode cX10_init 56 = .ok (.iastore, 1) := by decide +kernel
theorem dX10_init_57 : decode cX10_init 57 = .ok (.aload_n 0, 1) := by decide +kernel
theorem dX10_init_58 : decode cX10_init 58 = .ok (.getfield 7, 3) := by decide +kernel
theorem dX10_init_61 : decode cX10_init 61 = .ok (.sipush 203, 3) := by decide +kernel
theorem dX10_init_64 : decode cX10_init 64 = .ok (.bipush 50, 2) := by decide +kernel
theorem dX10_init_66 : decode cX10_init 66 = .ok (.iastore, 1) := by decide +kernel
theorem dX10_init_67 : decode cX10_init 67 = .ok (.aload_n 0, 1) := by decide +kernel
theorem dX10_init_68 : decode cX10_init 68 = .ok (.getfield 7, 3) := by decide +kernel
theorem dX10_init_71 : decode cX10_init 71 = .ok (.sipush 204, 3) := by decide +kernel
theorem dX10_init_74 : decode cX10_init 74 = .ok (.bipush 25, 2) := by decide +kernel
theorem dX10_init_76 : decode cX10_init 76 = .ok (.iastore, 1) := by decide +kernel
theorem dX10_init_77 : decode cX10_init 77 = .ok (.aload_n 0, 1) := by decide +kernel
theorem dX10_init_78 : decode cX10_init 78 = .ok (.getfield 7, 3) := by decide +kernel
theorem dX10_init_81 : decode cX10_init 81 = .ok (.sipush 205, 3) := by decide +kernel
theorem dX10_init_84 : decode cX10_init 84 = .ok (.iconst 2, 1) := by decide +kernel
theorem dX10_init_85 : decode cX10_init 85 = .ok (.iastore, 1) := by decide +kernel
theorem dX10_init_86 : decode cX10_init 86 = .ok (.return_, 1) := by decide +kernel
theorem dX10_in_0 : decode cX10_in 0 = .ok (.iload_n 0, 1) := by decide +kernel
theorem dX10_in_1 : decode cX10_in 1 = .ok (.iload_n 1, 1) := by decide +kernel
theorem dX10_in_2 : decode cX10_in 2 = .ok (.if_icmp .lt 12, 3) := by decide +kernel
theorem dX10_in_5 : decode cX10_in 5 = .ok (.iload_n 0, 1) := by decide +kernel
theorem dX10_in_6 : decode cX10_in 6 = .ok (.iload_n 2, 1) := by decide +kernel
theorem dX10_in_7 : decode cX10_in 7 = .ok (.if_icmp .gt 7, 3) := by decide +kernel
theorem dX10_in_10 : decode cX10_in 10 = .ok (.iconst 1, 1) := by decide +kernel
theorem dX10_in_11 : decode cX10_in 11 = .ok (.goto 4, 3) := by decide +kernel
theorem dX10_in_14 : decode cX10_in 14 = .ok (.iconst 0, 1) := by decide +kernel
theorem dX10_in_15 : decode cX10_in 15 = .ok (.ireturn, 1) := by decide +kernel
theorem dX10_of_0 : decode cX10_of 0 = .ok (.aload_n 0, 1) := by decide +kernel
theorem dX10_of_1 : decode cX10_of 1 = .ok (.getfield 7, 3) := by decide +kernel
theorem dX10_of_4 : decode cX10_of 4 = .ok (.bipush 10, 2) := by decide +kernel
theorem dX10_of_6 : decode cX10_of 6 = .ok (.iload_n 1, 1) := by decide +kernel
theorem dX10_of_7 : decode cX10_of 7 = .ok (.imul, 1) := by decide +kernel
theorem dX10_of_8 : decode cX10_of 8 = .ok (.iload_n 2, 1) := by decide +kernel
theorem dX10_of_9 : decode cX10_of 9 = .ok (.iadd, 1) := by decide +kernel
theorem dX10_of_10 : decode cX10_of 10 = .ok (.iaload, 1) := by decide +kernel
theorem dX10_of_11 : decode cX10_of 11 = .ok (.ireturn, 1) := by decide +kernel
theorem dX10_put_0 : decode cX10_put 0 = .ok (.aload_n 0, 1) := by decide +kernel
theorem dX10_put_1 : decode cX10_put 1 = .ok (.getfield 7, 3) := by decide +kernel
theorem dX10_put_4 : decode cX10_put 4 = .ok (.bipush 10, 2) := by decide +kernel
theorem dX10_put_6 : decode cX10_put 6 = .ok (.iload_n 1, 1) := by decide +kernel
theorem dX10_put_7 : decode cX10_put 7 = .ok (.imul, 1) := by decide +kernel
theorem dX10_put_8 : decode cX10_put 8 = .ok (.iload_n 2, 1) := by decide +kernel
theorem dX10_put_9 : decode cX10_put 9 = .ok (.iadd, 1) := by decide +kernel
theorem dX10_put_10 : decode cX10_put 10 = .ok (.iload_n 3, 1) := by decide +kernel
theorem dX10_put_11 : decode cX10_put 11 = .ok (.iastore, 1) := by decide +kernel
theorem dX10_put_12 : decode cX10_put 12 = .ok (.return_, 1) := by decide +kernel
theorem dX10_ofItem_0 : decode cX10_ofItem 0 = .ok (.aload_n 0, 1) := by decide +kernel
theorem dX10_ofItem_1 : decode cX10_ofItem 1 = .ok (.getfield 7, 3) := by decide +kernel
theorem dX10_ofItem_4 : decode cX10_ofItem 4 = .ok (.sipush 160, 3) := by decide +kernel
theorem dX10_ofItem_7 : decode cX10_ofItem 7 = .ok (.iconst 5, 1) := by decide +kernel
theorem dX10_ofItem_8 : decode cX10_ofItem 8 = .ok (.iload_n 1, 1) := by decide +kernel
theorem dX10_ofItem_9 : decode cX10_ofItem 9 = .ok (.imul, 1) := by decide +kernel
theorem dX10_ofItem_10 : decode cX10_ofItem 10 = .ok (.iadd, 1) := by decide +kernel
theorem dX10_ofItem_11 : decode cX10_ofItem 11 = .ok (.iload_n 2, 1) := by decide +kernel
theorem dX10_ofItem_12 : decode cX10_ofItem 12 = .ok (.iadd, 1) := by decide +kernel
theorem dX10_ofItem_13 : decode cX10_ofItem 13 = .ok (.iaload, 1) := by decide +kernel
theorem dX10_ofItem_14 : decode cX10_ofItem 14 = .ok (.ireturn, 1) := by decide +kernel
theorem dX10_isSailor_0 : decode cX10_isSailor 0 = .ok (.iload_n 1, 1) := by decide +kernel
theorem dX10_isSailor_1 : decode cX10_isSailor 1 = .ok (.iconst 0, 1) := by decide +kernel
theorem dX10_isSailor_2 : decode cX10_isSailor 2 = .ok (.aload_n 0, 1) := by decide +kernel
theorem dX10_isSailor_3 : decode cX10_isSailor 3 = .ok (.getfield 7, 3) := by decide +kernel
theorem dX10_isSailor_6 : decode cX10_isSailor 6 = .ok (.sipush 194, 3) := by decide +kernel
theorem dX10_isSailor_9 : decode cX10_isSailor 9 = .ok (.iaload, 1) := by decide +kernel
theorem dX10_isSailor_10 : decode cX10_isSailor 10 = .ok (.iconst 1, 1) := by decide +kernel
theorem dX10_isSailor_11 : decode cX10_isSailor 11 = .ok (.isub, 1) := by decide +kernel
theorem dX10_isSailor_12 : decode cX10_isSailor 12 = .ok (.invokestatic 25, 3) := by decide +kernel
theorem dX10_isSailor_15 : decode cX10_isSailor 15 = .ok (.ireturn, 1) := by decide +kernel
theorem dX10_isItem_0 : decode cX10_isItem 0 = .ok (.iload_n 0, 1) := by decide +kernel
theorem dX10_isItem_1 : decode cX10_isItem 1 = .ok (.iconst 0, 1) := by decide +kernel
theorem dX10_isItem_2 : decode cX10_isItem 2 = .ok (.iconst 5, 1) := by decide +kernel
theorem dX10_isItem_3 : decode cX10_isItem 3 = .ok (.invokestatic 25, 3) := by decide +kernel
theorem dX10_isItem_6 : decode cX10_isItem 6 = .ok (.ireturn, 1) := by decide +kernel
theorem dX10_isGone_0 : decode cX10_isGone 0 = .ok (.aload_n 0, 1) := by decide +kernel
theorem dX10_isGone_1 : decode cX10_isGone 1 = .ok (.iload_n 1, 1) := by decide +kernel
theorem dX10_isGone_2 : decode cX10_isGone 2 = .ok (.iconst 2, 1) := by decide +kernel
theorem dX10_isGone_3 : decode cX10_isGone 3 = .ok (.invokevirtual 29, 3) := by decide +kernel
theorem dX10_isGone_6 : decode cX10_isGone 6 = .ok (.iconst 2, 1) := by decide +kernel
theorem dX10_isGone_7 : decode cX10_isGone 7 = .ok (.if_icmp .ne 7, 3) := by decide +kernel
theorem dX10_isGone_10 : decode cX10_isGone 10 = .ok (.iconst 1, 1) := by decide +kernel
theorem dX10_isGone_11 : decode cX10_isGone 11 = .ok (.goto 4, 3) := by decide +kernel
theorem dX10_isGone_14 : decode cX10_isGone 14 = .ok (.iconst 0, 1) := by decide +kernel
theorem dX10_isGone_15 : decode cX10_isGone 15 = .ok (.ireturn, 1) := by decide +kernel
theorem dX10_isAtSea_0 : decode cX10_isAtSea 0 = .ok (.aload_n 0, 1) := by decide +kernel
theorem dX10_isAtSea_1 : decode cX10_isAtSea 1 = .ok (.getfield 7, 3) := by decide +kernel
theorem dX10_isAtSea_4 : decode cX10_isAtSea 4 = .ok (.sipush 191, 3) := by decide +kernel
theorem dX10_isAtSea_7 : decode cX10_isAtSea 7 = .ok (.iaload, 1) := by decide +kernel
theorem dX10_isAtSea_8 : decode cX10_isAtSea 8 = .ok (.iconst 1, 1) := by decide +kernel
theorem dX10_isAtSea_9 : decode cX10_isAtSea 9 = .ok (.if_icmp .ne 7, 3) := by decide +kernel
theorem dX10_isAtSea_12 : decode cX10_isAtSea 12 = .ok (.iconst 1, 1) := by decide +kernel
theorem dX10_isAtSea_13 : decode cX10_isAtSea 13 = .ok (.goto 4, 3) := by decide +kernel
theorem dX10_isAtSea_16 : decode cX10_isAtSea 16 = .ok (.iconst 0, 1) := by decide +kernel
theorem dX10_isAtSea_17 : decode cX10_isAtSea 17 = .ok (.ireturn, 1) := by decide +kernel
theorem dX10_record_0 : decode cX10_record 0 = .ok (.aload_n 0, 1) := by decide +kernel
theorem dX10_record_1 : decode cX10_record 1 = .ok (.getfield 33, 3) := by decide +kernel
theorem dX10_record_4 : decode cX10_record 4 = .ok (.iconst 4, 1) := by decide +kernel
theorem dX10_record_5 : decode cX10_record 5 = .ok (.if_icmp .ne 44, 3) := by decide +kernel
theorem dX10_record_8 : decode cX10_record 8 = .ok (.iconst 0, 1) := by decide +kernel
theorem dX10_record_9 : decode cX10_record 9 = .ok (.istore_n 2, 1) := by decide +kernel
theorem dX10_record_10 : decode cX10_record 10 = .ok (.iload_n 2, 1) := by decide +kernel
theorem dX10_record_11 : decode cX10_record 11 = .ok (.sipush 693, 3) := by decide +kernel
theorem dX10_record_14 : decode cX10_record 14 = .ok (.if_icmp .ge 25, 3) := by decide +kernel
theorem dX10_record_17 : decode cX10_record 17 = .ok (.aload_n 0, 1) := by decide +kernel
theorem dX10_record_18 : decode cX10_record 18 = .ok (.getfield 16, 3) := by decide +kernel
theorem dX10_record_21 : decode cX10_record 21 = .ok (.iload_n 2, 1) := by decide +kernel
theorem dX10_record_22 : decode cX10_record 22 = .ok (.aload_n 0, 1) := by decide +kernel
theorem dX10_record_23 : decode cX10_record 23 = .ok (.getfield 16, 3) := by decide +kernel
theorem dX10_record_26 : decode cX10_record 26 = .ok (.sipush 231, 3) := by decide +kernel
theorem dX10_record_29 : decode cX10_record 29 = .ok (.iload_n 2, 1) := by decide +kernel
theorem dX10_record_30 : decode cX10_record 30 = .ok (.iadd, 1) := by decide +kernel
theorem dX10_record_31 : decode cX10_record 31 = .ok (.iaload, 1) := by decide +kernel
theorem dX10_record_32 : decode cX10_record 32 = .ok (.iastore, 1) := by decide +kernel
theorem dX10_record_33 : decode cX10_record 33 = .ok (.iinc 2 1, 3) := by decide +kernel
theorem dX10_record_36 : decode cX10_record 36 = .ok (.goto (-26), 3) := by decide +kernel
theorem dX10_record_39 : decode cX10_record 39 = .ok (.aload_n 0, 1) := by decide +kernel
theorem dX10_record_40 : decode cX10_record 40 = .ok (.dup, 1) := by decide +kernel
theorem dX10_record_41 : decode cX10_record 41 = .ok (.getfield 33, 3) := by decide +kernel
theorem dX10_record_44 : decode cX10_record 44 = .ok (.iconst 1, 1) := by decide +kernel
theorem dX10_record_45 : decode cX10_record 45 = .ok (.isub, 1) := by decide +kernel
theorem dX10_record_46 : decode cX10_record 46 = .ok (.putfield 33, 3) := by decide +kernel
theorem dX10_record_49 : decode cX10_record 49 = .ok (.iconst 0, 1) := by decide +kernel
theorem dX10_record_50 : decode cX10_record 50 = .ok (.istore_n 2, 1) := by decide +kernel
theorem dX10_record_51 : decode cX10_record 51 = .ok (.iload_n 2, 1) := by decide +kernel
theorem dX10_record_52 : decode cX10_record 52 = .ok (.sipush 231, 3) := by decide +kernel
theorem dX10_record_55 : decode cX10_record 55 = .ok (.if_icmp .ge 27, 3) := by decide +kernel
theorem dX10_record_58 : decode cX10_record 58 = .ok (.aload_n 0, 1) := by decide +kernel
theorem dX10_record_59 : decode cX10_record 59 = .ok (.getfield 16, 3) := by decide +kernel
theorem dX10_record_62 : decode cX10_record 62 = .ok (.sipush 231, 3) := by decide +kernel
theorem dX10_record_65 : decode cX10_record 65 = .ok (.aload_n 0, 1) := by decide +kernel
theorem dX10_record_66 : decode cX10_record 66 = .ok (.getfield 33, 3) := by decide +kernel
theorem dX10_record_69 : decode cX10_record 69 = .ok (.imul, 1) := by decide +kernel
theorem dX10_record_70 : decode cX10_record 70 = .ok (.iload_n 2, 1) := by decide +kernel
theorem dX10_record_71 : decode cX10_record 71 = .ok (.iadd, 1) := by decide +kernel
theorem dX10_record_72 : decode cX10_record 72 = .ok (.aload_n 1, 1) := by decide +kernel
theorem dX10_record_73 : decode cX10_record 73 = .ok (.iload_n 2, 1) := by decide +kernel
theorem dX10_record_74 : decode cX10_record 74 = .ok (.iaload, 1) := by decide +kernel
theorem dX10_record_75 : decode cX10_record 75 = .ok (.iastore, 1) := by decide +kernel
theorem dX10_record_76 : decode cX10_record 76 = .ok (.iinc 2 1, 3) := by decide +kernel
theorem dX10_record_79 : decode cX10_record 79 = .ok (.goto (-28), 3) := by decide +kernel
theorem dX10_record_82 : decode cX10_record 82 = .ok (.aload_n 0, 1) := by decide +kernel
theorem dX10_record_83 : decode cX10_record 83 = .ok (.dup, 1) := by decide +kernel
theorem dX10_record_84 : decode cX10_record 84 = .ok (.getfield 33, 3) := by decide +kernel
theorem dX10_record_87 : decode cX10_record 87 = .ok (.iconst 1, 1) := by decide +kernel
theorem dX10_record_88 : decode cX10_record 88 = .ok (.iadd, 1) := by decide +kernel
theorem dX10_record_89 : decode cX10_record 89 = .ok (.putfield 33, 3) := by decide +kernel
theorem dX10_record_92 : decode cX10_record 92 = .ok (.return_, 1) := by decide +kernel
theorem dX10_putAside_0 : decode cX10_putAside 0 = .ok (.iconst 0, 1) := by decide +kernel
theorem dX10_putAside_1 : decode cX10_putAside 1 = .ok (.istore_n 1, 1) := by decide +kernel
theorem dX10_putAside_2 : decode cX10_putAside 2 = .ok (.iload_n 1, 1) := by decide +kernel
theorem dX10_putAside_3 : decode cX10_putAside 3 = .ok (.sipush 231, 3) := by decide +kernel
theorem dX10_putAside_6 : decode cX10_putAside 6 = .ok (.if_icmp .ge 21, 3) := by decide +kernel
theorem dX10_putAside_9 : decode cX10_putAside 9 = .ok (.aload_n 0, 1) := by decide +kernel
theorem dX10_putAside_10 : decode cX10_putAside 10 = .ok (.getfield 13, 3) := by decide +kernel
theorem dX10_putAside_13 : decode cX10_putAside 13 = .ok (.iload_n 1, 1) := by decide +kernel
theorem dX10_putAside_14 : decode cX10_putAside 14 = .ok (.aload_n 0, 1) := by decide +kernel
theorem dX10_putAside_15 : decode cX10_putAside 15 = .ok (.getfield 7, 3) := by decide +kernel
theorem dX10_putAside_18 : decode cX10_putAside 18 = .ok (.iload_n 1, 1) := by decide +kernel
theorem dX10_putAside_19 : decode cX10_putAside 19 = .ok (.iaload, 1) := by decide +kernel
theorem dX10_putAside_20 : decode cX10_putAside 20 = .ok (.iastore, 1) := by decide +kernel
theorem dX10_putAside_21 : decode cX10_putAside 21 = .ok (.iinc 1 1, 3) := by decide +kernel
theorem dX10_putAside_24 : decode cX10_putAside 24 = .ok (.goto (-22), 3) := by decide +kernel
theorem dX10_putAside_27 : decode cX10_putAside 27 = .ok (.return_, 1) := by decide +kernel
theorem dX10_putBack_0 : decode cX10_putBack 0 = .ok (.iconst 0, 1) := by decide +kernel
theorem dX10_putBack_1 : decode cX10_putBack 1 = .ok (.istore_n 1, 1) := by decide +kernel
theorem dX10_putBack_2 : decode cX10_putBack 2 = .ok (.iload_n 1, 1) := by decide +kernel
theorem dX10_putBack_3 : decode cX10_putBack 3 = .ok (.sipush 231, 3) := by decide +kernel
theorem dX10_putBack_6 : decode cX10_putBack 6 = .ok (.if_icmp .ge 21, 3) := by decide +kernel
theorem dX10_putBack_9 : decode cX10_putBack 9 = .ok (.aload_n 0, 1) := by decide +kernel
theorem dX10_putBack_10 : decode cX10_putBack 10 = .ok (.getfield 7, 3) := by decide +kernel
theorem dX10_putBack_13 : decode cX10_putBack 13 = .ok (.iload_n 1, 1) := by decide +kernel
theorem dX10_putBack_14 : decode cX10_putBack 14 = .ok (.aload_n 0, 1) := by decide +kernel
theorem dX10_putBack_15 : decode cX10_putBack 15 = .ok (.getfield 13, 3) := by decide +kernel
theorem dX10_putBack_18 : decode cX10_putBack 18 = .ok (.iload_n 1, 1) := by decide +kernel
theorem dX10_putBack_19 : decode cX10_putBack 19 = .ok (.iaload, 1) := by decide +kernel
theorem dX10_putBack_20 : decode cX10_putBack 20 = .ok (.iastore, 1) := by decide +kernel
theorem dX10_putBack_21 : decode cX10_putBack 21 = .ok (.iinc 1 1, 3) := by decide +kernel
theorem dX10_putBack_24 : decode cX10_putBack 24 = .ok (.goto (-22), 3) := by decide +kernel
theorem dX10_putBack_27 : decode cX10_putBack 27 = .ok (.return_, 1) := by decide +kernel
theorem dX10_undo_0 : decode cX10_undo 0 = .ok (.aload_n 0, 1) := by decide +kernel
theorem dX10_undo_1 : decode cX10_undo 1 = .ok (.getfield 33, 3) := by decide +kernel
theorem dX10_undo_4 : decode cX10_undo 4 = .ok (.ifCond .ne 6, 3) := by decide +kernel
theorem dX10_undo_7 : decode cX10_undo 7 = .ok (.ldc 37, 2) := by decide +kernel
theorem dX10_undo_9 : decode cX10_undo 9 = .ok (.ireturn, 1) := by decide +kernel
theorem dX10_undo_10 : decode cX10_undo 10 = .ok (.aload_n 0, 1) := by decide +kernel
theorem dX10_undo_11 : decode cX10_undo 11 = .ok (.dup, 1) := by decide +kernel
theorem dX10_undo_12 : decode cX10_undo 12 = .ok (.getfield 33, 3) := by decide +kernel
theorem dX10_undo_15 : decode cX10_undo 15 = .ok (.iconst 1, 1) := by decide +kernel
theorem dX10_undo_16 : decode cX10_undo 16 = .ok (.isub, 1) := by decide +kernel
theorem dX10_undo_17 : decode cX10_undo 17 = .ok (.putfield 33, 3) := by decide +kernel
theorem dX10_undo_20 : decode cX10_undo 20 = .ok (.iconst 0, 1) := by decide +kernel
theorem dX10_undo_21 : decode cX10_undo 21 = .ok (.istore_n 1, 1) := by decide +kernel
theorem dX10_undo_22 : decode cX10_undo 22 = .ok (.iload_n 1, 1) := by decide +kernel
theorem dX10_undo_23 : decode cX10_undo 23 = .ok (.sipush 231, 3) := by decide +kernel
theorem dX10_undo_26 : decode cX10_undo 26 = .ok (.if_icmp .ge 30, 3) := by decide +kernel
theorem dX10_undo_29 : decode cX10_undo 29 = .ok (.aload_n 0, 1) := by decide +kernel
theorem dX10_undo_30 : decode cX10_undo 30 = .ok (.getfield 7, 3) := by decide +kernel
theorem dX10_undo_33 : decode cX10_undo 33 = .ok (.iload_n 1, 1) := by decide +kernel
theorem dX10_undo_34 : decode cX10_undo 34 = .ok (.aload_n 0, 1) := by decide +kernel
theorem dX10_undo_35 : decode cX10_undo 35 = .ok (.getfield 16, 3) := by decide +kernel
theorem dX10_undo_38 : decode cX10_undo 38 = .ok (.sipush 231, 3) := by decide +kernel
theorem dX10_undo_41 : decode cX10_undo 41 = .ok (.aload_n 0, 1) := by decide +kernel
theorem dX10_undo_42 : decode cX10_undo 42 = .ok (.getfield 33, 3) := by decide +kernel
theorem dX10_undo_45 : decode cX10_undo 45 = .ok (.imul, 1) := by decide +kernel
theorem dX10_undo_46 : decode cX10_undo 46 = .ok (.iload_n 1, 1) := by decide +kernel
theorem dX10_undo_47 : decode cX10_undo 47 = .ok (.iadd, 1) := by decide +kernel
theorem dX10_undo_48 : decode cX10_undo 48 = .ok (.iaload, 1) := by decide +kernel
theorem dX10_undo_49 : decode cX10_undo 49 = .ok (.iastore, 1) := by decide +kernel
theorem dX10_undo_50 : decode cX10_undo 50 = .ok (.iinc 1 1, 3) := by decide +kernel
theorem dX10_undo_53 : decode cX10_undo 53 = .ok (.goto (-31), 3) := by decide +kernel
theorem dX10_undo_56 : decode cX10_undo 56 = .ok (.aload_n 0, 1) := by decide +kernel
theorem dX10_undo_57 : decode cX10_undo 57 = .ok (.getfield 33, 3) := by decide +kernel
theorem dX10_undo_60 : decode cX10_undo 60 = .ok (.ireturn, 1) := by decide +kernel
theorem dX10_wages_0 : decode cX10_wages 0 = .ok (.iload_n 1, 1) := by decide +kernel
theorem dX10_wages_1 : decode cX10_wages 1 = .ok (.iload_n 2, 1) := by decide +kernel
theorem dX10_wages_2 : decode cX10_wages 2 = .ok (.iadd, 1) := by decide +kernel
theorem dX10_wages_3 : decode cX10_wages 3 = .ok (.istore_n 3, 1) := by decide +kernel
theorem dX10_wages_4 : decode cX10_wages 4 = .ok (.iload_n 0, 1) := by decide +kernel
theorem dX10_wages_5 : decode cX10_wages 5 = .ok (.ifCond .ne 9, 3) := by decide +kernel
theorem dX10_wages_8 : decode cX10_wages 8 = .ok (.iload_n 3, 1) := by decide +kernel
theorem dX10_wages_9 : decode cX10_wages 9 = .ok (.iconst 2, 1) := by decide +kernel
theorem dX10_wages_10 : decode cX10_wages 10 = .ok (.idiv, 1) := by decide +kernel
theorem dX10_wages_11 : decode cX10_wages 11 = .ok (.goto 39, 3) := by decide +kernel
theorem dX10_wages_14 : decode cX10_wages 14 = .ok (.iload_n 0, 1) := by decide +kernel
theorem dX10_wages_15 : decode cX10_wages 15 = .ok (.iconst 1, 1) := by decide +kernel
theorem dX10_wages_16 : decode cX10_wages 16 = .ok (.if_icmp .ne 11, 3) := by decide +kernel
theorem dX10_wages_19 : decode cX10_wages 19 = .ok (.iconst 2, 1) := by decide +kernel
theorem dX10_wages_20 : decode cX10_wages 20 = .ok (.iload_n 1, 1) := by decide +kernel
theorem dX10_wages_21 : decode cX10_wages 21 = .ok (.imul, 1) := by decide +kernel
theorem dX10_wages_22 : decode cX10_wages 22 = .ok (.iload_n 2, 1) := by decide +kernel
theorem dX10_wages_23 : decode cX10_wages 23 = .ok (.iadd, 1) := by decide +kernel
theorem dX10_wages_24 : decode cX10_wages 24 = .ok (.goto 26, 3) := by decide +kernel
theorem dX10_wages_27 : decode cX10_wages 27 = .ok (.iload_n 0, 1) := by decide +kernel
theorem dX10_wages_28 : decode cX10_wages 28 = .ok (.iconst 2, 1) := by decide +kernel
theorem dX10_wages_29 : decode cX10_wages 29 = .ok (.if_icmp .ne 14, 3) := by decide +kernel
theorem dX10_wages_32 : decode cX10_wages 32 = .ok (.iconst 2, 1) := by decide +kernel
theorem dX10_wages_33 : decode cX10_wages 33 = .ok (.iload_n 3, 1) := by decide +kernel
theorem dX10_wages_34 : decode cX10_wages 34 = .ok (.imul, 1) := by decide +kernel
theorem dX10_wages_35 : decode cX10_wages 35 = .ok (.iload_n 3, 1) := by decide +kernel
theorem dX10_wages_36 : decode cX10_wages 36 = .ok (.bipush 7, 2) := by decide +kernel
theorem dX10_wages_38 : decode cX10_wages 38 = .ok (.idiv, 1) := by decide +kernel
theorem dX10_wages_39 : decode cX10_wages 39 = .ok (.iadd, 1) := by decide +kernel
theorem dX10_wages_40 : decode cX10_wages 40 = .ok (.goto 10, 3) := by decide +kernel
theorem dX10_wages_43 : decode cX10_wages 43 = .ok (.iconst 4, 1) := by decide +kernel
theorem dX10_wages_44 : decode cX10_wages 44 = .ok (.iload_n 1, 1) := by decide +kernel
theorem dX10_wages_45 : decode cX10_wages 45 = .ok (.imul, 1) := by decide +kernel
theorem dX10_wages_46 : decode cX10_wages 46 = .ok (.iconst 2, 1) := by decide +kernel
theorem dX10_wages_47 : decode cX10_wages 47 = .ok (.iload_n 2, 1) := by decide +kernel
theorem dX10_wages_48 : decode cX10_wages 48 = .ok (.imul, 1) := by decide +kernel
theorem dX10_wages_49 : decode cX10_wages 49 = .ok (.iadd, 1) := by decide +kernel
theorem dX10_wages_50 : decode cX10_wages 50 = .ok (.ireturn, 1) := by decide +kernel
theorem dX10_earned_0 : decode cX10_earned 0 = .ok (.aload_n 0, 1) := by decide +kernel
theorem dX10_earned_1 : decode cX10_earned 1 = .ok (.iload_n 1, 1) := by decide +kernel
theorem dX10_earned_2 : decode cX10_earned 2 = .ok (.iconst 0, 1) := by decide +kernel
theorem dX10_earned_3 : decode cX10_earned 3 = .ok (.invokevirtual 29, 3) := by decide +kernel
theorem dX10_earned_6 : decode cX10_earned 6 = .ok (.aload_n 0, 1) := by decide +kernel
theorem dX10_earned_7 : decode cX10_earned 7 = .ok (.iload_n 1, 1) := by decide +kernel
theorem dX10_earned_8 : decode cX10_earned 8 = .ok (.iconst 3, 1) := by decide +kernel
theorem dX10_earned_9 : decode cX10_earned 9 = .ok (.invokevirtual 29, 3) := by decide +kernel
theorem dX10_earned_12 : decode cX10_earned 12 = .ok (.aload_n 0, 1) := by decide +kernel
theorem dX10_earned_13 : decode cX10_earned 13 = .ok (.iload_n 1, 1) := by decide +kernel
theorem dX10_earned_14 : decode cX10_earned 14 = .ok (.iconst 4, 1) := by decide +kernel
theorem dX10_earned_15 : decode cX10_earned 15 = .ok (.invokevirtual 29, 3) := by decide +kernel
theorem dX10_earned_18 : decode cX10_earned 18 = .ok (.invokestatic 38, 3) := by decide +kernel
theorem dX10_earned_21 : decode cX10_earned 21 = .ok (.ireturn, 1) := by decide +kernel
theorem dX10_charged_0 : decode cX10_charged 0 = .ok (.aload_n 0, 1) := by decide +kernel
theorem dX10_charged_1 : decode cX10_charged 1 = .ok (.iload_n 1, 1) := by decide +kernel
theorem dX10_charged_2 : decode cX10_charged 2 = .ok (.iconst 5, 1) := by decide +kernel
theorem dX10_charged_3 : decode cX10_charged 3 = .ok (.invokevirtual 29, 3) := by decide +kernel
theorem dX10_charged_6 : decode cX10_charged 6 = .ok (.aload_n 0, 1) := by decide +kernel
theorem dX10_charged_7 : decode cX10_charged 7 = .ok (.iload_n 1, 1) := by decide +kernel
theorem dX10_charged_8 : decode cX10_charged 8 = .ok (.bipush 6, 2) := by decide +kernel
theorem dX10_charged_10 : decode cX10_charged 10 = .ok (.invokevirtual 29, 3) := by decide +kernel
theorem dX10_charged_13 : decode cX10_charged 13 = .ok (.iadd, 1) := by decide +kernel
theorem dX10_charged_14 : decode cX10_charged 14 = .ok (.aload_n 0, 1) := by decide +kernel
theorem dX10_charged_15 : decode cX10_charged 15 = .ok (.iload_n 1, 1) := by decide +kernel
theorem dX10_charged_16 : decode cX10_charged 16 = .ok (.bipush 7, 2) := by decide +kernel
theorem dX10_charged_18 : decode cX10_charged 18 = .ok (.invokevirtual 29, 3) := by decide +kernel
theorem dX10_charged_21 : decode cX10_charged 21 = .ok (.iadd, 1) := by decide +kernel
theorem dX10_charged_22 : decode cX10_charged 22 = .ok (.ireturn, 1) := by decide +kernel
theorem dX10_balance_0 : decode cX10_balance 0 = .ok (.aload_n 0, 1) := by decide +kernel
theorem dX10_balance_1 : decode cX10_balance 1 = .ok (.iload_n 1, 1) := by decide +kernel
theorem dX10_balance_2 : decode cX10_balance 2 = .ok (.invokevirtual 42, 3) := by decide +kernel
theorem dX10_balance_5 : decode cX10_balance 5 = .ok (.ifCond .eq 7, 3) := by decide +kernel
theorem dX10_balance_8 : decode cX10_balance 8 = .ok (.iconst 0, 1) := by decide +kernel
theorem dX10_balance_9 : decode cX10_balance 9 = .ok (.goto 22, 3) := by decide +kernel
theorem dX10_balance_12 : decode cX10_balance 12 = .ok (.aload_n 0, 1) := by decide +kernel
theorem dX10_balance_13 : decode cX10_balance 13 = .ok (.iload_n 1, 1) := by decide +kernel
theorem dX10_balance_14 : decode cX10_balance 14 = .ok (.invokevirtual 46, 3) := by decide +kernel
theorem dX10_balance_17 : decode cX10_balance 17 = .ok (.aload_n 0, 1) := by decide +kernel
theorem dX10_balance_18 : decode cX10_balance 18 = .ok (.iload_n 1, 1) := by decide +kernel
theorem dX10_balance_19 : decode cX10_balance 19 = .ok (.bipush 8, 2) := by decide +kernel
theorem dX10_balance_21 : decode cX10_balance 21 = .ok (.invokevirtual 29, 3) := by decide +kernel
theorem dX10_balance_24 : decode cX10_balance 24 = .ok (.iadd, 1) := by decide +kernel
theorem dX10_balance_25 : decode cX10_balance 25 = .ok (.aload_n 0, 1) := by decide +kernel
theorem dX10_balance_26 : decode cX10_balance 26 = .ok (.iload_n 1, 1) := by decide +kernel
theorem dX10_balance_27 : decode cX10_balance 27 = .ok (.invokevirtual 50, 3) := by decide +kernel
theorem dX10_balance_30 : decode cX10_balance 30 = .ok (.isub, 1) := by decide +kernel
theorem dX10_balance_31 : decode cX10_balance 31 = .ok (.ireturn, 1) := by decide +kernel
theorem dX10_spend_0 : decode cX10_spend 0 = .ok (.aload_n 0, 1) := by decide +kernel
theorem dX10_spend_1 : decode cX10_spend 1 = .ok (.getfield 7, 3) := by decide +kernel
theorem dX10_spend_4 : decode cX10_spend 4 = .ok (.sipush 196, 3) := by decide +kernel
theorem dX10_spend_7 : decode cX10_spend 7 = .ok (.dup2, 1) := by decide +kernel
theorem dX10_spend_8 : decode cX10_spend 8 = .ok (.iaload, 1) := by decide +kernel
theorem dX10_spend_9 : decode cX10_spend 9 = .ok (.iload_n 1, 1) := by decide +kernel
theorem dX10_spend_10 : decode cX10_spend 10 = .ok (.aload_n 0, 1) := by decide +kernel
theorem dX10_spend_11 : decode cX10_spend 11 = .ok (.getfield 7, 3) := by decide +kernel
theorem dX10_spend_14 : decode cX10_spend 14 = .ok (.sipush 195, 3) := by decide +kernel
theorem dX10_spend_17 : decode cX10_spend 17 = .ok (.iaload, 1) := by decide +kernel
theorem dX10_spend_18 : decode cX10_spend 18 = .ok (.if_icmp .le 16, 3) := by decide +kernel
theorem dX10_spend_21 : decode cX10_spend 21 = .ok (.iload_n 1, 1) := by decide +kernel
theorem dX10_spend_22 : decode cX10_spend 22 = .ok (.aload_n 0, 1) := by decide +kernel
theorem dX10_spend_23 : decode cX10_spend 23 = .ok (.getfield 7, 3) := by decide +kernel
theorem dX10_spend_26 : decode cX10_spend 26 = .ok (.sipush 195, 3) := by decide +kernel
theorem dX10_spend_29 : decode cX10_spend 29 = .ok (.iaload, 1) := by decide +kernel
theorem dX10_spend_30 : decode cX10_spend 30 = .ok (.isub, 1) := by decide +kernel
theorem dX10_spend_31 : decode cX10_spend 31 = .ok (.goto 4, 3) := by decide +kernel
theorem dX10_spend_34 : decode cX10_spend 34 = .ok (.iconst 0, 1) := by decide +kernel
theorem dX10_spend_35 : decode cX10_spend 35 = .ok (.iadd, 1) := by decide +kernel
theorem dX10_spend_36 : decode cX10_spend 36 = .ok (.iastore, 1) := by decide +kernel
theorem dX10_spend_37 : decode cX10_spend 37 = .ok (.aload_n 0, 1) := by decide +kernel
theorem dX10_spend_38 : decode cX10_spend 38 = .ok (.getfield 7, 3) := by decide +kernel
theorem dX10_spend_41 : decode cX10_spend 41 = .ok (.sipush 195, 3) := by decide +kernel
theorem dX10_spend_44 : decode cX10_spend 44 = .ok (.iload_n 1, 1) := by decide +kernel
theorem dX10_spend_45 : decode cX10_spend 45 = .ok (.aload_n 0, 1) := by decide +kernel
theorem dX10_spend_46 : decode cX10_spend 46 = .ok (.getfield 7, 3) := by decide +kernel
theorem dX10_spend_49 : decode cX10_spend 49 = .ok (.sipush 195, 3) := by decide +kernel
theorem dX10_spend_52 : decode cX10_spend 52 = .ok (.iaload, 1) := by decide +kernel
theorem dX10_spend_53 : decode cX10_spend 53 = .ok (.if_icmp .le 7, 3) := by decide +kernel
theorem dX10_spend_56 : decode cX10_spend 56 = .ok (.iconst 0, 1) := by decide +kernel
theorem dX10_spend_57 : decode cX10_spend 57 = .ok (.goto 13, 3) := by decide +kernel
theorem dX10_spend_60 : decode cX10_spend 60 = .ok (.aload_n 0, 1) := by decide +kernel
theorem dX10_spend_61 : decode cX10_spend 61 = .ok (.getfield 7, 3) := by decide +kernel
theorem dX10_spend_64 : decode cX10_spend 64 = .ok (.sipush 195, 3) := by decide +kernel
theorem dX10_spend_67 : decode cX10_spend 67 = .ok (.iaload, 1) := by decide +kernel
theorem dX10_spend_68 : decode cX10_spend 68 = .ok (.iload_n 1, 1) := by decide +kernel
theorem dX10_spend_69 : decode cX10_spend 69 = .ok (.isub, 1) := by decide +kernel
theorem dX10_spend_70 : decode cX10_spend 70 = .ok (.iastore, 1) := by decide +kernel
theorem dX10_spend_71 : decode cX10_spend 71 = .ok (.return_, 1) := by decide +kernel
theorem dX10_write_0 : decode cX10_write 0 = .ok (.iload_n 3, 1) := by decide +kernel
theorem dX10_write_1 : decode cX10_write 1 = .ok (.ifCond .ne 4, 3) := by decide +kernel
theorem dX10_write_4 : decode cX10_write 4 = .ok (.return_, 1) := by decide +kernel
theorem dX10_write_5 : decode cX10_write 5 = .ok (.bipush 23, 2) := by decide +kernel
theorem dX10_write_7 : decode cX10_write 7 = .ok (.istore 4, 2) := by decide +kernel
theorem dX10_write_9 : decode cX10_write 9 = .ok (.iload 4, 2) := by decide +kernel
theorem dX10_write_11 : decode cX10_write 11 = .ok (.iconst 3, 1) := by decide +kernel
theorem dX10_write_12 : decode cX10_write 12 = .ok (.if_icmp .lt 33, 3) := by decide +kernel
theorem dX10_write_15 : decode cX10_write 15 = .ok (.aload_n 0, 1) := by decide +kernel
theorem dX10_write_16 : decode cX10_write 16 = .ok (.getfield 7, 3) := by decide +kernel
theorem dX10_write_19 : decode cX10_write 19 = .ok (.sipush 207, 3) := by decide +kernel
theorem dX10_write_22 : decode cX10_write 22 = .ok (.iload 4, 2) := by decide +kernel
theorem dX10_write_24 : decode cX10_write 24 = .ok (.iadd, 1) := by decide +kernel
theorem dX10_write_25 : decode cX10_write 25 = .ok (.aload_n 0, 1) := by decide +kernel
theorem dX10_write_26 : decode cX10_write 26 = .ok (.getfield 7, 3) := by decide +kernel
theorem dX10_write_29 : decode cX10_write 29 = .ok (.sipush 207, 3) := by decide +kernel
theorem dX10_write_32 : decode cX10_write 32 = .ok (.iload 4, 2) := by decide +kernel
theorem dX10_write_34 : decode cX10_write 34 = .ok (.iadd, 1) := by decide +kernel
theorem dX10_write_35 : decode cX10_write 35 = .ok (.iconst 3, 1) := by decide +kernel
theorem dX10_write_36 : decode cX10_write 36 = .ok (.isub, 1) := by decide +kernel
theorem dX10_write_37 : decode cX10_write 37 = .ok (.iaload, 1) := by decide +kernel
theorem dX10_write_38 : decode cX10_write 38 = .ok (.iastore, 1) := by decide +kernel
theorem dX10_write_39 : decode cX10_write 39 = .ok (.iinc 4 (-1), 3) := by decide +kernel
theorem dX10_write_42 : decode cX10_write 42 = .ok (.goto (-33), 3) := by decide +kernel
theorem dX10_write_45 : decode cX10_write 45 = .ok (.aload_n 0, 1) := by decide +kernel
theorem dX10_write_46 : decode cX10_write 46 = .ok (.getfield 7, 3) := by decide +kernel
theorem dX10_write_49 : decode cX10_write 49 = .ok (.sipush 207, 3) := by decide +kernel
theorem dX10_write_52 : decode cX10_write 52 = .ok (.iload_n 1, 1) := by decide +kernel
theorem dX10_write_53 : decode cX10_write 53 = .ok (.iastore, 1) := by decide +kernel
theorem dX10_write_54 : decode cX10_write 54 = .ok (.aload_n 0, 1) := by decide +kernel
theorem dX10_write_55 : decode cX10_write 55 = .ok (.getfield 7, 3) := by decide +kernel
theorem dX10_write_58 : decode cX10_write 58 = .ok (.sipush 208, 3) := by decide +kernel
theorem dX10_write_61 : decode cX10_write 61 = .ok (.iload_n 2, 1) := by decide +kernel
theorem dX10_write_62 : decode cX10_write 62 = .ok (.iastore, 1) := by decide +kernel
theorem dX10_write_63 : decode cX10_write 63 = .ok (.aload_n 0, 1) := by decide +kernel
theorem dX10_write_64 : decode cX10_write 64 = .ok (.getfield 7, 3) := by decide +kernel
theorem dX10_write_67 : decode cX10_write 67 = .ok (.sipush 209, 3) := by decide +kernel
theorem dX10_write_70 : decode cX10_write 70 = .ok (.iload_n 3, 1) := by decide +kernel
theorem dX10_write_71 : decode cX10_write 71 = .ok (.iastore, 1) := by decide +kernel
theorem dX10_write_72 : decode cX10_write 72 = .ok (.aload_n 0, 1) := by decide +kernel
theorem dX10_write_73 : decode cX10_write 73 = .ok (.getfield 7, 3) := by decide +kernel
theorem dX10_write_76 : decode cX10_write 76 = .ok (.sipush 206, 3) := by decide +kernel
theorem dX10_write_79 : decode cX10_write 79 = .ok (.dup2, 1) := by decide +kernel
theorem dX10_write_80 : decode cX10_write 80 = .ok (.iaload, 1) := by decide +kernel
theorem dX10_write_81 : decode cX10_write 81 = .ok (.aload_n 0, 1) := by decide +kernel
theorem dX10_write_82 : decode cX10_write 82 = .ok (.getfield 7, 3) := by decide +kernel
theorem dX10_write_85 : decode cX10_write 85 = .ok (.sipush 206, 3) := by decide +kernel
theorem dX10_write_88 : decode cX10_write 88 = .ok (.iaload, 1) := by decide +kernel
theorem dX10_write_89 : decode cX10_write 89 = .ok (.bipush 8, 2) := by decide +kernel
theorem dX10_write_91 : decode cX10_write 91 = .ok (.if_icmp .ge 7, 3) := by decide +kernel
theorem dX10_write_94 : decode cX10_write 94 = .ok (.iconst 1, 1) := by decide +kernel
theorem dX10_write_95 : decode cX10_write 95 = .ok (.goto 4, 3) := by decide +kernel
theorem dX10_write_98 : decode cX10_write 98 = .ok (.iconst 0, 1) := by decide +kernel
theorem dX10_write_99 : decode cX10_write 99 = .ok (.iadd, 1) := by decide +kernel
theorem dX10_write_100 : decode cX10_write 100 = .ok (.iastore, 1) := by decide +kernel
theorem dX10_write_101 : decode cX10_write 101 = .ok (.return_, 1) := by decide +kernel
theorem dX10_charge_0 : decode cX10_charge 0 = .ok (.aload_n 0, 1) := by decide +kernel
theorem dX10_charge_1 : decode cX10_charge 1 = .ok (.iload_n 1, 1) := by decide +kernel
theorem dX10_charge_2 : decode cX10_charge 2 = .ok (.iload_n 2, 1) := by decide +kernel
theorem dX10_charge_3 : decode cX10_charge 3 = .ok (.aload_n 0, 1) := by decide +kernel
theorem dX10_charge_4 : decode cX10_charge 4 = .ok (.iload_n 1, 1) := by decide +kernel
theorem dX10_charge_5 : decode cX10_charge 5 = .ok (.iload_n 2, 1) := by decide +kernel
theorem dX10_charge_6 : decode cX10_charge 6 = .ok (.invokevirtual 29, 3) := by decide +kernel
theorem dX10_charge_9 : decode cX10_charge 9 = .ok (.iload_n 3, 1) := by decide +kernel
theorem dX10_charge_10 : decode cX10_charge 10 = .ok (.iadd, 1) := by decide +kernel
theorem dX10_charge_11 : decode cX10_charge 11 = .ok (.invokevirtual 53, 3) := by decide +kernel
theorem dX10_charge_14 : decode cX10_charge 14 = .ok (.aload_n 0, 1) := by decide +kernel
theorem dX10_charge_15 : decode cX10_charge 15 = .ok (.getfield 7, 3) := by decide +kernel
theorem dX10_charge_18 : decode cX10_charge 18 = .ok (.sipush 201, 3) := by decide +kernel
theorem dX10_charge_21 : decode cX10_charge 21 = .ok (.dup2, 1) := by decide +kernel
theorem dX10_charge_22 : decode cX10_charge 22 = .ok (.iaload, 1) := by decide +kernel
theorem dX10_charge_23 : decode cX10_charge 23 = .ok (.iload_n 2, 1) := by decide +kernel
theorem dX10_charge_24 : decode cX10_charge 24 = .ok (.bipush 6, 2) := by decide +kernel
theorem dX10_charge_26 : decode cX10_charge 26 = .ok (.if_icmp .ne 7, 3) := by decide +kernel
theorem dX10_charge_29 : decode cX10_charge 29 = .ok (.iload_n 3, 1) := by decide +kernel
theorem dX10_charge_30 : decode cX10_charge 30 = .ok (.goto 4, 3) := by decide +kernel
theorem dX10_charge_33 : decode cX10_charge 33 = .ok (.iconst 0, 1) := by decide +kernel
theorem dX10_charge_34 : decode cX10_charge 34 = .ok (.iadd, 1) := by decide +kernel
theorem dX10_charge_35 : decode cX10_charge 35 = .ok (.iastore, 1) := by decide +kernel
theorem dX10_charge_36 : decode cX10_charge 36 = .ok (.aload_n 0, 1) := by decide +kernel
theorem dX10_charge_37 : decode cX10_charge 37 = .ok (.getfield 7, 3) := by decide +kernel
theorem dX10_charge_40 : decode cX10_charge 40 = .ok (.sipush 200, 3) := by decide +kernel
theorem dX10_charge_43 : decode cX10_charge 43 = .ok (.dup2, 1) := by decide +kernel
theorem dX10_charge_44 : decode cX10_charge 44 = .ok (.iaload, 1) := by decide +kernel
theorem dX10_charge_45 : decode cX10_charge 45 = .ok (.iload_n 2, 1) := by decide +kernel
theorem dX10_charge_46 : decode cX10_charge 46 = .ok (.iconst 5, 1) := by decide +kernel
theorem dX10_charge_47 : decode cX10_charge 47 = .ok (.if_icmp .ne 7, 3) := by decide +kernel
theorem dX10_charge_50 : decode cX10_charge 50 = .ok (.iload_n 3, 1) := by decide +kernel
theorem dX10_charge_51 : decode cX10_charge 51 = .ok (.goto 4, 3) := by decide +kernel
theorem dX10_charge_54 : decode cX10_charge 54 = .ok (.iconst 0, 1) := by decide +kernel
theorem dX10_charge_55 : decode cX10_charge 55 = .ok (.iadd, 1) := by decide +kernel
theorem dX10_charge_56 : decode cX10_charge 56 = .ok (.iastore, 1) := by decide +kernel
theorem dX10_charge_57 : decode cX10_charge 57 = .ok (.aload_n 0, 1) := by decide +kernel
theorem dX10_charge_58 : decode cX10_charge 58 = .ok (.getfield 7, 3) := by decide +kernel
theorem dX10_charge_61 : decode cX10_charge 61 = .ok (.sipush 198, 3) := by decide +kernel
theorem dX10_charge_64 : decode cX10_charge 64 = .ok (.dup2, 1) := by decide +kernel
theorem dX10_charge_65 : decode cX10_charge 65 = .ok (.iaload, 1) := by decide +kernel
theorem dX10_charge_66 : decode cX10_charge 66 = .ok (.iload_n 2, 1) := by decide +kernel
theorem dX10_charge_67 : decode cX10_charge 67 = .ok (.bipush 7, 2) := by decide +kernel
theorem dX10_charge_69 : decode cX10_charge 69 = .ok (.if_icmp .ne 7, 3) := by decide +kernel
theorem dX10_charge_72 : decode cX10_charge 72 = .ok (.iload_n 3, 1) := by decide +kernel
theorem dX10_charge_73 : decode cX10_charge 73 = .ok (.goto 4, 3) := by decide +kernel
theorem dX10_charge_76 : decode cX10_charge 76 = .ok (.iconst 0, 1) := by decide +kernel
theorem dX10_charge_77 : decode cX10_charge 77 = .ok (.iadd, 1) := by decide +kernel
theorem dX10_charge_78 : decode cX10_charge 78 = .ok (.iastore, 1) := by decide +kernel
theorem dX10_charge_79 : decode cX10_charge 79 = .ok (.aload_n 0, 1) := by decide +kernel
theorem dX10_charge_80 : decode cX10_charge 80 = .ok (.iload_n 1, 1) := by decide +kernel
theorem dX10_charge_81 : decode cX10_charge 81 = .ok (.iload_n 2, 1) := by decide +kernel
theorem dX10_charge_82 : decode cX10_charge 82 = .ok (.iconst 5, 1) := by decide +kernel
theorem dX10_charge_83 : decode cX10_charge 83 = .ok (.isub, 1) := by decide +kernel
theorem dX10_charge_84 : decode cX10_charge 84 = .ok (.iload_n 3, 1) := by decide +kernel
theorem dX10_charge_85 : decode cX10_charge 85 = .ok (.invokevirtual 57, 3) := by decide +kernel
theorem dX10_charge_88 : decode cX10_charge 88 = .ok (.return_, 1) := by decide +kernel
theorem dX10_pay_0 : decode cX10_pay 0 = .ok (.aload_n 0, 1) := by decide +kernel
theorem dX10_pay_1 : decode cX10_pay 1 = .ok (.iload_n 1, 1) := by decide +kernel
theorem dX10_pay_2 : decode cX10_pay 2 = .ok (.bipush 9, 2) := by decide +kernel
theorem dX10_pay_4 : decode cX10_pay 4 = .ok (.aload_n 0, 1) := by decide +kernel
theorem dX10_pay_5 : decode cX10_pay 5 = .ok (.iload_n 1, 1) := by decide +kernel
theorem dX10_pay_6 : decode cX10_pay 6 = .ok (.bipush 9, 2) := by decide +kernel
theorem dX10_pay_8 : decode cX10_pay 8 = .ok (.invokevirtual 29, 3) := by decide +kernel
theorem dX10_pay_11 : decode cX10_pay 11 = .ok (.iload_n 2, 1) := by decide +kernel
theorem dX10_pay_12 : decode cX10_pay 12 = .ok (.iadd, 1) := by decide +kernel
theorem dX10_pay_13 : decode cX10_pay 13 = .ok (.invokevirtual 53, 3) := by decide +kernel
theorem dX10_pay_16 : decode cX10_pay 16 = .ok (.aload_n 0, 1) := by decide +kernel
theorem dX10_pay_17 : decode cX10_pay 17 = .ok (.getfield 7, 3) := by decide +kernel
theorem dX10_pay_20 : decode cX10_pay 20 = .ok (.sipush 199, 3) := by decide +kernel
theorem dX10_pay_23 : decode cX10_pay 23 = .ok (.dup2, 1) := by decide +kernel
theorem dX10_pay_24 : decode cX10_pay 24 = .ok (.iaload, 1) := by decide +kernel
theorem dX10_pay_25 : decode cX10_pay 25 = .ok (.iload_n 2, 1) := by decide +kernel
theorem dX10_pay_26 : decode cX10_pay 26 = .ok (.iadd, 1) := by decide +kernel
theorem dX10_pay_27 : decode cX10_pay 27 = .ok (.iastore, 1) := by decide +kernel
theorem dX10_pay_28 : decode cX10_pay 28 = .ok (.aload_n 0, 1) := by decide +kernel
theorem dX10_pay_29 : decode cX10_pay 29 = .ok (.iload_n 2, 1) := by decide +kernel
theorem dX10_pay_30 : decode cX10_pay 30 = .ok (.invokevirtual 60, 3) := by decide +kernel
theorem dX10_pay_33 : decode cX10_pay 33 = .ok (.aload_n 0, 1) := by decide +kernel
theorem dX10_pay_34 : decode cX10_pay 34 = .ok (.iload_n 1, 1) := by decide +kernel
theorem dX10_pay_35 : decode cX10_pay 35 = .ok (.iconst 3, 1) := by decide +kernel
theorem dX10_pay_36 : decode cX10_pay 36 = .ok (.iload_n 2, 1) := by decide +kernel
theorem dX10_pay_37 : decode cX10_pay 37 = .ok (.invokevirtual 57, 3) := by decide +kernel
theorem dX10_pay_40 : decode cX10_pay 40 = .ok (.return_, 1) := by decide +kernel
theorem dX10_clear_0 : decode cX10_clear 0 = .ok (.iconst 3, 1) := by decide +kernel
theorem dX10_clear_1 : decode cX10_clear 1 = .ok (.istore_n 2, 1) := by decide +kernel
theorem dX10_clear_2 : decode cX10_clear 2 = .ok (.iload_n 2, 1) := by decide +kernel
theorem dX10_clear_3 : decode cX10_clear 3 = .ok (.bipush 8, 2) := by decide +kernel
theorem dX10_clear_5 : decode cX10_clear 5 = .ok (.if_icmp .gt 16, 3) := by decide +kernel
theorem dX10_clear_8 : decode cX10_clear 8 = .ok (.aload_n 0, 1) := by decide +kernel
theorem dX10_clear_9 : decode cX10_clear 9 = .ok (.iload_n 1, 1) := by decide +kernel
theorem dX10_clear_10 : decode cX10_clear 10 = .ok (.iload_n 2, 1) := by decide +kernel
theorem dX10_clear_11 : decode cX10_clear 11 = .ok (.iconst 0, 1) := by decide +kernel
theorem dX10_clear_12 : decode cX10_clear 12 = .ok (.invokevirtual 53, 3) := by decide +kernel
theorem dX10_clear_15 : decode cX10_clear 15 = .ok (.iinc 2 1, 3) := by decide +kernel
theorem dX10_clear_18 : decode cX10_clear 18 = .ok (.goto (-16), 3) := by decide +kernel
theorem dX10_clear_21 : decode cX10_clear 21 = .ok (.return_, 1) := by decide +kernel
theorem dX10_noSign_0 : decode cX10_noSign 0 = .ok (.iload_n 1, 1) := by decide +kernel
theorem dX10_noSign_1 : decode cX10_noSign 1 = .ok (.iconst 0, 1) := by decide +kernel
theorem dX10_noSign_2 : decode cX10_noSign 2 = .ok (.iconst 3, 1) := by decide +kernel
theorem dX10_noSign_3 : decode cX10_noSign 3 = .ok (.invokestatic 25, 3) := by decide +kernel
theorem dX10_noSign_6 : decode cX10_noSign 6 = .ok (.ifCond .eq 12, 3) := by decide +kernel
theorem dX10_noSign_9 : decode cX10_noSign 9 = .ok (.iload_n 2, 1) := by decide +kernel
theorem dX10_noSign_10 : decode cX10_noSign 10 = .ok (.iconst 0, 1) := by decide +kernel
theorem dX10_noSign_11 : decode cX10_noSign 11 = .ok (.iconst 1, 1) := by decide +kernel
theorem dX10_noSign_12 : decode cX10_noSign 12 = .ok (.invokestatic 25, 3) := by decide +kernel
theorem dX10_noSign_15 : decode cX10_noSign 15 = .ok (.ifCond .ne 6, 3) := by decide +kernel
theorem dX10_noSign_18 : decode cX10_noSign 18 = .ok (.ldc 64, 2) := by decide +kernel
theorem dX10_noSign_20 : decode cX10_noSign 20 = .ok (.ireturn, 1) := by decide +kernel
theorem dX10_noSign_21 : decode cX10_noSign 21 = .ok (.aload_n 0, 1) := by decide +kernel
theorem dX10_noSign_22 : decode cX10_noSign 22 = .ok (.invokevirtual 65, 3) := by decide +kernel
theorem dX10_noSign_25 : decode cX10_noSign 25 = .ok (.ifCond .eq 8, 3) := by decide +kernel
theorem dX10_noSign_28 : decode cX10_noSign 28 = .ok (.ldc 37, 2) := by decide +kernel
theorem dX10_noSign_30 : decode cX10_noSign 30 = .ok (.goto 22, 3) := by decide +kernel
theorem dX10_noSign_33 : decode cX10_noSign 33 = .ok (.aload_n 0, 1) := by decide +kernel
theorem dX10_noSign_34 : decode cX10_noSign 34 = .ok (.getfield 7, 3) := by decide +kernel
theorem dX10_noSign_37 : decode cX10_noSign 37 = .ok (.sipush 194, 3) := by decide +kernel
theorem dX10_noSign_40 : decode cX10_noSign 40 = .ok (.iaload, 1) := by decide +kernel
theorem dX10_noSign_41 : decode cX10_noSign 41 = .ok (.bipush 16, 2) := by decide +kernel
theorem dX10_noSign_43 : decode cX10_noSign 43 = .ok (.if_icmp .ne 8, 3) := by decide +kernel
theorem dX10_noSign_46 : decode cX10_noSign 46 = .ok (.ldc 69, 2) := by decide +kernel
theorem dX10_noSign_48 : decode cX10_noSign 48 = .ok (.goto 4, 3) := by decide +kernel
theorem dX10_noSign_51 : decode cX10_noSign 51 = .ok (.iconst 0, 1) := by decide +kernel
theorem dX10_noSign_52 : decode cX10_noSign 52 = .ok (.ireturn, 1) := by decide +kernel
theorem dX10_doSign_0 : decode cX10_doSign 0 = .ok (.aload_n 0, 1) := by decide +kernel
theorem dX10_doSign_1 : decode cX10_doSign 1 = .ok (.getfield 7, 3) := by decide +kernel
theorem dX10_doSign_4 : decode cX10_doSign 4 = .ok (.sipush 194, 3) := by decide +kernel
theorem dX10_doSign_7 : decode cX10_doSign 7 = .ok (.iaload, 1) := by decide +kernel
theorem dX10_doSign_8 : decode cX10_doSign 8 = .ok (.istore_n 3, 1) := by decide +kernel
theorem dX10_doSign_9 : decode cX10_doSign 9 = .ok (.aload_n 0, 1) := by decide +kernel
theorem dX10_doSign_10 : decode cX10_doSign 10 = .ok (.getfield 7, 3) := by decide +kernel
theorem dX10_doSign_13 : decode cX10_doSign 13 = .ok (.sipush 194, 3) := by decide +kernel
theorem dX10_doSign_16 : decode cX10_doSign 16 = .ok (.dup2, 1) := by decide +kernel
theorem dX10_doSign_17 : decode cX10_doSign 17 = .ok (.iaload, 1) := by decide +kernel
theorem dX10_doSign_18 : decode cX10_doSign 18 = .ok (.iconst 1, 1) := by decide +kernel
theorem dX10_doSign_19 : decode cX10_doSign 19 = .ok (.iadd, 1) := by decide +kernel
theorem dX10_doSign_20 : decode cX10_doSign 20 = .ok (.iastore, 1) := by decide +kernel
theorem dX10_doSign_21 : decode cX10_doSign 21 = .ok (.aload_n 0, 1) := by decide +kernel
theorem dX10_doSign_22 : decode cX10_doSign 22 = .ok (.iload_n 3, 1) := by decide +kernel
theorem dX10_doSign_23 : decode cX10_doSign 23 = .ok (.invokevirtual 70, 3) := by decide +kernel
theorem dX10_doSign_26 : decode cX10_doSign 26 = .ok (.aload_n 0, 1) := by decide +kernel
theorem dX10_doSign_27 : decode cX10_doSign 27 = .ok (.iload_n 3, 1) := by decide +kernel
theorem dX10_doSign_28 : decode cX10_doSign 28 = .ok (.iconst 0, 1) := by decide +kernel
theorem dX10_doSign_29 : decode cX10_doSign 29 = .ok (.iload_n 1, 1) := by decide +kernel
theorem dX10_doSign_30 : decode cX10_doSign 30 = .ok (.invokevirtual 53, 3) := by decide +kernel
theorem dX10_doSign_33 : decode cX10_doSign 33 = .ok (.aload_n 0, 1) := by decide +kernel
theorem dX10_doSign_34 : decode cX10_doSign 34 = .ok (.iload_n 3, 1) := by decide +kernel
theorem dX10_doSign_35 : decode cX10_doSign 35 = .ok (.iconst 1, 1) := by decide +kernel
theorem dX10_doSign_36 : decode cX10_doSign 36 = .ok (.iload_n 2, 1) := by decide +kernel
theorem dX10_doSign_37 : decode cX10_doSign 37 = .ok (.invokevirtual 53, 3) := by decide +kernel
theorem dX10_doSign_40 : decode cX10_doSign 40 = .ok (.aload_n 0, 1) := by decide +kernel
theorem dX10_doSign_41 : decode cX10_doSign 41 = .ok (.iload_n 3, 1) := by decide +kernel
theorem dX10_doSign_42 : decode cX10_doSign 42 = .ok (.iconst 2, 1) := by decide +kernel
theorem dX10_doSign_43 : decode cX10_doSign 43 = .ok (.iconst 0, 1) := by decide +kernel
theorem dX10_doSign_44 : decode cX10_doSign 44 = .ok (.invokevirtual 53, 3) := by decide +kernel
theorem dX10_doSign_47 : decode cX10_doSign 47 = .ok (.aload_n 0, 1) := by decide +kernel
theorem dX10_doSign_48 : decode cX10_doSign 48 = .ok (.iload_n 3, 1) := by decide +kernel
theorem dX10_doSign_49 : decode cX10_doSign 49 = .ok (.bipush 9, 2) := by decide +kernel
theorem dX10_doSign_51 : decode cX10_doSign 51 = .ok (.iconst 0, 1) := by decide +kernel
theorem dX10_doSign_52 : decode cX10_doSign 52 = .ok (.invokevirtual 53, 3) := by decide +kernel
theorem dX10_doSign_55 : decode cX10_doSign 55 = .ok (.iload_n 3, 1) := by decide +kernel
theorem dX10_doSign_56 : decode cX10_doSign 56 = .ok (.ireturn, 1) := by decide +kernel
theorem dX10_sign_0 : decode cX10_sign 0 = .ok (.aload_n 0, 1) := by decide +kernel
theorem dX10_sign_1 : decode cX10_sign 1 = .ok (.iload_n 1, 1) := by decide +kernel
theorem dX10_sign_2 : decode cX10_sign 2 = .ok (.iload_n 2, 1) := by decide +kernel
theorem dX10_sign_3 : decode cX10_sign 3 = .ok (.invokevirtual 73, 3) := by decide +kernel
theorem dX10_sign_6 : decode cX10_sign 6 = .ok (.istore_n 3, 1) := by decide +kernel
theorem dX10_sign_7 : decode cX10_sign 7 = .ok (.iload_n 3, 1) := by decide +kernel
theorem dX10_sign_8 : decode cX10_sign 8 = .ok (.ifCond .ge 5, 3) := by decide +kernel
theorem dX10_sign_11 : decode cX10_sign 11 = .ok (.iload_n 3, 1) := by decide +kernel
theorem dX10_sign_12 : decode cX10_sign 12 = .ok (.ireturn, 1) := by decide +kernel
theorem dX10_sign_13 : decode cX10_sign 13 = .ok (.aload_n 0, 1) := by decide +kernel
theorem dX10_sign_14 : decode cX10_sign 14 = .ok (.aload_n 0, 1) := by decide +kernel
theorem dX10_sign_15 : decode cX10_sign 15 = .ok (.getfield 7, 3) := by decide +kernel
theorem dX10_sign_18 : decode cX10_sign 18 = .ok (.invokevirtual 76, 3) := by decide +kernel
theorem dX10_sign_21 : decode cX10_sign 21 = .ok (.aload_n 0, 1) := by decide +kernel
theorem dX10_sign_22 : decode cX10_sign 22 = .ok (.iload_n 1, 1) := by decide +kernel
theorem dX10_sign_23 : decode cX10_sign 23 = .ok (.iload_n 2, 1) := by decide +kernel
theorem dX10_sign_24 : decode cX10_sign 24 = .ok (.invokevirtual 80, 3) := by decide +kernel
theorem dX10_sign_27 : decode cX10_sign 27 = .ok (.ireturn, 1) := by decide +kernel
theorem dX10_noStock_0 : decode cX10_noStock 0 = .ok (.iload_n 1, 1) := by decide +kernel
theorem dX10_noStock_1 : decode cX10_noStock 1 = .ok (.invokestatic 83, 3) := by decide +kernel
theorem dX10_noStock_4 : decode cX10_noStock 4 = .ok (.ifCond .eq 23, 3) := by decide +kernel
theorem dX10_noStock_7 : decode cX10_noStock 7 = .ok (.iload_n 2, 1) := by decide +kernel
theorem dX10_noStock_8 : decode cX10_noStock 8 = .ok (.iconst 1, 1) := by decide +kernel
theorem dX10_noStock_9 : decode cX10_noStock 9 = .ok (.bipush 99, 2) := by decide +kernel
theorem dX10_noStock_11 : decode cX10_noStock 11 = .ok (.invokestatic 25, 3) := by decide +kernel
theorem dX10_noStock_14 : decode cX10_noStock 14 = .ok (.ifCond .eq 13, 3) := by decide +kernel
theorem dX10_noStock_17 : decode cX10_noStock 17 = .ok (.iload_n 3, 1) := by decide +kernel
theorem dX10_noStock_18 : decode cX10_noStock 18 = .ok (.iconst 1, 1) := by decide +kernel
theorem dX10_noStock_19 : decode cX10_noStock 19 = .ok (.bipush 99, 2) := by decide +kernel
theorem dX10_noStock_21 : decode cX10_noStock 21 = .ok (.invokestatic 25, 3) := by decide +kernel
theorem dX10_noStock_24 : decode cX10_noStock 24 = .ok (.ifCond .ne 6, 3) := by decide +kernel
theorem dX10_noStock_27 : decode cX10_noStock 27 = .ok (.ldc 64, 2) := by decide +kernel
theorem dX10_noStock_29 : decode cX10_noStock 29 = .ok (.ireturn, 1) := by decide +kernel
theorem dX10_noStock_30 : decode cX10_noStock 30 = .ok (.aload_n 0, 1) := by decide +kernel
theorem dX10_noStock_31 : decode cX10_noStock 31 = .ok (.invokevirtual 65, 3) := by decide +kernel
theorem dX10_noStock_34 : decode cX10_noStock 34 = .ok (.ifCond .eq 8, 3) := by decide +kernel
theorem dX10_noStock_37 : decode cX10_noStock 37 = .ok (.ldc 37, 2) := by decide +kernel
theorem dX10_noStock_39 : decode cX10_noStock 39 = .ok (.goto 23, 3) := by decide +kernel
theorem dX10_noStock_42 : decode cX10_noStock 42 = .ok (.aload_n 0, 1) := by decide +kernel
theorem dX10_noStock_43 : decode cX10_noStock 43 = .ok (.iload_n 1, 1) := by decide +kernel
theorem dX10_noStock_44 : decode cX10_noStock 44 = .ok (.iconst 0, 1) := by decide +kernel
theorem dX10_noStock_45 : decode cX10_noStock 45 = .ok (.invokevirtual 86, 3) := by decide +kernel
theorem dX10_noStock_48 : decode cX10_noStock 48 = .ok (.iload_n 2, 1) := by decide +kernel
theorem dX10_noStock_49 : decode cX10_noStock 49 = .ok (.iadd, 1) := by decide +kernel
theorem dX10_noStock_50 : decode cX10_noStock 50 = .ok (.sipush 500, 3) := by decide +kernel
theorem dX10_noStock_53 : decode cX10_noStock 53 = .ok (.if_icmp .le 8, 3) := by decide +kernel
theorem dX10_noStock_56 : decode cX10_noStock 56 = .ok (.ldc 69, 2) := by decide +kernel
theorem dX10_noStock_58 : decode cX10_noStock 58 = .ok (.goto 4, 3) := by decide +kernel
theorem dX10_noStock_61 : decode cX10_noStock 61 = .ok (.iconst 0, 1) := by decide +kernel
theorem dX10_noStock_62 : decode cX10_noStock 62 = .ok (.ireturn, 1) := by decide +kernel
theorem dX10_doStock_0 : decode cX10_doStock 0 = .ok (.sipush 160, 3) := by decide +kernel
theorem dX10_doStock_3 : decode cX10_doStock 3 = .ok (.iconst 5, 1) := by decide +kernel
theorem dX10_doStock_4 : decode cX10_doStock 4 = .ok (.iload_n 1, 1) := by decide +kernel
theorem dX10_doStock_5 : decode cX10_doStock 5 = .ok (.imul, 1) := by decide +kernel
theorem dX10_doStock_6 : decode cX10_doStock 6 = .ok (.iadd, 1) := by decide +kernel
theorem dX10_doStock_7 : decode cX10_doStock 7 = .ok (.istore 4, 2) := by decide +kernel
theorem dX10_doStock_9 : decode cX10_doStock 9 = .ok (.aload_n 0, 1) := by decide +kernel
theorem dX10_doStock_10 : decode cX10_doStock 10 = .ok (.getfield 7, 3) := by decide +kernel
theorem dX10_doStock_13 : decode cX10_doStock 13 = .ok (.iload 4, 2) := by decide +kernel
theorem dX10_doStock_15 : decode cX10_doStock 15 = .ok (.iconst 0, 1) := by decide +kernel
theorem dX10_doStock_16 : decode cX10_doStock 16 = .ok (.iadd, 1) := by decide +kernel
theorem dX10_doStock_17 : decode cX10_doStock 17 = .ok (.dup2, 1) := by decide +kernel
theorem dX10_doStock_18 : decode cX10_doStock 18 = .ok (.iaload, 1) := by decide +kernel
theorem dX10_doStock_19 : decode cX10_doStock 19 = .ok (.iload_n 2, 1) := by decide +kernel
theorem dX10_doStock_20 : decode cX10_doStock 20 = .ok (.iadd, 1) := by decide +kernel
theorem dX10_doStock_21 : decode cX10_doStock 21 = .ok (.iastore, 1) := by decide +kernel
theorem dX10_doStock_22 : decode cX10_doStock 22 = .ok (.aload_n 0, 1) := by decide +kernel
theorem dX10_doStock_23 : decode cX10_doStock 23 = .ok (.getfield 7, 3) := by decide +kernel
theorem dX10_doStock_26 : decode cX10_doStock 26 = .ok (.iload 4, 2) := by decide +kernel
theorem dX10_doStock_28 : decode cX10_doStock 28 = .ok (.iconst 2, 1) := by decide +kernel
theorem dX10_doStock_29 : decode cX10_doStock 29 = .ok (.iadd, 1) := by decide +kernel
theorem dX10_doStock_30 : decode cX10_doStock 30 = .ok (.dup2, 1) := by decide +kernel
theorem dX10_doStock_31 : decode cX10_doStock 31 = .ok (.iaload, 1) := by decide +kernel
theorem dX10_doStock_32 : decode cX10_doStock 32 = .ok (.iload_n 2, 1) := by decide +kernel
theorem dX10_doStock_33 : decode cX10_doStock 33 = .ok (.iadd, 1) := by decide +kernel
theorem dX10_doStock_34 : decode cX10_doStock 34 = .ok (.iastore, 1) := by decide +kernel
theorem dX10_doStock_35 : decode cX10_doStock 35 = .ok (.aload_n 0, 1) := by decide +kernel
theorem dX10_doStock_36 : decode cX10_doStock 36 = .ok (.getfield 7, 3) := by decide +kernel
theorem dX10_doStock_39 : decode cX10_doStock 39 = .ok (.iload 4, 2) := by decide +kernel
theorem dX10_doStock_41 : decode cX10_doStock 41 = .ok (.iconst 1, 1) := by decide +kernel
theorem dX10_doStock_42 : decode cX10_doStock 42 = .ok (.iadd, 1) := by decide +kernel
theorem dX10_doStock_43 : decode cX10_doStock 43 = .ok (.iload_n 3, 1) := by decide +kernel
theorem dX10_doStock_44 : decode cX10_doStock 44 = .ok (.iload_n 3, 1) := by decide +kernel
theorem dX10_doStock_45 : decode cX10_doStock 45 = .ok (.aload_n 0, 1) := by decide +kernel
theorem dX10_doStock_46 : decode cX10_doStock 46 = .ok (.getfield 7, 3) := by decide +kernel
theorem dX10_doStock_49 : decode cX10_doStock 49 = .ok (.sipush 204, 3) := by decide +kernel
theorem dX10_doStock_52 : decode cX10_doStock 52 = .ok (.iaload, 1) := by decide +kernel
theorem dX10_doStock_53 : decode cX10_doStock 53 = .ok (.imul, 1) := by decide +kernel
theorem dX10_doStock_54 : decode cX10_doStock 54 = .ok (.bipush 100, 2) := by decide +kernel
theorem dX10_doStock_56 : decode cX10_doStock 56 = .ok (.idiv, 1) := by decide +kernel
theorem dX10_doStock_57 : decode cX10_doStock 57 = .ok (.iadd, 1) := by decide +kernel
theorem dX10_doStock_58 : decode cX10_doStock 58 = .ok (.iastore, 1) := by decide +kernel
theorem dX10_doStock_59 : decode cX10_doStock 59 = .ok (.aload_n 0, 1) := by decide +kernel
theorem dX10_doStock_60 : decode cX10_doStock 60 = .ok (.getfield 7, 3) := by decide +kernel
theorem dX10_doStock_63 : decode cX10_doStock 63 = .ok (.sipush 197, 3) := by decide +kernel
theorem dX10_doStock_66 : decode cX10_doStock 66 = .ok (.dup2, 1) := by decide +kernel
theorem dX10_doStock_67 : decode cX10_doStock 67 = .ok (.iaload, 1) := by decide +kernel
theorem dX10_doStock_68 : decode cX10_doStock 68 = .ok (.iload_n 2, 1) := by decide +kernel
theorem dX10_doStock_69 : decode cX10_doStock 69 = .ok (.iload_n 3, 1) := by decide +kernel
theorem dX10_doStock_70 : decode cX10_doStock 70 = .ok (.imul, 1) := by decide +kernel
theorem dX10_doStock_71 : decode cX10_doStock 71 = .ok (.iadd, 1) := by decide +kernel
theorem dX10_doStock_72 : decode cX10_doStock 72 = .ok (.iastore, 1) := by decide +kernel
theorem dX10_doStock_73 : decode cX10_doStock 73 = .ok (.aload_n 0, 1) := by decide +kernel
theorem dX10_doStock_74 : decode cX10_doStock 74 = .ok (.iload_n 2, 1) := by decide +kernel
theorem dX10_doStock_75 : decode cX10_doStock 75 = .ok (.iload_n 3, 1) := by decide +kernel
theorem dX10_doStock_76 : decode cX10_doStock 76 = .ok (.imul, 1) := by decide +kernel
theorem dX10_doStock_77 : decode cX10_doStock 77 = .ok (.invokevirtual 60, 3) := by decide +kernel
theorem dX10_doStock_80 : decode cX10_doStock 80 = .ok (.aload_n 0, 1) := by decide +kernel
theorem dX10_doStock_81 : decode cX10_doStock 81 = .ok (.getfield 7, 3) := by decide +kernel
theorem dX10_doStock_84 : decode cX10_doStock 84 = .ok (.iload 4, 2) := by decide +kernel
theorem dX10_doStock_86 : decode cX10_doStock 86 = .ok (.iconst 1, 1) := by decide +kernel
theorem dX10_doStock_87 : decode cX10_doStock 87 = .ok (.iadd, 1) := by decide +kernel
theorem dX10_doStock_88 : decode cX10_doStock 88 = .ok (.iaload, 1) := by decide +kernel
theorem dX10_doStock_89 : decode cX10_doStock 89 = .ok (.ireturn, 1) := by decide +kernel
theorem dX10_stock_0 : decode cX10_stock 0 = .ok (.aload_n 0, 1) := by decide +kernel
theorem dX10_stock_1 : decode cX10_stock 1 = .ok (.iload_n 1, 1) := by decide +kernel
theorem dX10_stock_2 : decode cX10_stock 2 = .ok (.iload_n 2, 1) := by decide +kernel
theorem dX10_stock_3 : decode cX10_stock 3 = .ok (.iload_n 3, 1) := by decide +kernel
theorem dX10_stock_4 : decode cX10_stock 4 = .ok (.invokevirtual 89, 3) := by decide +kernel
theorem dX10_stock_7 : decode cX10_stock 7 = .ok (.istore 4, 2) := by decide +kernel
theorem dX10_stock_9 : decode cX10_stock 9 = .ok (.iload 4, 2) := by decide +kernel
theorem dX10_stock_11 : decode cX10_stock 11 = .ok (.ifCond .ge 6, 3) := by decide +kernel
theorem dX10_stock_14 : decode cX10_stock 14 = .ok (.iload 4, 2) := by decide +kernel
theorem dX10_stock_16 : decode cX10_stock 16 = .ok (.ireturn, 1) := by decide +kernel
theorem dX10_stock_17 : decode cX10_stock 17 = .ok (.aload_n 0, 1) := by decide +kernel
theorem dX10_stock_18 : decode cX10_stock 18 = .ok (.aload_n 0, 1) := by decide +kernel
theorem dX10_stock_19 : decode cX10_stock 19 = .ok (.getfield 7, 3) := by decide +kernel
theorem dX10_stock_22 : decode cX10_stock 22 = .ok (.invokevirtual 76, 3) := by decide +kernel
theorem dX10_stock_25 : decode cX10_stock 25 = .ok (.aload_n 0, 1) := by decide +kernel
theorem dX10_stock_26 : decode cX10_stock 26 = .ok (.iload_n 1, 1) := by decide +kernel
theorem dX10_stock_27 : decode cX10_stock 27 = .ok (.iload_n 2, 1) := by decide +kernel
theorem dX10_stock_28 : decode cX10_stock 28 = .ok (.iload_n 3, 1) := by decide +kernel
theorem dX10_stock_29 : decode cX10_stock 29 = .ok (.invokevirtual 92, 3) := by decide +kernel
theorem dX10_stock_32 : decode cX10_stock 32 = .ok (.ireturn, 1) := by decide +kernel
theorem dX10_whyNot_0 : decode cX10_whyNot 0 = .ok (.aload_n 0, 1) := by decide +kernel
theorem dX10_whyNot_1 : decode cX10_whyNot 1 = .ok (.iload_n 1, 1) := by decide +kernel
theorem dX10_whyNot_2 : decode cX10_whyNot 2 = .ok (.iconst 2, 1) := by decide +kernel
theorem dX10_whyNot_3 : decode cX10_whyNot 3 = .ok (.invokevirtual 29, 3) := by decide +kernel
theorem dX10_whyNot_6 : decode cX10_whyNot 6 = .ok (.ifCond .eq 5, 3) := by decide +kernel
theorem dX10_whyNot_9 : decode cX10_whyNot 9 = .ok (.iconst 1, 1) := by decide +kernel
theorem dX10_whyNot_10 : decode cX10_whyNot 10 = .ok (.ireturn, 1) := by decide +kernel
theorem dX10_whyNot_11 : decode cX10_whyNot 11 = .ok (.aload_n 0, 1) := by decide +kernel
theorem dX10_whyNot_12 : decode cX10_whyNot 12 = .ok (.iload_n 2, 1) := by decide +kernel
theorem dX10_whyNot_13 : decode cX10_whyNot 13 = .ok (.iconst 0, 1) := by decide +kernel
theorem dX10_whyNot_14 : decode cX10_whyNot 14 = .ok (.invokevirtual 86, 3) := by decide +kernel
theorem dX10_whyNot_17 : decode cX10_whyNot 17 = .ok (.iload_n 3, 1) := by decide +kernel
theorem dX10_whyNot_18 : decode cX10_whyNot 18 = .ok (.if_icmp .ge 5, 3) := by decide +kernel
theorem dX10_whyNot_21 : decode cX10_whyNot 21 = .ok (.iconst 2, 1) := by decide +kernel
theorem dX10_whyNot_22 : decode cX10_whyNot 22 = .ok (.ireturn, 1) := by decide +kernel
theorem dX10_whyNot_23 : decode cX10_whyNot 23 = .ok (.aload_n 0, 1) := by decide +kernel
theorem dX10_whyNot_24 : decode cX10_whyNot 24 = .ok (.iload_n 1, 1) := by decide +kernel
theorem dX10_whyNot_25 : decode cX10_whyNot 25 = .ok (.invokevirtual 95, 3) := by decide +kernel
theorem dX10_whyNot_28 : decode cX10_whyNot 28 = .ok (.iload_n 3, 1) := by decide +kernel
theorem dX10_whyNot_29 : decode cX10_whyNot 29 = .ok (.aload_n 0, 1) := by decide +kernel
theorem dX10_whyNot_30 : decode cX10_whyNot 30 = .ok (.iload_n 2, 1) := by decide +kernel
theorem dX10_whyNot_31 : decode cX10_whyNot 31 = .ok (.iconst 1, 1) := by decide +kernel
theorem dX10_whyNot_32 : decode cX10_whyNot 32 = .ok (.invokevirtual 86, 3) := by decide +kernel
theorem dX10_whyNot_35 : decode cX10_whyNot 35 = .ok (.imul, 1) := by decide +kernel
theorem dX10_whyNot_36 : decode cX10_whyNot 36 = .ok (.isub, 1) := by decide +kernel
theorem dX10_whyNot_37 : decode cX10_whyNot 37 = .ok (.aload_n 0, 1) := by decide +kernel
theorem dX10_whyNot_38 : decode cX10_whyNot 38 = .ok (.getfield 7, 3) := by decide +kernel
theorem dX10_whyNot_41 : decode cX10_whyNot 41 = .ok (.sipush 203, 3) := by decide +kernel
theorem dX10_whyNot_44 : decode cX10_whyNot 44 = .ok (.iaload, 1) := by decide +kernel
theorem dX10_whyNot_45 : decode cX10_whyNot 45 = .ok (.ineg, 1) := by decide +kernel
theorem dX10_whyNot_46 : decode cX10_whyNot 46 = .ok (.if_icmp .ge 7, 3) := by decide +kernel
theorem dX10_whyNot_49 : decode cX10_whyNot 49 = .ok (.iconst 3, 1) := by decide +kernel
theorem dX10_whyNot_50 : decode cX10_whyNot 50 = .ok (.goto 4, 3) := by decide +kernel
theorem dX10_whyNot_53 : decode cX10_whyNot 53 = .ok (.iconst 0, 1) := by decide +kernel
theorem dX10_whyNot_54 : decode cX10_whyNot 54 = .ok (.ireturn, 1) := by decide +kernel
theorem dX10_noSell_0 : decode cX10_noSell 0 = .ok (.aload_n 0, 1) := by decide +kernel
theorem dX10_noSell_1 : decode cX10_noSell 1 = .ok (.iload_n 1, 1) := by decide +kernel
theorem dX10_noSell_2 : decode cX10_noSell 2 = .ok (.invokevirtual 98, 3) := by decide +kernel
theorem dX10_noSell_5 : decode cX10_noSell 5 = .ok (.ifCond .eq 20, 3) := by decide +kernel
theorem dX10_noSell_8 : decode cX10_noSell 8 = .ok (.iload_n 2, 1) := by decide +kernel
theorem dX10_noSell_9 : decode cX10_noSell 9 = .ok (.invokestatic 83, 3) := by decide +kernel
theorem dX10_noSell_12 : decode cX10_noSell 12 = .ok (.ifCond .eq 13, 3) := by decide +kernel
theorem dX10_noSell_15 : decode cX10_noSell 15 = .ok (.iload_n 3, 1) := by decide +kernel
theorem dX10_noSell_16 : decode cX10_noSell 16 = .ok (.iconst 1, 1) := by decide +kernel
theorem dX10_noSell_17 : decode cX10_noSell 17 = .ok (.bipush 99, 2) := by decide +kernel
theorem dX10_noSell_19 : decode cX10_noSell 19 = .ok (.invokestatic 25, 3) := by decide +kernel
theorem dX10_noSell_22 : decode cX10_noSell 22 = .ok (.ifCond .ne 6, 3) := by decide +kernel
theorem dX10_noSell_25 : decode cX10_noSell 25 = .ok (.ldc 64, 2) := by decide +kernel
theorem dX10_noSell_27 : decode cX10_noSell 27 = .ok (.ireturn, 1) := by decide +kernel
theorem dX10_noSell_28 : decode cX10_noSell 28 = .ok (.aload_n 0, 1) := by decide +kernel
theorem dX10_noSell_29 : decode cX10_noSell 29 = .ok (.iload_n 1, 1) := by decide +kernel
theorem dX10_noSell_30 : decode cX10_noSell 30 = .ok (.iload_n 2, 1) := by decide +kernel
theorem dX10_noSell_31 : decode cX10_noSell 31 = .ok (.iload_n 3, 1) := by decide +kernel
theorem dX10_noSell_32 : decode cX10_noSell 32 = .ok (.invokevirtual 101, 3) := by decide +kernel
theorem dX10_noSell_35 : decode cX10_noSell 35 = .ok (.ifCond .le 8, 3) := by decide +kernel
theorem dX10_noSell_38 : decode cX10_noSell 38 = .ok (.ldc 37, 2) := by decide +kernel
theorem dX10_noSell_40 : decode cX10_noSell 40 = .ok (.goto 4, 3) := by decide +kernel
theorem dX10_noSell_43 : decode cX10_noSell 43 = .ok (.iconst 0, 1) := by decide +kernel
theorem dX10_noSell_44 : decode cX10_noSell 44 = .ok (.ireturn, 1) := by decide +kernel
theorem dX10_doSell_0 : decode cX10_doSell 0 = .ok (.iload_n 3, 1) := by decide +kernel
theorem dX10_doSell_1 : decode cX10_doSell 1 = .ok (.aload_n 0, 1) := by decide +kernel
theorem dX10_doSell_2 : decode cX10_doSell 2 = .ok (.iload_n 2, 1) := by decide +kernel
theorem dX10_doSell_3 : decode cX10_doSell 3 = .ok (.iconst 1, 1) := by decide +kernel
theorem dX10_doSell_4 : decode cX10_doSell 4 = .ok (.invokevirtual 86, 3) := by decide +kernel
theorem dX10_doSell_7 : decode cX10_doSell 7 = .ok (.imul, 1) := by decide +kernel
theorem dX10_doSell_8 : decode cX10_doSell 8 = .ok (.istore 4, 2) := by decide +kernel
theorem dX10_doSell_10 : decode cX10_doSell 10 = .ok (.sipush 160, 3) := by decide +kernel
theorem dX10_doSell_13 : decode cX10_doSell 13 = .ok (.iconst 5, 1) := by decide +kernel
theorem dX10_doSell_14 : decode cX10_doSell 14 = .ok (.iload_n 2, 1) := by decide +kernel
theorem dX10_doSell_15 : decode cX10_doSell 15 = .ok (.imul, 1) := by decide +kernel
theorem dX10_doSell_16 : decode cX10_doSell 16 = .ok (.iadd, 1) := by decide +kernel
theorem dX10_doSell_17 : decode cX10_doSell 17 = .ok (.istore 5, 2) := by decide +kernel
theorem dX10_doSell_19 : decode cX10_doSell 19 = .ok (.aload_n 0, 1) := by decide +kernel
theorem dX10_doSell_20 : decode cX10_doSell 20 = .ok (.getfield 7, 3) := by decide +kernel
theorem dX10_doSell_23 : decode cX10_doSell 23 = .ok (.iload 5, 2) := by decide +kernel
theorem dX10_doSell_25 : decode cX10_doSell 25 = .ok (.iconst 0, 1) := by decide +kernel
theorem dX10_doSell_26 : decode cX10_doSell 26 = .ok (.iadd, 1) := by decide +kernel
theorem dX10_doSell_27 : decode cX10_doSell 27 = .ok (.dup2, 1) := by decide +kernel
theorem dX10_doSell_28 : decode cX10_doSell 28 = .ok (.iaload, 1) := by decide +kernel
theorem dX10_doSell_29 : decode cX10_doSell 29 = .ok (.iload_n 3, 1) := by decide +kernel
theorem dX10_doSell_30 : decode cX10_doSell 30 = .ok (.isub, 1) := by decide +kernel
theorem dX10_doSell_31 : decode cX10_doSell 31 = .ok (.iastore, 1) := by decide +kernel
theorem dX10_doSell_32 : decode cX10_doSell 32 = .ok (.aload_n 0, 1) := by decide +kernel
theorem dX10_doSell_33 : decode cX10_doSell 33 = .ok (.getfield 7, 3) := by decide +kernel
theorem dX10_doSell_36 : decode cX10_doSell 36 = .ok (.iload 5, 2) := by decide +kernel
theorem dX10_doSell_38 : decode cX10_doSell 38 = .ok (.iconst 3, 1) := by decide +kernel
theorem dX10_doSell_39 : decode cX10_doSell 39 = .ok (.iadd, 1) := by decide +kernel
theorem dX10_doSell_40 : decode cX10_doSell 40 = .ok (.dup2, 1) := by decide +kernel
theorem dX10_doSell_41 : decode cX10_doSell 41 = .ok (.iaload, 1) := by decide +kernel
theorem dX10_doSell_42 : decode cX10_doSell 42 = .ok (.iload_n 3, 1) := by decide +kernel
theorem dX10_doSell_43 : decode cX10_doSell 43 = .ok (.iadd, 1) := by decide +kernel
theorem dX10_doSell_44 : decode cX10_doSell 44 = .ok (.iastore, 1) := by decide +kernel
theorem dX10_doSell_45 : decode cX10_doSell 45 = .ok (.aload_n 0, 1) := by decide +kernel
theorem dX10_doSell_46 : decode cX10_doSell 46 = .ok (.getfield 7, 3) := by decide +kernel
theorem dX10_doSell_49 : decode cX10_doSell 49 = .ok (.iload 5, 2) := by decide +kernel
theorem dX10_doSell_51 : decode cX10_doSell 51 = .ok (.iconst 4, 1) := by decide +kernel
theorem dX10_doSell_52 : decode cX10_doSell 52 = .ok (.iadd, 1) := by decide +kernel
theorem dX10_doSell_53 : decode cX10_doSell 53 = .ok (.dup2, 1) := by decide +kernel
theorem dX10_doSell_54 : decode cX10_doSell 54 = .ok (.iaload, 1) := by decide +kernel
theorem dX10_doSell_55 : decode cX10_doSell 55 = .ok (.iload 4, 2) := by decide +kernel
theorem dX10_doSell_57 : decode cX10_doSell 57 = .ok (.iadd, 1) := by decide +kernel
theorem dX10_doSell_58 : decode cX10_doSell 58 = .ok (.iastore, 1) := by decide +kernel
theorem dX10_doSell_59 : decode cX10_doSell 59 = .ok (.aload_n 0, 1) := by decide +kernel
theorem dX10_doSell_60 : decode cX10_doSell 60 = .ok (.iload_n 1, 1) := by decide +kernel
theorem dX10_doSell_61 : decode cX10_doSell 61 = .ok (.iconst 5, 1) := by decide +kernel
theorem dX10_doSell_62 : decode cX10_doSell 62 = .ok (.iload 4, 2) := by decide +kernel
theorem dX10_doSell_64 : decode cX10_doSell 64 = .ok (.invokevirtual 104, 3) := by decide +kernel
theorem dX10_doSell_67 : decode cX10_doSell 67 = .ok (.iload 4, 2) := by decide +kernel
theorem dX10_doSell_69 : decode cX10_doSell 69 = .ok (.ireturn, 1) := by decide +kernel
theorem dX10_sell_0 : decode cX10_sell 0 = .ok (.aload_n 0, 1) := by decide +kernel
theorem dX10_sell_1 : decode cX10_sell 1 = .ok (.iload_n 1, 1) := by decide +kernel
theorem dX10_sell_2 : decode cX10_sell 2 = .ok (.iload_n 2, 1) := by decide +kernel
theorem dX10_sell_3 : decode cX10_sell 3 = .ok (.iload_n 3, 1) := by decide +kernel
theorem dX10_sell_4 : decode cX10_sell 4 = .ok (.invokevirtual 107, 3) := by decide +kernel
theorem dX10_sell_7 : decode cX10_sell 7 = .ok (.istore 4, 2) := by decide +kernel
theorem dX10_sell_9 : decode cX10_sell 9 = .ok (.iload 4, 2) := by decide +kernel
theorem dX10_sell_11 : decode cX10_sell 11 = .ok (.ifCond .ge 6, 3) := by decide +kernel
theorem dX10_sell_14 : decode cX10_sell 14 = .ok (.iload 4, 2) := by decide +kernel
theorem dX10_sell_16 : decode cX10_sell 16 = .ok (.ireturn, 1) := by decide +kernel
theorem dX10_sell_17 : decode cX10_sell 17 = .ok (.aload_n 0, 1) := by decide +kernel
theorem dX10_sell_18 : decode cX10_sell 18 = .ok (.aload_n 0, 1) := by decide +kernel
theorem dX10_sell_19 : decode cX10_sell 19 = .ok (.getfield 7, 3) := by decide +kernel
theorem dX10_sell_22 : decode cX10_sell 22 = .ok (.invokevirtual 76, 3) := by decide +kernel
theorem dX10_sell_25 : decode cX10_sell 25 = .ok (.aload_n 0, 1) := by decide +kernel
theorem dX10_sell_26 : decode cX10_sell 26 = .ok (.iload_n 1, 1) := by decide +kernel
theorem dX10_sell_27 : decode cX10_sell 27 = .ok (.iload_n 2, 1) := by decide +kernel
theorem dX10_sell_28 : decode cX10_sell 28 = .ok (.iload_n 3, 1) := by decide +kernel
theorem dX10_sell_29 : decode cX10_sell 29 = .ok (.invokevirtual 110, 3) := by decide +kernel
theorem dX10_sell_32 : decode cX10_sell 32 = .ok (.ireturn, 1) := by decide +kernel
theorem dX10_noAdvance_0 : decode cX10_noAdvance 0 = .ok (.aload_n 0, 1) := by decide +kernel
theorem dX10_noAdvance_1 : decode cX10_noAdvance 1 = .ok (.iload_n 1, 1) := by decide +kernel
theorem dX10_noAdvance_2 : decode cX10_noAdvance 2 = .ok (.invokevirtual 98, 3) := by decide +kernel
theorem dX10_noAdvance_5 : decode cX10_noAdvance 5 = .ok (.ifCond .eq 14, 3) := by decide +kernel
theorem dX10_noAdvance_8 : decode cX10_noAdvance 8 = .ok (.iload_n 2, 1) := by decide +kernel
theorem dX10_noAdvance_9 : decode cX10_noAdvance 9 = .ok (.iconst 1, 1) := by decide +kernel
theorem dX10_noAdvance_10 : decode cX10_noAdvance 10 = .ok (.sipush 999, 3) := by decide +kernel
theorem dX10_noAdvance_13 : decode cX10_noAdvance 13 = .ok (.invokestatic 25, 3) := by decide +kernel
theorem dX10_noAdvance_16 : decode cX10_noAdvance 16 = .ok (.ifCond .ne 6, 3) := by decide +kernel
theorem dX10_noAdvance_19 : decode cX10_noAdvance 19 = .ok (.ldc 64, 2) := by decide +kernel
theorem dX10_noAdvance_21 : decode cX10_noAdvance 21 = .ok (.ireturn, 1) := by decide +kernel
theorem dX10_noAdvance_22 : decode cX10_noAdvance 22 = .ok (.aload_n 0, 1) := by decide +kernel
theorem dX10_noAdvance_23 : decode cX10_noAdvance 23 = .ok (.invokevirtual 65, 3) := by decide +kernel
theorem dX10_noAdvance_26 : decode cX10_noAdvance 26 = .ok (.ifCond .ne 20, 3) := by decide +kernel
theorem dX10_noAdvance_29 : decode cX10_noAdvance 29 = .ok (.aload_n 0, 1) := by decide +kernel
theorem dX10_noAdvance_30 : decode cX10_noAdvance 30 = .ok (.iload_n 1, 1) := by decide +kernel
theorem dX10_noAdvance_31 : decode cX10_noAdvance 31 = .ok (.invokevirtual 42, 3) := by decide +kernel
theorem dX10_noAdvance_34 : decode cX10_noAdvance 34 = .ok (.ifCond .ne 12, 3) := by decide +kernel
theorem dX10_noAdvance_37 : decode cX10_noAdvance 37 = .ok (.aload_n 0, 1) := by decide +kernel
theorem dX10_noAdvance_38 : decode cX10_noAdvance 38 = .ok (.iload_n 1, 1) := by decide +kernel
theorem dX10_noAdvance_39 : decode cX10_noAdvance 39 = .ok (.invokevirtual 95, 3) := by decide +kernel
theorem dX10_noAdvance_42 : decode cX10_noAdvance 42 = .ok (.iload_n 2, 1) := by decide +kernel
theorem dX10_noAdvance_43 : decode cX10_noAdvance 43 = .ok (.if_icmp .ge 8, 3) := by decide +kernel
theorem dX10_noAdvance_46 : decode cX10_noAdvance 46 = .ok (.ldc 37, 2) := by decide +kernel
theorem dX10_noAdvance_48 : decode cX10_noAdvance 48 = .ok (.goto 4, 3) := by decide +kernel
theorem dX10_noAdvance_51 : decode cX10_noAdvance 51 = .ok (.iconst 0, 1) := by decide +kernel
theorem dX10_noAdvance_52 : decode cX10_noAdvance 52 = .ok (.ireturn, 1) := by decide +kernel
theorem dX10_doAdvance_0 : decode cX10_doAdvance 0 = .ok (.aload_n 0, 1) := by decide +kernel
theorem dX10_doAdvance_1 : decode cX10_doAdvance 1 = .ok (.iload_n 1, 1) := by decide +kernel
theorem dX10_doAdvance_2 : decode cX10_doAdvance 2 = .ok (.bipush 7, 2) := by decide +kernel
theorem dX10_doAdvance_4 : decode cX10_doAdvance 4 = .ok (.iload_n 2, 1) := by decide +kernel
theorem dX10_doAdvance_5 : decode cX10_doAdvance 5 = .ok (.invokevirtual 104, 3) := by decide +kernel
theorem dX10_doAdvance_8 : decode cX10_doAdvance 8 = .ok (.aload_n 0, 1) := by decide +kernel
theorem dX10_doAdvance_9 : decode cX10_doAdvance 9 = .ok (.iload_n 2, 1) := by decide +kernel
theorem dX10_doAdvance_10 : decode cX10_doAdvance 10 = .ok (.invokevirtual 60, 3) := by decide +kernel
theorem dX10_doAdvance_13 : decode cX10_doAdvance 13 = .ok (.aload_n 0, 1) := by decide +kernel
theorem dX10_doAdvance_14 : decode cX10_doAdvance 14 = .ok (.getfield 7, 3) := by decide +kernel
theorem dX10_doAdvance_17 : decode cX10_doAdvance 17 = .ok (.sipush 195, 3) := by decide +kernel
theorem dX10_doAdvance_20 : decode cX10_doAdvance 20 = .ok (.iaload, 1) := by decide +kernel
theorem dX10_doAdvance_21 : decode cX10_doAdvance 21 = .ok (.ireturn, 1) := by decide +kernel
theorem dX10_advance_0 : decode cX10_advance 0 = .ok (.aload_n 0, 1) := by decide +kernel
theorem dX10_advance_1 : decode cX10_advance 1 = .ok (.iload_n 1, 1) := by decide +kernel
theorem dX10_advance_2 : decode cX10_advance 2 = .ok (.iload_n 2, 1) := by decide +kernel
theorem dX10_advance_3 : decode cX10_advance 3 = .ok (.invokevirtual 113, 3) := by decide +kernel
theorem dX10_advance_6 : decode cX10_advance 6 = .ok (.istore_n 3, 1) := by decide +kernel
theorem dX10_advance_7 : decode cX10_advance 7 = .ok (.iload_n 3, 1) := by decide +kernel
theorem dX10_advance_8 : decode cX10_advance 8 = .ok (.ifCond .ge 5, 3) := by decide +kernel
theorem dX10_advance_11 : decode cX10_advance 11 = .ok (.iload_n 3, 1) := by decide +kernel
theorem dX10_advance_12 : decode cX10_advance 12 = .ok (.ireturn, 1) := by decide +kernel
theorem dX10_advance_13 : decode cX10_advance 13 = .ok (.aload_n 0, 1) := by decide +kernel
theorem dX10_advance_14 : decode cX10_advance 14 = .ok (.aload_n 0, 1) := by decide +kernel
theorem dX10_advance_15 : decode cX10_advance 15 = .ok (.getfield 7, 3) := by decide +kernel
theorem dX10_advance_18 : decode cX10_advance 18 = .ok (.invokevirtual 76, 3) := by decide +kernel
theorem dX10_advance_21 : decode cX10_advance 21 = .ok (.aload_n 0, 1) := by decide +kernel
theorem dX10_advance_22 : decode cX10_advance 22 = .ok (.iload_n 1, 1) := by decide +kernel
theorem dX10_advance_23 : decode cX10_advance 23 = .ok (.iload_n 2, 1) := by decide +kernel
theorem dX10_advance_24 : decode cX10_advance 24 = .ok (.invokevirtual 116, 3) := by decide +kernel
theorem dX10_advance_27 : decode cX10_advance 27 = .ok (.ireturn, 1) := by decide +kernel
theorem dX10_noFine_0 : decode cX10_noFine 0 = .ok (.aload_n 0, 1) := by decide +kernel
theorem dX10_noFine_1 : decode cX10_noFine 1 = .ok (.iload_n 1, 1) := by decide +kernel
theorem dX10_noFine_2 : decode cX10_noFine 2 = .ok (.invokevirtual 98, 3) := by decide +kernel
theorem dX10_noFine_5 : decode cX10_noFine 5 = .ok (.ifCond .eq 14, 3) := by decide +kernel
theorem dX10_noFine_8 : decode cX10_noFine 8 = .ok (.iload_n 2, 1) := by decide +kernel
theorem dX10_noFine_9 : decode cX10_noFine 9 = .ok (.iconst 1, 1) := by decide +kernel
theorem dX10_noFine_10 : decode cX10_noFine 10 = .ok (.sipush 999, 3) := by decide +kernel
theorem dX10_noFine_13 : decode cX10_noFine 13 = .ok (.invokestatic 25, 3) := by decide +kernel
theorem dX10_noFine_16 : decode cX10_noFine 16 = .ok (.ifCond .ne 6, 3) := by decide +kernel
theorem dX10_noFine_19 : decode cX10_noFine 19 = .ok (.ldc 64, 2) := by decide +kernel
theorem dX10_noFine_21 : decode cX10_noFine 21 = .ok (.ireturn, 1) := by decide +kernel
theorem dX10_noFine_22 : decode cX10_noFine 22 = .ok (.aload_n 0, 1) := by decide +kernel
theorem dX10_noFine_23 : decode cX10_noFine 23 = .ok (.iload_n 1, 1) := by decide +kernel
theorem dX10_noFine_24 : decode cX10_noFine 24 = .ok (.invokevirtual 42, 3) := by decide +kernel
theorem dX10_noFine_27 : decode cX10_noFine 27 = .ok (.ifCond .ne 16, 3) := by decide +kernel
theorem dX10_noFine_30 : decode cX10_noFine 30 = .ok (.aload_n 0, 1) := by decide +kernel
theorem dX10_noFine_31 : decode cX10_noFine 31 = .ok (.iload_n 1, 1) := by decide +kernel
theorem dX10_noFine_32 : decode cX10_noFine 32 = .ok (.invokevirtual 95, 3) := by decide +kernel
theorem dX10_noFine_35 : decode cX10_noFine 35 = .ok (.iload_n 2, 1) := by decide +kernel
theorem dX10_noFine_36 : decode cX10_noFine 36 = .ok (.isub, 1) := by decide +kernel
theorem dX10_noFine_37 : decode cX10_noFine 37 = .ok (.sipush (-4000), 3) := by decide +kernel
theorem dX10_noFine_40 : decode cX10_noFine 40 = .ok (.if_icmp .ge 8, 3) := by decide +kernel
theorem dX10_noFine_43 : decode cX10_noFine 43 = .ok (.ldc 37, 2) := by decide +kernel
theorem dX10_noFine_45 : decode cX10_noFine 45 = .ok (.goto 4, 3) := by decide +kernel
theorem dX10_noFine_48 : decode cX10_noFine 48 = .ok (.iconst 0, 1) := by decide +kernel
theorem dX10_noFine_49 : decode cX10_noFine 49 = .ok (.ireturn, 1) := by decide +kernel
theorem dX10_doFine_0 : decode cX10_doFine 0 = .ok (.aload_n 0, 1) := by decide +kernel
theorem dX10_doFine_1 : decode cX10_doFine 1 = .ok (.iload_n 1, 1) := by decide +kernel
theorem dX10_doFine_2 : decode cX10_doFine 2 = .ok (.bipush 6, 2) := by decide +kernel
theorem dX10_doFine_4 : decode cX10_doFine 4 = .ok (.iload_n 2, 1) := by decide +kernel
theorem dX10_doFine_5 : decode cX10_doFine 5 = .ok (.invokevirtual 104, 3) := by decide +kernel
theorem dX10_doFine_8 : decode cX10_doFine 8 = .ok (.sipush 5000, 3) := by decide +kernel
theorem dX10_doFine_11 : decode cX10_doFine 11 = .ok (.aload_n 0, 1) := by decide +kernel
theorem dX10_doFine_12 : decode cX10_doFine 12 = .ok (.iload_n 1, 1) := by decide +kernel
theorem dX10_doFine_13 : decode cX10_doFine 13 = .ok (.invokevirtual 95, 3) := by decide +kernel
theorem dX10_doFine_16 : decode cX10_doFine 16 = .ok (.iadd, 1) := by decide +kernel
theorem dX10_doFine_17 : decode cX10_doFine 17 = .ok (.ireturn, 1) := by decide +kernel
theorem dX10_fine_0 : decode cX10_fine 0 = .ok (.aload_n 0, 1) := by decide +kernel
theorem dX10_fine_1 : decode cX10_fine 1 = .ok (.iload_n 1, 1) := by decide +kernel
theorem dX10_fine_2 : decode cX10_fine 2 = .ok (.iload_n 2, 1) := by decide +kernel
theorem dX10_fine_3 : decode cX10_fine 3 = .ok (.invokevirtual 119, 3) := by decide +kernel
theorem dX10_fine_6 : decode cX10_fine 6 = .ok (.istore_n 3, 1) := by decide +kernel
theorem dX10_fine_7 : decode cX10_fine 7 = .ok (.iload_n 3, 1) := by decide +kernel
theorem dX10_fine_8 : decode cX10_fine 8 = .ok (.ifCond .ge 5, 3) := by decide +kernel
theorem dX10_fine_11 : decode cX10_fine 11 = .ok (.iload_n 3, 1) := by decide +kernel
theorem dX10_fine_12 : decode cX10_fine 12 = .ok (.ireturn, 1) := by decide +kernel
theorem dX10_fine_13 : decode cX10_fine 13 = .ok (.aload_n 0, 1) := by decide +kernel
theorem dX10_fine_14 : decode cX10_fine 14 = .ok (.aload_n 0, 1) := by decide +kernel
theorem dX10_fine_15 : decode cX10_fine 15 = .ok (.getfield 7, 3) := by decide +kernel
theorem dX10_fine_18 : decode cX10_fine 18 = .ok (.invokevirtual 76, 3) := by decide +kernel
theorem dX10_fine_21 : decode cX10_fine 21 = .ok (.aload_n 0, 1) := by decide +kernel
theorem dX10_fine_22 : decode cX10_fine 22 = .ok (.iload_n 1, 1) := by decide +kernel
theorem dX10_fine_23 : decode cX10_fine 23 = .ok (.iload_n 2, 1) := by decide +kernel
theorem dX10_fine_24 : decode cX10_fine 24 = .ok (.invokevirtual 122, 3) := by decide +kernel
theorem dX10_fine_27 : decode cX10_fine 27 = .ok (.ireturn, 1) := by decide +kernel
theorem dX10_ofWatch_0 : decode cX10_ofWatch 0 = .ok (.iconst 0, 1) := by decide +kernel
theorem dX10_ofWatch_1 : decode cX10_ofWatch 1 = .ok (.istore_n 3, 1) := by decide +kernel
theorem dX10_ofWatch_2 : decode cX10_ofWatch 2 = .ok (.iconst 0, 1) := by decide +kernel
theorem dX10_ofWatch_3 : decode cX10_ofWatch 3 = .ok (.istore 4, 2) := by decide +kernel
theorem dX10_ofWatch_5 : decode cX10_ofWatch 5 = .ok (.iload 4, 2) := by decide +kernel
theorem dX10_ofWatch_7 : decode cX10_ofWatch 7 = .ok (.iload_n 2, 1) := by decide +kernel
theorem dX10_ofWatch_8 : decode cX10_ofWatch 8 = .ok (.if_icmp .ge 37, 3) := by decide +kernel
theorem dX10_ofWatch_11 : decode cX10_ofWatch 11 = .ok (.iload_n 3, 1) := by decide +kernel
theorem dX10_ofWatch_12 : decode cX10_ofWatch 12 = .ok (.aload_n 0, 1) := by decide +kernel
theorem dX10_ofWatch_13 : decode cX10_ofWatch 13 = .ok (.iload 4, 2) := by decide +kernel
theorem dX10_ofWatch_15 : decode cX10_ofWatch 15 = .ok (.iconst 1, 1) := by decide +kernel
theorem dX10_ofWatch_16 : decode cX10_ofWatch 16 = .ok (.invokevirtual 29, 3) := by decide +kernel
theorem dX10_ofWatch_19 : decode cX10_ofWatch 19 = .ok (.iload_n 1, 1) := by decide +kernel
theorem dX10_ofWatch_20 : decode cX10_ofWatch 20 = .ok (.if_icmp .ne 16, 3) := by decide +kernel
theorem dX10_ofWatch_23 : decode cX10_ofWatch 23 = .ok (.aload_n 0, 1) := by decide +kernel
theorem dX10_ofWatch_24 : decode cX10_ofWatch 24 = .ok (.iload 4, 2) := by decide +kernel
theorem dX10_ofWatch_26 : decode cX10_ofWatch 26 = .ok (.invokevirtual 42, 3) := by decide +kernel
theorem dX10_ofWatch_29 : decode cX10_ofWatch 29 = .ok (.ifCond .ne 7, 3) := by decide +kernel
theorem dX10_ofWatch_32 : decode cX10_ofWatch 32 = .ok (.iconst 1, 1) := by decide +kernel
theorem dX10_ofWatch_33 : decode cX10_ofWatch 33 = .ok (.goto 4, 3) := by decide +kernel
theorem dX10_ofWatch_36 : decode cX10_ofWatch 36 = .ok (.iconst 0, 1) := by decide +kernel
theorem dX10_ofWatch_37 : decode cX10_ofWatch 37 = .ok (.iadd, 1) := by decide +kernel
theorem dX10_ofWatch_38 : decode cX10_ofWatch 38 = .ok (.istore_n 3, 1) := by decide +kernel
theorem dX10_ofWatch_39 : decode cX10_ofWatch 39 = .ok (.iinc 4 1, 3) := by decide +kernel
theorem dX10_ofWatch_42 : decode cX10_ofWatch 42 = .ok (.goto (-37), 3) := by decide +kernel
theorem dX10_ofWatch_45 : decode cX10_ofWatch 45 = .ok (.iload_n 3, 1) := by decide +kernel
theorem dX10_ofWatch_46 : decode cX10_ofWatch 46 = .ok (.ireturn, 1) := by decide +kernel
theorem dX10_partOf_0 : decode cX10_partOf 0 = .ok (.aload_n 0, 1) := by decide +kernel
theorem dX10_partOf_1 : decode cX10_partOf 1 = .ok (.iload_n 2, 1) := by decide +kernel
theorem dX10_partOf_2 : decode cX10_partOf 2 = .ok (.aload_n 0, 1) := by decide +kernel
theorem dX10_partOf_3 : decode cX10_partOf 3 = .ok (.getfield 7, 3) := by decide +kernel
theorem dX10_partOf_6 : decode cX10_partOf 6 = .ok (.sipush 194, 3) := by decide +kernel
theorem dX10_partOf_9 : decode cX10_partOf 9 = .ok (.iaload, 1) := by decide +kernel
theorem dX10_partOf_10 : decode cX10_partOf 10 = .ok (.invokevirtual 125, 3) := by decide +kernel
theorem dX10_partOf_13 : decode cX10_partOf 13 = .ok (.istore 4, 2) := by decide +kernel
theorem dX10_partOf_15 : decode cX10_partOf 15 = .ok (.iload_n 3, 1) := by decide +kernel
theorem dX10_partOf_16 : decode cX10_partOf 16 = .ok (.iload 4, 2) := by decide +kernel
theorem dX10_partOf_18 : decode cX10_partOf 18 = .ok (.idiv, 1) := by decide +kernel
theorem dX10_partOf_19 : decode cX10_partOf 19 = .ok (.aload_n 0, 1) := by decide +kernel
theorem dX10_partOf_20 : decode cX10_partOf 20 = .ok (.iload_n 2, 1) := by decide +kernel
theorem dX10_partOf_21 : decode cX10_partOf 21 = .ok (.iload_n 1, 1) := by decide +kernel
theorem dX10_partOf_22 : decode cX10_partOf 22 = .ok (.invokevirtual 125, 3) := by decide +kernel
theorem dX10_partOf_25 : decode cX10_partOf 25 = .ok (.iload_n 3, 1) := by decide +kernel
theorem dX10_partOf_26 : decode cX10_partOf 26 = .ok (.iload 4, 2) := by decide +kernel
theorem dX10_partOf_28 : decode cX10_partOf 28 = .ok (.irem, 1) := by decide +kernel
theorem dX10_partOf_29 : decode cX10_partOf 29 = .ok (.if_icmp .ge 7, 3) := by decide +kernel
theorem dX10_partOf_32 : decode cX10_partOf 32 = .ok (.iconst 1, 1) := by decide +kernel
theorem dX10_partOf_33 : decode cX10_partOf 33 = .ok (.goto 4, 3) := by decide +kernel
theorem dX10_partOf_36 : decode cX10_partOf 36 = .ok (.iconst 0, 1) := by decide +kernel
theorem dX10_partOf_37 : decode cX10_partOf 37 = .ok (.iadd, 1) := by decide +kernel
theorem dX10_partOf_38 : decode cX10_partOf 38 = .ok (.ireturn, 1) := by decide +kernel
theorem dX10_isFined_0 : decode cX10_isFined 0 = .ok (.aload_n 0, 1) := by decide +kernel
theorem dX10_isFined_1 : decode cX10_isFined 1 = .ok (.iload_n 1, 1) := by decide +kernel
theorem dX10_isFined_2 : decode cX10_isFined 2 = .ok (.iconst 1, 1) := by decide +kernel
theorem dX10_isFined_3 : decode cX10_isFined 3 = .ok (.invokevirtual 29, 3) := by decide +kernel
theorem dX10_isFined_6 : decode cX10_isFined 6 = .ok (.iload_n 2, 1) := by decide +kernel
theorem dX10_isFined_7 : decode cX10_isFined 7 = .ok (.if_icmp .ne 15, 3) := by decide +kernel
theorem dX10_isFined_10 : decode cX10_isFined 10 = .ok (.aload_n 0, 1) := by decide +kernel
theorem dX10_isFined_11 : decode cX10_isFined 11 = .ok (.iload_n 1, 1) := by decide +kernel
theorem dX10_isFined_12 : decode cX10_isFined 12 = .ok (.invokevirtual 42, 3) := by decide +kernel
theorem dX10_isFined_15 : decode cX10_isFined 15 = .ok (.ifCond .ne 7, 3) := by decide +kernel
theorem dX10_isFined_18 : decode cX10_isFined 18 = .ok (.iconst 1, 1) := by decide +kernel
theorem dX10_isFined_19 : decode cX10_isFined 19 = .ok (.goto 4, 3) := by decide +kernel
theorem dX10_isFined_22 : decode cX10_isFined 22 = .ok (.iconst 0, 1) := by decide +kernel
theorem dX10_isFined_23 : decode cX10_isFined 23 = .ok (.ireturn, 1) := by decide +kernel
theorem dX10_fineWatch_0 : decode cX10_fineWatch 0 = .ok (.iload_n 1, 1) := by decide +kernel
theorem dX10_fineWatch_1 : decode cX10_fineWatch 1 = .ok (.iconst 0, 1) := by decide +kernel
theorem dX10_fineWatch_2 : decode cX10_fineWatch 2 = .ok (.iconst 1, 1) := by decide +kernel
theorem dX10_fineWatch_3 : decode cX10_fineWatch 3 = .ok (.invokestatic 25, 3) := by decide +kernel
theorem dX10_fineWatch_6 : decode cX10_fineWatch 6 = .ok (.ifCond .eq 14, 3) := by decide +kernel
theorem dX10_fineWatch_9 : decode cX10_fineWatch 9 = .ok (.iload_n 2, 1) := by decide +kernel
theorem dX10_fineWatch_10 : decode cX10_fineWatch 10 = .ok (.iconst 1, 1) := by decide +kernel
theorem dX10_fineWatch_11 : decode cX10_fineWatch 11 = .ok (.sipush 999, 3) := by decide +kernel
theorem dX10_fineWatch_14 : decode cX10_fineWatch 14 = .ok (.invokestatic 25, 3) := by decide +kernel
theorem dX10_fineWatch_17 : decode cX10_fineWatch 17 = .ok (.ifCond .ne 6, 3) := by decide +kernel
theorem dX10_fineWatch_20 : decode cX10_fineWatch 20 = .ok (.ldc 64, 2) := by decide +kernel
theorem dX10_fineWatch_22 : decode cX10_fineWatch 22 = .ok (.ireturn, 1) := by decide +kernel
theorem dX10_fineWatch_23 : decode cX10_fineWatch 23 = .ok (.aload_n 0, 1) := by decide +kernel
theorem dX10_fineWatch_24 : decode cX10_fineWatch 24 = .ok (.iload_n 1, 1) := by decide +kernel
theorem dX10_fineWatch_25 : decode cX10_fineWatch 25 = .ok (.aload_n 0, 1) := by decide +kernel
theorem dX10_fineWatch_26 : decode cX10_fineWatch 26 = .ok (.getfield 7, 3) := by decide +kernel
theorem dX10_fineWatch_29 : decode cX10_fineWatch 29 = .ok (.sipush 194, 3) := by decide +kernel
theorem dX10_fineWatch_32 : decode cX10_fineWatch 32 = .ok (.iaload, 1) := by decide +kernel
theorem dX10_fineWatch_33 : decode cX10_fineWatch 33 = .ok (.invokevirtual 125, 3) := by decide +kernel
theorem dX10_fineWatch_36 : decode cX10_fineWatch 36 = .ok (.istore_n 3, 1) := by decide +kernel
theorem dX10_fineWatch_37 : decode cX10_fineWatch 37 = .ok (.iload_n 3, 1) := by decide +kernel
theorem dX10_fineWatch_38 : decode cX10_fineWatch 38 = .ok (.ifCond .le 7, 3) := by decide +kernel
theorem dX10_fineWatch_41 : decode cX10_fineWatch 41 = .ok (.iconst 1, 1) := by decide +kernel
theorem dX10_fineWatch_42 : decode cX10_fineWatch 42 = .ok (.goto 4, 3) := by decide +kernel
theorem dX10_fineWatch_45 : decode cX10_fineWatch 45 = .ok (.iconst 0, 1) := by decide +kernel
theorem dX10_fineWatch_46 : decode cX10_fineWatch 46 = .ok (.istore 4, 2) := by decide +kernel
theorem dX10_fineWatch_48 : decode cX10_fineWatch 48 = .ok (.iconst 0, 1) := by decide +kernel
theorem dX10_fineWatch_49 : decode cX10_fineWatch 49 = .ok (.istore 5, 2) := by decide +kernel
theorem dX10_fineWatch_51 : decode cX10_fineWatch 51 = .ok (.iload 5, 2) := by decide +kernel
theorem dX10_fineWatch_53 : decode cX10_fineWatch 53 = .ok (.aload_n 0, 1) := by decide +kernel
theorem dX10_fineWatch_54 : decode cX10_fineWatch 54 = .ok (.getfield 7, 3) := by decide +kernel
theorem dX10_fineWatch_57 : decode cX10_fineWatch 57 = .ok (.sipush 194, 3) := by decide +kernel
theorem dX10_fineWatch_60 : decode cX10_fineWatch 60 = .ok (.iaload, 1) := by decide +kernel
theorem dX10_fineWatch_61 : decode cX10_fineWatch 61 = .ok (.if_icmp .ge 52, 3) := by decide +kernel
theorem dX10_fineWatch_64 : decode cX10_fineWatch 64 = .ok (.iload 4, 2) := by decide +kernel
theorem dX10_fineWatch_66 : decode cX10_fineWatch 66 = .ok (.ifCond .eq 38, 3) := by decide +kernel
theorem dX10_fineWatch_69 : decode cX10_fineWatch 69 = .ok (.aload_n 0, 1) := by decide +kernel
theorem dX10_fineWatch_70 : decode cX10_fineWatch 70 = .ok (.iload 5, 2) := by decide +kernel
theorem dX10_fineWatch_72 : decode cX10_fineWatch 72 = .ok (.iload_n 1, 1) := by decide +kernel
theorem dX10_fineWatch_73 : decode cX10_fineWatch 73 = .ok (.invokevirtual 128, 3) := by decide +kernel
theorem dX10_fineWatch_76 : decode cX10_fineWatch 76 = .ok (.ifCond .eq 24, 3) := by decide +kernel
theorem dX10_fineWatch_79 : decode cX10_fineWatch 79 = .ok (.aload_n 0, 1) := by decide +kernel
theorem dX10_fineWatch_80 : decode cX10_fineWatch 80 = .ok (.iload 5, 2) := by decide +kernel
theorem dX10_fineWatch_82 : decode cX10_fineWatch 82 = .ok (.invokevirtual 95, 3) := by decide +kernel
theorem dX10_fineWatch_85 : decode cX10_fineWatch 85 = .ok (.aload_n 0, 1) := by decide +kernel
theorem dX10_fineWatch_86 : decode cX10_fineWatch 86 = .ok (.iload 5, 2) := by decide +kernel
theorem dX10_fineWatch_88 : decode cX10_fineWatch 88 = .ok (.iload_n 1, 1) := by decide +kernel
theorem dX10_fineWatch_89 : decode cX10_fineWatch 89 = .ok (.iload_n 2, 1) := by decide +kernel
theorem dX10_fineWatch_90 : decode cX10_fineWatch 90 = .ok (.invokevirtual 132, 3) := by decide +kernel
theorem dX10_fineWatch_93 : decode cX10_fineWatch 93 = .ok (.isub, 1) := by decide +kernel
theorem dX10_fineWatch_94 : decode cX10_fineWatch 94 = .ok (.sipush (-4000), 3) := by decide +kernel
theorem dX10_fineWatch_97 : decode cX10_fineWatch 97 = .ok (.if_icmp .lt 7, 3) := by decide +kernel
theorem dX10_fineWatch_100 : decode cX10_fineWatch 100 = .ok (.iconst 1, 1) := by decide +kernel
theorem dX10_fineWatch_101 : decode cX10_fineWatch 101 = .ok (.goto 4, 3) := by decide +kernel
theorem dX10_fineWatch_104 : decode cX10_fineWatch 104 = .ok (.iconst 0, 1) := by decide +kernel
theorem dX10_fineWatch_105 : decode cX10_fineWatch 105 = .ok (.istore 4, 2) := by decide +kernel
theorem dX10_fineWatch_107 : decode cX10_fineWatch 107 = .ok (.iinc 5 1, 3) := by decide +kernel
theorem dX10_fineWatch_110 : decode cX10_fineWatch 110 = .ok (.goto (-59), 3) := by decide +kernel
theorem dX10_fineWatch_113 : decode cX10_fineWatch 113 = .ok (.iload 4, 2) := by decide +kernel
theorem dX10_fineWatch_115 : decode cX10_fineWatch 115 = .ok (.ifCond .ne 6, 3) := by decide +kernel
theorem dX10_fineWatch_118 : decode cX10_fineWatch 118 = .ok (.ldc 37, 2) := by decide +kernel
theorem dX10_fineWatch_120 : decode cX10_fineWatch 120 = .ok (.ireturn, 1) := by decide +kernel
theorem dX10_fineWatch_121 : decode cX10_fineWatch 121 = .ok (.aload_n 0, 1) := by decide +kernel
theorem dX10_fineWatch_122 : decode cX10_fineWatch 122 = .ok (.aload_n 0, 1) := by decide +kernel
theorem dX10_fineWatch_123 : decode cX10_fineWatch 123 = .ok (.getfield 7, 3) := by decide +kernel
theorem dX10_fineWatch_126 : decode cX10_fineWatch 126 = .ok (.invokevirtual 76, 3) := by decide +kernel
theorem dX10_fineWatch_129 : decode cX10_fineWatch 129 = .ok (.iconst 0, 1) := by decide +kernel
theorem dX10_fineWatch_130 : decode cX10_fineWatch 130 = .ok (.istore 5, 2) := by decide +kernel
theorem dX10_fineWatch_132 : decode cX10_fineWatch 132 = .ok (.iload 5, 2) := by decide +kernel
theorem dX10_fineWatch_134 : decode cX10_fineWatch 134 = .ok (.aload_n 0, 1) := by decide +kernel
theorem dX10_fineWatch_135 : decode cX10_fineWatch 135 = .ok (.getfield 7, 3) := by decide +kernel
theorem dX10_fineWatch_138 : decode cX10_fineWatch 138 = .ok (.sipush 194, 3) := by decide +kernel
theorem dX10_fineWatch_141 : decode cX10_fineWatch 141 = .ok (.iaload, 1) := by decide +kernel
theorem dX10_fineWatch_142 : decode cX10_fineWatch 142 = .ok (.if_icmp .ge 35, 3) := by decide +kernel
theorem dX10_fineWatch_145 : decode cX10_fineWatch 145 = .ok (.aload_n 0, 1) := by decide +kernel
theorem dX10_fineWatch_146 : decode cX10_fineWatch 146 = .ok (.iload 5, 2) := by decide +kernel
theorem dX10_fineWatch_148 : decode cX10_fineWatch 148 = .ok (.iload_n 1, 1) := by decide +kernel
theorem dX10_fineWatch_149 : decode cX10_fineWatch 149 = .ok (.invokevirtual 128, 3) := by decide +kernel
theorem dX10_fineWatch_152 : decode cX10_fineWatch 152 = .ok (.ifCond .eq 19, 3) := by decide +kernel
theorem dX10_fineWatch_155 : decode cX10_fineWatch 155 = .ok (.aload_n 0, 1) := by decide +kernel
theorem dX10_fineWatch_156 : decode cX10_fineWatch 156 = .ok (.iload 5, 2) := by decide +kernel
theorem dX10_fineWatch_158 : decode cX10_fineWatch 158 = .ok (.bipush 6, 2) := by decide +kernel
theorem dX10_fineWatch_160 : decode cX10_fineWatch 160 = .ok (.aload_n 0, 1) := by decide +kernel
theorem dX10_fineWatch_161 : decode cX10_fineWatch 161 = .ok (.iload 5, 2) := by decide +kernel
theorem dX10_fineWatch_163 : decode cX10_fineWatch 163 = .ok (.iload_n 1, 1) := by decide +kernel
theorem dX10_fineWatch_164 : decode cX10_fineWatch 164 = .ok (.iload_n 2, 1) := by decide +kernel
theorem dX10_fineWatch_165 : decode cX10_fineWatch 165 = .ok (.invokevirtual 132, 3) := by decide +kernel
theorem dX10_fineWatch_168 : decode cX10_fineWatch 168 = .ok (.invokevirtual 104, 3) := by decide +kernel
theorem dX10_fineWatch_171 : decode cX10_fineWatch 171 = .ok (.iinc 5 1, 3) := by decide +kernel
theorem dX10_fineWatch_174 : decode cX10_fineWatch 174 = .ok (.goto (-42), 3) := by decide +kernel
theorem dX10_fineWatch_177 : decode cX10_fineWatch 177 = .ok (.iload_n 3, 1) := by decide +kernel
theorem dX10_fineWatch_178 : decode cX10_fineWatch 178 = .ok (.ireturn, 1) := by decide +kernel
theorem dX10_inPlace_0 : decode cX10_inPlace 0 = .ok (.iconst 0, 1) := by decide +kernel
theorem dX10_inPlace_1 : decode cX10_inPlace 1 = .ok (.istore_n 2, 1) := by decide +kernel
theorem dX10_inPlace_2 : decode cX10_inPlace 2 = .ok (.iconst 0, 1) := by decide +kernel
theorem dX10_inPlace_3 : decode cX10_inPlace 3 = .ok (.istore_n 3, 1) := by decide +kernel
theorem dX10_inPlace_4 : decode cX10_inPlace 4 = .ok (.iload_n 3, 1) := by decide +kernel
theorem dX10_inPlace_5 : decode cX10_inPlace 5 = .ok (.aload_n 0, 1) := by decide +kernel
theorem dX10_inPlace_6 : decode cX10_inPlace 6 = .ok (.getfield 7, 3) := by decide +kernel
theorem dX10_inPlace_9 : decode cX10_inPlace 9 = .ok (.sipush 194, 3) := by decide +kernel
theorem dX10_inPlace_12 : decode cX10_inPlace 12 = .ok (.iaload, 1) := by decide +kernel
theorem dX10_inPlace_13 : decode cX10_inPlace 13 = .ok (.if_icmp .ge 29, 3) := by decide +kernel
theorem dX10_inPlace_16 : decode cX10_inPlace 16 = .ok (.iload_n 2, 1) := by decide +kernel
theorem dX10_inPlace_17 : decode cX10_inPlace 17 = .ok (.aload_n 0, 1) := by decide +kernel
theorem dX10_inPlace_18 : decode cX10_inPlace 18 = .ok (.iload_n 3, 1) := by decide +kernel
theorem dX10_inPlace_19 : decode cX10_inPlace 19 = .ok (.iconst 2, 1) := by decide +kernel
theorem dX10_inPlace_20 : decode cX10_inPlace 20 = .ok (.invokevirtual 29, 3) := by decide +kernel
theorem dX10_inPlace_23 : decode cX10_inPlace 23 = .ok (.iload_n 1, 1) := by decide +kernel
theorem dX10_inPlace_24 : decode cX10_inPlace 24 = .ok (.if_icmp .ne 9, 3) := by decide +kernel
theorem dX10_inPlace_27 : decode cX10_inPlace 27 = .ok (.iconst 1, 1) := by decide +kernel
theorem dX10_inPlace_28 : decode cX10_inPlace 28 = .ok (.iload_n 3, 1) := by decide +kernel
theorem dX10_inPlace_29 : decode cX10_inPlace 29 = .ok (.ishl, 1) := by decide +kernel
theorem dX10_inPlace_30 : decode cX10_inPlace 30 = .ok (.goto 4, 3) := by decide +kernel
theorem dX10_inPlace_33 : decode cX10_inPlace 33 = .ok (.iconst 0, 1) := by decide +kernel
theorem dX10_inPlace_34 : decode cX10_inPlace 34 = .ok (.ior, 1) := by decide +kernel
theorem dX10_inPlace_35 : decode cX10_inPlace 35 = .ok (.istore_n 2, 1) := by decide +kernel
theorem dX10_inPlace_36 : decode cX10_inPlace 36 = .ok (.iinc 3 1, 3) := by decide +kernel
theorem dX10_inPlace_39 : decode cX10_inPlace 39 = .ok (.goto (-35), 3) := by decide +kernel
theorem dX10_inPlace_42 : decode cX10_inPlace 42 = .ok (.iload_n 2, 1) := by decide +kernel
theorem dX10_inPlace_43 : decode cX10_inPlace 43 = .ok (.ireturn, 1) := by decide +kernel
theorem dX10_aboardOf_0 : decode cX10_aboardOf 0 = .ok (.iconst 0, 1) := by decide +kernel
theorem dX10_aboardOf_1 : decode cX10_aboardOf 1 = .ok (.istore_n 2, 1) := by decide +kernel
theorem dX10_aboardOf_2 : decode cX10_aboardOf 2 = .ok (.iconst 0, 1) := by decide +kernel
theorem dX10_aboardOf_3 : decode cX10_aboardOf 3 = .ok (.istore_n 3, 1) := by decide +kernel
theorem dX10_aboardOf_4 : decode cX10_aboardOf 4 = .ok (.iload_n 3, 1) := by decide +kernel
theorem dX10_aboardOf_5 : decode cX10_aboardOf 5 = .ok (.aload_n 0, 1) := by decide +kernel
theorem dX10_aboardOf_6 : decode cX10_aboardOf 6 = .ok (.getfield 7, 3) := by decide +kernel
theorem dX10_aboardOf_9 : decode cX10_aboardOf 9 = .ok (.sipush 194, 3) := by decide +kernel
theorem dX10_aboardOf_12 : decode cX10_aboardOf 12 = .ok (.iaload, 1) := by decide +kernel
theorem dX10_aboardOf_13 : decode cX10_aboardOf 13 = .ok (.if_icmp .ge 36, 3) := by decide +kernel
theorem dX10_aboardOf_16 : decode cX10_aboardOf 16 = .ok (.iload_n 2, 1) := by decide +kernel
theorem dX10_aboardOf_17 : decode cX10_aboardOf 17 = .ok (.aload_n 0, 1) := by decide +kernel
theorem dX10_aboardOf_18 : decode cX10_aboardOf 18 = .ok (.iload_n 3, 1) := by decide +kernel
theorem dX10_aboardOf_19 : decode cX10_aboardOf 19 = .ok (.iconst 1, 1) := by decide +kernel
theorem dX10_aboardOf_20 : decode cX10_aboardOf 20 = .ok (.invokevirtual 29, 3) := by decide +kernel
theorem dX10_aboardOf_23 : decode cX10_aboardOf 23 = .ok (.iload_n 1, 1) := by decide +kernel
theorem dX10_aboardOf_24 : decode cX10_aboardOf 24 = .ok (.if_icmp .ne 16, 3) := by decide +kernel
theorem dX10_aboardOf_27 : decode cX10_aboardOf 27 = .ok (.aload_n 0, 1) := by decide +kernel
theorem dX10_aboardOf_28 : decode cX10_aboardOf 28 = .ok (.iload_n 3, 1) := by decide +kernel
theorem dX10_aboardOf_29 : decode cX10_aboardOf 29 = .ok (.iconst 2, 1) := by decide +kernel
theorem dX10_aboardOf_30 : decode cX10_aboardOf 30 = .ok (.invokevirtual 29, 3) := by decide +kernel
theorem dX10_aboardOf_33 : decode cX10_aboardOf 33 = .ok (.ifCond .ne 7, 3) := by decide +kernel
theorem dX10_aboardOf_36 : decode cX10_aboardOf 36 = .ok (.iconst 1, 1) := by decide +kernel
theorem dX10_aboardOf_37 : decode cX10_aboardOf 37 = .ok (.goto 4, 3) := by decide +kernel
theorem dX10_aboardOf_40 : decode cX10_aboardOf 40 = .ok (.iconst 0, 1) := by decide +kernel
theorem dX10_aboardOf_41 : decode cX10_aboardOf 41 = .ok (.iadd, 1) := by decide +kernel
theorem dX10_aboardOf_42 : decode cX10_aboardOf 42 = .ok (.istore_n 2, 1) := by decide +kernel
theorem dX10_aboardOf_43 : decode cX10_aboardOf 43 = .ok (.iinc 3 1, 3) := by decide +kernel
theorem dX10_aboardOf_46 : decode cX10_aboardOf 46 = .ok (.goto (-42), 3) := by decide +kernel
theorem dX10_aboardOf_49 : decode cX10_aboardOf 49 = .ok (.iload_n 2, 1) := by decide +kernel
theorem dX10_aboardOf_50 : decode cX10_aboardOf 50 = .ok (.ireturn, 1) := by decide +kernel
theorem dX10_noLeave_0 : decode cX10_noLeave 0 = .ok (.iload_n 1, 1) := by decide +kernel
theorem dX10_noLeave_1 : decode cX10_noLeave 1 = .ok (.iconst 0, 1) := by decide +kernel
theorem dX10_noLeave_2 : decode cX10_noLeave 2 = .ok (.iconst 1, 1) := by decide +kernel
theorem dX10_noLeave_3 : decode cX10_noLeave 3 = .ok (.invokestatic 25, 3) := by decide +kernel
theorem dX10_noLeave_6 : decode cX10_noLeave 6 = .ok (.ifCond .ne 6, 3) := by decide +kernel
theorem dX10_noLeave_9 : decode cX10_noLeave 9 = .ok (.ldc 64, 2) := by decide +kernel
theorem dX10_noLeave_11 : decode cX10_noLeave 11 = .ok (.ireturn, 1) := by decide +kernel
theorem dX10_noLeave_12 : decode cX10_noLeave 12 = .ok (.aload_n 0, 1) := by decide +kernel
theorem dX10_noLeave_13 : decode cX10_noLeave 13 = .ok (.invokevirtual 65, 3) := by decide +kernel
theorem dX10_noLeave_16 : decode cX10_noLeave 16 = .ok (.ifCond .ne 19, 3) := by decide +kernel
theorem dX10_noLeave_19 : decode cX10_noLeave 19 = .ok (.aload_n 0, 1) := by decide +kernel
theorem dX10_noLeave_20 : decode cX10_noLeave 20 = .ok (.iconst 1, 1) := by decide +kernel
theorem dX10_noLeave_21 : decode cX10_noLeave 21 = .ok (.invokevirtual 135, 3) := by decide +kernel
theorem dX10_noLeave_24 : decode cX10_noLeave 24 = .ok (.ifCond .ne 11, 3) := by decide +kernel
theorem dX10_noLeave_27 : decode cX10_noLeave 27 = .ok (.aload_n 0, 1) := by decide +kernel
theorem dX10_noLeave_28 : decode cX10_noLeave 28 = .ok (.iload_n 1, 1) := by decide +kernel
theorem dX10_noLeave_29 : decode cX10_noLeave 29 = .ok (.invokevirtual 138, 3) := by decide +kernel
theorem dX10_noLeave_32 : decode cX10_noLeave 32 = .ok (.ifCond .ne 8, 3) := by decide +kernel
theorem dX10_noLeave_35 : decode cX10_noLeave 35 = .ok (.ldc 37, 2) := by decide +kernel
theorem dX10_noLeave_37 : decode cX10_noLeave 37 = .ok (.goto 4, 3) := by decide +kernel
theorem dX10_noLeave_40 : decode cX10_noLeave 40 = .ok (.iconst 0, 1) := by decide +kernel
theorem dX10_noLeave_41 : decode cX10_noLeave 41 = .ok (.ireturn, 1) := by decide +kernel
theorem dX10_doLeave_0 : decode cX10_doLeave 0 = .ok (.aload_n 0, 1) := by decide +kernel
theorem dX10_doLeave_1 : decode cX10_doLeave 1 = .ok (.iload_n 1, 1) := by decide +kernel
theorem dX10_doLeave_2 : decode cX10_doLeave 2 = .ok (.invokevirtual 138, 3) := by decide +kernel
theorem dX10_doLeave_5 : decode cX10_doLeave 5 = .ok (.istore_n 2, 1) := by decide +kernel
theorem dX10_doLeave_6 : decode cX10_doLeave 6 = .ok (.iconst 0, 1) := by decide +kernel
theorem dX10_doLeave_7 : decode cX10_doLeave 7 = .ok (.istore_n 3, 1) := by decide +kernel
theorem dX10_doLeave_8 : decode cX10_doLeave 8 = .ok (.iload_n 3, 1) := by decide +kernel
theorem dX10_doLeave_9 : decode cX10_doLeave 9 = .ok (.aload_n 0, 1) := by decide +kernel
theorem dX10_doLeave_10 : decode cX10_doLeave 10 = .ok (.getfield 7, 3) := by decide +kernel
theorem dX10_doLeave_13 : decode cX10_doLeave 13 = .ok (.sipush 194, 3) := by decide +kernel
theorem dX10_doLeave_16 : decode cX10_doLeave 16 = .ok (.iaload, 1) := by decide +kernel
theorem dX10_doLeave_17 : decode cX10_doLeave 17 = .ok (.if_icmp .ge 35, 3) := by decide +kernel
theorem dX10_doLeave_20 : decode cX10_doLeave 20 = .ok (.aload_n 0, 1) := by decide +kernel
theorem dX10_doLeave_21 : decode cX10_doLeave 21 = .ok (.iload_n 3, 1) := by decide +kernel
theorem dX10_doLeave_22 : decode cX10_doLeave 22 = .ok (.iconst 1, 1) := by decide +kernel
theorem dX10_doLeave_23 : decode cX10_doLeave 23 = .ok (.invokevirtual 29, 3) := by decide +kernel
theorem dX10_doLeave_26 : decode cX10_doLeave 26 = .ok (.iload_n 1, 1) := by decide +kernel
theorem dX10_doLeave_27 : decode cX10_doLeave 27 = .ok (.if_icmp .ne 19, 3) := by decide +kernel
theorem dX10_doLeave_30 : decode cX10_doLeave 30 = .ok (.aload_n 0, 1) := by decide +kernel
theorem dX10_doLeave_31 : decode cX10_doLeave 31 = .ok (.iload_n 3, 1) := by decide +kernel
theorem dX10_doLeave_32 : decode cX10_doLeave 32 = .ok (.iconst 2, 1) := by decide +kernel
theorem dX10_doLeave_33 : decode cX10_doLeave 33 = .ok (.invokevirtual 29, 3) := by decide +kernel
theorem dX10_doLeave_36 : decode cX10_doLeave 36 = .ok (.ifCond .ne 10, 3) := by decide +kernel
theorem dX10_doLeave_39 : decode cX10_doLeave 39 = .ok (.aload_n 0, 1) := by decide +kernel
theorem dX10_doLeave_40 : decode cX10_doLeave 40 = .ok (.iload_n 3, 1) := by decide +kernel
theorem dX10_doLeave_41 : decode cX10_doLeave 41 = .ok (.iconst 2, 1) := by decide +kernel
theorem dX10_doLeave_42 : decode cX10_doLeave 42 = .ok (.iconst 1, 1) := by decide +kernel
theorem dX10_doLeave_43 : decode cX10_doLeave 43 = .ok (.invokevirtual 53, 3) := by decide +kernel
theorem dX10_doLeave_46 : decode cX10_doLeave 46 = .ok (.iinc 3 1, 3) := by decide +kernel
theorem dX10_doLeave_49 : decode cX10_doLeave 49 = .ok (.goto (-41), 3) := by decide +kernel
theorem dX10_doLeave_52 : decode cX10_doLeave 52 = .ok (.iload_n 2, 1) := by decide +kernel
theorem dX10_doLeave_53 : decode cX10_doLeave 53 = .ok (.ireturn, 1) := by decide +kernel
theorem dX10_leave_0 : decode cX10_leave 0 = .ok (.aload_n 0, 1) := by decide +kernel
theorem dX10_leave_1 : decode cX10_leave 1 = .ok (.iload_n 1, 1) := by decide +kernel
theorem dX10_leave_2 : decode cX10_leave 2 = .ok (.invokevirtual 141, 3) := by decide +kernel
theorem dX10_leave_5 : decode cX10_leave 5 = .ok (.istore_n 2, 1) := by decide +kernel
theorem dX10_leave_6 : decode cX10_leave 6 = .ok (.iload_n 2, 1) := by decide +kernel
theorem dX10_leave_7 : decode cX10_leave 7 = .ok (.ifCond .ge 5, 3) := by decide +kernel
theorem dX10_leave_10 : decode cX10_leave 10 = .ok (.iload_n 2, 1) := by decide +kernel
theorem dX10_leave_11 : decode cX10_leave 11 = .ok (.ireturn, 1) := by decide +kernel
theorem dX10_leave_12 : decode cX10_leave 12 = .ok (.aload_n 0, 1) := by decide +kernel
theorem dX10_leave_13 : decode cX10_leave 13 = .ok (.aload_n 0, 1) := by decide +kernel
theorem dX10_leave_14 : decode cX10_leave 14 = .ok (.getfield 7, 3) := by decide +kernel
theorem dX10_leave_17 : decode cX10_leave 17 = .ok (.invokevirtual 76, 3) := by decide +kernel
theorem dX10_leave_20 : decode cX10_leave 20 = .ok (.aload_n 0, 1) := by decide +kernel
theorem dX10_leave_21 : decode cX10_leave 21 = .ok (.iload_n 1, 1) := by decide +kernel
theorem dX10_leave_22 : decode cX10_leave 22 = .ok (.invokevirtual 144, 3) := by decide +kernel
theorem dX10_leave_25 : decode cX10_leave 25 = .ok (.ireturn, 1) := by decide +kernel
theorem dX10_noBack_0 : decode cX10_noBack 0 = .ok (.aload_n 0, 1) := by decide +kernel
theorem dX10_noBack_1 : decode cX10_noBack 1 = .ok (.iload_n 1, 1) := by decide +kernel
theorem dX10_noBack_2 : decode cX10_noBack 2 = .ok (.invokevirtual 98, 3) := by decide +kernel
theorem dX10_noBack_5 : decode cX10_noBack 5 = .ok (.ifCond .eq 13, 3) := by decide +kernel
theorem dX10_noBack_8 : decode cX10_noBack 8 = .ok (.iload_n 2, 1) := by decide +kernel
theorem dX10_noBack_9 : decode cX10_noBack 9 = .ok (.iconst 0, 1) := by decide +kernel
theorem dX10_noBack_10 : decode cX10_noBack 10 = .ok (.bipush 99, 2) := by decide +kernel
theorem dX10_noBack_12 : decode cX10_noBack 12 = .ok (.invokestatic 25, 3) := by decide +kernel
theorem dX10_noBack_15 : decode cX10_noBack 15 = .ok (.ifCond .ne 6, 3) := by decide +kernel
theorem dX10_noBack_18 : decode cX10_noBack 18 = .ok (.ldc 64, 2) := by decide +kernel
theorem dX10_noBack_20 : decode cX10_noBack 20 = .ok (.ireturn, 1) := by decide +kernel
theorem dX10_noBack_21 : decode cX10_noBack 21 = .ok (.aload_n 0, 1) := by decide +kernel
theorem dX10_noBack_22 : decode cX10_noBack 22 = .ok (.iload_n 1, 1) := by decide +kernel
theorem dX10_noBack_23 : decode cX10_noBack 23 = .ok (.iconst 2, 1) := by decide +kernel
theorem dX10_noBack_24 : decode cX10_noBack 24 = .ok (.invokevirtual 29, 3) := by decide +kernel
theorem dX10_noBack_27 : decode cX10_noBack 27 = .ok (.iconst 1, 1) := by decide +kernel
theorem dX10_noBack_28 : decode cX10_noBack 28 = .ok (.if_icmp .ne 25, 3) := by decide +kernel
theorem dX10_noBack_31 : decode cX10_noBack 31 = .ok (.aload_n 0, 1) := by decide +kernel
theorem dX10_noBack_32 : decode cX10_noBack 32 = .ok (.iload_n 1, 1) := by decide +kernel
theorem dX10_noBack_33 : decode cX10_noBack 33 = .ok (.invokevirtual 95, 3) := by decide +kernel
theorem dX10_noBack_36 : decode cX10_noBack 36 = .ok (.iload_n 2, 1) := by decide +kernel
theorem dX10_noBack_37 : decode cX10_noBack 37 = .ok (.aload_n 0, 1) := by decide +kernel
theorem dX10_noBack_38 : decode cX10_noBack 38 = .ok (.getfield 7, 3) := by decide +kernel
theorem dX10_noBack_41 : decode cX10_noBack 41 = .ok (.sipush 205, 3) := by decide +kernel
theorem dX10_noBack_44 : decode cX10_noBack 44 = .ok (.iaload, 1) := by decide +kernel
theorem dX10_noBack_45 : decode cX10_noBack 45 = .ok (.imul, 1) := by decide +kernel
theorem dX10_noBack_46 : decode cX10_noBack 46 = .ok (.isub, 1) := by decide +kernel
theorem dX10_noBack_47 : decode cX10_noBack 47 = .ok (.sipush (-4000), 3) := by decide +kernel
theorem dX10_noBack_50 : decode cX10_noBack 50 = .ok (.if_icmp .ge 8, 3) := by decide +kernel
theorem dX10_noBack_53 : decode cX10_noBack 53 = .ok (.ldc 37, 2) := by decide +kernel
theorem dX10_noBack_55 : decode cX10_noBack 55 = .ok (.goto 4, 3) := by decide +kernel
theorem dX10_noBack_58 : decode cX10_noBack 58 = .ok (.iconst 0, 1) := by decide +kernel
theorem dX10_noBack_59 : decode cX10_noBack 59 = .ok (.ireturn, 1) := by decide +kernel
theorem dX10_doBack_0 : decode cX10_doBack 0 = .ok (.aload_n 0, 1) := by decide +kernel
theorem dX10_doBack_1 : decode cX10_doBack 1 = .ok (.iload_n 1, 1) := by decide +kernel
theorem dX10_doBack_2 : decode cX10_doBack 2 = .ok (.iconst 2, 1) := by decide +kernel
theorem dX10_doBack_3 : decode cX10_doBack 3 = .ok (.iconst 0, 1) := by decide +kernel
theorem dX10_doBack_4 : decode cX10_doBack 4 = .ok (.invokevirtual 53, 3) := by decide +kernel
theorem dX10_doBack_7 : decode cX10_doBack 7 = .ok (.aload_n 0, 1) := by decide +kernel
theorem dX10_doBack_8 : decode cX10_doBack 8 = .ok (.iload_n 1, 1) := by decide +kernel
theorem dX10_doBack_9 : decode cX10_doBack 9 = .ok (.bipush 6, 2) := by decide +kernel
theorem dX10_doBack_11 : decode cX10_doBack 11 = .ok (.iload_n 2, 1) := by decide +kernel
theorem dX10_doBack_12 : decode cX10_doBack 12 = .ok (.aload_n 0, 1) := by decide +kernel
theorem dX10_doBack_13 : decode cX10_doBack 13 = .ok (.getfield 7, 3) := by decide +kernel
theorem dX10_doBack_16 : decode cX10_doBack 16 = .ok (.sipush 205, 3) := by decide +kernel
theorem dX10_doBack_19 : decode cX10_doBack 19 = .ok (.iaload, 1) := by decide +kernel
theorem dX10_doBack_20 : decode cX10_doBack 20 = .ok (.imul, 1) := by decide +kernel
theorem dX10_doBack_21 : decode cX10_doBack 21 = .ok (.invokevirtual 104, 3) := by decide +kernel
theorem dX10_doBack_24 : decode cX10_doBack 24 = .ok (.iload_n 2, 1) := by decide +kernel
theorem dX10_doBack_25 : decode cX10_doBack 25 = .ok (.aload_n 0, 1) := by decide +kernel
theorem dX10_doBack_26 : decode cX10_doBack 26 = .ok (.getfield 7, 3) := by decide +kernel
theorem dX10_doBack_29 : decode cX10_doBack 29 = .ok (.sipush 205, 3) := by decide +kernel
theorem dX10_doBack_32 : decode cX10_doBack 32 = .ok (.iaload, 1) := by decide +kernel
theorem dX10_doBack_33 : decode cX10_doBack 33 = .ok (.imul, 1) := by decide +kernel
theorem dX10_doBack_34 : decode cX10_doBack 34 = .ok (.ireturn, 1) := by decide +kernel
theorem dX10_back_0 : decode cX10_back 0 = .ok (.aload_n 0, 1) := by decide +kernel
theorem dX10_back_1 : decode cX10_back 1 = .ok (.iload_n 1, 1) := by decide +kernel
theorem dX10_back_2 : decode cX10_back 2 = .ok (.iload_n 2, 1) := by decide +kernel
theorem dX10_back_3 : decode cX10_back 3 = .ok (.invokevirtual 147, 3) := by decide +kernel
theorem dX10_back_6 : decode cX10_back 6 = .ok (.istore_n 3, 1) := by decide +kernel
theorem dX10_back_7 : decode cX10_back 7 = .ok (.iload_n 3, 1) := by decide +kernel
theorem dX10_back_8 : decode cX10_back 8 = .ok (.ifCond .ge 5, 3) := by decide +kernel
theorem dX10_back_11 : decode cX10_back 11 = .ok (.iload_n 3, 1) := by decide +kernel
theorem dX10_back_12 : decode cX10_back 12 = .ok (.ireturn, 1) := by decide +kernel
theorem dX10_back_13 : decode cX10_back 13 = .ok (.aload_n 0, 1) := by decide +kernel
theorem dX10_back_14 : decode cX10_back 14 = .ok (.aload_n 0, 1) := by decide +kernel
theorem dX10_back_15 : decode cX10_back 15 = .ok (.getfield 7, 3) := by decide +kernel
theorem dX10_back_18 : decode cX10_back 18 = .ok (.invokevirtual 76, 3) := by decide +kernel
theorem dX10_back_21 : decode cX10_back 21 = .ok (.aload_n 0, 1) := by decide +kernel
theorem dX10_back_22 : decode cX10_back 22 = .ok (.iload_n 1, 1) := by decide +kernel
theorem dX10_back_23 : decode cX10_back 23 = .ok (.iload_n 2, 1) := by decide +kernel
theorem dX10_back_24 : decode cX10_back 24 = .ok (.invokevirtual 150, 3) := by decide +kernel
theorem dX10_back_27 : decode cX10_back 27 = .ok (.ireturn, 1) := by decide +kernel
theorem dX10_noSail_0 : decode cX10_noSail 0 = .ok (.aload_n 0, 1) := by decide +kernel
theorem dX10_noSail_1 : decode cX10_noSail 1 = .ok (.invokevirtual 65, 3) := by decide +kernel
theorem dX10_noSail_4 : decode cX10_noSail 4 = .ok (.ifCond .eq 8, 3) := by decide +kernel
theorem dX10_noSail_7 : decode cX10_noSail 7 = .ok (.ldc 37, 2) := by decide +kernel
theorem dX10_noSail_9 : decode cX10_noSail 9 = .ok (.goto 4, 3) := by decide +kernel
theorem dX10_noSail_12 : decode cX10_noSail 12 = .ok (.iconst 0, 1) := by decide +kernel
theorem dX10_noSail_13 : decode cX10_noSail 13 = .ok (.ireturn, 1) := by decide +kernel
theorem dX10_doSail_0 : decode cX10_doSail 0 = .ok (.iconst 0, 1) := by decide +kernel
theorem dX10_doSail_1 : decode cX10_doSail 1 = .ok (.istore_n 1, 1) := by decide +kernel
theorem dX10_doSail_2 : decode cX10_doSail 2 = .ok (.iconst 0, 1) := by decide +kernel
theorem dX10_doSail_3 : decode cX10_doSail 3 = .ok (.istore_n 2, 1) := by decide +kernel
theorem dX10_doSail_4 : decode cX10_doSail 4 = .ok (.iload_n 2, 1) := by decide +kernel
theorem dX10_doSail_5 : decode cX10_doSail 5 = .ok (.aload_n 0, 1) := by decide +kernel
theorem dX10_doSail_6 : decode cX10_doSail 6 = .ok (.getfield 7, 3) := by decide +kernel
theorem dX10_doSail_9 : decode cX10_doSail 9 = .ok (.sipush 194, 3) := by decide +kernel
theorem dX10_doSail_12 : decode cX10_doSail 12 = .ok (.iaload, 1) := by decide +kernel
theorem dX10_doSail_13 : decode cX10_doSail 13 = .ok (.if_icmp .ge 50, 3) := by decide +kernel
theorem dX10_doSail_16 : decode cX10_doSail 16 = .ok (.aload_n 0, 1) := by decide +kernel
theorem dX10_doSail_17 : decode cX10_doSail 17 = .ok (.iload_n 2, 1) := by decide +kernel
theorem dX10_doSail_18 : decode cX10_doSail 18 = .ok (.iconst 2, 1) := by decide +kernel
theorem dX10_doSail_19 : decode cX10_doSail 19 = .ok (.invokevirtual 29, 3) := by decide +kernel
theorem dX10_doSail_22 : decode cX10_doSail 22 = .ok (.iconst 1, 1) := by decide +kernel
theorem dX10_doSail_23 : decode cX10_doSail 23 = .ok (.if_icmp .ne 34, 3) := by decide +kernel
theorem dX10_doSail_26 : decode cX10_doSail 26 = .ok (.aload_n 0, 1) := by decide +kernel
theorem dX10_doSail_27 : decode cX10_doSail 27 = .ok (.getfield 7, 3) := by decide +kernel
theorem dX10_doSail_30 : decode cX10_doSail 30 = .ok (.sipush 202, 3) := by decide +kernel
theorem dX10_doSail_33 : decode cX10_doSail 33 = .ok (.dup2, 1) := by decide +kernel
theorem dX10_doSail_34 : decode cX10_doSail 34 = .ok (.iaload, 1) := by decide +kernel
theorem dX10_doSail_35 : decode cX10_doSail 35 = .ok (.aload_n 0, 1) := by decide +kernel
theorem dX10_doSail_36 : decode cX10_doSail 36 = .ok (.iload_n 2, 1) := by decide +kernel
theorem dX10_doSail_37 : decode cX10_doSail 37 = .ok (.invokevirtual 95, 3) := by decide +kernel
theorem dX10_doSail_40 : decode cX10_doSail 40 = .ok (.iadd, 1) := by decide +kernel
theorem dX10_doSail_41 : decode cX10_doSail 41 = .ok (.iastore, 1) := by decide +kernel
theorem dX10_doSail_42 : decode cX10_doSail 42 = .ok (.aload_n 0, 1) := by decide +kernel
theorem dX10_doSail_43 : decode cX10_doSail 43 = .ok (.iload_n 2, 1) := by decide +kernel
theorem dX10_doSail_44 : decode cX10_doSail 44 = .ok (.iconst 2, 1) := by decide +kernel
theorem dX10_doSail_45 : decode cX10_doSail 45 = .ok (.iconst 2, 1) := by decide +kernel
theorem dX10_doSail_46 : decode cX10_doSail 46 = .ok (.invokevirtual 53, 3) := by decide +kernel
theorem dX10_doSail_49 : decode cX10_doSail 49 = .ok (.aload_n 0, 1) := by decide +kernel
theorem dX10_doSail_50 : decode cX10_doSail 50 = .ok (.iload_n 2, 1) := by decide +kernel
theorem dX10_doSail_51 : decode cX10_doSail 51 = .ok (.invokevirtual 70, 3) := by decide +kernel
theorem dX10_doSail_54 : decode cX10_doSail 54 = .ok (.iinc 1 1, 3) := by decide +kernel
theorem dX10_doSail_57 : decode cX10_doSail 57 = .ok (.iinc 2 1, 3) := by decide +kernel
theorem dX10_doSail_60 : decode cX10_doSail 60 = .ok (.goto (-56), 3) := by decide +kernel
theorem dX10_doSail_63 : decode cX10_doSail 63 = .ok (.aload_n 0, 1) := by decide +kernel
theorem dX10_doSail_64 : decode cX10_doSail 64 = .ok (.getfield 7, 3) := by decide +kernel
theorem dX10_doSail_67 : decode cX10_doSail 67 = .ok (.sipush 191, 3) := by decide +kernel
theorem dX10_doSail_70 : decode cX10_doSail 70 = .ok (.iconst 1, 1) := by decide +kernel
theorem dX10_doSail_71 : decode cX10_doSail 71 = .ok (.iastore, 1) := by decide +kernel
theorem dX10_doSail_72 : decode cX10_doSail 72 = .ok (.iload_n 1, 1) := by decide +kernel
theorem dX10_doSail_73 : decode cX10_doSail 73 = .ok (.ireturn, 1) := by decide +kernel
theorem dX10_sail_0 : decode cX10_sail 0 = .ok (.aload_n 0, 1) := by decide +kernel
theorem dX10_sail_1 : decode cX10_sail 1 = .ok (.invokevirtual 153, 3) := by decide +kernel
theorem dX10_sail_4 : decode cX10_sail 4 = .ok (.istore_n 1, 1) := by decide +kernel
theorem dX10_sail_5 : decode cX10_sail 5 = .ok (.iload_n 1, 1) := by decide +kernel
theorem dX10_sail_6 : decode cX10_sail 6 = .ok (.ifCond .ge 5, 3) := by decide +kernel
theorem dX10_sail_9 : decode cX10_sail 9 = .ok (.iload_n 1, 1) := by decide +kernel
theorem dX10_sail_10 : decode cX10_sail 10 = .ok (.ireturn, 1) := by decide +kernel
theorem dX10_sail_11 : decode cX10_sail 11 = .ok (.aload_n 0, 1) := by decide +kernel
theorem dX10_sail_12 : decode cX10_sail 12 = .ok (.aload_n 0, 1) := by decide +kernel
theorem dX10_sail_13 : decode cX10_sail 13 = .ok (.getfield 7, 3) := by decide +kernel
theorem dX10_sail_16 : decode cX10_sail 16 = .ok (.invokevirtual 76, 3) := by decide +kernel
theorem dX10_sail_19 : decode cX10_sail 19 = .ok (.aload_n 0, 1) := by decide +kernel
theorem dX10_sail_20 : decode cX10_sail 20 = .ok (.invokevirtual 157, 3) := by decide +kernel
theorem dX10_sail_23 : decode cX10_sail 23 = .ok (.ireturn, 1) := by decide +kernel
theorem dX10_noPort_0 : decode cX10_noPort 0 = .ok (.aload_n 0, 1) := by decide +kernel
theorem dX10_noPort_1 : decode cX10_noPort 1 = .ok (.invokevirtual 65, 3) := by decide +kernel
theorem dX10_noPort_4 : decode cX10_noPort 4 = .ok (.ifCond .eq 7, 3) := by decide +kernel
theorem dX10_noPort_7 : decode cX10_noPort 7 = .ok (.iconst 0, 1) := by decide +kernel
theorem dX10_noPort_8 : decode cX10_noPort 8 = .ok (.goto 5, 3) := by decide +kernel
theorem dX10_noPort_11 : decode cX10_noPort 11 = .ok (.ldc 37, 2) := by decide +kernel
theorem dX10_noPort_13 : decode cX10_noPort 13 = .ok (.ireturn, 1) := by decide +kernel
theorem dX10_doPort_0 : decode cX10_doPort 0 = .ok (.aload_n 0, 1) := by decide +kernel
theorem dX10_doPort_1 : decode cX10_doPort 1 = .ok (.getfield 7, 3) := by decide +kernel
theorem dX10_doPort_4 : decode cX10_doPort 4 = .ok (.sipush 191, 3) := by decide +kernel
theorem dX10_doPort_7 : decode cX10_doPort 7 = .ok (.iconst 0, 1) := by decide +kernel
theorem dX10_doPort_8 : decode cX10_doPort 8 = .ok (.iastore, 1) := by decide +kernel
theorem dX10_doPort_9 : decode cX10_doPort 9 = .ok (.aload_n 0, 1) := by decide +kernel
theorem dX10_doPort_10 : decode cX10_doPort 10 = .ok (.getfield 7, 3) := by decide +kernel
theorem dX10_doPort_13 : decode cX10_doPort 13 = .ok (.sipush 193, 3) := by decide +kernel
theorem dX10_doPort_16 : decode cX10_doPort 16 = .ok (.dup2, 1) := by decide +kernel
theorem dX10_doPort_17 : decode cX10_doPort 17 = .ok (.iaload, 1) := by decide +kernel
theorem dX10_doPort_18 : decode cX10_doPort 18 = .ok (.iconst 1, 1) := by decide +kernel
theorem dX10_doPort_19 : decode cX10_doPort 19 = .ok (.iadd, 1) := by decide +kernel
theorem dX10_doPort_20 : decode cX10_doPort 20 = .ok (.iastore, 1) := by decide +kernel
theorem dX10_doPort_21 : decode cX10_doPort 21 = .ok (.aload_n 0, 1) := by decide +kernel
theorem dX10_doPort_22 : decode cX10_doPort 22 = .ok (.getfield 7, 3) := by decide +kernel
theorem dX10_doPort_25 : decode cX10_doPort 25 = .ok (.sipush 193, 3) := by decide +kernel
theorem dX10_doPort_28 : decode cX10_doPort 28 = .ok (.iaload, 1) := by decide +kernel
theorem dX10_doPort_29 : decode cX10_doPort 29 = .ok (.ireturn, 1) := by decide +kernel
theorem dX10_port_0 : decode cX10_port 0 = .ok (.aload_n 0, 1) := by decide +kernel
theorem dX10_port_1 : decode cX10_port 1 = .ok (.invokevirtual 160, 3) := by decide +kernel
theorem dX10_port_4 : decode cX10_port 4 = .ok (.istore_n 1, 1) := by decide +kernel
theorem dX10_port_5 : decode cX10_port 5 = .ok (.iload_n 1, 1) := by decide +kernel
theorem dX10_port_6 : decode cX10_port 6 = .ok (.ifCond .ge 5, 3) := by decide +kernel
theorem dX10_port_9 : decode cX10_port 9 = .ok (.iload_n 1, 1) := by decide +kernel
theorem dX10_port_10 : decode cX10_port 10 = .ok (.ireturn, 1) := by decide +kernel
theorem dX10_port_11 : decode cX10_port 11 = .ok (.aload_n 0, 1) := by decide +kernel
theorem dX10_port_12 : decode cX10_port 12 = .ok (.aload_n 0, 1) := by decide +kernel
theorem dX10_port_13 : decode cX10_port 13 = .ok (.getfield 7, 3) := by decide +kernel
theorem dX10_port_16 : decode cX10_port 16 = .ok (.invokevirtual 76, 3) := by decide +kernel
theorem dX10_port_19 : decode cX10_port 19 = .ok (.aload_n 0, 1) := by decide +kernel
theorem dX10_port_20 : decode cX10_port 20 = .ok (.invokevirtual 163, 3) := by decide +kernel
theorem dX10_port_23 : decode cX10_port 23 = .ok (.ireturn, 1) := by decide +kernel
theorem dX10_noDays_0 : decode cX10_noDays 0 = .ok (.iload_n 1, 1) := by decide +kernel
theorem dX10_noDays_1 : decode cX10_noDays 1 = .ok (.iconst 1, 1) := by decide +kernel
theorem dX10_noDays_2 : decode cX10_noDays 2 = .ok (.bipush 99, 2) := by decide +kernel
theorem dX10_noDays_4 : decode cX10_noDays 4 = .ok (.invokestatic 25, 3) := by decide +kernel
theorem dX10_noDays_7 : decode cX10_noDays 7 = .ok (.ifCond .ne 8, 3) := by decide +kernel
theorem dX10_noDays_10 : decode cX10_noDays 10 = .ok (.ldc 64, 2) := by decide +kernel
theorem dX10_noDays_12 : decode cX10_noDays 12 = .ok (.goto 25, 3) := by decide +kernel
theorem dX10_noDays_15 : decode cX10_noDays 15 = .ok (.aload_n 0, 1) := by decide +kernel
theorem dX10_noDays_16 : decode cX10_noDays 16 = .ok (.getfield 7, 3) := by decide +kernel
theorem dX10_noDays_19 : decode cX10_noDays 19 = .ok (.sipush 192, 3) := by decide +kernel
theorem dX10_noDays_22 : decode cX10_noDays 22 = .ok (.iaload, 1) := by decide +kernel
theorem dX10_noDays_23 : decode cX10_noDays 23 = .ok (.iload_n 1, 1) := by decide +kernel
theorem dX10_noDays_24 : decode cX10_noDays 24 = .ok (.iadd, 1) := by decide +kernel
theorem dX10_noDays_25 : decode cX10_noDays 25 = .ok (.sipush 999, 3) := by decide +kernel
theorem dX10_noDays_28 : decode cX10_noDays 28 = .ok (.if_icmp .le 8, 3) := by decide +kernel
theorem dX10_noDays_31 : decode cX10_noDays 31 = .ok (.ldc 69, 2) := by decide +kernel
theorem dX10_noDays_33 : decode cX10_noDays 33 = .ok (.goto 4, 3) := by decide +kernel
theorem dX10_noDays_36 : decode cX10_noDays 36 = .ok (.iconst 0, 1) := by decide +kernel
theorem dX10_noDays_37 : decode cX10_noDays 37 = .ok (.ireturn, 1) := by decide +kernel
theorem dX10_doDays_0 : decode cX10_doDays 0 = .ok (.aload_n 0, 1) := by decide +kernel
theorem dX10_doDays_1 : decode cX10_doDays 1 = .ok (.getfield 7, 3) := by decide +kernel
theorem dX10_doDays_4 : decode cX10_doDays 4 = .ok (.sipush 192, 3) := by decide +kernel
theorem dX10_doDays_7 : decode cX10_doDays 7 = .ok (.dup2, 1) := by decide +kernel
theorem dX10_doDays_8 : decode cX10_doDays 8 = .ok (.iaload, 1) := by decide +kernel
theorem dX10_doDays_9 : decode cX10_doDays 9 = .ok (.iload_n 1, 1) := by decide +kernel
theorem dX10_doDays_10 : decode cX10_doDays 10 = .ok (.iadd, 1) := by decide +kernel
theorem dX10_doDays_11 : decode cX10_doDays 11 = .ok (.iastore, 1) := by decide +kernel
theorem dX10_doDays_12 : decode cX10_doDays 12 = .ok (.iconst 0, 1) := by decide +kernel
theorem dX10_doDays_13 : decode cX10_doDays 13 = .ok (.istore_n 2, 1) := by decide +kernel
theorem dX10_doDays_14 : decode cX10_doDays 14 = .ok (.iload_n 2, 1) := by decide +kernel
theorem dX10_doDays_15 : decode cX10_doDays 15 = .ok (.aload_n 0, 1) := by decide +kernel
theorem dX10_doDays_16 : decode cX10_doDays 16 = .ok (.getfield 7, 3) := by decide +kernel
theorem dX10_doDays_19 : decode cX10_doDays 19 = .ok (.sipush 194, 3) := by decide +kernel
theorem dX10_doDays_22 : decode cX10_doDays 22 = .ok (.iaload, 1) := by decide +kernel
theorem dX10_doDays_23 : decode cX10_doDays 23 = .ok (.if_icmp .ge 44, 3) := by decide +kernel
theorem dX10_doDays_26 : decode cX10_doDays 26 = .ok (.aload_n 0, 1) := by decide +kernel
theorem dX10_doDays_27 : decode cX10_doDays 27 = .ok (.iload_n 2, 1) := by decide +kernel
theorem dX10_doDays_28 : decode cX10_doDays 28 = .ok (.invokevirtual 42, 3) := by decide +kernel
theorem dX10_doDays_31 : decode cX10_doDays 31 = .ok (.ifCond .ne 30, 3) := by decide +kernel
theorem dX10_doDays_34 : decode cX10_doDays 34 = .ok (.aload_n 0, 1) := by decide +kernel
theorem dX10_doDays_35 : decode cX10_doDays 35 = .ok (.invokevirtual 65, 3) := by decide +kernel
theorem dX10_doDays_38 : decode cX10_doDays 38 = .ok (.ifCond .eq 7, 3) := by decide +kernel
theorem dX10_doDays_41 : decode cX10_doDays 41 = .ok (.iconst 3, 1) := by decide +kernel
theorem dX10_doDays_42 : decode cX10_doDays 42 = .ok (.goto 4, 3) := by decide +kernel
theorem dX10_doDays_45 : decode cX10_doDays 45 = .ok (.iconst 4, 1) := by decide +kernel
theorem dX10_doDays_46 : decode cX10_doDays 46 = .ok (.istore_n 3, 1) := by decide +kernel
theorem dX10_doDays_47 : decode cX10_doDays 47 = .ok (.aload_n 0, 1) := by decide +kernel
theorem dX10_doDays_48 : decode cX10_doDays 48 = .ok (.iload_n 2, 1) := by decide +kernel
theorem dX10_doDays_49 : decode cX10_doDays 49 = .ok (.iload_n 3, 1) := by decide +kernel
theorem dX10_doDays_50 : decode cX10_doDays 50 = .ok (.aload_n 0, 1) := by decide +kernel
theorem dX10_doDays_51 : decode cX10_doDays 51 = .ok (.iload_n 2, 1) := by decide +kernel
theorem dX10_doDays_52 : decode cX10_doDays 52 = .ok (.iload_n 3, 1) := by decide +kernel
theorem dX10_doDays_53 : decode cX10_doDays 53 = .ok (.invokevirtual 29, 3) := by decide +kernel
theorem dX10_doDays_56 : decode cX10_doDays 56 = .ok (.iload_n 1, 1) := by decide +kernel
theorem dX10_doDays_57 : decode cX10_doDays 57 = .ok (.iadd, 1) := by decide +kernel
theorem dX10_doDays_58 : decode cX10_doDays 58 = .ok (.invokevirtual 53, 3) := by decide +kernel
theorem dX10_doDays_61 : decode cX10_doDays 61 = .ok (.iinc 2 1, 3) := by decide +kernel
theorem dX10_doDays_64 : decode cX10_doDays 64 = .ok (.goto (-50), 3) := by decide +kernel
theorem dX10_doDays_67 : decode cX10_doDays 67 = .ok (.aload_n 0, 1) := by decide +kernel
theorem dX10_doDays_68 : decode cX10_doDays 68 = .ok (.getfield 7, 3) := by decide +kernel
theorem dX10_doDays_71 : decode cX10_doDays 71 = .ok (.sipush 192, 3) := by decide +kernel
theorem dX10_doDays_74 : decode cX10_doDays 74 = .ok (.iaload, 1) := by decide +kernel
theorem dX10_doDays_75 : decode cX10_doDays 75 = .ok (.ireturn, 1) := by decide +kernel
theorem dX10_days_0 : decode cX10_days 0 = .ok (.aload_n 0, 1) := by decide +kernel
theorem dX10_days_1 : decode cX10_days 1 = .ok (.iload_n 1, 1) := by decide +kernel
theorem dX10_days_2 : decode cX10_days 2 = .ok (.invokevirtual 166, 3) := by decide +kernel
theorem dX10_days_5 : decode cX10_days 5 = .ok (.istore_n 2, 1) := by decide +kernel
theorem dX10_days_6 : decode cX10_days 6 = .ok (.iload_n 2, 1) := by decide +kernel
theorem dX10_days_7 : decode cX10_days 7 = .ok (.ifCond .ge 5, 3) := by decide +kernel
theorem dX10_days_10 : decode cX10_days 10 = .ok (.iload_n 2, 1) := by decide +kernel
theorem dX10_days_11 : decode cX10_days 11 = .ok (.ireturn, 1) := by decide +kernel
theorem dX10_days_12 : decode cX10_days 12 = .ok (.aload_n 0, 1) := by decide +kernel
theorem dX10_days_13 : decode cX10_days 13 = .ok (.aload_n 0, 1) := by decide +kernel
theorem dX10_days_14 : decode cX10_days 14 = .ok (.getfield 7, 3) := by decide +kernel
theorem dX10_days_17 : decode cX10_days 17 = .ok (.invokevirtual 76, 3) := by decide +kernel
theorem dX10_days_20 : decode cX10_days 20 = .ok (.aload_n 0, 1) := by decide +kernel
theorem dX10_days_21 : decode cX10_days 21 = .ok (.iload_n 1, 1) := by decide +kernel
theorem dX10_days_22 : decode cX10_days 22 = .ok (.invokevirtual 169, 3) := by decide +kernel
theorem dX10_days_25 : decode cX10_days 25 = .ok (.ireturn, 1) := by decide +kernel
theorem dX10_dismiss_0 : decode cX10_dismiss 0 = .ok (.aload_n 0, 1) := by decide +kernel
theorem dX10_dismiss_1 : decode cX10_dismiss 1 = .ok (.iload_n 1, 1) := by decide +kernel
theorem dX10_dismiss_2 : decode cX10_dismiss 2 = .ok (.invokevirtual 98, 3) := by decide +kernel
theorem dX10_dismiss_5 : decode cX10_dismiss 5 = .ok (.ifCond .ne 6, 3) := by decide +kernel
theorem dX10_dismiss_8 : decode cX10_dismiss 8 = .ok (.ldc 64, 2) := by decide +kernel
theorem dX10_dismiss_10 : decode cX10_dismiss 10 = .ok (.ireturn, 1) := by decide +kernel
theorem dX10_dismiss_11 : decode cX10_dismiss 11 = .ok (.aload_n 0, 1) := by decide +kernel
theorem dX10_dismiss_12 : decode cX10_dismiss 12 = .ok (.invokevirtual 65, 3) := by decide +kernel
theorem dX10_dismiss_15 : decode cX10_dismiss 15 = .ok (.ifCond .ne 19, 3) := by decide +kernel
theorem dX10_dismiss_18 : decode cX10_dismiss 18 = .ok (.aload_n 0, 1) := by decide +kernel
theorem dX10_dismiss_19 : decode cX10_dismiss 19 = .ok (.iload_n 1, 1) := by decide +kernel
theorem dX10_dismiss_20 : decode cX10_dismiss 20 = .ok (.invokevirtual 42, 3) := by decide +kernel
theorem dX10_dismiss_23 : decode cX10_dismiss 23 = .ok (.ifCond .ne 11, 3) := by decide +kernel
theorem dX10_dismiss_26 : decode cX10_dismiss 26 = .ok (.aload_n 0, 1) := by decide +kernel
theorem dX10_dismiss_27 : decode cX10_dismiss 27 = .ok (.iload_n 1, 1) := by decide +kernel
theorem dX10_dismiss_28 : decode cX10_dismiss 28 = .ok (.invokevirtual 95, 3) := by decide +kernel
theorem dX10_dismiss_31 : decode cX10_dismiss 31 = .ok (.ifCond .ge 6, 3) := by decide +kernel
theorem dX10_dismiss_34 : decode cX10_dismiss 34 = .ok (.ldc 37, 2) := by decide +kernel
theorem dX10_dismiss_36 : decode cX10_dismiss 36 = .ok (.ireturn, 1) := by decide +kernel
theorem dX10_dismiss_37 : decode cX10_dismiss 37 = .ok (.aload_n 0, 1) := by decide +kernel
theorem dX10_dismiss_38 : decode cX10_dismiss 38 = .ok (.aload_n 0, 1) := by decide +kernel
theorem dX10_dismiss_39 : decode cX10_dismiss 39 = .ok (.getfield 7, 3) := by decide +kernel
theorem dX10_dismiss_42 : decode cX10_dismiss 42 = .ok (.invokevirtual 76, 3) := by decide +kernel
theorem dX10_dismiss_45 : decode cX10_dismiss 45 = .ok (.aload_n 0, 1) := by decide +kernel
theorem dX10_dismiss_46 : decode cX10_dismiss 46 = .ok (.iload_n 1, 1) := by decide +kernel
theorem dX10_dismiss_47 : decode cX10_dismiss 47 = .ok (.invokevirtual 95, 3) := by decide +kernel
theorem dX10_dismiss_50 : decode cX10_dismiss 50 = .ok (.istore_n 2, 1) := by decide +kernel
theorem dX10_dismiss_51 : decode cX10_dismiss 51 = .ok (.aload_n 0, 1) := by decide +kernel
theorem dX10_dismiss_52 : decode cX10_dismiss 52 = .ok (.iload_n 1, 1) := by decide +kernel
theorem dX10_dismiss_53 : decode cX10_dismiss 53 = .ok (.iload_n 2, 1) := by decide +kernel
theorem dX10_dismiss_54 : decode cX10_dismiss 54 = .ok (.invokevirtual 172, 3) := by decide +kernel
theorem dX10_dismiss_57 : decode cX10_dismiss 57 = .ok (.aload_n 0, 1) := by decide +kernel
theorem dX10_dismiss_58 : decode cX10_dismiss 58 = .ok (.iload_n 1, 1) := by decide +kernel
theorem dX10_dismiss_59 : decode cX10_dismiss 59 = .ok (.iconst 2, 1) := by decide +kernel
theorem dX10_dismiss_60 : decode cX10_dismiss 60 = .ok (.iconst 2, 1) := by decide +kernel
theorem dX10_dismiss_61 : decode cX10_dismiss 61 = .ok (.invokevirtual 53, 3) := by decide +kernel
theorem dX10_dismiss_64 : decode cX10_dismiss 64 = .ok (.aload_n 0, 1) := by decide +kernel
theorem dX10_dismiss_65 : decode cX10_dismiss 65 = .ok (.iload_n 1, 1) := by decide +kernel
theorem dX10_dismiss_66 : decode cX10_dismiss 66 = .ok (.invokevirtual 70, 3) := by decide +kernel
theorem dX10_dismiss_69 : decode cX10_dismiss 69 = .ok (.iload_n 2, 1) := by decide +kernel
theorem dX10_dismiss_70 : decode cX10_dismiss 70 = .ok (.ireturn, 1) := by decide +kernel
theorem dX10_noPayOff_0 : decode cX10_noPayOff 0 = .ok (.aload_n 0, 1) := by decide +kernel
theorem dX10_noPayOff_1 : decode cX10_noPayOff 1 = .ok (.invokevirtual 65, 3) := by decide +kernel
theorem dX10_noPayOff_4 : decode cX10_noPayOff 4 = .ok (.ifCond .ne 14, 3) := by decide +kernel
theorem dX10_noPayOff_7 : decode cX10_noPayOff 7 = .ok (.aload_n 0, 1) := by decide +kernel
theorem dX10_noPayOff_8 : decode cX10_noPayOff 8 = .ok (.getfield 7, 3) := by decide +kernel
theorem dX10_noPayOff_11 : decode cX10_noPayOff 11 = .ok (.sipush 192, 3) := by decide +kernel
theorem dX10_noPayOff_14 : decode cX10_noPayOff 14 = .ok (.iaload, 1) := by decide +kernel
theorem dX10_noPayOff_15 : decode cX10_noPayOff 15 = .ok (.ifCond .ne 8, 3) := by decide +kernel
theorem dX10_noPayOff_18 : decode cX10_noPayOff 18 = .ok (.ldc 37, 2) := by decide +kernel
theorem dX10_noPayOff_20 : decode cX10_noPayOff 20 = .ok (.goto 4, 3) := by decide +kernel
theorem dX10_noPayOff_23 : decode cX10_noPayOff 23 = .ok (.iconst 0, 1) := by decide +kernel
theorem dX10_noPayOff_24 : decode cX10_noPayOff 24 = .ok (.ireturn, 1) := by decide +kernel
theorem dX10_doPayOff_0 : decode cX10_doPayOff 0 = .ok (.iconst 0, 1) := by decide +kernel
theorem dX10_doPayOff_1 : decode cX10_doPayOff 1 = .ok (.istore_n 1, 1) := by decide +kernel
theorem dX10_doPayOff_2 : decode cX10_doPayOff 2 = .ok (.iconst 0, 1) := by decide +kernel
theorem dX10_doPayOff_3 : decode cX10_doPayOff 3 = .ok (.istore_n 2, 1) := by decide +kernel
theorem dX10_doPayOff_4 : decode cX10_doPayOff 4 = .ok (.iload_n 2, 1) := by decide +kernel
theorem dX10_doPayOff_5 : decode cX10_doPayOff 5 = .ok (.aload_n 0, 1) := by decide +kernel
theorem dX10_doPayOff_6 : decode cX10_doPayOff 6 = .ok (.getfield 7, 3) := by decide +kernel
theorem dX10_doPayOff_9 : decode cX10_doPayOff 9 = .ok (.sipush 194, 3) := by decide +kernel
theorem dX10_doPayOff_12 : decode cX10_doPayOff 12 = .ok (.iaload, 1) := by decide +kernel
theorem dX10_doPayOff_13 : decode cX10_doPayOff 13 = .ok (.if_icmp .ge 58, 3) := by decide +kernel
theorem dX10_doPayOff_16 : decode cX10_doPayOff 16 = .ok (.aload_n 0, 1) := by decide +kernel
theorem dX10_doPayOff_17 : decode cX10_doPayOff 17 = .ok (.iload_n 2, 1) := by decide +kernel
theorem dX10_doPayOff_18 : decode cX10_doPayOff 18 = .ok (.invokevirtual 42, 3) := by decide +kernel
theorem dX10_doPayOff_21 : decode cX10_doPayOff 21 = .ok (.ifCond .ne 44, 3) := by decide +kernel
theorem dX10_doPayOff_24 : decode cX10_doPayOff 24 = .ok (.aload_n 0, 1) := by decide +kernel
theorem dX10_doPayOff_25 : decode cX10_doPayOff 25 = .ok (.iload_n 2, 1) := by decide +kernel
theorem dX10_doPayOff_26 : decode cX10_doPayOff 26 = .ok (.invokevirtual 95, 3) := by decide +kernel
theorem dX10_doPayOff_29 : decode cX10_doPayOff 29 = .ok (.istore_n 3, 1) := by decide +kernel
theorem dX10_doPayOff_30 : decode cX10_doPayOff 30 = .ok (.iload_n 3, 1) := by decide +kernel
theorem dX10_doPayOff_31 : decode cX10_doPayOff 31 = .ok (.ifCond .le 13, 3) := by decide +kernel
theorem dX10_doPayOff_34 : decode cX10_doPayOff 34 = .ok (.aload_n 0, 1) := by decide +kernel
theorem dX10_doPayOff_35 : decode cX10_doPayOff 35 = .ok (.iload_n 2, 1) := by decide +kernel
theorem dX10_doPayOff_36 : decode cX10_doPayOff 36 = .ok (.iload_n 3, 1) := by decide +kernel
theorem dX10_doPayOff_37 : decode cX10_doPayOff 37 = .ok (.invokevirtual 172, 3) := by decide +kernel
theorem dX10_doPayOff_40 : decode cX10_doPayOff 40 = .ok (.iload_n 1, 1) := by decide +kernel
theorem dX10_doPayOff_41 : decode cX10_doPayOff 41 = .ok (.iload_n 3, 1) := by decide +kernel
theorem dX10_doPayOff_42 : decode cX10_doPayOff 42 = .ok (.iadd, 1) := by decide +kernel
theorem dX10_doPayOff_43 : decode cX10_doPayOff 43 = .ok (.istore_n 1, 1) := by decide +kernel
theorem dX10_doPayOff_44 : decode cX10_doPayOff 44 = .ok (.aload_n 0, 1) := by decide +kernel
theorem dX10_doPayOff_45 : decode cX10_doPayOff 45 = .ok (.iload_n 2, 1) := by decide +kernel
theorem dX10_doPayOff_46 : decode cX10_doPayOff 46 = .ok (.invokevirtual 70, 3) := by decide +kernel
theorem dX10_doPayOff_49 : decode cX10_doPayOff 49 = .ok (.aload_n 0, 1) := by decide +kernel
theorem dX10_doPayOff_50 : decode cX10_doPayOff 50 = .ok (.iload_n 2, 1) := by decide +kernel
theorem dX10_doPayOff_51 : decode cX10_doPayOff 51 = .ok (.bipush 8, 2) := by decide +kernel
theorem dX10_doPayOff_53 : decode cX10_doPayOff 53 = .ok (.iload_n 3, 1) := by decide +kernel
theorem dX10_doPayOff_54 : decode cX10_doPayOff 54 = .ok (.ifCond .ge 7, 3) := by decide +kernel
theorem dX10_doPayOff_57 : decode cX10_doPayOff 57 = .ok (.iload_n 3, 1) := by decide +kernel
theorem dX10_doPayOff_58 : decode cX10_doPayOff 58 = .ok (.goto 4, 3) := by decide +kernel
theorem dX10_doPayOff_61 : decode cX10_doPayOff 61 = .ok (.iconst 0, 1) := by decide +kernel
theorem dX10_doPayOff_62 : decode cX10_doPayOff 62 = .ok (.invokevirtual 53, 3) := by decide +kernel
theorem dX10_doPayOff_65 : decode cX10_doPayOff 65 = .ok (.iinc 2 1, 3) := by decide +kernel
theorem dX10_doPayOff_68 : decode cX10_doPayOff 68 = .ok (.goto (-64), 3) := by decide +kernel
theorem dX10_doPayOff_71 : decode cX10_doPayOff 71 = .ok (.aload_n 0, 1) := by decide +kernel
theorem dX10_doPayOff_72 : decode cX10_doPayOff 72 = .ok (.getfield 7, 3) := by decide +kernel
theorem dX10_doPayOff_75 : decode cX10_doPayOff 75 = .ok (.sipush 190, 3) := by decide +kernel
theorem dX10_doPayOff_78 : decode cX10_doPayOff 78 = .ok (.dup2, 1) := by decide +kernel
theorem dX10_doPayOff_79 : decode cX10_doPayOff 79 = .ok (.iaload, 1) := by decide +kernel
theorem dX10_doPayOff_80 : decode cX10_doPayOff 80 = .ok (.iconst 1, 1) := by decide +kernel
theorem dX10_doPayOff_81 : decode cX10_doPayOff 81 = .ok (.iadd, 1) := by decide +kernel
theorem dX10_doPayOff_82 : decode cX10_doPayOff 82 = .ok (.iastore, 1) := by decide +kernel
theorem dX10_doPayOff_83 : decode cX10_doPayOff 83 = .ok (.aload_n 0, 1) := by decide +kernel
theorem dX10_doPayOff_84 : decode cX10_doPayOff 84 = .ok (.getfield 7, 3) := by decide +kernel
theorem dX10_doPayOff_87 : decode cX10_doPayOff 87 = .ok (.sipush 192, 3) := by decide +kernel
theorem dX10_doPayOff_90 : decode cX10_doPayOff 90 = .ok (.iconst 0, 1) := by decide +kernel
theorem dX10_doPayOff_91 : decode cX10_doPayOff 91 = .ok (.iastore, 1) := by decide +kernel
theorem dX10_doPayOff_92 : decode cX10_doPayOff 92 = .ok (.iload_n 1, 1) := by decide +kernel
theorem dX10_doPayOff_93 : decode cX10_doPayOff 93 = .ok (.ireturn, 1) := by decide +kernel
theorem dX10_payOff_0 : decode cX10_payOff 0 = .ok (.aload_n 0, 1) := by decide +kernel
theorem dX10_payOff_1 : decode cX10_payOff 1 = .ok (.invokevirtual 176, 3) := by decide +kernel
theorem dX10_payOff_4 : decode cX10_payOff 4 = .ok (.istore_n 1, 1) := by decide +kernel
theorem dX10_payOff_5 : decode cX10_payOff 5 = .ok (.iload_n 1, 1) := by decide +kernel
theorem dX10_payOff_6 : decode cX10_payOff 6 = .ok (.ifCond .ge 5, 3) := by decide +kernel
theorem dX10_payOff_9 : decode cX10_payOff 9 = .ok (.iload_n 1, 1) := by decide +kernel
theorem dX10_payOff_10 : decode cX10_payOff 10 = .ok (.ireturn, 1) := by decide +kernel
theorem dX10_payOff_11 : decode cX10_payOff 11 = .ok (.aload_n 0, 1) := by decide +kernel
theorem dX10_payOff_12 : decode cX10_payOff 12 = .ok (.aload_n 0, 1) := by decide +kernel
theorem dX10_payOff_13 : decode cX10_payOff 13 = .ok (.getfield 7, 3) := by decide +kernel
theorem dX10_payOff_16 : decode cX10_payOff 16 = .ok (.invokevirtual 76, 3) := by decide +kernel
theorem dX10_payOff_19 : decode cX10_payOff 19 = .ok (.aload_n 0, 1) := by decide +kernel
theorem dX10_payOff_20 : decode cX10_payOff 20 = .ok (.invokevirtual 179, 3) := by decide +kernel
theorem dX10_payOff_23 : decode cX10_payOff 23 = .ok (.ireturn, 1) := by decide +kernel
theorem dX10_set_0 : decode cX10_set 0 = .ok (.iload_n 1, 1) := by decide +kernel
theorem dX10_set_1 : decode cX10_set 1 = .ok (.iconst 0, 1) := by decide +kernel
theorem dX10_set_2 : decode cX10_set 2 = .ok (.iconst 2, 1) := by decide +kernel
theorem dX10_set_3 : decode cX10_set 3 = .ok (.invokestatic 25, 3) := by decide +kernel
theorem dX10_set_6 : decode cX10_set 6 = .ok (.ifCond .eq 34, 3) := by decide +kernel
theorem dX10_set_9 : decode cX10_set 9 = .ok (.iload_n 2, 1) := by decide +kernel
theorem dX10_set_10 : decode cX10_set 10 = .ok (.iconst 0, 1) := by decide +kernel
theorem dX10_set_11 : decode cX10_set 11 = .ok (.iload_n 1, 1) := by decide +kernel
theorem dX10_set_12 : decode cX10_set 12 = .ok (.ifCond .ne 9, 3) := by decide +kernel
theorem dX10_set_15 : decode cX10_set 15 = .ok (.sipush 500, 3) := by decide +kernel
theorem dX10_set_18 : decode cX10_set 18 = .ok (.goto 16, 3) := by decide +kernel
theorem dX10_set_21 : decode cX10_set 21 = .ok (.iload_n 1, 1) := by decide +kernel
theorem dX10_set_22 : decode cX10_set 22 = .ok (.iconst 1, 1) := by decide +kernel
theorem dX10_set_23 : decode cX10_set 23 = .ok (.if_icmp .ne 9, 3) := by decide +kernel
theorem dX10_set_26 : decode cX10_set 26 = .ok (.sipush 200, 3) := by decide +kernel
theorem dX10_set_29 : decode cX10_set 29 = .ok (.goto 5, 3) := by decide +kernel
theorem dX10_set_32 : decode cX10_set 32 = .ok (.bipush 50, 2) := by decide +kernel
theorem dX10_set_34 : decode cX10_set 34 = .ok (.invokestatic 25, 3) := by decide +kernel
theorem dX10_set_37 : decode cX10_set 37 = .ok (.ifCond .ne 6, 3) := by decide +kernel
theorem dX10_set_40 : decode cX10_set 40 = .ok (.ldc 64, 2) := by decide +kernel
theorem dX10_set_42 : decode cX10_set 42 = .ok (.ireturn, 1) := by decide +kernel
theorem dX10_set_43 : decode cX10_set 43 = .ok (.aload_n 0, 1) := by decide +kernel
theorem dX10_set_44 : decode cX10_set 44 = .ok (.aload_n 0, 1) := by decide +kernel
theorem dX10_set_45 : decode cX10_set 45 = .ok (.getfield 7, 3) := by decide +kernel
theorem dX10_set_48 : decode cX10_set 48 = .ok (.invokevirtual 76, 3) := by decide +kernel
theorem dX10_set_51 : decode cX10_set 51 = .ok (.aload_n 0, 1) := by decide +kernel
theorem dX10_set_52 : decode cX10_set 52 = .ok (.getfield 7, 3) := by decide +kernel
theorem dX10_set_55 : decode cX10_set 55 = .ok (.sipush 203, 3) := by decide +kernel
theorem dX10_set_58 : decode cX10_set 58 = .ok (.iload_n 1, 1) := by decide +kernel
theorem dX10_set_59 : decode cX10_set 59 = .ok (.iadd, 1) := by decide +kernel
theorem dX10_set_60 : decode cX10_set 60 = .ok (.iaload, 1) := by decide +kernel
theorem dX10_set_61 : decode cX10_set 61 = .ok (.istore_n 3, 1) := by decide +kernel
theorem dX10_set_62 : decode cX10_set 62 = .ok (.aload_n 0, 1) := by decide +kernel
theorem dX10_set_63 : decode cX10_set 63 = .ok (.getfield 7, 3) := by decide +kernel
theorem dX10_set_66 : decode cX10_set 66 = .ok (.sipush 203, 3) := by decide +kernel
theorem dX10_set_69 : decode cX10_set 69 = .ok (.iload_n 1, 1) := by decide +kernel
theorem dX10_set_70 : decode cX10_set 70 = .ok (.iadd, 1) := by decide +kernel
theorem dX10_set_71 : decode cX10_set 71 = .ok (.iload_n 2, 1) := by decide +kernel
theorem dX10_set_72 : decode cX10_set 72 = .ok (.iastore, 1) := by decide +kernel
theorem dX10_set_73 : decode cX10_set 73 = .ok (.iload_n 3, 1) := by decide +kernel
theorem dX10_set_74 : decode cX10_set 74 = .ok (.ireturn, 1) := by decide +kernel
theorem dX10_sailor_0 : decode cX10_sailor 0 = .ok (.aload_n 0, 1) := by decide +kernel
theorem dX10_sailor_1 : decode cX10_sailor 1 = .ok (.iload_n 1, 1) := by decide +kernel
theorem dX10_sailor_2 : decode cX10_sailor 2 = .ok (.invokevirtual 98, 3) := by decide +kernel
theorem dX10_sailor_5 : decode cX10_sailor 5 = .ok (.ifCond .ne 6, 3) := by decide +kernel
theorem dX10_sailor_8 : decode cX10_sailor 8 = .ok (.ldc 64, 2) := by decide +kernel
theorem dX10_sailor_10 : decode cX10_sailor 10 = .ok (.ireturn, 1) := by decide +kernel
theorem dX10_sailor_11 : decode cX10_sailor 11 = .ok (.iload_n 2, 1) := by decide +kernel
theorem dX10_sailor_12 : decode cX10_sailor 12 = .ok (.tableswitch 159 0 12 #[68, 75, 82, 89, 89, 99, 106, 113, 119, 126, 134, 142, 151], 68) := by decide +kernel
theorem dX10_sailor_80 : decode cX10_sailor 80 = .ok (.aload_n 0, 1) := by decide +kernel
theorem dX10_sailor_81 : decode cX10_sailor 81 = .ok (.iload_n 1, 1) := by decide +kernel
theorem dX10_sailor_82 : decode cX10_sailor 82 = .ok (.iconst 0, 1) := by decide +kernel
theorem dX10_sailor_83 : decode cX10_sailor 83 = .ok (.invokevirtual 29, 3) := by decide +kernel
theorem dX10_sailor_86 : decode cX10_sailor 86 = .ok (.ireturn, 1) := by decide +kernel
theorem dX10_sailor_87 : decode cX10_sailor 87 = .ok (.aload_n 0, 1) := by decide +kernel
theorem dX10_sailor_88 : decode cX10_sailor 88 = .ok (.iload_n 1, 1) := by decide +kernel
theorem dX10_sailor_89 : decode cX10_sailor 89 = .ok (.iconst 1, 1) := by decide +kernel
theorem dX10_sailor_90 : decode cX10_sailor 90 = .ok (.invokevirtual 29, 3) := by decide +kernel
theorem dX10_sailor_93 : decode cX10_sailor 93 = .ok (.ireturn, 1) := by decide +kernel
theorem dX10_sailor_94 : decode cX10_sailor 94 = .ok (.aload_n 0, 1) := by decide +kernel
theorem dX10_sailor_95 : decode cX10_sailor 95 = .ok (.iload_n 1, 1) := by decide +kernel
theorem dX10_sailor_96 : decode cX10_sailor 96 = .ok (.iconst 2, 1) := by decide +kernel
theorem dX10_sailor_97 : decode cX10_sailor 97 = .ok (.invokevirtual 29, 3) := by decide +kernel
theorem dX10_sailor_100 : decode cX10_sailor 100 = .ok (.ireturn, 1) := by decide +kernel
theorem dX10_sailor_101 : decode cX10_sailor 101 = .ok (.sipush 10000, 3) := by decide +kernel
theorem dX10_sailor_104 : decode cX10_sailor 104 = .ok (.aload_n 0, 1) := by decide +kernel
theorem dX10_sailor_105 : decode cX10_sailor 105 = .ok (.iload_n 1, 1) := by decide +kernel
theorem dX10_sailor_106 : decode cX10_sailor 106 = .ok (.invokevirtual 95, 3) := by decide +kernel
theorem dX10_sailor_109 : decode cX10_sailor 109 = .ok (.iadd, 1) := by decide +kernel
theorem dX10_sailor_110 : decode cX10_sailor 110 = .ok (.ireturn, 1) := by decide +kernel
theorem dX10_sailor_111 : decode cX10_sailor 111 = .ok (.aload_n 0, 1) := by decide +kernel
theorem dX10_sailor_112 : decode cX10_sailor 112 = .ok (.iload_n 1, 1) := by decide +kernel
theorem dX10_sailor_113 : decode cX10_sailor 113 = .ok (.iconst 3, 1) := by decide +kernel
theorem dX10_sailor_114 : decode cX10_sailor 114 = .ok (.invokevirtual 29, 3) := by decide +kernel
theorem dX10_sailor_117 : decode cX10_sailor 117 = .ok (.ireturn, 1) := by decide +kernel
theorem dX10_sailor_118 : decode cX10_sailor 118 = .ok (.aload_n 0, 1) := by decide +kernel
theorem dX10_sailor_119 : decode cX10_sailor 119 = .ok (.iload_n 1, 1) := by decide +kernel
theorem dX10_sailor_120 : decode cX10_sailor 120 = .ok (.iconst 4, 1) := by decide +kernel
theorem dX10_sailor_121 : decode cX10_sailor 121 = .ok (.invokevirtual 29, 3) := by decide +kernel
theorem dX10_sailor_124 : decode cX10_sailor 124 = .ok (.ireturn, 1) := by decide +kernel
theorem dX10_sailor_125 : decode cX10_sailor 125 = .ok (.aload_n 0, 1) := by decide +kernel
theorem dX10_sailor_126 : decode cX10_sailor 126 = .ok (.iload_n 1, 1) := by decide +kernel
theorem dX10_sailor_127 : decode cX10_sailor 127 = .ok (.invokevirtual 46, 3) := by decide +kernel
theorem dX10_sailor_130 : decode cX10_sailor 130 = .ok (.ireturn, 1) := by decide +kernel
theorem dX10_sailor_131 : decode cX10_sailor 131 = .ok (.aload_n 0, 1) := by decide +kernel
theorem dX10_sailor_132 : decode cX10_sailor 132 = .ok (.iload_n 1, 1) := by decide +kernel
theorem dX10_sailor_133 : decode cX10_sailor 133 = .ok (.iconst 5, 1) := by decide +kernel
theorem dX10_sailor_134 : decode cX10_sailor 134 = .ok (.invokevirtual 29, 3) := by decide +kernel
theorem dX10_sailor_137 : decode cX10_sailor 137 = .ok (.ireturn, 1) := by decide +kernel
theorem dX10_sailor_138 : decode cX10_sailor 138 = .ok (.aload_n 0, 1) := by decide +kernel
theorem dX10_sailor_139 : decode cX10_sailor 139 = .ok (.iload_n 1, 1) := by decide +kernel
theorem dX10_sailor_140 : decode cX10_sailor 140 = .ok (.bipush 6, 2) := by decide +kernel
theorem dX10_sailor_142 : decode cX10_sailor 142 = .ok (.invokevirtual 29, 3) := by decide +kernel
theorem dX10_sailor_145 : decode cX10_sailor 145 = .ok (.ireturn, 1) := by decide +kernel
theorem dX10_sailor_146 : decode cX10_sailor 146 = .ok (.aload_n 0, 1) := by decide +kernel
theorem dX10_sailor_147 : decode cX10_sailor 147 = .ok (.iload_n 1, 1) := by decide +kernel
theorem dX10_sailor_148 : decode cX10_sailor 148 = .ok (.bipush 7, 2) := by decide +kernel
theorem dX10_sailor_150 : decode cX10_sailor 150 = .ok (.invokevirtual 29, 3) := by decide +kernel
theorem dX10_sailor_153 : decode cX10_sailor 153 = .ok (.ireturn, 1) := by decide +kernel
theorem dX10_sailor_154 : decode cX10_sailor 154 = .ok (.aload_n 0, 1) := by decide +kernel
theorem dX10_sailor_155 : decode cX10_sailor 155 = .ok (.iload_n 1, 1) := by decide +kernel
theorem dX10_sailor_156 : decode cX10_sailor 156 = .ok (.bipush 8, 2) := by decide +kernel
theorem dX10_sailor_158 : decode cX10_sailor 158 = .ok (.invokevirtual 29, 3) := by decide +kernel
theorem dX10_sailor_161 : decode cX10_sailor 161 = .ok (.ineg, 1) := by decide +kernel
theorem dX10_sailor_162 : decode cX10_sailor 162 = .ok (.ireturn, 1) := by decide +kernel
theorem dX10_sailor_163 : decode cX10_sailor 163 = .ok (.aload_n 0, 1) := by decide +kernel
theorem dX10_sailor_164 : decode cX10_sailor 164 = .ok (.iload_n 1, 1) := by decide +kernel
theorem dX10_sailor_165 : decode cX10_sailor 165 = .ok (.bipush 9, 2) := by decide +kernel
theorem dX10_sailor_167 : decode cX10_sailor 167 = .ok (.invokevirtual 29, 3) := by decide +kernel
theorem dX10_sailor_170 : decode cX10_sailor 170 = .ok (.ireturn, 1) := by decide +kernel
theorem dX10_sailor_171 : decode cX10_sailor 171 = .ok (.ldc 64, 2) := by decide +kernel
theorem dX10_sailor_173 : decode cX10_sailor 173 = .ok (.ireturn, 1) := by decide +kernel
theorem dX10_item_0 : decode cX10_item 0 = .ok (.iload_n 1, 1) := by decide +kernel
theorem dX10_item_1 : decode cX10_item 1 = .ok (.invokestatic 83, 3) := by decide +kernel
theorem dX10_item_4 : decode cX10_item 4 = .ok (.ifCond .eq 21, 3) := by decide +kernel
theorem dX10_item_7 : decode cX10_item 7 = .ok (.iload_n 2, 1) := by decide +kernel
theorem dX10_item_8 : decode cX10_item 8 = .ok (.iconst 0, 1) := by decide +kernel
theorem dX10_item_9 : decode cX10_item 9 = .ok (.iconst 4, 1) := by decide +kernel
theorem dX10_item_10 : decode cX10_item 10 = .ok (.invokestatic 25, 3) := by decide +kernel
theorem dX10_item_13 : decode cX10_item 13 = .ok (.ifCond .eq 12, 3) := by decide +kernel
theorem dX10_item_16 : decode cX10_item 16 = .ok (.aload_n 0, 1) := by decide +kernel
theorem dX10_item_17 : decode cX10_item 17 = .ok (.iload_n 1, 1) := by decide +kernel
theorem dX10_item_18 : decode cX10_item 18 = .ok (.iload_n 2, 1) := by decide +kernel
theorem dX10_item_19 : decode cX10_item 19 = .ok (.invokevirtual 86, 3) := by decide +kernel
theorem dX10_item_22 : decode cX10_item 22 = .ok (.goto 5, 3) := by decide +kernel
theorem dX10_item_25 : decode cX10_item 25 = .ok (.ldc 64, 2) := by decide +kernel
theorem dX10_item_27 : decode cX10_item 27 = .ok (.ireturn, 1) := by decide +kernel
theorem dX10_book_0 : decode cX10_book 0 = .ok (.iload_n 1, 1) := by decide +kernel
theorem dX10_book_1 : decode cX10_book 1 = .ok (.ifCond .lt 12, 3) := by decide +kernel
theorem dX10_book_4 : decode cX10_book 4 = .ok (.iload_n 2, 1) := by decide +kernel
theorem dX10_book_5 : decode cX10_book 5 = .ok (.iconst 0, 1) := by decide +kernel
theorem dX10_book_6 : decode cX10_book 6 = .ok (.iconst 2, 1) := by decide +kernel
theorem dX10_book_7 : decode cX10_book 7 = .ok (.invokestatic 25, 3) := by decide +kernel
theorem dX10_book_10 : decode cX10_book 10 = .ok (.ifCond .ne 6, 3) := by decide +kernel
theorem dX10_book_13 : decode cX10_book 13 = .ok (.ldc 64, 2) := by decide +kernel
theorem dX10_book_15 : decode cX10_book 15 = .ok (.ireturn, 1) := by decide +kernel
theorem dX10_book_16 : decode cX10_book 16 = .ok (.iload_n 1, 1) := by decide +kernel
theorem dX10_book_17 : decode cX10_book 17 = .ok (.aload_n 0, 1) := by decide +kernel
theorem dX10_book_18 : decode cX10_book 18 = .ok (.getfield 7, 3) := by decide +kernel
theorem dX10_book_21 : decode cX10_book 21 = .ok (.sipush 206, 3) := by decide +kernel
theorem dX10_book_24 : decode cX10_book 24 = .ok (.iaload, 1) := by decide +kernel
theorem dX10_book_25 : decode cX10_book 25 = .ok (.if_icmp .ge 20, 3) := by decide +kernel
theorem dX10_book_28 : decode cX10_book 28 = .ok (.aload_n 0, 1) := by decide +kernel
theorem dX10_book_29 : decode cX10_book 29 = .ok (.getfield 7, 3) := by decide +kernel
theorem dX10_book_32 : decode cX10_book 32 = .ok (.sipush 207, 3) := by decide +kernel
theorem dX10_book_35 : decode cX10_book 35 = .ok (.iconst 3, 1) := by decide +kernel
theorem dX10_book_36 : decode cX10_book 36 = .ok (.iload_n 1, 1) := by decide +kernel
theorem dX10_book_37 : decode cX10_book 37 = .ok (.imul, 1) := by decide +kernel
theorem dX10_book_38 : decode cX10_book 38 = .ok (.iadd, 1) := by decide +kernel
theorem dX10_book_39 : decode cX10_book 39 = .ok (.iload_n 2, 1) := by decide +kernel
theorem dX10_book_40 : decode cX10_book 40 = .ok (.iadd, 1) := by decide +kernel
theorem dX10_book_41 : decode cX10_book 41 = .ok (.iaload, 1) := by decide +kernel
theorem dX10_book_42 : decode cX10_book 42 = .ok (.goto 5, 3) := by decide +kernel
theorem dX10_book_45 : decode cX10_book 45 = .ok (.ldc 182, 2) := by decide +kernel
theorem dX10_book_47 : decode cX10_book 47 = .ok (.ireturn, 1) := by decide +kernel
theorem dX10_why_0 : decode cX10_why 0 = .ok (.aload_n 0, 1) := by decide +kernel
theorem dX10_why_1 : decode cX10_why 1 = .ok (.iload_n 1, 1) := by decide +kernel
theorem dX10_why_2 : decode cX10_why 2 = .ok (.invokevirtual 98, 3) := by decide +kernel
theorem dX10_why_5 : decode cX10_why 5 = .ok (.ifCond .eq 30, 3) := by decide +kernel
theorem dX10_why_8 : decode cX10_why 8 = .ok (.iload_n 2, 1) := by decide +kernel
theorem dX10_why_9 : decode cX10_why 9 = .ok (.invokestatic 83, 3) := by decide +kernel
theorem dX10_why_12 : decode cX10_why 12 = .ok (.ifCond .eq 23, 3) := by decide +kernel
theorem dX10_why_15 : decode cX10_why 15 = .ok (.iload_n 3, 1) := by decide +kernel
theorem dX10_why_16 : decode cX10_why 16 = .ok (.iconst 1, 1) := by decide +kernel
theorem dX10_why_17 : decode cX10_why 17 = .ok (.bipush 99, 2) := by decide +kernel
theorem dX10_why_19 : decode cX10_why 19 = .ok (.invokestatic 25, 3) := by decide +kernel
theorem dX10_why_22 : decode cX10_why 22 = .ok (.ifCond .eq 13, 3) := by decide +kernel
theorem dX10_why_25 : decode cX10_why 25 = .ok (.aload_n 0, 1) := by decide +kernel
theorem dX10_why_26 : decode cX10_why 26 = .ok (.iload_n 1, 1) := by decide +kernel
theorem dX10_why_27 : decode cX10_why 27 = .ok (.iload_n 2, 1) := by decide +kernel
theorem dX10_why_28 : decode cX10_why 28 = .ok (.iload_n 3, 1) := by decide +kernel
theorem dX10_why_29 : decode cX10_why 29 = .ok (.invokevirtual 101, 3) := by decide +kernel
theorem dX10_why_32 : decode cX10_why 32 = .ok (.goto 5, 3) := by decide +kernel
theorem dX10_why_35 : decode cX10_why 35 = .ok (.ldc 64, 2) := by decide +kernel
theorem dX10_why_37 : decode cX10_why 37 = .ok (.ireturn, 1) := by decide +kernel
theorem dX10_most_0 : decode cX10_most 0 = .ok (.aload_n 0, 1) := by decide +kernel
theorem dX10_most_1 : decode cX10_most 1 = .ok (.iload_n 1, 1) := by decide +kernel
theorem dX10_most_2 : decode cX10_most 2 = .ok (.invokevirtual 98, 3) := by decide +kernel
theorem dX10_most_5 : decode cX10_most 5 = .ok (.ifCond .eq 10, 3) := by decide +kernel
theorem dX10_most_8 : decode cX10_most 8 = .ok (.iload_n 2, 1) := by decide +kernel
theorem dX10_most_9 : decode cX10_most 9 = .ok (.invokestatic 83, 3) := by decide +kernel
theorem dX10_most_12 : decode cX10_most 12 = .ok (.ifCond .ne 6, 3) := by decide +kernel
theorem dX10_most_15 : decode cX10_most 15 = .ok (.ldc 64, 2) := by decide +kernel
theorem dX10_most_17 : decode cX10_most 17 = .ok (.ireturn, 1) := by decide +kernel
theorem dX10_most_18 : decode cX10_most 18 = .ok (.iconst 0, 1) := by decide +kernel
theorem dX10_most_19 : decode cX10_most 19 = .ok (.istore_n 3, 1) := by decide +kernel
theorem dX10_most_20 : decode cX10_most 20 = .ok (.iload_n 3, 1) := by decide +kernel
theorem dX10_most_21 : decode cX10_most 21 = .ok (.bipush 99, 2) := by decide +kernel
theorem dX10_most_23 : decode cX10_most 23 = .ok (.if_icmp .ge 21, 3) := by decide +kernel
theorem dX10_most_26 : decode cX10_most 26 = .ok (.aload_n 0, 1) := by decide +kernel
theorem dX10_most_27 : decode cX10_most 27 = .ok (.iload_n 1, 1) := by decide +kernel
theorem dX10_most_28 : decode cX10_most 28 = .ok (.iload_n 2, 1) := by decide +kernel
theorem dX10_most_29 : decode cX10_most 29 = .ok (.iload_n 3, 1) := by decide +kernel
theorem dX10_most_30 : decode cX10_most 30 = .ok (.iconst 1, 1) := by decide +kernel
theorem dX10_most_31 : decode cX10_most 31 = .ok (.iadd, 1) := by decide +kernel
theorem dX10_most_32 : decode cX10_most 32 = .ok (.invokevirtual 101, 3) := by decide +kernel
theorem dX10_most_35 : decode cX10_most 35 = .ok (.ifCond .ne 9, 3) := by decide +kernel
theorem dX10_most_38 : decode cX10_most 38 = .ok (.iinc 3 1, 3) := by decide +kernel
theorem dX10_most_41 : decode cX10_most 41 = .ok (.goto (-21), 3) := by decide +kernel
theorem dX10_most_44 : decode cX10_most 44 = .ok (.iload_n 3, 1) := by decide +kernel
theorem dX10_most_45 : decode cX10_most 45 = .ok (.ireturn, 1) := by decide +kernel
theorem dX10_clearIn_0 : decode cX10_clearIn 0 = .ok (.aload_n 0, 1) := by decide +kernel
theorem dX10_clearIn_1 : decode cX10_clearIn 1 = .ok (.iload_n 1, 1) := by decide +kernel
theorem dX10_clearIn_2 : decode cX10_clearIn 2 = .ok (.invokevirtual 98, 3) := by decide +kernel
theorem dX10_clearIn_5 : decode cX10_clearIn 5 = .ok (.ifCond .ne 6, 3) := by decide +kernel
theorem dX10_clearIn_8 : decode cX10_clearIn 8 = .ok (.ldc 64, 2) := by decide +kernel
theorem dX10_clearIn_10 : decode cX10_clearIn 10 = .ok (.ireturn, 1) := by decide +kernel
theorem dX10_clearIn_11 : decode cX10_clearIn 11 = .ok (.aload_n 0, 1) := by decide +kernel
theorem dX10_clearIn_12 : decode cX10_clearIn 12 = .ok (.iload_n 1, 1) := by decide +kernel
theorem dX10_clearIn_13 : decode cX10_clearIn 13 = .ok (.invokevirtual 42, 3) := by decide +kernel
theorem dX10_clearIn_16 : decode cX10_clearIn 16 = .ok (.ifCond .eq 6, 3) := by decide +kernel
theorem dX10_clearIn_19 : decode cX10_clearIn 19 = .ok (.ldc 37, 2) := by decide +kernel
theorem dX10_clearIn_21 : decode cX10_clearIn 21 = .ok (.ireturn, 1) := by decide +kernel
theorem dX10_clearIn_22 : decode cX10_clearIn 22 = .ok (.aload_n 0, 1) := by decide +kernel
theorem dX10_clearIn_23 : decode cX10_clearIn 23 = .ok (.iload_n 1, 1) := by decide +kernel
theorem dX10_clearIn_24 : decode cX10_clearIn 24 = .ok (.invokevirtual 50, 3) := by decide +kernel
theorem dX10_clearIn_27 : decode cX10_clearIn 27 = .ok (.aload_n 0, 1) := by decide +kernel
theorem dX10_clearIn_28 : decode cX10_clearIn 28 = .ok (.iload_n 1, 1) := by decide +kernel
theorem dX10_clearIn_29 : decode cX10_clearIn 29 = .ok (.bipush 8, 2) := by decide +kernel
theorem dX10_clearIn_31 : decode cX10_clearIn 31 = .ok (.invokevirtual 29, 3) := by decide +kernel
theorem dX10_clearIn_34 : decode cX10_clearIn 34 = .ok (.isub, 1) := by decide +kernel
theorem dX10_clearIn_35 : decode cX10_clearIn 35 = .ok (.istore_n 2, 1) := by decide +kernel
theorem dX10_clearIn_36 : decode cX10_clearIn 36 = .ok (.iconst 0, 1) := by decide +kernel
theorem dX10_clearIn_37 : decode cX10_clearIn 37 = .ok (.istore_n 3, 1) := by decide +kernel
theorem dX10_clearIn_38 : decode cX10_clearIn 38 = .ok (.iconst 0, 1) := by decide +kernel
theorem dX10_clearIn_39 : decode cX10_clearIn 39 = .ok (.istore 4, 2) := by decide +kernel
theorem dX10_clearIn_41 : decode cX10_clearIn 41 = .ok (.iload 4, 2) := by decide +kernel
theorem dX10_clearIn_43 : decode cX10_clearIn 43 = .ok (.ifCond .ne 92, 3) := by decide +kernel
theorem dX10_clearIn_46 : decode cX10_clearIn 46 = .ok (.iload_n 3, 1) := by decide +kernel
theorem dX10_clearIn_47 : decode cX10_clearIn 47 = .ok (.sipush 400, 3) := by decide +kernel
theorem dX10_clearIn_50 : decode cX10_clearIn 50 = .ok (.if_icmp .gt 85, 3) := by decide +kernel
theorem dX10_clearIn_53 : decode cX10_clearIn 53 = .ok (.aload_n 0, 1) := by decide +kernel
theorem dX10_clearIn_54 : decode cX10_clearIn 54 = .ok (.iload_n 1, 1) := by decide +kernel
theorem dX10_clearIn_55 : decode cX10_clearIn 55 = .ok (.iconst 3, 1) := by decide +kernel
theorem dX10_clearIn_56 : decode cX10_clearIn 56 = .ok (.invokevirtual 29, 3) := by decide +kernel
theorem dX10_clearIn_59 : decode cX10_clearIn 59 = .ok (.aload_n 0, 1) := by decide +kernel
theorem dX10_clearIn_60 : decode cX10_clearIn 60 = .ok (.invokevirtual 65, 3) := by decide +kernel
theorem dX10_clearIn_63 : decode cX10_clearIn 63 = .ok (.ifCond .eq 7, 3) := by decide +kernel
theorem dX10_clearIn_66 : decode cX10_clearIn 66 = .ok (.iload_n 3, 1) := by decide +kernel
theorem dX10_clearIn_67 : decode cX10_clearIn 67 = .ok (.goto 4, 3) := by decide +kernel
theorem dX10_clearIn_70 : decode cX10_clearIn 70 = .ok (.iconst 0, 1) := by decide +kernel
theorem dX10_clearIn_71 : decode cX10_clearIn 71 = .ok (.iadd, 1) := by decide +kernel
theorem dX10_clearIn_72 : decode cX10_clearIn 72 = .ok (.istore 5, 2) := by decide +kernel
theorem dX10_clearIn_74 : decode cX10_clearIn 74 = .ok (.aload_n 0, 1) := by decide +kernel
theorem dX10_clearIn_75 : decode cX10_clearIn 75 = .ok (.iload_n 1, 1) := by decide +kernel
theorem dX10_clearIn_76 : decode cX10_clearIn 76 = .ok (.iconst 4, 1) := by decide +kernel
theorem dX10_clearIn_77 : decode cX10_clearIn 77 = .ok (.invokevirtual 29, 3) := by decide +kernel
theorem dX10_clearIn_80 : decode cX10_clearIn 80 = .ok (.aload_n 0, 1) := by decide +kernel
theorem dX10_clearIn_81 : decode cX10_clearIn 81 = .ok (.invokevirtual 65, 3) := by decide +kernel
theorem dX10_clearIn_84 : decode cX10_clearIn 84 = .ok (.ifCond .eq 7, 3) := by decide +kernel
theorem dX10_clearIn_87 : decode cX10_clearIn 87 = .ok (.iconst 0, 1) := by decide +kernel
theorem dX10_clearIn_88 : decode cX10_clearIn 88 = .ok (.goto 4, 3) := by decide +kernel
theorem dX10_clearIn_91 : decode cX10_clearIn 91 = .ok (.iload_n 3, 1) := by decide +kernel
theorem dX10_clearIn_92 : decode cX10_clearIn 92 = .ok (.iadd, 1) := by decide +kernel
theorem dX10_clearIn_93 : decode cX10_clearIn 93 = .ok (.istore 6, 2) := by decide +kernel
theorem dX10_clearIn_95 : decode cX10_clearIn 95 = .ok (.aload_n 0, 1) := by decide +kernel
theorem dX10_clearIn_96 : decode cX10_clearIn 96 = .ok (.iload_n 1, 1) := by decide +kernel
theorem dX10_clearIn_97 : decode cX10_clearIn 97 = .ok (.iconst 0, 1) := by decide +kernel
theorem dX10_clearIn_98 : decode cX10_clearIn 98 = .ok (.invokevirtual 29, 3) := by decide +kernel
theorem dX10_clearIn_101 : decode cX10_clearIn 101 = .ok (.iload 5, 2) := by decide +kernel
theorem dX10_clearIn_103 : decode cX10_clearIn 103 = .ok (.iload 6, 2) := by decide +kernel
theorem dX10_clearIn_105 : decode cX10_clearIn 105 = .ok (.invokestatic 38, 3) := by decide +kernel
theorem dX10_clearIn_108 : decode cX10_clearIn 108 = .ok (.iload_n 2, 1) := by decide +kernel
theorem dX10_clearIn_109 : decode cX10_clearIn 109 = .ok (.if_icmp .lt 7, 3) := by decide +kernel
theorem dX10_clearIn_112 : decode cX10_clearIn 112 = .ok (.iconst 1, 1) := by decide +kernel
theorem dX10_clearIn_113 : decode cX10_clearIn 113 = .ok (.goto 4, 3) := by decide +kernel
theorem dX10_clearIn_116 : decode cX10_clearIn 116 = .ok (.iconst 0, 1) := by decide +kernel
theorem dX10_clearIn_117 : decode cX10_clearIn 117 = .ok (.istore 4, 2) := by decide +kernel
theorem dX10_clearIn_119 : decode cX10_clearIn 119 = .ok (.iload_n 3, 1) := by decide +kernel
theorem dX10_clearIn_120 : decode cX10_clearIn 120 = .ok (.iload 4, 2) := by decide +kernel
theorem dX10_clearIn_122 : decode cX10_clearIn 122 = .ok (.ifCond .eq 7, 3) := by decide +kernel
theorem dX10_clearIn_125 : decode cX10_clearIn 125 = .ok (.iconst 0, 1) := by decide +kernel
theorem dX10_clearIn_126 : decode cX10_clearIn 126 = .ok (.goto 4, 3) := by decide +kernel
theorem dX10_clearIn_129 : decode cX10_clearIn 129 = .ok (.iconst 1, 1) := by decide +kernel
theorem dX10_clearIn_130 : decode cX10_clearIn 130 = .ok (.iadd, 1) := by decide +kernel
theorem dX10_clearIn_131 : decode cX10_clearIn 131 = .ok (.istore_n 3, 1) := by decide +kernel
theorem dX10_clearIn_132 : decode cX10_clearIn 132 = .ok (.goto (-91), 3) := by decide +kernel
theorem dX10_clearIn_135 : decode cX10_clearIn 135 = .ok (.iload 4, 2) := by decide +kernel
theorem dX10_clearIn_137 : decode cX10_clearIn 137 = .ok (.ifCond .eq 7, 3) := by decide +kernel
theorem dX10_clearIn_140 : decode cX10_clearIn 140 = .ok (.iload_n 3, 1) := by decide +kernel
theorem dX10_clearIn_141 : decode cX10_clearIn 141 = .ok (.goto 5, 3) := by decide +kernel
theorem dX10_clearIn_144 : decode cX10_clearIn 144 = .ok (.ldc 182, 2) := by decide +kernel
theorem dX10_clearIn_146 : decode cX10_clearIn 146 = .ok (.ireturn, 1) := by decide +kernel
theorem dX10_ifPaidOff_0 : decode cX10_ifPaidOff 0 = .ok (.iconst 0, 1) := by decide +kernel
theorem dX10_ifPaidOff_1 : decode cX10_ifPaidOff 1 = .ok (.istore_n 2, 1) := by decide +kernel
theorem dX10_ifPaidOff_2 : decode cX10_ifPaidOff 2 = .ok (.iconst 0, 1) := by decide +kernel
theorem dX10_ifPaidOff_3 : decode cX10_ifPaidOff 3 = .ok (.istore_n 3, 1) := by decide +kernel
theorem dX10_ifPaidOff_4 : decode cX10_ifPaidOff 4 = .ok (.iconst 0, 1) := by decide +kernel
theorem dX10_ifPaidOff_5 : decode cX10_ifPaidOff 5 = .ok (.istore 4, 2) := by decide +kernel
theorem dX10_ifPaidOff_7 : decode cX10_ifPaidOff 7 = .ok (.iconst 0, 1) := by decide +kernel
theorem dX10_ifPaidOff_8 : decode cX10_ifPaidOff 8 = .ok (.istore 5, 2) := by decide +kernel
theorem dX10_ifPaidOff_10 : decode cX10_ifPaidOff 10 = .ok (.iload 5, 2) := by decide +kernel
theorem dX10_ifPaidOff_12 : decode cX10_ifPaidOff 12 = .ok (.aload_n 0, 1) := by decide +kernel
theorem dX10_ifPaidOff_13 : decode cX10_ifPaidOff 13 = .ok (.getfield 7, 3) := by decide +kernel
theorem dX10_ifPaidOff_16 : decode cX10_ifPaidOff 16 = .ok (.sipush 194, 3) := by decide +kernel
theorem dX10_ifPaidOff_19 : decode cX10_ifPaidOff 19 = .ok (.iaload, 1) := by decide +kernel
theorem dX10_ifPaidOff_20 : decode cX10_ifPaidOff 20 = .ok (.if_icmp .ge 63, 3) := by decide +kernel
theorem dX10_ifPaidOff_23 : decode cX10_ifPaidOff 23 = .ok (.aload_n 0, 1) := by decide +kernel
theorem dX10_ifPaidOff_24 : decode cX10_ifPaidOff 24 = .ok (.iload 5, 2) := by decide +kernel
theorem dX10_ifPaidOff_26 : decode cX10_ifPaidOff 26 = .ok (.invokevirtual 95, 3) := by decide +kernel
theorem dX10_ifPaidOff_29 : decode cX10_ifPaidOff 29 = .ok (.istore 6, 2) := by decide +kernel
theorem dX10_ifPaidOff_31 : decode cX10_ifPaidOff 31 = .ok (.iload_n 2, 1) := by decide +kernel
theorem dX10_ifPaidOff_32 : decode cX10_ifPaidOff 32 = .ok (.iload 6, 2) := by decide +kernel
theorem dX10_ifPaidOff_34 : decode cX10_ifPaidOff 34 = .ok (.ifCond .le 8, 3) := by decide +kernel
theorem dX10_ifPaidOff_37 : decode cX10_ifPaidOff 37 = .ok (.iload 6, 2) := by decide +kernel
theorem dX10_ifPaidOff_39 : decode cX10_ifPaidOff 39 = .ok (.goto 4, 3) := by decide +kernel
theorem dX10_ifPaidOff_42 : decode cX10_ifPaidOff 42 = .ok (.iconst 0, 1) := by decide +kernel
theorem dX10_ifPaidOff_43 : decode cX10_ifPaidOff 43 = .ok (.iadd, 1) := by decide +kernel
theorem dX10_ifPaidOff_44 : decode cX10_ifPaidOff 44 = .ok (.istore_n 2, 1) := by decide +kernel
theorem dX10_ifPaidOff_45 : decode cX10_ifPaidOff 45 = .ok (.iload_n 3, 1) := by decide +kernel
theorem dX10_ifPaidOff_46 : decode cX10_ifPaidOff 46 = .ok (.iload 6, 2) := by decide +kernel
theorem dX10_ifPaidOff_48 : decode cX10_ifPaidOff 48 = .ok (.ifCond .ge 8, 3) := by decide +kernel
theorem dX10_ifPaidOff_51 : decode cX10_ifPaidOff 51 = .ok (.iload 6, 2) := by decide +kernel
theorem dX10_ifPaidOff_53 : decode cX10_ifPaidOff 53 = .ok (.goto 4, 3) := by decide +kernel
theorem dX10_ifPaidOff_56 : decode cX10_ifPaidOff 56 = .ok (.iconst 0, 1) := by decide +kernel
theorem dX10_ifPaidOff_57 : decode cX10_ifPaidOff 57 = .ok (.isub, 1) := by decide +kernel
theorem dX10_ifPaidOff_58 : decode cX10_ifPaidOff 58 = .ok (.istore_n 3, 1) := by decide +kernel
theorem dX10_ifPaidOff_59 : decode cX10_ifPaidOff 59 = .ok (.iload 4, 2) := by decide +kernel
theorem dX10_ifPaidOff_61 : decode cX10_ifPaidOff 61 = .ok (.iload 6, 2) := by decide +kernel
theorem dX10_ifPaidOff_63 : decode cX10_ifPaidOff 63 = .ok (.ifCond .ge 10, 3) := by decide +kernel
theorem dX10_ifPaidOff_66 : decode cX10_ifPaidOff 66 = .ok (.iconst 1, 1) := by decide +kernel
theorem dX10_ifPaidOff_67 : decode cX10_ifPaidOff 67 = .ok (.iload 5, 2) := by decide +kernel
theorem dX10_ifPaidOff_69 : decode cX10_ifPaidOff 69 = .ok (.ishl, 1) := by decide +kernel
theorem dX10_ifPaidOff_70 : decode cX10_ifPaidOff 70 = .ok (.goto 4, 3) := by decide +kernel
theorem dX10_ifPaidOff_73 : decode cX10_ifPaidOff 73 = .ok (.iconst 0, 1) := by decide +kernel
theorem dX10_ifPaidOff_74 : decode cX10_ifPaidOff 74 = .ok (.ior, 1) := by decide +kernel
theorem dX10_ifPaidOff_75 : decode cX10_ifPaidOff 75 = .ok (.istore 4, 2) := by decide +kernel
theorem dX10_ifPaidOff_77 : decode cX10_ifPaidOff 77 = .ok (.iinc 5 1, 3) := by decide +kernel
theorem dX10_ifPaidOff_80 : decode cX10_ifPaidOff 80 = .ok (.goto (-70), 3) := by decide +kernel
theorem dX10_ifPaidOff_83 : decode cX10_ifPaidOff 83 = .ok (.iload_n 1, 1) := by decide +kernel
theorem dX10_ifPaidOff_84 : decode cX10_ifPaidOff 84 = .ok (.tableswitch 66 0 3 #[32, 34, 61, 63], 32) := by decide +kernel
theorem dX10_ifPaidOff_116 : decode cX10_ifPaidOff 116 = .ok (.iload_n 2, 1) := by decide +kernel
theorem dX10_ifPaidOff_117 : decode cX10_ifPaidOff 117 = .ok (.ireturn, 1) := by decide +kernel
theorem dX10_ifPaidOff_118 : decode cX10_ifPaidOff 118 = .ok (.iload_n 2, 1) := by decide +kernel
theorem dX10_ifPaidOff_119 : decode cX10_ifPaidOff 119 = .ok (.aload_n 0, 1) := by decide +kernel
theorem dX10_ifPaidOff_120 : decode cX10_ifPaidOff 120 = .ok (.getfield 7, 3) := by decide +kernel
theorem dX10_ifPaidOff_123 : decode cX10_ifPaidOff 123 = .ok (.sipush 195, 3) := by decide +kernel
theorem dX10_ifPaidOff_126 : decode cX10_ifPaidOff 126 = .ok (.iaload, 1) := by decide +kernel
theorem dX10_ifPaidOff_127 : decode cX10_ifPaidOff 127 = .ok (.if_icmp .le 16, 3) := by decide +kernel
theorem dX10_ifPaidOff_130 : decode cX10_ifPaidOff 130 = .ok (.iload_n 2, 1) := by decide +kernel
theorem dX10_ifPaidOff_131 : decode cX10_ifPaidOff 131 = .ok (.aload_n 0, 1) := by decide +kernel
theorem dX10_ifPaidOff_132 : decode cX10_ifPaidOff 132 = .ok (.getfield 7, 3) := by decide +kernel
theorem dX10_ifPaidOff_135 : decode cX10_ifPaidOff 135 = .ok (.sipush 195, 3) := by decide +kernel
theorem dX10_ifPaidOff_138 : decode cX10_ifPaidOff 138 = .ok (.iaload, 1) := by decide +kernel
theorem dX10_ifPaidOff_139 : decode cX10_ifPaidOff 139 = .ok (.isub, 1) := by decide +kernel
theorem dX10_ifPaidOff_140 : decode cX10_ifPaidOff 140 = .ok (.goto 4, 3) := by decide +kernel
theorem dX10_ifPaidOff_143 : decode cX10_ifPaidOff 143 = .ok (.iconst 0, 1) := by decide +kernel
theorem dX10_ifPaidOff_144 : decode cX10_ifPaidOff 144 = .ok (.ireturn, 1) := by decide +kernel
theorem dX10_ifPaidOff_145 : decode cX10_ifPaidOff 145 = .ok (.iload_n 3, 1) := by decide +kernel
theorem dX10_ifPaidOff_146 : decode cX10_ifPaidOff 146 = .ok (.ireturn, 1) := by decide +kernel
theorem dX10_ifPaidOff_147 : decode cX10_ifPaidOff 147 = .ok (.iload 4, 2) := by decide +kernel
theorem dX10_ifPaidOff_149 : decode cX10_ifPaidOff 149 = .ok (.ireturn, 1) := by decide +kernel
theorem dX10_ifPaidOff_150 : decode cX10_ifPaidOff 150 = .ok (.ldc 64, 2) := by decide +kernel
theorem dX10_ifPaidOff_152 : decode cX10_ifPaidOff 152 = .ok (.ireturn, 1) := by decide +kernel
theorem dX10_poorest_0 : decode cX10_poorest 0 = .ok (.iload_n 1, 1) := by decide +kernel
theorem dX10_poorest_1 : decode cX10_poorest 1 = .ok (.ifCond .ge 6, 3) := by decide +kernel
theorem dX10_poorest_4 : decode cX10_poorest 4 = .ok (.ldc 64, 2) := by decide +kernel
theorem dX10_poorest_6 : decode cX10_poorest 6 = .ok (.ireturn, 1) := by decide +kernel
theorem dX10_poorest_7 : decode cX10_poorest 7 = .ok (.ldc 182, 2) := by decide +kernel
theorem dX10_poorest_9 : decode cX10_poorest 9 = .ok (.istore_n 2, 1) := by decide +kernel
theorem dX10_poorest_10 : decode cX10_poorest 10 = .ok (.iconst 0, 1) := by decide +kernel
theorem dX10_poorest_11 : decode cX10_poorest 11 = .ok (.istore_n 3, 1) := by decide +kernel
theorem dX10_poorest_12 : decode cX10_poorest 12 = .ok (.iload_n 3, 1) := by decide +kernel
theorem dX10_poorest_13 : decode cX10_poorest 13 = .ok (.aload_n 0, 1) := by decide +kernel
theorem dX10_poorest_14 : decode cX10_poorest 14 = .ok (.getfield 7, 3) := by decide +kernel
theorem dX10_poorest_17 : decode cX10_poorest 17 = .ok (.sipush 194, 3) := by decide +kernel
theorem dX10_poorest_20 : decode cX10_poorest 20 = .ok (.iaload, 1) := by decide +kernel
theorem dX10_poorest_21 : decode cX10_poorest 21 = .ok (.if_icmp .ge 119, 3) := by decide +kernel
theorem dX10_poorest_24 : decode cX10_poorest 24 = .ok (.iconst 0, 1) := by decide +kernel
theorem dX10_poorest_25 : decode cX10_poorest 25 = .ok (.istore 4, 2) := by decide +kernel
theorem dX10_poorest_27 : decode cX10_poorest 27 = .ok (.iconst 0, 1) := by decide +kernel
theorem dX10_poorest_28 : decode cX10_poorest 28 = .ok (.istore 5, 2) := by decide +kernel
theorem dX10_poorest_30 : decode cX10_poorest 30 = .ok (.iload 5, 2) := by decide +kernel
theorem dX10_poorest_32 : decode cX10_poorest 32 = .ok (.aload_n 0, 1) := by decide +kernel
theorem dX10_poorest_33 : decode cX10_poorest 33 = .ok (.getfield 7, 3) := by decide +kernel
theorem dX10_poorest_36 : decode cX10_poorest 36 = .ok (.sipush 194, 3) := by decide +kernel
theorem dX10_poorest_39 : decode cX10_poorest 39 = .ok (.iaload, 1) := by decide +kernel
theorem dX10_poorest_40 : decode cX10_poorest 40 = .ok (.if_icmp .ge 74, 3) := by decide +kernel
theorem dX10_poorest_43 : decode cX10_poorest 43 = .ok (.aload_n 0, 1) := by decide +kernel
theorem dX10_poorest_44 : decode cX10_poorest 44 = .ok (.iload 5, 2) := by decide +kernel
theorem dX10_poorest_46 : decode cX10_poorest 46 = .ok (.invokevirtual 95, 3) := by decide +kernel
theorem dX10_poorest_49 : decode cX10_poorest 49 = .ok (.aload_n 0, 1) := by decide +kernel
theorem dX10_poorest_50 : decode cX10_poorest 50 = .ok (.iload_n 3, 1) := by decide +kernel
theorem dX10_poorest_51 : decode cX10_poorest 51 = .ok (.invokevirtual 95, 3) := by decide +kernel
theorem dX10_poorest_54 : decode cX10_poorest 54 = .ok (.if_icmp .lt 23, 3) := by decide +kernel
theorem dX10_poorest_57 : decode cX10_poorest 57 = .ok (.aload_n 0, 1) := by decide +kernel
theorem dX10_poorest_58 : decode cX10_poorest 58 = .ok (.iload 5, 2) := by decide +kernel
theorem dX10_poorest_60 : decode cX10_poorest 60 = .ok (.invokevirtual 95, 3) := by decide +kernel
theorem dX10_poorest_63 : decode cX10_poorest 63 = .ok (.aload_n 0, 1) := by decide +kernel
theorem dX10_poorest_64 : decode cX10_poorest 64 = .ok (.iload_n 3, 1) := by decide +kernel
theorem dX10_poorest_65 : decode cX10_poorest 65 = .ok (.invokevirtual 95, 3) := by decide +kernel
theorem dX10_poorest_68 : decode cX10_poorest 68 = .ok (.if_icmp .ne 13, 3) := by decide +kernel
theorem dX10_poorest_71 : decode cX10_poorest 71 = .ok (.iload 5, 2) := by decide +kernel
theorem dX10_poorest_73 : decode cX10_poorest 73 = .ok (.iload_n 3, 1) := by decide +kernel
theorem dX10_poorest_74 : decode cX10_poorest 74 = .ok (.if_icmp .ge 7, 3) := by decide +kernel
theorem dX10_poorest_77 : decode cX10_poorest 77 = .ok (.iconst 1, 1) := by decide +kernel
theorem dX10_poorest_78 : decode cX10_poorest 78 = .ok (.goto 4, 3) := by decide +kernel
theorem dX10_poorest_81 : decode cX10_poorest 81 = .ok (.iconst 0, 1) := by decide +kernel
theorem dX10_poorest_82 : decode cX10_poorest 82 = .ok (.istore 6, 2) := by decide +kernel
theorem dX10_poorest_84 : decode cX10_poorest 84 = .ok (.iload 4, 2) := by decide +kernel
theorem dX10_poorest_86 : decode cX10_poorest 86 = .ok (.aload_n 0, 1) := by decide +kernel
theorem dX10_poorest_87 : decode cX10_poorest 87 = .ok (.iload 5, 2) := by decide +kernel
theorem dX10_poorest_89 : decode cX10_poorest 89 = .ok (.invokevirtual 42, 3) := by decide +kernel
theorem dX10_poorest_92 : decode cX10_poorest 92 = .ok (.ifCond .ne 12, 3) := by decide +kernel
theorem dX10_poorest_95 : decode cX10_poorest 95 = .ok (.iload 6, 2) := by decide +kernel
theorem dX10_poorest_97 : decode cX10_poorest 97 = .ok (.ifCond .eq 7, 3) := by decide +kernel
theorem dX10_poorest_100 : decode cX10_poorest 100 = .ok (.iconst 1, 1) := by decide +kernel
theorem dX10_poorest_101 : decode cX10_poorest 101 = .ok (.goto 4, 3) := by decide +kernel
theorem dX10_poorest_104 : decode cX10_poorest 104 = .ok (.iconst 0, 1) := by decide +kernel
theorem dX10_poorest_105 : decode cX10_poorest 105 = .ok (.iadd, 1) := by decide +kernel
theorem dX10_poorest_106 : decode cX10_poorest 106 = .ok (.istore 4, 2) := by decide +kernel
theorem dX10_poorest_108 : decode cX10_poorest 108 = .ok (.iinc 5 1, 3) := by decide +kernel
theorem dX10_poorest_111 : decode cX10_poorest 111 = .ok (.goto (-81), 3) := by decide +kernel
theorem dX10_poorest_114 : decode cX10_poorest 114 = .ok (.aload_n 0, 1) := by decide +kernel
theorem dX10_poorest_115 : decode cX10_poorest 115 = .ok (.iload_n 3, 1) := by decide +kernel
theorem dX10_poorest_116 : decode cX10_poorest 116 = .ok (.invokevirtual 42, 3) := by decide +kernel
theorem dX10_poorest_119 : decode cX10_poorest 119 = .ok (.ifCond .ne 13, 3) := by decide +kernel
theorem dX10_poorest_122 : decode cX10_poorest 122 = .ok (.iload 4, 2) := by decide +kernel
theorem dX10_poorest_124 : decode cX10_poorest 124 = .ok (.iload_n 1, 1) := by decide +kernel
theorem dX10_poorest_125 : decode cX10_poorest 125 = .ok (.if_icmp .ne 7, 3) := by decide +kernel
theorem dX10_poorest_128 : decode cX10_poorest 128 = .ok (.iload_n 3, 1) := by decide +kernel
theorem dX10_poorest_129 : decode cX10_poorest 129 = .ok (.goto 4, 3) := by decide +kernel
theorem dX10_poorest_132 : decode cX10_poorest 132 = .ok (.iload_n 2, 1) := by decide +kernel
theorem dX10_poorest_133 : decode cX10_poorest 133 = .ok (.istore_n 2, 1) := by decide +kernel
theorem dX10_poorest_134 : decode cX10_poorest 134 = .ok (.iinc 3 1, 3) := by decide +kernel
theorem dX10_poorest_137 : decode cX10_poorest 137 = .ok (.goto (-125), 3) := by decide +kernel
theorem dX10_poorest_140 : decode cX10_poorest 140 = .ok (.iload_n 2, 1) := by decide +kernel
theorem dX10_poorest_141 : decode cX10_poorest 141 = .ok (.ireturn, 1) := by decide +kernel
theorem dX10_share_0 : decode cX10_share 0 = .ok (.iconst 0, 1) := by decide +kernel
theorem dX10_share_1 : decode cX10_share 1 = .ok (.istore_n 1, 1) := by decide +kernel
theorem dX10_share_2 : decode cX10_share 2 = .ok (.iconst 0, 1) := by decide +kernel
theorem dX10_share_3 : decode cX10_share 3 = .ok (.istore_n 2, 1) := by decide +kernel
theorem dX10_share_4 : decode cX10_share 4 = .ok (.iconst 0, 1) := by decide +kernel
theorem dX10_share_5 : decode cX10_share 5 = .ok (.istore_n 3, 1) := by decide +kernel
theorem dX10_share_6 : decode cX10_share 6 = .ok (.iload_n 3, 1) := by decide +kernel
theorem dX10_share_7 : decode cX10_share 7 = .ok (.aload_n 0, 1) := by decide +kernel
theorem dX10_share_8 : decode cX10_share 8 = .ok (.getfield 7, 3) := by decide +kernel
theorem dX10_share_11 : decode cX10_share 11 = .ok (.sipush 194, 3) := by decide +kernel
theorem dX10_share_14 : decode cX10_share 14 = .ok (.iaload, 1) := by decide +kernel
theorem dX10_share_15 : decode cX10_share 15 = .ok (.if_icmp .ge 49, 3) := by decide +kernel
theorem dX10_share_18 : decode cX10_share 18 = .ok (.iload_n 1, 1) := by decide +kernel
theorem dX10_share_19 : decode cX10_share 19 = .ok (.aload_n 0, 1) := by decide +kernel
theorem dX10_share_20 : decode cX10_share 20 = .ok (.iload_n 3, 1) := by decide +kernel
theorem dX10_share_21 : decode cX10_share 21 = .ok (.invokevirtual 42, 3) := by decide +kernel
theorem dX10_share_24 : decode cX10_share 24 = .ok (.ifCond .eq 7, 3) := by decide +kernel
theorem dX10_share_27 : decode cX10_share 27 = .ok (.iconst 0, 1) := by decide +kernel
theorem dX10_share_28 : decode cX10_share 28 = .ok (.goto 8, 3) := by decide +kernel
theorem dX10_share_31 : decode cX10_share 31 = .ok (.aload_n 0, 1) := by decide +kernel
theorem dX10_share_32 : decode cX10_share 32 = .ok (.iload_n 3, 1) := by decide +kernel
theorem dX10_share_33 : decode cX10_share 33 = .ok (.invokevirtual 46, 3) := by decide +kernel
theorem dX10_share_36 : decode cX10_share 36 = .ok (.iadd, 1) := by decide +kernel
theorem dX10_share_37 : decode cX10_share 37 = .ok (.istore_n 1, 1) := by decide +kernel
theorem dX10_share_38 : decode cX10_share 38 = .ok (.iload_n 2, 1) := by decide +kernel
theorem dX10_share_39 : decode cX10_share 39 = .ok (.aload_n 0, 1) := by decide +kernel
theorem dX10_share_40 : decode cX10_share 40 = .ok (.iload_n 3, 1) := by decide +kernel
theorem dX10_share_41 : decode cX10_share 41 = .ok (.invokevirtual 42, 3) := by decide +kernel
theorem dX10_share_44 : decode cX10_share 44 = .ok (.ifCond .eq 7, 3) := by decide +kernel
theorem dX10_share_47 : decode cX10_share 47 = .ok (.iconst 0, 1) := by decide +kernel
theorem dX10_share_48 : decode cX10_share 48 = .ok (.goto 8, 3) := by decide +kernel
theorem dX10_share_51 : decode cX10_share 51 = .ok (.aload_n 0, 1) := by decide +kernel
theorem dX10_share_52 : decode cX10_share 52 = .ok (.iload_n 3, 1) := by decide +kernel
theorem dX10_share_53 : decode cX10_share 53 = .ok (.invokevirtual 50, 3) := by decide +kernel
theorem dX10_share_56 : decode cX10_share 56 = .ok (.iadd, 1) := by decide +kernel
theorem dX10_share_57 : decode cX10_share 57 = .ok (.istore_n 2, 1) := by decide +kernel
theorem dX10_share_58 : decode cX10_share 58 = .ok (.iinc 3 1, 3) := by decide +kernel
theorem dX10_share_61 : decode cX10_share 61 = .ok (.goto (-55), 3) := by decide +kernel
theorem dX10_share_64 : decode cX10_share 64 = .ok (.iload_n 1, 1) := by decide +kernel
theorem dX10_share_65 : decode cX10_share 65 = .ok (.ifCond .ne 8, 3) := by decide +kernel
theorem dX10_share_68 : decode cX10_share 68 = .ok (.ldc 182, 2) := by decide +kernel
theorem dX10_share_70 : decode cX10_share 70 = .ok (.goto 11, 3) := by decide +kernel
theorem dX10_share_73 : decode cX10_share 73 = .ok (.iload_n 2, 1) := by decide +kernel
theorem dX10_share_74 : decode cX10_share 74 = .ok (.i2f, 1) := by decide +kernel
theorem dX10_share_75 : decode cX10_share 75 = .ok (.iload_n 1, 1) := by decide +kernel
theorem dX10_share_76 : decode cX10_share 76 = .ok (.i2f, 1) := by decide +kernel
theorem dX10_share_77 : decode cX10_share 77 = .ok (.fdiv, 1) := by decide +kernel
theorem dX10_share_78 : decode cX10_share 78 = .ok (.invokestatic 183, 3) := by decide +kernel
theorem dX10_share_81 : decode cX10_share 81 = .ok (.ireturn, 1) := by decide +kernel
theorem dX10_count_0 : decode cX10_count 0 = .ok (.iload_n 1, 1) := by decide +kernel
theorem dX10_count_1 : decode cX10_count 1 = .ok (.bipush 8, 2) := by decide +kernel
theorem dX10_count_3 : decode cX10_count 3 = .ok (.bipush 14, 2) := by decide +kernel
theorem dX10_count_5 : decode cX10_count 5 = .ok (.invokestatic 25, 3) := by decide +kernel
theorem dX10_count_8 : decode cX10_count 8 = .ok (.ifCond .eq 17, 3) := by decide +kernel
theorem dX10_count_11 : decode cX10_count 11 = .ok (.aload_n 0, 1) := by decide +kernel
theorem dX10_count_12 : decode cX10_count 12 = .ok (.getfield 7, 3) := by decide +kernel
theorem dX10_count_15 : decode cX10_count 15 = .ok (.sipush 195, 3) := by decide +kernel
theorem dX10_count_18 : decode cX10_count 18 = .ok (.iload_n 1, 1) := by decide +kernel
theorem dX10_count_19 : decode cX10_count 19 = .ok (.iadd, 1) := by decide +kernel
theorem dX10_count_20 : decode cX10_count 20 = .ok (.bipush 8, 2) := by decide +kernel
theorem dX10_count_22 : decode cX10_count 22 = .ok (.isub, 1) := by decide +kernel
theorem dX10_count_23 : decode cX10_count 23 = .ok (.iaload, 1) := by decide +kernel
theorem dX10_count_24 : decode cX10_count 24 = .ok (.ireturn, 1) := by decide +kernel
theorem dX10_count_25 : decode cX10_count 25 = .ok (.iload_n 1, 1) := by decide +kernel
theorem dX10_count_26 : decode cX10_count 26 = .ok (.bipush 20, 2) := by decide +kernel
theorem dX10_count_28 : decode cX10_count 28 = .ok (.bipush 22, 2) := by decide +kernel
theorem dX10_count_30 : decode cX10_count 30 = .ok (.invokestatic 25, 3) := by decide +kernel
theorem dX10_count_33 : decode cX10_count 33 = .ok (.ifCond .eq 17, 3) := by decide +kernel
theorem dX10_count_36 : decode cX10_count 36 = .ok (.aload_n 0, 1) := by decide +kernel
theorem dX10_count_37 : decode cX10_count 37 = .ok (.getfield 7, 3) := by decide +kernel
theorem dX10_count_40 : decode cX10_count 40 = .ok (.sipush 203, 3) := by decide +kernel
theorem dX10_count_43 : decode cX10_count 43 = .ok (.iload_n 1, 1) := by decide +kernel
theorem dX10_count_44 : decode cX10_count 44 = .ok (.iadd, 1) := by decide +kernel
theorem dX10_count_45 : decode cX10_count 45 = .ok (.bipush 20, 2) := by decide +kernel
theorem dX10_count_47 : decode cX10_count 47 = .ok (.isub, 1) := by decide +kernel
theorem dX10_count_48 : decode cX10_count 48 = .ok (.iaload, 1) := by decide +kernel
theorem dX10_count_49 : decode cX10_count 49 = .ok (.ireturn, 1) := by decide +kernel
theorem dX10_count_50 : decode cX10_count 50 = .ok (.iload_n 1, 1) := by decide +kernel
theorem dX10_count_51 : decode cX10_count 51 = .ok (.tableswitch 183 0 18 #[89, 98, 107, 116, 125, 134, 140, 146, 183, 183, 183, 183, 183, 183, 183, 152, 164, 173, 178], 89) := by decide +kernel
theorem dX10_count_140 : decode cX10_count 140 = .ok (.aload_n 0, 1) := by decide +kernel
theorem dX10_count_141 : decode cX10_count 141 = .ok (.getfield 7, 3) := by decide +kernel
theorem dX10_count_144 : decode cX10_count 144 = .ok (.sipush 190, 3) := by decide +kernel
theorem dX10_count_147 : decode cX10_count 147 = .ok (.iaload, 1) := by decide +kernel
theorem dX10_count_148 : decode cX10_count 148 = .ok (.ireturn, 1) := by decide +kernel
theorem dX10_count_149 : decode cX10_count 149 = .ok (.aload_n 0, 1) := by decide +kernel
theorem dX10_count_150 : decode cX10_count 150 = .ok (.getfield 7, 3) := by decide +kernel
theorem dX10_count_153 : decode cX10_count 153 = .ok (.sipush 191, 3) := by decide +kernel
theorem dX10_count_156 : decode cX10_count 156 = .ok (.iaload, 1) := by decide +kernel
theorem dX10_count_157 : decode cX10_count 157 = .ok (.ireturn, 1) := by decide +kernel
theorem dX10_count_158 : decode cX10_count 158 = .ok (.aload_n 0, 1) := by decide +kernel
theorem dX10_count_159 : decode cX10_count 159 = .ok (.getfield 7, 3) := by decide +kernel
theorem dX10_count_162 : decode cX10_count 162 = .ok (.sipush 192, 3) := by decide +kernel
theorem dX10_count_165 : decode cX10_count 165 = .ok (.iaload, 1) := by decide +kernel
theorem dX10_count_166 : decode cX10_count 166 = .ok (.ireturn, 1) := by decide +kernel
theorem dX10_count_167 : decode cX10_count 167 = .ok (.aload_n 0, 1) := by decide +kernel
theorem dX10_count_168 : decode cX10_count 168 = .ok (.getfield 7, 3) := by decide +kernel
theorem dX10_count_171 : decode cX10_count 171 = .ok (.sipush 193, 3) := by decide +kernel
theorem dX10_count_174 : decode cX10_count 174 = .ok (.iaload, 1) := by decide +kernel
theorem dX10_count_175 : decode cX10_count 175 = .ok (.ireturn, 1) := by decide +kernel
theorem dX10_count_176 : decode cX10_count 176 = .ok (.aload_n 0, 1) := by decide +kernel
theorem dX10_count_177 : decode cX10_count 177 = .ok (.getfield 7, 3) := by decide +kernel
theorem dX10_count_180 : decode cX10_count 180 = .ok (.sipush 194, 3) := by decide +kernel
theorem dX10_count_183 : decode cX10_count 183 = .ok (.iaload, 1) := by decide +kernel
theorem dX10_count_184 : decode cX10_count 184 = .ok (.ireturn, 1) := by decide +kernel
theorem dX10_count_185 : decode cX10_count 185 = .ok (.aload_n 0, 1) := by decide +kernel
theorem dX10_count_186 : decode cX10_count 186 = .ok (.iconst 0, 1) := by decide +kernel
theorem dX10_count_187 : decode cX10_count 187 = .ok (.invokevirtual 135, 3) := by decide +kernel
theorem dX10_count_190 : decode cX10_count 190 = .ok (.ireturn, 1) := by decide +kernel
theorem dX10_count_191 : decode cX10_count 191 = .ok (.aload_n 0, 1) := by decide +kernel
theorem dX10_count_192 : decode cX10_count 192 = .ok (.iconst 1, 1) := by decide +kernel
theorem dX10_count_193 : decode cX10_count 193 = .ok (.invokevirtual 135, 3) := by decide +kernel
theorem dX10_count_196 : decode cX10_count 196 = .ok (.ireturn, 1) := by decide +kernel
theorem dX10_count_197 : decode cX10_count 197 = .ok (.aload_n 0, 1) := by decide +kernel
theorem dX10_count_198 : decode cX10_count 198 = .ok (.iconst 2, 1) := by decide +kernel
theorem dX10_count_199 : decode cX10_count 199 = .ok (.invokevirtual 135, 3) := by decide +kernel
theorem dX10_count_202 : decode cX10_count 202 = .ok (.ireturn, 1) := by decide +kernel
theorem dX10_count_203 : decode cX10_count 203 = .ok (.ldc 189, 2) := by decide +kernel
theorem dX10_count_205 : decode cX10_count 205 = .ok (.aload_n 0, 1) := by decide +kernel
theorem dX10_count_206 : decode cX10_count 206 = .ok (.getfield 7, 3) := by decide +kernel
theorem dX10_count_209 : decode cX10_count 209 = .ok (.sipush 202, 3) := by decide +kernel
theorem dX10_count_212 : decode cX10_count 212 = .ok (.iaload, 1) := by decide +kernel
theorem dX10_count_213 : decode cX10_count 213 = .ok (.iadd, 1) := by decide +kernel
theorem dX10_count_214 : decode cX10_count 214 = .ok (.ireturn, 1) := by decide +kernel
theorem dX10_count_215 : decode cX10_count 215 = .ok (.aload_n 0, 1) := by decide +kernel
theorem dX10_count_216 : decode cX10_count 216 = .ok (.getfield 7, 3) := by decide +kernel
theorem dX10_count_219 : decode cX10_count 219 = .ok (.sipush 206, 3) := by decide +kernel
theorem dX10_count_222 : decode cX10_count 222 = .ok (.iaload, 1) := by decide +kernel
theorem dX10_count_223 : decode cX10_count 223 = .ok (.ireturn, 1) := by decide +kernel
theorem dX10_count_224 : decode cX10_count 224 = .ok (.aload_n 0, 1) := by decide +kernel
theorem dX10_count_225 : decode cX10_count 225 = .ok (.getfield 33, 3) := by decide +kernel
theorem dX10_count_228 : decode cX10_count 228 = .ok (.ireturn, 1) := by decide +kernel
theorem dX10_count_229 : decode cX10_count 229 = .ok (.aload_n 0, 1) := by decide +kernel
theorem dX10_count_230 : decode cX10_count 230 = .ok (.getfield 190, 3) := by decide +kernel
theorem dX10_count_233 : decode cX10_count 233 = .ok (.ireturn, 1) := by decide +kernel
theorem dX10_count_234 : decode cX10_count 234 = .ok (.ldc 64, 2) := by decide +kernel
theorem dX10_count_236 : decode cX10_count 236 = .ok (.ireturn, 1) := by decide +kernel
theorem dX10_type_0 : decode cX10_type 0 = .ok (.iload_n 1, 1) := by decide +kernel
theorem dX10_type_1 : decode cX10_type 1 = .ok (.bipush 32, 2) := by decide +kernel
theorem dX10_type_3 : decode cX10_type 3 = .ok (.bipush 126, 2) := by decide +kernel
theorem dX10_type_5 : decode cX10_type 5 = .ok (.invokestatic 25, 3) := by decide +kernel
theorem dX10_type_8 : decode cX10_type 8 = .ok (.ifCond .ne 6, 3) := by decide +kernel
theorem dX10_type_11 : decode cX10_type 11 = .ok (.ldc 64, 2) := by decide +kernel
theorem dX10_type_13 : decode cX10_type 13 = .ok (.ireturn, 1) := by decide +kernel
theorem dX10_type_14 : decode cX10_type 14 = .ok (.aload_n 0, 1) := by decide +kernel
theorem dX10_type_15 : decode cX10_type 15 = .ok (.getfield 190, 3) := by decide +kernel
theorem dX10_type_18 : decode cX10_type 18 = .ok (.bipush 60, 2) := by decide +kernel
theorem dX10_type_20 : decode cX10_type 20 = .ok (.if_icmp .ne 6, 3) := by decide +kernel
theorem dX10_type_23 : decode cX10_type 23 = .ok (.ldc 69, 2) := by decide +kernel
theorem dX10_type_25 : decode cX10_type 25 = .ok (.ireturn, 1) := by decide +kernel
theorem dX10_type_26 : decode cX10_type 26 = .ok (.aload_n 0, 1) := by decide +kernel
theorem dX10_type_27 : decode cX10_type 27 = .ok (.getfield 19, 3) := by decide +kernel
theorem dX10_type_30 : decode cX10_type 30 = .ok (.aload_n 0, 1) := by decide +kernel
theorem dX10_type_31 : decode cX10_type 31 = .ok (.getfield 190, 3) := by decide +kernel
theorem dX10_type_34 : decode cX10_type 34 = .ok (.iload_n 1, 1) := by decide +kernel
theorem dX10_type_35 : decode cX10_type 35 = .ok (.iastore, 1) := by decide +kernel
theorem dX10_type_36 : decode cX10_type 36 = .ok (.aload_n 0, 1) := by decide +kernel
theorem dX10_type_37 : decode cX10_type 37 = .ok (.dup, 1) := by decide +kernel
theorem dX10_type_38 : decode cX10_type 38 = .ok (.getfield 190, 3) := by decide +kernel
theorem dX10_type_41 : decode cX10_type 41 = .ok (.iconst 1, 1) := by decide +kernel
theorem dX10_type_42 : decode cX10_type 42 = .ok (.iadd, 1) := by decide +kernel
theorem dX10_type_43 : decode cX10_type 43 = .ok (.putfield 190, 3) := by decide +kernel
theorem dX10_type_46 : decode cX10_type 46 = .ok (.aload_n 0, 1) := by decide +kernel
theorem dX10_type_47 : decode cX10_type 47 = .ok (.getfield 190, 3) := by decide +kernel
theorem dX10_type_50 : decode cX10_type 50 = .ok (.ireturn, 1) := by decide +kernel
theorem dX10_clearText_0 : decode cX10_clearText 0 = .ok (.aload_n 0, 1) := by decide +kernel
theorem dX10_clearText_1 : decode cX10_clearText 1 = .ok (.getfield 190, 3) := by decide +kernel
theorem dX10_clearText_4 : decode cX10_clearText 4 = .ok (.istore_n 1, 1) := by decide +kernel
theorem dX10_clearText_5 : decode cX10_clearText 5 = .ok (.aload_n 0, 1) := by decide +kernel
theorem dX10_clearText_6 : decode cX10_clearText 6 = .ok (.iconst 0, 1) := by decide +kernel
theorem dX10_clearText_7 : decode cX10_clearText 7 = .ok (.putfield 190, 3) := by decide +kernel
theorem dX10_clearText_10 : decode cX10_clearText 10 = .ok (.iload_n 1, 1) := by decide +kernel
theorem dX10_clearText_11 : decode cX10_clearText 11 = .ok (.ireturn, 1) := by decide +kernel
theorem dX10_at_0 : decode cX10_at 0 = .ok (.iload_n 1, 1) := by decide +kernel
theorem dX10_at_1 : decode cX10_at 1 = .ok (.aload_n 0, 1) := by decide +kernel
theorem dX10_at_2 : decode cX10_at 2 = .ok (.getfield 190, 3) := by decide +kernel
theorem dX10_at_5 : decode cX10_at 5 = .ok (.if_icmp .ge 12, 3) := by decide +kernel
theorem dX10_at_8 : decode cX10_at 8 = .ok (.aload_n 0, 1) := by decide +kernel
theorem dX10_at_9 : decode cX10_at 9 = .ok (.getfield 19, 3) := by decide +kernel
theorem dX10_at_12 : decode cX10_at 12 = .ok (.iload_n 1, 1) := by decide +kernel
theorem dX10_at_13 : decode cX10_at 13 = .ok (.iaload, 1) := by decide +kernel
theorem dX10_at_14 : decode cX10_at 14 = .ok (.goto 4, 3) := by decide +kernel
theorem dX10_at_17 : decode cX10_at 17 = .ok (.iconst 0, 1) := by decide +kernel
theorem dX10_at_18 : decode cX10_at 18 = .ok (.ireturn, 1) := by decide +kernel
theorem dX10_numbers_0 : decode cX10_numbers 0 = .ok (.iload_n 0, 1) := by decide +kernel
theorem dX10_numbers_1 : decode cX10_numbers 1 = .ok (.tableswitch 111 97 118 #[107, 109, 111, 105, 103, 107, 111, 107, 111, 111, 111, 105, 111, 111, 103, 103, 111, 107, 111, 111, 111, 109], 103) := by decide +kernel
theorem dX10_numbers_104 : decode cX10_numbers 104 = .ok (.iconst 0, 1) := by decide +kernel
theorem dX10_numbers_105 : decode cX10_numbers 105 = .ok (.ireturn, 1) := by decide +kernel
theorem dX10_numbers_106 : decode cX10_numbers 106 = .ok (.iconst 1, 1) := by decide +kernel
theorem dX10_numbers_107 : decode cX10_numbers 107 = .ok (.ireturn, 1) := by decide +kernel
theorem dX10_numbers_108 : decode cX10_numbers 108 = .ok (.iconst 2, 1) := by decide +kernel
theorem dX10_numbers_109 : decode cX10_numbers 109 = .ok (.ireturn, 1) := by decide +kernel
theorem dX10_numbers_110 : decode cX10_numbers 110 = .ok (.iconst 3, 1) := by decide +kernel
theorem dX10_numbers_111 : decode cX10_numbers 111 = .ok (.ireturn, 1) := by decide +kernel
theorem dX10_numbers_112 : decode cX10_numbers 112 = .ok (.iconst (-1), 1) := by decide +kernel
theorem dX10_numbers_113 : decode cX10_numbers 113 = .ok (.ireturn, 1) := by decide +kernel
theorem dX10_readOrder_0 : decode cX10_readOrder 0 = .ok (.aload_n 0, 1) := by decide +kernel
theorem dX10_readOrder_1 : decode cX10_readOrder 1 = .ok (.aload_n 0, 1) := by decide +kernel
theorem dX10_readOrder_2 : decode cX10_readOrder 2 = .ok (.iload_n 1, 1) := by decide +kernel
theorem dX10_readOrder_3 : decode cX10_readOrder 3 = .ok (.invokevirtual 193, 3) := by decide +kernel
theorem dX10_readOrder_6 : decode cX10_readOrder 6 = .ok (.putfield 196, 3) := by decide +kernel
theorem dX10_readOrder_9 : decode cX10_readOrder 9 = .ok (.aload_n 0, 1) := by decide +kernel
theorem dX10_readOrder_10 : decode cX10_readOrder 10 = .ok (.getfield 196, 3) := by decide +kernel
theorem dX10_readOrder_13 : decode cX10_readOrder 13 = .ok (.invokestatic 199, 3) := by decide +kernel
theorem dX10_readOrder_16 : decode cX10_readOrder 16 = .ok (.istore_n 2, 1) := by decide +kernel
theorem dX10_readOrder_17 : decode cX10_readOrder 17 = .ok (.aload_n 0, 1) := by decide +kernel
theorem dX10_readOrder_18 : decode cX10_readOrder 18 = .ok (.iconst 0, 1) := by decide +kernel
theorem dX10_readOrder_19 : decode cX10_readOrder 19 = .ok (.putfield 202, 3) := by decide +kernel
theorem dX10_readOrder_22 : decode cX10_readOrder 22 = .ok (.iload_n 2, 1) := by decide +kernel
theorem dX10_readOrder_23 : decode cX10_readOrder 23 = .ok (.ifCond .ge 5, 3) := by decide +kernel
theorem dX10_readOrder_26 : decode cX10_readOrder 26 = .ok (.iconst (-1), 1) := by decide +kernel
theorem dX10_readOrder_27 : decode cX10_readOrder 27 = .ok (.ireturn, 1) := by decide +kernel
theorem dX10_readOrder_28 : decode cX10_readOrder 28 = .ok (.iload_n 1, 1) := by decide +kernel
theorem dX10_readOrder_29 : decode cX10_readOrder 29 = .ok (.iconst 1, 1) := by decide +kernel
theorem dX10_readOrder_30 : decode cX10_readOrder 30 = .ok (.iadd, 1) := by decide +kernel
theorem dX10_readOrder_31 : decode cX10_readOrder 31 = .ok (.istore_n 3, 1) := by decide +kernel
theorem dX10_readOrder_32 : decode cX10_readOrder 32 = .ok (.iconst 0, 1) := by decide +kernel
theorem dX10_readOrder_33 : decode cX10_readOrder 33 = .ok (.istore 4, 2) := by decide +kernel
theorem dX10_readOrder_35 : decode cX10_readOrder 35 = .ok (.iload 4, 2) := by decide +kernel
theorem dX10_readOrder_37 : decode cX10_readOrder 37 = .ok (.iload_n 2, 1) := by decide +kernel
theorem dX10_readOrder_38 : decode cX10_readOrder 38 = .ok (.if_icmp .ge 124, 3) := by decide +kernel
theorem dX10_readOrder_41 : decode cX10_readOrder 41 = .ok (.aload_n 0, 1) := by decide +kernel
theorem dX10_readOrder_42 : decode cX10_readOrder 42 = .ok (.getfield 22, 3) := by decide +kernel
theorem dX10_readOrder_45 : decode cX10_readOrder 45 = .ok (.iload 4, 2) := by decide +kernel
theorem dX10_readOrder_47 : decode cX10_readOrder 47 = .ok (.iconst 0, 1) := by decide +kernel
theorem dX10_readOrder_48 : decode cX10_readOrder 48 = .ok (.iastore, 1) := by decide +kernel
theorem dX10_readOrder_49 : decode cX10_readOrder 49 = .ok (.iconst 0, 1) := by decide +kernel
theorem dX10_readOrder_50 : decode cX10_readOrder 50 = .ok (.istore 5, 2) := by decide +kernel
theorem dX10_readOrder_52 : decode cX10_readOrder 52 = .ok (.iload 5, 2) := by decide +kernel
theorem dX10_readOrder_54 : decode cX10_readOrder 54 = .ok (.iconst 3, 1) := by decide +kernel
theorem dX10_readOrder_55 : decode cX10_readOrder 55 = .ok (.if_icmp .ge 53, 3) := by decide +kernel
theorem dX10_readOrder_58 : decode cX10_readOrder 58 = .ok (.aload_n 0, 1) := by decide +kernel
theorem dX10_readOrder_59 : decode cX10_readOrder 59 = .ok (.iload_n 3, 1) := by decide +kernel
theorem dX10_readOrder_60 : decode cX10_readOrder 60 = .ok (.invokevirtual 193, 3) := by decide +kernel
theorem dX10_readOrder_63 : decode cX10_readOrder 63 = .ok (.bipush 48, 2) := by decide +kernel
theorem dX10_readOrder_65 : decode cX10_readOrder 65 = .ok (.bipush 57, 2) := by decide +kernel
theorem dX10_readOrder_67 : decode cX10_readOrder 67 = .ok (.invokestatic 25, 3) := by decide +kernel
theorem dX10_readOrder_70 : decode cX10_readOrder 70 = .ok (.ifCond .eq 38, 3) := by decide +kernel
theorem dX10_readOrder_73 : decode cX10_readOrder 73 = .ok (.aload_n 0, 1) := by decide +kernel
theorem dX10_readOrder_74 : decode cX10_readOrder 74 = .ok (.getfield 22, 3) := by decide +kernel
theorem dX10_readOrder_77 : decode cX10_readOrder 77 = .ok (.iload 4, 2) := by decide +kernel
theorem dX10_readOrder_79 : decode cX10_readOrder 79 = .ok (.bipush 10, 2) := by decide +kernel
theorem dX10_readOrder_81 : decode cX10_readOrder 81 = .ok (.aload_n 0, 1) := by decide +kernel
theorem dX10_readOrder_82 : decode cX10_readOrder 82 = .ok (.getfield 22, 3) := by decide +kernel
theorem dX10_readOrder_85 : decode cX10_readOrder 85 = .ok (.iload 4, 2) := by decide +kernel
theorem dX10_readOrder_87 : decode cX10_readOrder 87 = .ok (.iaload, 1) := by decide +kernel
theorem dX10_readOrder_88 : decode cX10_readOrder 88 = .ok (.imul, 1) := by decide +kernel
theorem dX10_readOrder_89 : decode cX10_readOrder 89 = .ok (.aload_n 0, 1) := by decide +kernel
theorem dX10_readOrder_90 : decode cX10_readOrder 90 = .ok (.iload_n 3, 1) := by decide +kernel
theorem dX10_readOrder_91 : decode cX10_readOrder 91 = .ok (.invokevirtual 193, 3) := by decide +kernel
theorem dX10_readOrder_94 : decode cX10_readOrder 94 = .ok (.iadd, 1) := by decide +kernel
theorem dX10_readOrder_95 : decode cX10_readOrder 95 = .ok (.bipush 48, 2) := by decide +kernel
theorem dX10_readOrder_97 : decode cX10_readOrder 97 = .ok (.isub, 1) := by decide +kernel
theorem dX10_readOrder_98 : decode cX10_readOrder 98 = .ok (.iastore, 1) := by decide +kernel
theorem dX10_readOrder_99 : decode cX10_readOrder 99 = .ok (.iinc 5 1, 3) := by decide +kernel
theorem dX10_readOrder_102 : decode cX10_readOrder 102 = .ok (.iinc 3 1, 3) := by decide +kernel
theorem dX10_readOrder_105 : decode cX10_readOrder 105 = .ok (.goto (-53), 3) := by decide +kernel
theorem dX10_readOrder_108 : decode cX10_readOrder 108 = .ok (.aload_n 0, 1) := by decide +kernel
theorem dX10_readOrder_109 : decode cX10_readOrder 109 = .ok (.iload_n 3, 1) := by decide +kernel
theorem dX10_readOrder_110 : decode cX10_readOrder 110 = .ok (.iload_n 1, 1) := by decide +kernel
theorem dX10_readOrder_111 : decode cX10_readOrder 111 = .ok (.isub, 1) := by decide +kernel
theorem dX10_readOrder_112 : decode cX10_readOrder 112 = .ok (.putfield 202, 3) := by decide +kernel
theorem dX10_readOrder_115 : decode cX10_readOrder 115 = .ok (.iload 5, 2) := by decide +kernel
theorem dX10_readOrder_117 : decode cX10_readOrder 117 = .ok (.ifCond .eq 21, 3) := by decide +kernel
theorem dX10_readOrder_120 : decode cX10_readOrder 120 = .ok (.iload 4, 2) := by decide +kernel
theorem dX10_readOrder_122 : decode cX10_readOrder 122 = .ok (.iconst 1, 1) := by decide +kernel
theorem dX10_readOrder_123 : decode cX10_readOrder 123 = .ok (.iadd, 1) := by decide +kernel
theorem dX10_readOrder_124 : decode cX10_readOrder 124 = .ok (.iload_n 2, 1) := by decide +kernel
theorem dX10_readOrder_125 : decode cX10_readOrder 125 = .ok (.if_icmp .ge 15, 3) := by decide +kernel
theorem dX10_readOrder_128 : decode cX10_readOrder 128 = .ok (.aload_n 0, 1) := by decide +kernel
theorem dX10_readOrder_129 : decode cX10_readOrder 129 = .ok (.iload_n 3, 1) := by decide +kernel
theorem dX10_readOrder_130 : decode cX10_readOrder 130 = .ok (.invokevirtual 193, 3) := by decide +kernel
theorem dX10_readOrder_133 : decode cX10_readOrder 133 = .ok (.bipush 44, 2) := by decide +kernel
theorem dX10_readOrder_135 : decode cX10_readOrder 135 = .ok (.if_icmp .eq 5, 3) := by decide +kernel
theorem dX10_readOrder_138 : decode cX10_readOrder 138 = .ok (.iconst (-1), 1) := by decide +kernel
theorem dX10_readOrder_139 : decode cX10_readOrder 139 = .ok (.ireturn, 1) := by decide +kernel
theorem dX10_readOrder_140 : decode cX10_readOrder 140 = .ok (.iload_n 3, 1) := by decide +kernel
theorem dX10_readOrder_141 : decode cX10_readOrder 141 = .ok (.iload 4, 2) := by decide +kernel
theorem dX10_readOrder_143 : decode cX10_readOrder 143 = .ok (.iconst 1, 1) := by decide +kernel
theorem dX10_readOrder_144 : decode cX10_readOrder 144 = .ok (.iadd, 1) := by decide +kernel
theorem dX10_readOrder_145 : decode cX10_readOrder 145 = .ok (.iload_n 2, 1) := by decide +kernel
theorem dX10_readOrder_146 : decode cX10_readOrder 146 = .ok (.if_icmp .ge 7, 3) := by decide +kernel
theorem dX10_readOrder_149 : decode cX10_readOrder 149 = .ok (.iconst 1, 1) := by decide +kernel
theorem dX10_readOrder_150 : decode cX10_readOrder 150 = .ok (.goto 4, 3) := by decide +kernel
theorem dX10_readOrder_153 : decode cX10_readOrder 153 = .ok (.iconst 0, 1) := by decide +kernel
theorem dX10_readOrder_154 : decode cX10_readOrder 154 = .ok (.iadd, 1) := by decide +kernel
theorem dX10_readOrder_155 : decode cX10_readOrder 155 = .ok (.istore_n 3, 1) := by decide +kernel
theorem dX10_readOrder_156 : decode cX10_readOrder 156 = .ok (.iinc 4 1, 3) := by decide +kernel
theorem dX10_readOrder_159 : decode cX10_readOrder 159 = .ok (.goto (-124), 3) := by decide +kernel
theorem dX10_readOrder_162 : decode cX10_readOrder 162 = .ok (.aload_n 0, 1) := by decide +kernel
theorem dX10_readOrder_163 : decode cX10_readOrder 163 = .ok (.iload_n 3, 1) := by decide +kernel
theorem dX10_readOrder_164 : decode cX10_readOrder 164 = .ok (.iload_n 1, 1) := by decide +kernel
theorem dX10_readOrder_165 : decode cX10_readOrder 165 = .ok (.isub, 1) := by decide +kernel
theorem dX10_readOrder_166 : decode cX10_readOrder 166 = .ok (.putfield 202, 3) := by decide +kernel
theorem dX10_readOrder_169 : decode cX10_readOrder 169 = .ok (.aload_n 0, 1) := by decide +kernel
theorem dX10_readOrder_170 : decode cX10_readOrder 170 = .ok (.iload_n 3, 1) := by decide +kernel
theorem dX10_readOrder_171 : decode cX10_readOrder 171 = .ok (.invokevirtual 193, 3) := by decide +kernel
theorem dX10_readOrder_174 : decode cX10_readOrder 174 = .ok (.bipush 59, 2) := by decide +kernel
theorem dX10_readOrder_176 : decode cX10_readOrder 176 = .ok (.if_icmp .ne 9, 3) := by decide +kernel
theorem dX10_readOrder_179 : decode cX10_readOrder 179 = .ok (.iload_n 3, 1) := by decide +kernel
theorem dX10_readOrder_180 : decode cX10_readOrder 180 = .ok (.iconst 1, 1) := by decide +kernel
theorem dX10_readOrder_181 : decode cX10_readOrder 181 = .ok (.iadd, 1) := by decide +kernel
theorem dX10_readOrder_182 : decode cX10_readOrder 182 = .ok (.goto 4, 3) := by decide +kernel
theorem dX10_readOrder_185 : decode cX10_readOrder 185 = .ok (.iconst (-1), 1) := by decide +kernel
theorem dX10_readOrder_186 : decode cX10_readOrder 186 = .ok (.ireturn, 1) := by decide +kernel
theorem dX10_noOrder_0 : decode cX10_noOrder 0 = .ok (.aload_n 0, 1) := by decide +kernel
theorem dX10_noOrder_1 : decode cX10_noOrder 1 = .ok (.getfield 196, 3) := by decide +kernel
theorem dX10_noOrder_4 : decode cX10_noOrder 4 = .ok (.tableswitch 250 97 118 #[167, 121, 250, 201, 250, 184, 250, 104, 250, 250, 250, 212, 250, 250, 240, 245, 250, 223, 250, 250, 250, 144], 104) := by decide +kernel
theorem dX10_noOrder_108 : decode cX10_noOrder 108 = .ok (.aload_n 0, 1) := by decide +kernel
theorem dX10_noOrder_109 : decode cX10_noOrder 109 = .ok (.aload_n 0, 1) := by decide +kernel
theorem dX10_noOrder_110 : decode cX10_noOrder 110 = .ok (.getfield 22, 3) := by decide +kernel
theorem dX10_noOrder_113 : decode cX10_noOrder 113 = .ok (.iconst 0, 1) := by decide +kernel
theorem dX10_noOrder_114 : decode cX10_noOrder 114 = .ok (.iaload, 1) := by decide +kernel
theorem dX10_noOrder_115 : decode cX10_noOrder 115 = .ok (.aload_n 0, 1) := by decide +kernel
theorem dX10_noOrder_116 : decode cX10_noOrder 116 = .ok (.getfield 22, 3) := by decide +kernel
theorem dX10_noOrder_119 : decode cX10_noOrder 119 = .ok (.iconst 1, 1) := by decide +kernel
theorem dX10_noOrder_120 : decode cX10_noOrder 120 = .ok (.iaload, 1) := by decide +kernel
theorem dX10_noOrder_121 : decode cX10_noOrder 121 = .ok (.invokevirtual 73, 3) := by decide +kernel
theorem dX10_noOrder_124 : decode cX10_noOrder 124 = .ok (.ireturn, 1) := by decide +kernel
theorem dX10_noOrder_125 : decode cX10_noOrder 125 = .ok (.aload_n 0, 1) := by decide +kernel
theorem dX10_noOrder_126 : decode cX10_noOrder 126 = .ok (.aload_n 0, 1) := by decide +kernel
theorem dX10_noOrder_127 : decode cX10_noOrder 127 = .ok (.getfield 22, 3) := by decide +kernel
theorem dX10_noOrder_130 : decode cX10_noOrder 130 = .ok (.iconst 0, 1) := by decide +kernel
theorem dX10_noOrder_131 : decode cX10_noOrder 131 = .ok (.iaload, 1) := by decide +kernel
theorem dX10_noOrder_132 : decode cX10_noOrder 132 = .ok (.aload_n 0, 1) := by decide +kernel
theorem dX10_noOrder_133 : decode cX10_noOrder 133 = .ok (.getfield 22, 3) := by decide +kernel
theorem dX10_noOrder_136 : decode cX10_noOrder 136 = .ok (.iconst 1, 1) := by decide +kernel
theorem dX10_noOrder_137 : decode cX10_noOrder 137 = .ok (.iaload, 1) := by decide +kernel
theorem dX10_noOrder_138 : decode cX10_noOrder 138 = .ok (.aload_n 0, 1) := by decide +kernel
theorem dX10_noOrder_139 : decode cX10_noOrder 139 = .ok (.getfield 22, 3) := by decide +kernel
theorem dX10_noOrder_142 : decode cX10_noOrder 142 = .ok (.iconst 2, 1) := by decide +kernel
theorem dX10_noOrder_143 : decode cX10_noOrder 143 = .ok (.iaload, 1) := by decide +kernel
theorem dX10_noOrder_144 : decode cX10_noOrder 144 = .ok (.invokevirtual 89, 3) := by decide +kernel
theorem dX10_noOrder_147 : decode cX10_noOrder 147 = .ok (.ireturn, 1) := by decide +kernel
theorem dX10_noOrder_148 : decode cX10_noOrder 148 = .ok (.aload_n 0, 1) := by decide +kernel
theorem dX10_noOrder_149 : decode cX10_noOrder 149 = .ok (.aload_n 0, 1) := by decide +kernel
theorem dX10_noOrder_150 : decode cX10_noOrder 150 = .ok (.getfield 22, 3) := by decide +kernel
theorem dX10_noOrder_153 : decode cX10_noOrder 153 = .ok (.iconst 0, 1) := by decide +kernel
theorem dX10_noOrder_154 : decode cX10_noOrder 154 = .ok (.iaload, 1) := by decide +kernel
theorem dX10_noOrder_155 : decode cX10_noOrder 155 = .ok (.aload_n 0, 1) := by decide +kernel
theorem dX10_noOrder_156 : decode cX10_noOrder 156 = .ok (.getfield 22, 3) := by decide +kernel
theorem dX10_noOrder_159 : decode cX10_noOrder 159 = .ok (.iconst 1, 1) := by decide +kernel
theorem dX10_noOrder_160 : decode cX10_noOrder 160 = .ok (.iaload, 1) := by decide +kernel
theorem dX10_noOrder_161 : decode cX10_noOrder 161 = .ok (.aload_n 0, 1) := by decide +kernel
theorem dX10_noOrder_162 : decode cX10_noOrder 162 = .ok (.getfield 22, 3) := by decide +kernel
theorem dX10_noOrder_165 : decode cX10_noOrder 165 = .ok (.iconst 2, 1) := by decide +kernel
theorem dX10_noOrder_166 : decode cX10_noOrder 166 = .ok (.iaload, 1) := by decide +kernel
theorem dX10_noOrder_167 : decode cX10_noOrder 167 = .ok (.invokevirtual 107, 3) := by decide +kernel
theorem dX10_noOrder_170 : decode cX10_noOrder 170 = .ok (.ireturn, 1) := by decide +kernel
theorem dX10_noOrder_171 : decode cX10_noOrder 171 = .ok (.aload_n 0, 1) := by decide +kernel
theorem dX10_noOrder_172 : decode cX10_noOrder 172 = .ok (.aload_n 0, 1) := by decide +kernel
theorem dX10_noOrder_173 : decode cX10_noOrder 173 = .ok (.getfield 22, 3) := by decide +kernel
theorem dX10_noOrder_176 : decode cX10_noOrder 176 = .ok (.iconst 0, 1) := by decide +kernel
theorem dX10_noOrder_177 : decode cX10_noOrder 177 = .ok (.iaload, 1) := by decide +kernel
theorem dX10_noOrder_178 : decode cX10_noOrder 178 = .ok (.aload_n 0, 1) := by decide +kernel
theorem dX10_noOrder_179 : decode cX10_noOrder 179 = .ok (.getfield 22, 3) := by decide +kernel
theorem dX10_noOrder_182 : decode cX10_noOrder 182 = .ok (.iconst 1, 1) := by decide +kernel
theorem dX10_noOrder_183 : decode cX10_noOrder 183 = .ok (.iaload, 1) := by decide +kernel
theorem dX10_noOrder_184 : decode cX10_noOrder 184 = .ok (.invokevirtual 113, 3) := by decide +kernel
theorem dX10_noOrder_187 : decode cX10_noOrder 187 = .ok (.ireturn, 1) := by decide +kernel
theorem dX10_noOrder_188 : decode cX10_noOrder 188 = .ok (.aload_n 0, 1) := by decide +kernel
theorem dX10_noOrder_189 : decode cX10_noOrder 189 = .ok (.aload_n 0, 1) := by decide +kernel
theorem dX10_noOrder_190 : decode cX10_noOrder 190 = .ok (.getfield 22, 3) := by decide +kernel
theorem dX10_noOrder_193 : decode cX10_noOrder 193 = .ok (.iconst 0, 1) := by decide +kernel
theorem dX10_noOrder_194 : decode cX10_noOrder 194 = .ok (.iaload, 1) := by decide +kernel
theorem dX10_noOrder_195 : decode cX10_noOrder 195 = .ok (.aload_n 0, 1) := by decide +kernel
theorem dX10_noOrder_196 : decode cX10_noOrder 196 = .ok (.getfield 22, 3) := by decide +kernel
theorem dX10_noOrder_199 : decode cX10_noOrder 199 = .ok (.iconst 1, 1) := by decide +kernel
theorem dX10_noOrder_200 : decode cX10_noOrder 200 = .ok (.iaload, 1) := by decide +kernel
theorem dX10_noOrder_201 : decode cX10_noOrder 201 = .ok (.invokevirtual 119, 3) := by decide +kernel
theorem dX10_noOrder_204 : decode cX10_noOrder 204 = .ok (.ireturn, 1) := by decide +kernel
theorem dX10_noOrder_205 : decode cX10_noOrder 205 = .ok (.aload_n 0, 1) := by decide +kernel
theorem dX10_noOrder_206 : decode cX10_noOrder 206 = .ok (.aload_n 0, 1) := by decide +kernel
theorem dX10_noOrder_207 : decode cX10_noOrder 207 = .ok (.getfield 22, 3) := by decide +kernel
theorem dX10_noOrder_210 : decode cX10_noOrder 210 = .ok (.iconst 0, 1) := by decide +kernel
theorem dX10_noOrder_211 : decode cX10_noOrder 211 = .ok (.iaload, 1) := by decide +kernel
theorem dX10_noOrder_212 : decode cX10_noOrder 212 = .ok (.invokevirtual 166, 3) := by decide +kernel
theorem dX10_noOrder_215 : decode cX10_noOrder 215 = .ok (.ireturn, 1) := by decide +kernel
theorem dX10_noOrder_216 : decode cX10_noOrder 216 = .ok (.aload_n 0, 1) := by decide +kernel
theorem dX10_noOrder_217 : decode cX10_noOrder 217 = .ok (.aload_n 0, 1) := by decide +kernel
theorem dX10_noOrder_218 : decode cX10_noOrder 218 = .ok (.getfield 22, 3) := by decide +kernel
theorem dX10_noOrder_221 : decode cX10_noOrder 221 = .ok (.iconst 0, 1) := by decide +kernel
theorem dX10_noOrder_222 : decode cX10_noOrder 222 = .ok (.iaload, 1) := by decide +kernel
theorem dX10_noOrder_223 : decode cX10_noOrder 223 = .ok (.invokevirtual 141, 3) := by decide +kernel
theorem dX10_noOrder_226 : decode cX10_noOrder 226 = .ok (.ireturn, 1) := by decide +kernel
theorem dX10_noOrder_227 : decode cX10_noOrder 227 = .ok (.aload_n 0, 1) := by decide +kernel
theorem dX10_noOrder_228 : decode cX10_noOrder 228 = .ok (.aload_n 0, 1) := by decide +kernel
theorem dX10_noOrder_229 : decode cX10_noOrder 229 = .ok (.getfield 22, 3) := by decide +kernel
theorem dX10_noOrder_232 : decode cX10_noOrder 232 = .ok (.iconst 0, 1) := by decide +kernel
theorem dX10_noOrder_233 : decode cX10_noOrder 233 = .ok (.iaload, 1) := by decide +kernel
theorem dX10_noOrder_234 : decode cX10_noOrder 234 = .ok (.aload_n 0, 1) := by decide +kernel
theorem dX10_noOrder_235 : decode cX10_noOrder 235 = .ok (.getfield 22, 3) := by decide +kernel
theorem dX10_noOrder_238 : decode cX10_noOrder 238 = .ok (.iconst 1, 1) := by decide +kernel
theorem dX10_noOrder_239 : decode cX10_noOrder 239 = .ok (.iaload, 1) := by decide +kernel
theorem dX10_noOrder_240 : decode cX10_noOrder 240 = .ok (.invokevirtual 147, 3) := by decide +kernel
theorem dX10_noOrder_243 : decode cX10_noOrder 243 = .ok (.ireturn, 1) := by decide +kernel
theorem dX10_noOrder_244 : decode cX10_noOrder 244 = .ok (.aload_n 0, 1) := by decide +kernel
theorem dX10_noOrder_245 : decode cX10_noOrder 245 = .ok (.invokevirtual 153, 3) := by decide +kernel
theorem dX10_noOrder_248 : decode cX10_noOrder 248 = .ok (.ireturn, 1) := by decide +kernel
theorem dX10_noOrder_249 : decode cX10_noOrder 249 = .ok (.aload_n 0, 1) := by decide +kernel
theorem dX10_noOrder_250 : decode cX10_noOrder 250 = .ok (.invokevirtual 160, 3) := by decide +kernel
theorem dX10_noOrder_253 : decode cX10_noOrder 253 = .ok (.ireturn, 1) := by decide +kernel
theorem dX10_noOrder_254 : decode cX10_noOrder 254 = .ok (.aload_n 0, 1) := by decide +kernel
theorem dX10_noOrder_255 : decode cX10_noOrder 255 = .ok (.invokevirtual 176, 3) := by decide +kernel
theorem dX10_noOrder_258 : decode cX10_noOrder 258 = .ok (.ireturn, 1) := by decide +kernel
theorem dX10_doOrder_0 : decode cX10_doOrder 0 = .ok (.aload_n 0, 1) := by decide +kernel
theorem dX10_doOrder_1 : decode cX10_doOrder 1 = .ok (.getfield 196, 3) := by decide +kernel
theorem dX10_doOrder_4 : decode cX10_doOrder 4 = .ok (.tableswitch 250 97 118 #[167, 121, 250, 201, 250, 184, 250, 104, 250, 250, 250, 212, 250, 250, 240, 245, 250, 223, 250, 250, 250, 144], 104) := by decide +kernel
theorem dX10_doOrder_108 : decode cX10_doOrder 108 = .ok (.aload_n 0, 1) := by decide +kernel
theorem dX10_doOrder_109 : decode cX10_doOrder 109 = .ok (.aload_n 0, 1) := by decide +kernel
theorem dX10_doOrder_110 : decode cX10_doOrder 110 = .ok (.getfield 22, 3) := by decide +kernel
theorem dX10_doOrder_113 : decode cX10_doOrder 113 = .ok (.iconst 0, 1) := by decide +kernel
theorem dX10_doOrder_114 : decode cX10_doOrder 114 = .ok (.iaload, 1) := by decide +kernel
theorem dX10_doOrder_115 : decode cX10_doOrder 115 = .ok (.aload_n 0, 1) := by decide +kernel
theorem dX10_doOrder_116 : decode cX10_doOrder 116 = .ok (.getfield 22, 3) := by decide +kernel
theorem dX10_doOrder_119 : decode cX10_doOrder 119 = .ok (.iconst 1, 1) := by decide +kernel
theorem dX10_doOrder_120 : decode cX10_doOrder 120 = .ok (.iaload, 1) := by decide +kernel
theorem dX10_doOrder_121 : decode cX10_doOrder 121 = .ok (.invokevirtual 80, 3) := by decide +kernel
theorem dX10_doOrder_124 : decode cX10_doOrder 124 = .ok (.ireturn, 1) := by decide +kernel
theorem dX10_doOrder_125 : decode cX10_doOrder 125 = .ok (.aload_n 0, 1) := by decide +kernel
theorem dX10_doOrder_126 : decode cX10_doOrder 126 = .ok (.aload_n 0, 1) := by decide +kernel
theorem dX10_doOrder_127 : decode cX10_doOrder 127 = .ok (.getfield 22, 3) := by decide +kernel
theorem dX10_doOrder_130 : decode cX10_doOrder 130 = .ok (.iconst 0, 1) := by decide +kernel
theorem dX10_doOrder_131 : decode cX10_doOrder 131 = .ok (.iaload, 1) := by decide +kernel
theorem dX10_doOrder_132 : decode cX10_doOrder 132 = .ok (.aload_n 0, 1) := by decide +kernel
theorem dX10_doOrder_133 : decode cX10_doOrder 133 = .ok (.getfield 22, 3) := by decide +kernel
theorem dX10_doOrder_136 : decode cX10_doOrder 136 = .ok (.iconst 1, 1) := by decide +kernel
theorem dX10_doOrder_137 : decode cX10_doOrder 137 = .ok (.iaload, 1) := by decide +kernel
theorem dX10_doOrder_138 : decode cX10_doOrder 138 = .ok (.aload_n 0, 1) := by decide +kernel
theorem dX10_doOrder_139 : decode cX10_doOrder 139 = .ok (.getfield 22, 3) := by decide +kernel
theorem dX10_doOrder_142 : decode cX10_doOrder 142 = .ok (.iconst 2, 1) := by decide +kernel
theorem dX10_doOrder_143 : decode cX10_doOrder 143 = .ok (.iaload, 1) := by decide +kernel
theorem dX10_doOrder_144 : decode cX10_doOrder 144 = .ok (.invokevirtual 92, 3) := by decide +kernel
theorem dX10_doOrder_147 : decode cX10_doOrder 147 = .ok (.ireturn, 1) := by decide +kernel
theorem dX10_doOrder_148 : decode cX10_doOrder 148 = .ok (.aload_n 0, 1) := by decide +kernel
theorem dX10_doOrder_149 : decode cX10_doOrder 149 = .ok (.aload_n 0, 1) := by decide +kernel
theorem dX10_doOrder_150 : decode cX10_doOrder 150 = .ok (.getfield 22, 3) := by decide +kernel
theorem dX10_doOrder_153 : decode cX10_doOrder 153 = .ok (.iconst 0, 1) := by decide +kernel
theorem dX10_doOrder_154 : decode cX10_doOrder 154 = .ok (.iaload, 1) := by decide +kernel
theorem dX10_doOrder_155 : decode cX10_doOrder 155 = .ok (.aload_n 0, 1) := by decide +kernel
theorem dX10_doOrder_156 : decode cX10_doOrder 156 = .ok (.getfield 22, 3) := by decide +kernel
theorem dX10_doOrder_159 : decode cX10_doOrder 159 = .ok (.iconst 1, 1) := by decide +kernel
theorem dX10_doOrder_160 : decode cX10_doOrder 160 = .ok (.iaload, 1) := by decide +kernel
theorem dX10_doOrder_161 : decode cX10_doOrder 161 = .ok (.aload_n 0, 1) := by decide +kernel
theorem dX10_doOrder_162 : decode cX10_doOrder 162 = .ok (.getfield 22, 3) := by decide +kernel
theorem dX10_doOrder_165 : decode cX10_doOrder 165 = .ok (.iconst 2, 1) := by decide +kernel
theorem dX10_doOrder_166 : decode cX10_doOrder 166 = .ok (.iaload, 1) := by decide +kernel
theorem dX10_doOrder_167 : decode cX10_doOrder 167 = .ok (.invokevirtual 110, 3) := by decide +kernel
theorem dX10_doOrder_170 : decode cX10_doOrder 170 = .ok (.ireturn, 1) := by decide +kernel
theorem dX10_doOrder_171 : decode cX10_doOrder 171 = .ok (.aload_n 0, 1) := by decide +kernel
theorem dX10_doOrder_172 : decode cX10_doOrder 172 = .ok (.aload_n 0, 1) := by decide +kernel
theorem dX10_doOrder_173 : decode cX10_doOrder 173 = .ok (.getfield 22, 3) := by decide +kernel
theorem dX10_doOrder_176 : decode cX10_doOrder 176 = .ok (.iconst 0, 1) := by decide +kernel
theorem dX10_doOrder_177 : decode cX10_doOrder 177 = .ok (.iaload, 1) := by decide +kernel
theorem dX10_doOrder_178 : decode cX10_doOrder 178 = .ok (.aload_n 0, 1) := by decide +kernel
theorem dX10_doOrder_179 : decode cX10_doOrder 179 = .ok (.getfield 22, 3) := by decide +kernel
theorem dX10_doOrder_182 : decode cX10_doOrder 182 = .ok (.iconst 1, 1) := by decide +kernel
theorem dX10_doOrder_183 : decode cX10_doOrder 183 = .ok (.iaload, 1) := by decide +kernel
theorem dX10_doOrder_184 : decode cX10_doOrder 184 = .ok (.invokevirtual 116, 3) := by decide +kernel
theorem dX10_doOrder_187 : decode cX10_doOrder 187 = .ok (.ireturn, 1) := by decide +kernel
theorem dX10_doOrder_188 : decode cX10_doOrder 188 = .ok (.aload_n 0, 1) := by decide +kernel
theorem dX10_doOrder_189 : decode cX10_doOrder 189 = .ok (.aload_n 0, 1) := by decide +kernel
theorem dX10_doOrder_190 : decode cX10_doOrder 190 = .ok (.getfield 22, 3) := by decide +kernel
theorem dX10_doOrder_193 : decode cX10_doOrder 193 = .ok (.iconst 0, 1) := by decide +kernel
theorem dX10_doOrder_194 : decode cX10_doOrder 194 = .ok (.iaload, 1) := by decide +kernel
theorem dX10_doOrder_195 : decode cX10_doOrder 195 = .ok (.aload_n 0, 1) := by decide +kernel
theorem dX10_doOrder_196 : decode cX10_doOrder 196 = .ok (.getfield 22, 3) := by decide +kernel
theorem dX10_doOrder_199 : decode cX10_doOrder 199 = .ok (.iconst 1, 1) := by decide +kernel
theorem dX10_doOrder_200 : decode cX10_doOrder 200 = .ok (.iaload, 1) := by decide +kernel
theorem dX10_doOrder_201 : decode cX10_doOrder 201 = .ok (.invokevirtual 122, 3) := by decide +kernel
theorem dX10_doOrder_204 : decode cX10_doOrder 204 = .ok (.ireturn, 1) := by decide +kernel
theorem dX10_doOrder_205 : decode cX10_doOrder 205 = .ok (.aload_n 0, 1) := by decide +kernel
theorem dX10_doOrder_206 : decode cX10_doOrder 206 = .ok (.aload_n 0, 1) := by decide +kernel
theorem dX10_doOrder_207 : decode cX10_doOrder 207 = .ok (.getfield 22, 3) := by decide +kernel
theorem dX10_doOrder_210 : decode cX10_doOrder 210 = .ok (.iconst 0, 1) := by decide +kernel
theorem dX10_doOrder_211 : decode cX10_doOrder 211 = .ok (.iaload, 1) := by decide +kernel
theorem dX10_doOrder_212 : decode cX10_doOrder 212 = .ok (.invokevirtual 169, 3) := by decide +kernel
theorem dX10_doOrder_215 : decode cX10_doOrder 215 = .ok (.ireturn, 1) := by decide +kernel
theorem dX10_doOrder_216 : decode cX10_doOrder 216 = .ok (.aload_n 0, 1) := by decide +kernel
theorem dX10_doOrder_217 : decode cX10_doOrder 217 = .ok (.aload_n 0, 1) := by decide +kernel
theorem dX10_doOrder_218 : decode cX10_doOrder 218 = .ok (.getfield 22, 3) := by decide +kernel
theorem dX10_doOrder_221 : decode cX10_doOrder 221 = .ok (.iconst 0, 1) := by decide +kernel
theorem dX10_doOrder_222 : decode cX10_doOrder 222 = .ok (.iaload, 1) := by decide +kernel
theorem dX10_doOrder_223 : decode cX10_doOrder 223 = .ok (.invokevirtual 144, 3) := by decide +kernel
theorem dX10_doOrder_226 : decode cX10_doOrder 226 = .ok (.ireturn, 1) := by decide +kernel
theorem dX10_doOrder_227 : decode cX10_doOrder 227 = .ok (.aload_n 0, 1) := by decide +kernel
theorem dX10_doOrder_228 : decode cX10_doOrder 228 = .ok (.aload_n 0, 1) := by decide +kernel
theorem dX10_doOrder_229 : decode cX10_doOrder 229 = .ok (.getfield 22, 3) := by decide +kernel
theorem dX10_doOrder_232 : decode cX10_doOrder 232 = .ok (.iconst 0, 1) := by decide +kernel
theorem dX10_doOrder_233 : decode cX10_doOrder 233 = .ok (.iaload, 1) := by decide +kernel
theorem dX10_doOrder_234 : decode cX10_doOrder 234 = .ok (.aload_n 0, 1) := by decide +kernel
theorem dX10_doOrder_235 : decode cX10_doOrder 235 = .ok (.getfield 22, 3) := by decide +kernel
theorem dX10_doOrder_238 : decode cX10_doOrder 238 = .ok (.iconst 1, 1) := by decide +kernel
theorem dX10_doOrder_239 : decode cX10_doOrder 239 = .ok (.iaload, 1) := by decide +kernel
theorem dX10_doOrder_240 : decode cX10_doOrder 240 = .ok (.invokevirtual 150, 3) := by decide +kernel
theorem dX10_doOrder_243 : decode cX10_doOrder 243 = .ok (.ireturn, 1) := by decide +kernel
theorem dX10_doOrder_244 : decode cX10_doOrder 244 = .ok (.aload_n 0, 1) := by decide +kernel
theorem dX10_doOrder_245 : decode cX10_doOrder 245 = .ok (.invokevirtual 157, 3) := by decide +kernel
theorem dX10_doOrder_248 : decode cX10_doOrder 248 = .ok (.ireturn, 1) := by decide +kernel
theorem dX10_doOrder_249 : decode cX10_doOrder 249 = .ok (.aload_n 0, 1) := by decide +kernel
theorem dX10_doOrder_250 : decode cX10_doOrder 250 = .ok (.invokevirtual 163, 3) := by decide +kernel
theorem dX10_doOrder_253 : decode cX10_doOrder 253 = .ok (.ireturn, 1) := by decide +kernel
theorem dX10_doOrder_254 : decode cX10_doOrder 254 = .ok (.aload_n 0, 1) := by decide +kernel
theorem dX10_doOrder_255 : decode cX10_doOrder 255 = .ok (.invokevirtual 179, 3) := by decide +kernel
theorem dX10_doOrder_258 : decode cX10_doOrder 258 = .ok (.ireturn, 1) := by decide +kernel
theorem dX10_doText_0 : decode cX10_doText 0 = .ok (.aload_n 0, 1) := by decide +kernel
theorem dX10_doText_1 : decode cX10_doText 1 = .ok (.iconst 0, 1) := by decide +kernel
theorem dX10_doText_2 : decode cX10_doText 2 = .ok (.putfield 205, 3) := by decide +kernel
theorem dX10_doText_5 : decode cX10_doText 5 = .ok (.iconst 0, 1) := by decide +kernel
theorem dX10_doText_6 : decode cX10_doText 6 = .ok (.istore_n 1, 1) := by decide +kernel
theorem dX10_doText_7 : decode cX10_doText 7 = .ok (.iload_n 1, 1) := by decide +kernel
theorem dX10_doText_8 : decode cX10_doText 8 = .ok (.aload_n 0, 1) := by decide +kernel
theorem dX10_doText_9 : decode cX10_doText 9 = .ok (.getfield 190, 3) := by decide +kernel
theorem dX10_doText_12 : decode cX10_doText 12 = .ok (.if_icmp .ge 79, 3) := by decide +kernel
theorem dX10_doText_15 : decode cX10_doText 15 = .ok (.aload_n 0, 1) := by decide +kernel
theorem dX10_doText_16 : decode cX10_doText 16 = .ok (.iload_n 1, 1) := by decide +kernel
theorem dX10_doText_17 : decode cX10_doText 17 = .ok (.invokevirtual 208, 3) := by decide +kernel
theorem dX10_doText_20 : decode cX10_doText 20 = .ok (.istore_n 2, 1) := by decide +kernel
theorem dX10_doText_21 : decode cX10_doText 21 = .ok (.aload_n 0, 1) := by decide +kernel
theorem dX10_doText_22 : decode cX10_doText 22 = .ok (.iload_n 2, 1) := by decide +kernel
theorem dX10_doText_23 : decode cX10_doText 23 = .ok (.ifCond .ge 10, 3) := by decide +kernel
theorem dX10_doText_26 : decode cX10_doText 26 = .ok (.aload_n 0, 1) := by decide +kernel
theorem dX10_doText_27 : decode cX10_doText 27 = .ok (.getfield 202, 3) := by decide +kernel
theorem dX10_doText_30 : decode cX10_doText 30 = .ok (.goto 7, 3) := by decide +kernel
theorem dX10_doText_33 : decode cX10_doText 33 = .ok (.aload_n 0, 1) := by decide +kernel
theorem dX10_doText_34 : decode cX10_doText 34 = .ok (.invokevirtual 211, 3) := by decide +kernel
theorem dX10_doText_37 : decode cX10_doText 37 = .ok (.putfield 214, 3) := by decide +kernel
theorem dX10_doText_40 : decode cX10_doText 40 = .ok (.iload_n 2, 1) := by decide +kernel
theorem dX10_doText_41 : decode cX10_doText 41 = .ok (.ifCond .lt 10, 3) := by decide +kernel
theorem dX10_doText_44 : decode cX10_doText 44 = .ok (.aload_n 0, 1) := by decide +kernel
theorem dX10_doText_45 : decode cX10_doText 45 = .ok (.getfield 214, 3) := by decide +kernel
theorem dX10_doText_48 : decode cX10_doText 48 = .ok (.ifCond .ge 23, 3) := by decide +kernel
theorem dX10_doText_51 : decode cX10_doText 51 = .ok (.aload_n 0, 1) := by decide +kernel
theorem dX10_doText_52 : decode cX10_doText 52 = .ok (.iload_n 1, 1) := by decide +kernel
theorem dX10_doText_53 : decode cX10_doText 53 = .ok (.putfield 217, 3) := by decide +kernel
theorem dX10_doText_56 : decode cX10_doText 56 = .ok (.aload_n 0, 1) := by decide +kernel
theorem dX10_doText_57 : decode cX10_doText 57 = .ok (.iload_n 2, 1) := by decide +kernel
theorem dX10_doText_58 : decode cX10_doText 58 = .ok (.ifCond .ge 7, 3) := by decide +kernel
theorem dX10_doText_61 : decode cX10_doText 61 = .ok (.iconst 1, 1) := by decide +kernel
theorem dX10_doText_62 : decode cX10_doText 62 = .ok (.goto 4, 3) := by decide +kernel
theorem dX10_doText_65 : decode cX10_doText 65 = .ok (.iconst 2, 1) := by decide +kernel
theorem dX10_doText_66 : decode cX10_doText 66 = .ok (.putfield 220, 3) := by decide +kernel
theorem dX10_doText_69 : decode cX10_doText 69 = .ok (.iconst 0, 1) := by decide +kernel
theorem dX10_doText_70 : decode cX10_doText 70 = .ok (.ireturn, 1) := by decide +kernel
theorem dX10_doText_71 : decode cX10_doText 71 = .ok (.aload_n 0, 1) := by decide +kernel
theorem dX10_doText_72 : decode cX10_doText 72 = .ok (.invokevirtual 223, 3) := by decide +kernel
theorem dX10_doText_75 : decode cX10_doText 75 = .ok (.pop, 1) := by decide +kernel
theorem dX10_doText_76 : decode cX10_doText 76 = .ok (.aload_n 0, 1) := by decide +kernel
theorem dX10_doText_77 : decode cX10_doText 77 = .ok (.dup, 1) := by decide +kernel
theorem dX10_doText_78 : decode cX10_doText 78 = .ok (.getfield 205, 3) := by decide +kernel
theorem dX10_doText_81 : decode cX10_doText 81 = .ok (.iconst 1, 1) := by decide +kernel
theorem dX10_doText_82 : decode cX10_doText 82 = .ok (.iadd, 1) := by decide +kernel
theorem dX10_doText_83 : decode cX10_doText 83 = .ok (.putfield 205, 3) := by decide +kernel
theorem dX10_doText_86 : decode cX10_doText 86 = .ok (.iload_n 2, 1) := by decide +kernel
theorem dX10_doText_87 : decode cX10_doText 87 = .ok (.istore_n 1, 1) := by decide +kernel
theorem dX10_doText_88 : decode cX10_doText 88 = .ok (.goto (-81), 3) := by decide +kernel
theorem dX10_doText_91 : decode cX10_doText 91 = .ok (.iconst 1, 1) := by decide +kernel
theorem dX10_doText_92 : decode cX10_doText 92 = .ok (.ireturn, 1) := by decide +kernel
theorem dX10_fault_0 : decode cX10_fault 0 = .ok (.iload_n 1, 1) := by decide +kernel
theorem dX10_fault_1 : decode cX10_fault 1 = .ok (.iconst 0, 1) := by decide +kernel
theorem dX10_fault_2 : decode cX10_fault 2 = .ok (.iconst 2, 1) := by decide +kernel
theorem dX10_fault_3 : decode cX10_fault 3 = .ok (.invokestatic 25, 3) := by decide +kernel
theorem dX10_fault_6 : decode cX10_fault 6 = .ok (.ifCond .ne 6, 3) := by decide +kernel
theorem dX10_fault_9 : decode cX10_fault 9 = .ok (.ldc 64, 2) := by decide +kernel
theorem dX10_fault_11 : decode cX10_fault 11 = .ok (.ireturn, 1) := by decide +kernel
theorem dX10_fault_12 : decode cX10_fault 12 = .ok (.aload_n 0, 1) := by decide +kernel
theorem dX10_fault_13 : decode cX10_fault 13 = .ok (.invokevirtual 226, 3) := by decide +kernel
theorem dX10_fault_16 : decode cX10_fault 16 = .ok (.aload_n 0, 1) := by decide +kernel
theorem dX10_fault_17 : decode cX10_fault 17 = .ok (.invokevirtual 229, 3) := by decide +kernel
theorem dX10_fault_20 : decode cX10_fault 20 = .ok (.istore_n 2, 1) := by decide +kernel
theorem dX10_fault_21 : decode cX10_fault 21 = .ok (.aload_n 0, 1) := by decide +kernel
theorem dX10_fault_22 : decode cX10_fault 22 = .ok (.invokevirtual 232, 3) := by decide +kernel
theorem dX10_fault_25 : decode cX10_fault 25 = .ok (.iload_n 2, 1) := by decide +kernel
theorem dX10_fault_26 : decode cX10_fault 26 = .ok (.ifCond .eq 8, 3) := by decide +kernel
theorem dX10_fault_29 : decode cX10_fault 29 = .ok (.ldc 182, 2) := by decide +kernel
theorem dX10_fault_31 : decode cX10_fault 31 = .ok (.goto 30, 3) := by decide +kernel
theorem dX10_fault_34 : decode cX10_fault 34 = .ok (.iload_n 1, 1) := by decide +kernel
theorem dX10_fault_35 : decode cX10_fault 35 = .ok (.ifCond .ne 10, 3) := by decide +kernel
theorem dX10_fault_38 : decode cX10_fault 38 = .ok (.aload_n 0, 1) := by decide +kernel
theorem dX10_fault_39 : decode cX10_fault 39 = .ok (.getfield 217, 3) := by decide +kernel
theorem dX10_fault_42 : decode cX10_fault 42 = .ok (.goto 19, 3) := by decide +kernel
theorem dX10_fault_45 : decode cX10_fault 45 = .ok (.iload_n 1, 1) := by decide +kernel
theorem dX10_fault_46 : decode cX10_fault 46 = .ok (.iconst 1, 1) := by decide +kernel
theorem dX10_fault_47 : decode cX10_fault 47 = .ok (.if_icmp .ne 10, 3) := by decide +kernel
theorem dX10_fault_50 : decode cX10_fault 50 = .ok (.aload_n 0, 1) := by decide +kernel
theorem dX10_fault_51 : decode cX10_fault 51 = .ok (.getfield 220, 3) := by decide +kernel
theorem dX10_fault_54 : decode cX10_fault 54 = .ok (.goto 7, 3) := by decide +kernel
theorem dX10_fault_57 : decode cX10_fault 57 = .ok (.aload_n 0, 1) := by decide +kernel
theorem dX10_fault_58 : decode cX10_fault 58 = .ok (.getfield 214, 3) := by decide +kernel
theorem dX10_fault_61 : decode cX10_fault 61 = .ok (.ireturn, 1) := by decide +kernel
theorem dX10_play_0 : decode cX10_play 0 = .ok (.aload_n 0, 1) := by decide +kernel
theorem dX10_play_1 : decode cX10_play 1 = .ok (.invokevirtual 226, 3) := by decide +kernel
theorem dX10_play_4 : decode cX10_play 4 = .ok (.aload_n 0, 1) := by decide +kernel
theorem dX10_play_5 : decode cX10_play 5 = .ok (.invokevirtual 229, 3) := by decide +kernel
theorem dX10_play_8 : decode cX10_play 8 = .ok (.ifCond .ne 10, 3) := by decide +kernel
theorem dX10_play_11 : decode cX10_play 11 = .ok (.aload_n 0, 1) := by decide +kernel
theorem dX10_play_12 : decode cX10_play 12 = .ok (.invokevirtual 232, 3) := by decide +kernel
theorem dX10_play_15 : decode cX10_play 15 = .ok (.ldc 37, 2) := by decide +kernel
theorem dX10_play_17 : decode cX10_play 17 = .ok (.ireturn, 1) := by decide +kernel
theorem dX10_play_18 : decode cX10_play 18 = .ok (.aload_n 0, 1) := by decide +kernel
theorem dX10_play_19 : decode cX10_play 19 = .ok (.aload_n 0, 1) := by decide +kernel
theorem dX10_play_20 : decode cX10_play 20 = .ok (.getfield 13, 3) := by decide +kernel
theorem dX10_play_23 : decode cX10_play 23 = .ok (.invokevirtual 76, 3) := by decide +kernel
theorem dX10_play_26 : decode cX10_play 26 = .ok (.aload_n 0, 1) := by decide +kernel
theorem dX10_play_27 : decode cX10_play 27 = .ok (.getfield 205, 3) := by decide +kernel
theorem dX10_play_30 : decode cX10_play 30 = .ok (.ireturn, 1) := by decide +kernel
