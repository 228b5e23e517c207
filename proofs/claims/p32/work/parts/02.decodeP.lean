theorem dX0_init_0 : decode cX0_init 0 = .ok (.aload_n 0, 1) := by decide +kernel
theorem dX0_init_1 : decode cX0_init 1 = .ok (.invokespecial 3, 3) := by decide +kernel
theorem dX0_init_4 : decode cX0_init 4 = .ok (.aload_n 0, 1) := by decide +kernel
theorem dX0_init_5 : decode cX0_init 5 = .ok (.bipush 16, 2) := by decide +kernel
theorem dX0_init_7 : decode cX0_init 7 = .ok (.anewarray 9, 3) := by decide +kernel
theorem dX0_init_10 : decode cX0_init 10 = .ok (.putfield 11, 3) := by decide +kernel
theorem dX0_init_13 : decode cX0_init 13 = .ok (.iconst 0, 1) := by decide +kernel
theorem dX0_init_14 : decode cX0_init 14 = .ok (.istore_n 1, 1) := by decide +kernel
theorem dX0_init_15 : decode cX0_init 15 = .ok (.iload_n 1, 1) := by decide +kernel
theorem dX0_init_16 : decode cX0_init 16 = .ok (.aload_n 0, 1) := by decide +kernel
theorem dX0_init_17 : decode cX0_init 17 = .ok (.getfield 11, 3) := by decide +kernel
theorem dX0_init_20 : decode cX0_init 20 = .ok (.arraylength, 1) := by decide +kernel
theorem dX0_init_21 : decode cX0_init 21 = .ok (.if_icmp .ge 22, 3) := by decide +kernel
theorem dX0_init_24 : decode cX0_init 24 = .ok (.aload_n 0, 1) := by decide +kernel
theorem dX0_init_25 : decode cX0_init 25 = .ok (.getfield 11, 3) := by decide +kernel
theorem dX0_init_28 : decode cX0_init 28 = .ok (.iload_n 1, 1) := by decide +kernel
theorem dX0_init_29 : decode cX0_init 29 = .ok (.new 9, 3) := by decide +kernel
theorem dX0_init_32 : decode cX0_init 32 = .ok (.dup, 1) := by decide +kernel
theorem dX0_init_33 : decode cX0_init 33 = .ok (.invokespecial 17, 3) := by decide +kernel
theorem dX0_init_36 : decode cX0_init 36 = .ok (.aastore, 1) := by decide +kernel
theorem dX0_init_37 : decode cX0_init 37 = .ok (.iinc 1 1, 3) := by decide +kernel
theorem dX0_init_40 : decode cX0_init 40 = .ok (.goto (-25), 3) := by decide +kernel
theorem dX0_init_43 : decode cX0_init 43 = .ok (.aload_n 0, 1) := by decide +kernel
theorem dX0_init_44 : decode cX0_init 44 = .ok (.bipush 6, 2) := by decide +kernel
theorem dX0_init_46 : decode cX0_init 46 = .ok (.anewarray 18, 3) := by decide +kernel
theorem dX0_init_49 : decode cX0_init 49 = .ok (.putfield 20, 3) := by decide +kernel
theorem dX0_init_52 : decode cX0_init 52 = .ok (.iconst 0, 1) := by decide +kernel
theorem dX0_init_53 : decode cX0_init 53 = .ok (.istore_n 1, 1) := by decide +kernel
theorem dX0_init_54 : decode cX0_init 54 = .ok (.iload_n 1, 1) := by decide +kernel
theorem dX0_init_55 : decode cX0_init 55 = .ok (.aload_n 0, 1) := by decide +kernel
theorem dX0_init_56 : decode cX0_init 56 = .ok (.getfield 20, 3) := by decide +kernel
theorem dX0_init_59 : decode cX0_init 59 = .ok (.arraylength, 1) := by decide +kernel
theorem dX0_init_60 : decode cX0_init 60 = .ok (.if_icmp .ge 22, 3) := by decide +kernel
theorem dX0_init_63 : decode cX0_init 63 = .ok (.aload_n 0, 1) := by decide +kernel
theorem dX0_init_64 : decode cX0_init 64 = .ok (.getfield 20, 3) := by decide +kernel
theorem dX0_init_67 : decode cX0_init 67 = .ok (.iload_n 1, 1) := by decide +kernel
theorem dX0_init_68 : decode cX0_init 68 = .ok (.new 18, 3) := by decide +kernel
theorem dX0_init_71 : decode cX0_init 71 = .ok (.dup, 1) := by decide +kernel
theorem dX0_init_72 : decode cX0_init 72 = .ok (.invokespecial 24, 3) := by decide +kernel
theorem dX0_init_75 : decode cX0_init 75 = .ok (.aastore, 1) := by decide +kernel
theorem dX0_init_76 : decode cX0_init 76 = .ok (.iinc 1 1, 3) := by decide +kernel
theorem dX0_init_79 : decode cX0_init 79 = .ok (.goto (-25), 3) := by decide +kernel
theorem dX0_init_82 : decode cX0_init 82 = .ok (.aload_n 0, 1) := by decide +kernel
theorem dX0_init_83 : decode cX0_init 83 = .ok (.getstatic 25, 3) := by decide +kernel
theorem dX0_init_86 : decode cX0_init 86 = .ok (.arraylength, 1) := by decide +kernel
theorem dX0_init_87 : decode cX0_init 87 = .ok (.newarray .int, 2) := by decide +kernel
theorem dX0_init_89 : decode cX0_init 89 = .ok (.putfield 29, 3) := by decide +kernel
theorem dX0_init_92 : decode cX0_init 92 = .ok (.getstatic 25, 3) := by decide +kernel
theorem dX0_init_95 : decode cX0_init 95 = .ok (.aload_n 0, 1) := by decide +kernel
theorem dX0_init_96 : decode cX0_init 96 = .ok (.getfield 29, 3) := by decide +kernel
theorem dX0_init_99 : decode cX0_init 99 = .ok (.invokestatic 32, 3) := by decide +kernel
theorem dX0_init_102 : decode cX0_init 102 = .ok (.aload_n 0, 1) := by decide +kernel
theorem dX0_init_103 : decode cX0_init 103 = .ok (.new 36, 3) := by decide +kernel
theorem dX0_init_106 : decode cX0_init 106 = .ok (.dup, 1) := by decide +kernel
theorem dX0_init_107 : decode cX0_init 107 = .ok (.invokespecial 38, 3) := by decide +kernel
theorem dX0_init_110 : decode cX0_init 110 = .ok (.putfield 39, 3) := by decide +kernel
theorem dX0_init_113 : decode cX0_init 113 = .ok (.aload_n 0, 1) := by decide +kernel
theorem dX0_init_114 : decode cX0_init 114 = .ok (.new 43, 3) := by decide +kernel
theorem dX0_init_117 : decode cX0_init 117 = .ok (.dup, 1) := by decide +kernel
theorem dX0_init_118 : decode cX0_init 118 = .ok (.invokespecial 45, 3) := by decide +kernel
theorem dX0_init_121 : decode cX0_init 121 = .ok (.putfield 46, 3) := by decide +kernel
theorem dX0_init_124 : decode cX0_init 124 = .ok (.return_, 1) := by decide +kernel
theorem dX0_copyFrom_0 : decode cX0_copyFrom 0 = .ok (.iconst 0, 1) := by decide +kernel
theorem dX0_copyFrom_1 : decode cX0_copyFrom 1 = .ok (.istore_n 2, 1) := by decide +kernel
theorem dX0_copyFrom_2 : decode cX0_copyFrom 2 = .ok (.iload_n 2, 1) := by decide +kernel
theorem dX0_copyFrom_3 : decode cX0_copyFrom 3 = .ok (.aload_n 0, 1) := by decide +kernel
theorem dX0_copyFrom_4 : decode cX0_copyFrom 4 = .ok (.getfield 11, 3) := by decide +kernel
theorem dX0_copyFrom_7 : decode cX0_copyFrom 7 = .ok (.arraylength, 1) := by decide +kernel
theorem dX0_copyFrom_8 : decode cX0_copyFrom 8 = .ok (.if_icmp .ge 33, 3) := by decide +kernel
theorem dX0_copyFrom_11 : decode cX0_copyFrom 11 = .ok (.iload_n 2, 1) := by decide +kernel
theorem dX0_copyFrom_12 : decode cX0_copyFrom 12 = .ok (.aload_n 1, 1) := by decide +kernel
theorem dX0_copyFrom_13 : decode cX0_copyFrom 13 = .ok (.getfield 11, 3) := by decide +kernel
theorem dX0_copyFrom_16 : decode cX0_copyFrom 16 = .ok (.arraylength, 1) := by decide +kernel
theorem dX0_copyFrom_17 : decode cX0_copyFrom 17 = .ok (.if_icmp .ge 24, 3) := by decide +kernel
theorem dX0_copyFrom_20 : decode cX0_copyFrom 20 = .ok (.aload_n 0, 1) := by decide +kernel
theorem dX0_copyFrom_21 : decode cX0_copyFrom 21 = .ok (.getfield 11, 3) := by decide +kernel
theorem dX0_copyFrom_24 : decode cX0_copyFrom 24 = .ok (.iload_n 2, 1) := by decide +kernel
theorem dX0_copyFrom_25 : decode cX0_copyFrom 25 = .ok (.aaload, 1) := by decide +kernel
theorem dX0_copyFrom_26 : decode cX0_copyFrom 26 = .ok (.aload_n 1, 1) := by decide +kernel
theorem dX0_copyFrom_27 : decode cX0_copyFrom 27 = .ok (.getfield 11, 3) := by decide +kernel
theorem dX0_copyFrom_30 : decode cX0_copyFrom 30 = .ok (.iload_n 2, 1) := by decide +kernel
theorem dX0_copyFrom_31 : decode cX0_copyFrom 31 = .ok (.aaload, 1) := by decide +kernel
theorem dX0_copyFrom_32 : decode cX0_copyFrom 32 = .ok (.invokevirtual 50, 3) := by decide +kernel
theorem dX0_copyFrom_35 : decode cX0_copyFrom 35 = .ok (.iinc 2 1, 3) := by decide +kernel
theorem dX0_copyFrom_38 : decode cX0_copyFrom 38 = .ok (.goto (-36), 3) := by decide +kernel
theorem dX0_copyFrom_41 : decode cX0_copyFrom 41 = .ok (.iconst 0, 1) := by decide +kernel
theorem dX0_copyFrom_42 : decode cX0_copyFrom 42 = .ok (.istore_n 2, 1) := by decide +kernel
theorem dX0_copyFrom_43 : decode cX0_copyFrom 43 = .ok (.iload_n 2, 1) := by decide +kernel
theorem dX0_copyFrom_44 : decode cX0_copyFrom 44 = .ok (.aload_n 0, 1) := by decide +kernel
theorem dX0_copyFrom_45 : decode cX0_copyFrom 45 = .ok (.getfield 20, 3) := by decide +kernel
theorem dX0_copyFrom_48 : decode cX0_copyFrom 48 = .ok (.arraylength, 1) := by decide +kernel
theorem dX0_copyFrom_49 : decode cX0_copyFrom 49 = .ok (.if_icmp .ge 33, 3) := by decide +kernel
theorem dX0_copyFrom_52 : decode cX0_copyFrom 52 = .ok (.iload_n 2, 1) := by decide +kernel
theorem dX0_copyFrom_53 : decode cX0_copyFrom 53 = .ok (.aload_n 1, 1) := by decide +kernel
theorem dX0_copyFrom_54 : decode cX0_copyFrom 54 = .ok (.getfield 20, 3) := by decide +kernel
theorem dX0_copyFrom_57 : decode cX0_copyFrom 57 = .ok (.arraylength, 1) := by decide +kernel
theorem dX0_copyFrom_58 : decode cX0_copyFrom 58 = .ok (.if_icmp .ge 24, 3) := by decide +kernel
theorem dX0_copyFrom_61 : decode cX0_copyFrom 61 = .ok (.aload_n 0, 1) := by decide +kernel
theorem dX0_copyFrom_62 : decode cX0_copyFrom 62 = .ok (.getfield 20, 3) := by decide +kernel
theorem dX0_copyFrom_65 : decode cX0_copyFrom 65 = .ok (.iload_n 2, 1) := by decide +kernel
theorem dX0_copyFrom_66 : decode cX0_copyFrom 66 = .ok (.aaload, 1) := by decide +kernel
theorem dX0_copyFrom_67 : decode cX0_copyFrom 67 = .ok (.aload_n 1, 1) := by decide +kernel
theorem dX0_copyFrom_68 : decode cX0_copyFrom 68 = .ok (.getfield 20, 3) := by decide +kernel
theorem dX0_copyFrom_71 : decode cX0_copyFrom 71 = .ok (.iload_n 2, 1) := by decide +kernel
theorem dX0_copyFrom_72 : decode cX0_copyFrom 72 = .ok (.aaload, 1) := by decide +kernel
theorem dX0_copyFrom_73 : decode cX0_copyFrom 73 = .ok (.invokevirtual 54, 3) := by decide +kernel
theorem dX0_copyFrom_76 : decode cX0_copyFrom 76 = .ok (.iinc 2 1, 3) := by decide +kernel
theorem dX0_copyFrom_79 : decode cX0_copyFrom 79 = .ok (.goto (-36), 3) := by decide +kernel
theorem dX0_copyFrom_82 : decode cX0_copyFrom 82 = .ok (.aload_n 1, 1) := by decide +kernel
theorem dX0_copyFrom_83 : decode cX0_copyFrom 83 = .ok (.getfield 29, 3) := by decide +kernel
theorem dX0_copyFrom_86 : decode cX0_copyFrom 86 = .ok (.aload_n 0, 1) := by decide +kernel
theorem dX0_copyFrom_87 : decode cX0_copyFrom 87 = .ok (.getfield 29, 3) := by decide +kernel
theorem dX0_copyFrom_90 : decode cX0_copyFrom 90 = .ok (.invokestatic 32, 3) := by decide +kernel
theorem dX0_copyFrom_93 : decode cX0_copyFrom 93 = .ok (.aload_n 0, 1) := by decide +kernel
theorem dX0_copyFrom_94 : decode cX0_copyFrom 94 = .ok (.getfield 39, 3) := by decide +kernel
theorem dX0_copyFrom_97 : decode cX0_copyFrom 97 = .ok (.aload_n 1, 1) := by decide +kernel
theorem dX0_copyFrom_98 : decode cX0_copyFrom 98 = .ok (.getfield 39, 3) := by decide +kernel
theorem dX0_copyFrom_101 : decode cX0_copyFrom 101 = .ok (.invokevirtual 57, 3) := by decide +kernel
theorem dX0_copyFrom_104 : decode cX0_copyFrom 104 = .ok (.aload_n 0, 1) := by decide +kernel
theorem dX0_copyFrom_105 : decode cX0_copyFrom 105 = .ok (.getfield 46, 3) := by decide +kernel
theorem dX0_copyFrom_108 : decode cX0_copyFrom 108 = .ok (.aload_n 1, 1) := by decide +kernel
theorem dX0_copyFrom_109 : decode cX0_copyFrom 109 = .ok (.getfield 46, 3) := by decide +kernel
theorem dX0_copyFrom_112 : decode cX0_copyFrom 112 = .ok (.invokevirtual 60, 3) := by decide +kernel
theorem dX0_copyFrom_115 : decode cX0_copyFrom 115 = .ok (.aload_n 0, 1) := by decide +kernel
theorem dX0_copyFrom_116 : decode cX0_copyFrom 116 = .ok (.aload_n 1, 1) := by decide +kernel
theorem dX0_copyFrom_117 : decode cX0_copyFrom 117 = .ok (.getfield 63, 3) := by decide +kernel
theorem dX0_copyFrom_120 : decode cX0_copyFrom 120 = .ok (.putfield 63, 3) := by decide +kernel
theorem dX0_copyFrom_123 : decode cX0_copyFrom 123 = .ok (.aload_n 0, 1) := by decide +kernel
theorem dX0_copyFrom_124 : decode cX0_copyFrom 124 = .ok (.aload_n 1, 1) := by decide +kernel
theorem dX0_copyFrom_125 : decode cX0_copyFrom 125 = .ok (.getfield 67, 3) := by decide +kernel
theorem dX0_copyFrom_128 : decode cX0_copyFrom 128 = .ok (.putfield 67, 3) := by decide +kernel
theorem dX0_copyFrom_131 : decode cX0_copyFrom 131 = .ok (.aload_n 0, 1) := by decide +kernel
theorem dX0_copyFrom_132 : decode cX0_copyFrom 132 = .ok (.aload_n 1, 1) := by decide +kernel
theorem dX0_copyFrom_133 : decode cX0_copyFrom 133 = .ok (.getfield 70, 3) := by decide +kernel
theorem dX0_copyFrom_136 : decode cX0_copyFrom 136 = .ok (.putfield 70, 3) := by decide +kernel
theorem dX0_copyFrom_139 : decode cX0_copyFrom 139 = .ok (.aload_n 0, 1) := by decide +kernel
theorem dX0_copyFrom_140 : decode cX0_copyFrom 140 = .ok (.aload_n 1, 1) := by decide +kernel
theorem dX0_copyFrom_141 : decode cX0_copyFrom 141 = .ok (.getfield 73, 3) := by decide +kernel
theorem dX0_copyFrom_144 : decode cX0_copyFrom 144 = .ok (.putfield 73, 3) := by decide +kernel
theorem dX0_copyFrom_147 : decode cX0_copyFrom 147 = .ok (.aload_n 0, 1) := by decide +kernel
theorem dX0_copyFrom_148 : decode cX0_copyFrom 148 = .ok (.aload_n 1, 1) := by decide +kernel
theorem dX0_copyFrom_149 : decode cX0_copyFrom 149 = .ok (.getfield 76, 3) := by decide +kernel
theorem dX0_copyFrom_152 : decode cX0_copyFrom 152 = .ok (.putfield 76, 3) := by decide +kernel
theorem dX0_copyFrom_155 : decode cX0_copyFrom 155 = .ok (.return_, 1) := by decide +kernel
theorem dX0_findSailor_0 : decode cX0_findSailor 0 = .ok (.iload_n 1, 1) := by decide +kernel
theorem dX0_findSailor_1 : decode cX0_findSailor 1 = .ok (.ifCond .lt 29, 3) := by decide +kernel
theorem dX0_findSailor_4 : decode cX0_findSailor 4 = .ok (.iload_n 1, 1) := by decide +kernel
theorem dX0_findSailor_5 : decode cX0_findSailor 5 = .ok (.aload_n 0, 1) := by decide +kernel
theorem dX0_findSailor_6 : decode cX0_findSailor 6 = .ok (.getfield 63, 3) := by decide +kernel
theorem dX0_findSailor_9 : decode cX0_findSailor 9 = .ok (.if_icmp .ge 21, 3) := by decide +kernel
theorem dX0_findSailor_12 : decode cX0_findSailor 12 = .ok (.iload_n 1, 1) := by decide +kernel
theorem dX0_findSailor_13 : decode cX0_findSailor 13 = .ok (.aload_n 0, 1) := by decide +kernel
theorem dX0_findSailor_14 : decode cX0_findSailor 14 = .ok (.getfield 11, 3) := by decide +kernel
theorem dX0_findSailor_17 : decode cX0_findSailor 17 = .ok (.arraylength, 1) := by decide +kernel
theorem dX0_findSailor_18 : decode cX0_findSailor 18 = .ok (.if_icmp .ge 12, 3) := by decide +kernel
theorem dX0_findSailor_21 : decode cX0_findSailor 21 = .ok (.aload_n 0, 1) := by decide +kernel
theorem dX0_findSailor_22 : decode cX0_findSailor 22 = .ok (.getfield 11, 3) := by decide +kernel
theorem dX0_findSailor_25 : decode cX0_findSailor 25 = .ok (.iload_n 1, 1) := by decide +kernel
theorem dX0_findSailor_26 : decode cX0_findSailor 26 = .ok (.aaload, 1) := by decide +kernel
theorem dX0_findSailor_27 : decode cX0_findSailor 27 = .ok (.goto 4, 3) := by decide +kernel
theorem dX0_findSailor_30 : decode cX0_findSailor 30 = .ok (.aconst_null, 1) := by decide +kernel
theorem dX0_findSailor_31 : decode cX0_findSailor 31 = .ok (.areturn, 1) := by decide +kernel
theorem dX0_findItem_0 : decode cX0_findItem 0 = .ok (.iload_n 1, 1) := by decide +kernel
theorem dX0_findItem_1 : decode cX0_findItem 1 = .ok (.ifCond .lt 21, 3) := by decide +kernel
theorem dX0_findItem_4 : decode cX0_findItem 4 = .ok (.iload_n 1, 1) := by decide +kernel
theorem dX0_findItem_5 : decode cX0_findItem 5 = .ok (.aload_n 0, 1) := by decide +kernel
theorem dX0_findItem_6 : decode cX0_findItem 6 = .ok (.getfield 20, 3) := by decide +kernel
theorem dX0_findItem_9 : decode cX0_findItem 9 = .ok (.arraylength, 1) := by decide +kernel
theorem dX0_findItem_10 : decode cX0_findItem 10 = .ok (.if_icmp .ge 12, 3) := by decide +kernel
theorem dX0_findItem_13 : decode cX0_findItem 13 = .ok (.aload_n 0, 1) := by decide +kernel
theorem dX0_findItem_14 : decode cX0_findItem 14 = .ok (.getfield 20, 3) := by decide +kernel
theorem dX0_findItem_17 : decode cX0_findItem 17 = .ok (.iload_n 1, 1) := by decide +kernel
theorem dX0_findItem_18 : decode cX0_findItem 18 = .ok (.aaload, 1) := by decide +kernel
theorem dX0_findItem_19 : decode cX0_findItem 19 = .ok (.goto 4, 3) := by decide +kernel
theorem dX0_findItem_22 : decode cX0_findItem 22 = .ok (.aconst_null, 1) := by decide +kernel
theorem dX0_findItem_23 : decode cX0_findItem 23 = .ok (.areturn, 1) := by decide +kernel
theorem dX0_setting_0 : decode cX0_setting 0 = .ok (.iload_n 1, 1) := by decide +kernel
theorem dX0_setting_1 : decode cX0_setting 1 = .ok (.ifCond .lt 21, 3) := by decide +kernel
theorem dX0_setting_4 : decode cX0_setting 4 = .ok (.iload_n 1, 1) := by decide +kernel
theorem dX0_setting_5 : decode cX0_setting 5 = .ok (.aload_n 0, 1) := by decide +kernel
theorem dX0_setting_6 : decode cX0_setting 6 = .ok (.getfield 29, 3) := by decide +kernel
theorem dX0_setting_9 : decode cX0_setting 9 = .ok (.arraylength, 1) := by decide +kernel
theorem dX0_setting_10 : decode cX0_setting 10 = .ok (.if_icmp .ge 12, 3) := by decide +kernel
theorem dX0_setting_13 : decode cX0_setting 13 = .ok (.aload_n 0, 1) := by decide +kernel
theorem dX0_setting_14 : decode cX0_setting 14 = .ok (.getfield 29, 3) := by decide +kernel
theorem dX0_setting_17 : decode cX0_setting 17 = .ok (.iload_n 1, 1) := by decide +kernel
theorem dX0_setting_18 : decode cX0_setting 18 = .ok (.iaload, 1) := by decide +kernel
theorem dX0_setting_19 : decode cX0_setting 19 = .ok (.goto 4, 3) := by decide +kernel
theorem dX0_setting_22 : decode cX0_setting 22 = .ok (.iconst 0, 1) := by decide +kernel
theorem dX0_setting_23 : decode cX0_setting 23 = .ok (.ireturn, 1) := by decide +kernel
theorem dX0_signOn_0 : decode cX0_signOn 0 = .ok (.iload_n 1, 1) := by decide +kernel
theorem dX0_signOn_1 : decode cX0_signOn 1 = .ok (.iconst 0, 1) := by decide +kernel
theorem dX0_signOn_2 : decode cX0_signOn 2 = .ok (.iconst 3, 1) := by decide +kernel
theorem dX0_signOn_3 : decode cX0_signOn 3 = .ok (.invokestatic 80, 3) := by decide +kernel
theorem dX0_signOn_6 : decode cX0_signOn 6 = .ok (.ifCond .eq 12, 3) := by decide +kernel
theorem dX0_signOn_9 : decode cX0_signOn 9 = .ok (.iload_n 2, 1) := by decide +kernel
theorem dX0_signOn_10 : decode cX0_signOn 10 = .ok (.iconst 0, 1) := by decide +kernel
theorem dX0_signOn_11 : decode cX0_signOn 11 = .ok (.iconst 1, 1) := by decide +kernel
theorem dX0_signOn_12 : decode cX0_signOn 12 = .ok (.invokestatic 80, 3) := by decide +kernel
theorem dX0_signOn_15 : decode cX0_signOn 15 = .ok (.ifCond .ne 6, 3) := by decide +kernel
theorem dX0_signOn_18 : decode cX0_signOn 18 = .ok (.ldc 84, 2) := by decide +kernel
theorem dX0_signOn_20 : decode cX0_signOn 20 = .ok (.ireturn, 1) := by decide +kernel
theorem dX0_signOn_21 : decode cX0_signOn 21 = .ok (.aload_n 0, 1) := by decide +kernel
theorem dX0_signOn_22 : decode cX0_signOn 22 = .ok (.getfield 76, 3) := by decide +kernel
theorem dX0_signOn_25 : decode cX0_signOn 25 = .ok (.ifCond .eq 6, 3) := by decide +kernel
theorem dX0_signOn_28 : decode cX0_signOn 28 = .ok (.ldc 85, 2) := by decide +kernel
theorem dX0_signOn_30 : decode cX0_signOn 30 = .ok (.ireturn, 1) := by decide +kernel
theorem dX0_signOn_31 : decode cX0_signOn 31 = .ok (.aload_n 0, 1) := by decide +kernel
theorem dX0_signOn_32 : decode cX0_signOn 32 = .ok (.getfield 63, 3) := by decide +kernel
theorem dX0_signOn_35 : decode cX0_signOn 35 = .ok (.istore_n 3, 1) := by decide +kernel
theorem dX0_signOn_36 : decode cX0_signOn 36 = .ok (.iload_n 3, 1) := by decide +kernel
theorem dX0_signOn_37 : decode cX0_signOn 37 = .ok (.ifCond .lt 12, 3) := by decide +kernel
theorem dX0_signOn_40 : decode cX0_signOn 40 = .ok (.iload_n 3, 1) := by decide +kernel
theorem dX0_signOn_41 : decode cX0_signOn 41 = .ok (.aload_n 0, 1) := by decide +kernel
theorem dX0_signOn_42 : decode cX0_signOn 42 = .ok (.getfield 11, 3) := by decide +kernel
theorem dX0_signOn_45 : decode cX0_signOn 45 = .ok (.arraylength, 1) := by decide +kernel
theorem dX0_signOn_46 : decode cX0_signOn 46 = .ok (.if_icmp .lt 6, 3) := by decide +kernel
theorem dX0_signOn_49 : decode cX0_signOn 49 = .ok (.ldc 86, 2) := by decide +kernel
theorem dX0_signOn_51 : decode cX0_signOn 51 = .ok (.ireturn, 1) := by decide +kernel
theorem dX0_signOn_52 : decode cX0_signOn 52 = .ok (.aload_n 0, 1) := by decide +kernel
theorem dX0_signOn_53 : decode cX0_signOn 53 = .ok (.getfield 11, 3) := by decide +kernel
theorem dX0_signOn_56 : decode cX0_signOn 56 = .ok (.iload_n 3, 1) := by decide +kernel
theorem dX0_signOn_57 : decode cX0_signOn 57 = .ok (.aaload, 1) := by decide +kernel
theorem dX0_signOn_58 : decode cX0_signOn 58 = .ok (.iload_n 1, 1) := by decide +kernel
theorem dX0_signOn_59 : decode cX0_signOn 59 = .ok (.iload_n 2, 1) := by decide +kernel
theorem dX0_signOn_60 : decode cX0_signOn 60 = .ok (.invokevirtual 87, 3) := by decide +kernel
theorem dX0_signOn_63 : decode cX0_signOn 63 = .ok (.aload_n 0, 1) := by decide +kernel
theorem dX0_signOn_64 : decode cX0_signOn 64 = .ok (.dup, 1) := by decide +kernel
theorem dX0_signOn_65 : decode cX0_signOn 65 = .ok (.getfield 63, 3) := by decide +kernel
theorem dX0_signOn_68 : decode cX0_signOn 68 = .ok (.iconst 1, 1) := by decide +kernel
theorem dX0_signOn_69 : decode cX0_signOn 69 = .ok (.iadd, 1) := by decide +kernel
theorem dX0_signOn_70 : decode cX0_signOn 70 = .ok (.putfield 63, 3) := by decide +kernel
theorem dX0_signOn_73 : decode cX0_signOn 73 = .ok (.iload_n 3, 1) := by decide +kernel
theorem dX0_signOn_74 : decode cX0_signOn 74 = .ok (.ireturn, 1) := by decide +kernel
theorem dX0_buyForChest_0 : decode cX0_buyForChest 0 = .ok (.aload_n 0, 1) := by decide +kernel
theorem dX0_buyForChest_1 : decode cX0_buyForChest 1 = .ok (.iload_n 1, 1) := by decide +kernel
theorem dX0_buyForChest_2 : decode cX0_buyForChest 2 = .ok (.invokevirtual 91, 3) := by decide +kernel
theorem dX0_buyForChest_5 : decode cX0_buyForChest 5 = .ok (.astore 4, 2) := by decide +kernel
theorem dX0_buyForChest_7 : decode cX0_buyForChest 7 = .ok (.aload 4, 2) := by decide +kernel
theorem dX0_buyForChest_9 : decode cX0_buyForChest 9 = .ok (.ifnull 23, 3) := by decide +kernel
theorem dX0_buyForChest_12 : decode cX0_buyForChest 12 = .ok (.iload_n 2, 1) := by decide +kernel
theorem dX0_buyForChest_13 : decode cX0_buyForChest 13 = .ok (.iconst 1, 1) := by decide +kernel
theorem dX0_buyForChest_14 : decode cX0_buyForChest 14 = .ok (.bipush 99, 2) := by decide +kernel
theorem dX0_buyForChest_16 : decode cX0_buyForChest 16 = .ok (.invokestatic 80, 3) := by decide +kernel
theorem dX0_buyForChest_19 : decode cX0_buyForChest 19 = .ok (.ifCond .eq 13, 3) := by decide +kernel
theorem dX0_buyForChest_22 : decode cX0_buyForChest 22 = .ok (.iload_n 3, 1) := by decide +kernel
theorem dX0_buyForChest_23 : decode cX0_buyForChest 23 = .ok (.iconst 1, 1) := by decide +kernel
theorem dX0_buyForChest_24 : decode cX0_buyForChest 24 = .ok (.bipush 99, 2) := by decide +kernel
theorem dX0_buyForChest_26 : decode cX0_buyForChest 26 = .ok (.invokestatic 80, 3) := by decide +kernel
theorem dX0_buyForChest_29 : decode cX0_buyForChest 29 = .ok (.ifCond .ne 6, 3) := by decide +kernel
theorem dX0_buyForChest_32 : decode cX0_buyForChest 32 = .ok (.ldc 84, 2) := by decide +kernel
theorem dX0_buyForChest_34 : decode cX0_buyForChest 34 = .ok (.ireturn, 1) := by decide +kernel
theorem dX0_buyForChest_35 : decode cX0_buyForChest 35 = .ok (.aload_n 0, 1) := by decide +kernel
theorem dX0_buyForChest_36 : decode cX0_buyForChest 36 = .ok (.getfield 76, 3) := by decide +kernel
theorem dX0_buyForChest_39 : decode cX0_buyForChest 39 = .ok (.ifCond .eq 6, 3) := by decide +kernel
theorem dX0_buyForChest_42 : decode cX0_buyForChest 42 = .ok (.ldc 85, 2) := by decide +kernel
theorem dX0_buyForChest_44 : decode cX0_buyForChest 44 = .ok (.ireturn, 1) := by decide +kernel
theorem dX0_buyForChest_45 : decode cX0_buyForChest 45 = .ok (.aload 4, 2) := by decide +kernel
theorem dX0_buyForChest_47 : decode cX0_buyForChest 47 = .ok (.getfield 95, 3) := by decide +kernel
theorem dX0_buyForChest_50 : decode cX0_buyForChest 50 = .ok (.iload_n 2, 1) := by decide +kernel
theorem dX0_buyForChest_51 : decode cX0_buyForChest 51 = .ok (.iadd, 1) := by decide +kernel
theorem dX0_buyForChest_52 : decode cX0_buyForChest 52 = .ok (.sipush 500, 3) := by decide +kernel
theorem dX0_buyForChest_55 : decode cX0_buyForChest 55 = .ok (.if_icmp .le 6, 3) := by decide +kernel
theorem dX0_buyForChest_58 : decode cX0_buyForChest 58 = .ok (.ldc 86, 2) := by decide +kernel
theorem dX0_buyForChest_60 : decode cX0_buyForChest 60 = .ok (.ireturn, 1) := by decide +kernel
theorem dX0_buyForChest_61 : decode cX0_buyForChest 61 = .ok (.aload_n 0, 1) := by decide +kernel
theorem dX0_buyForChest_62 : decode cX0_buyForChest 62 = .ok (.getfield 46, 3) := by decide +kernel
theorem dX0_buyForChest_65 : decode cX0_buyForChest 65 = .ok (.dup, 1) := by decide +kernel
theorem dX0_buyForChest_66 : decode cX0_buyForChest 66 = .ok (.getfield 98, 3) := by decide +kernel
theorem dX0_buyForChest_69 : decode cX0_buyForChest 69 = .ok (.iload_n 2, 1) := by decide +kernel
theorem dX0_buyForChest_70 : decode cX0_buyForChest 70 = .ok (.iload_n 3, 1) := by decide +kernel
theorem dX0_buyForChest_71 : decode cX0_buyForChest 71 = .ok (.imul, 1) := by decide +kernel
theorem dX0_buyForChest_72 : decode cX0_buyForChest 72 = .ok (.iadd, 1) := by decide +kernel
theorem dX0_buyForChest_73 : decode cX0_buyForChest 73 = .ok (.putfield 98, 3) := by decide +kernel
theorem dX0_buyForChest_76 : decode cX0_buyForChest 76 = .ok (.aload_n 0, 1) := by decide +kernel
theorem dX0_buyForChest_77 : decode cX0_buyForChest 77 = .ok (.getfield 46, 3) := by decide +kernel
theorem dX0_buyForChest_80 : decode cX0_buyForChest 80 = .ok (.iload_n 2, 1) := by decide +kernel
theorem dX0_buyForChest_81 : decode cX0_buyForChest 81 = .ok (.iload_n 3, 1) := by decide +kernel
theorem dX0_buyForChest_82 : decode cX0_buyForChest 82 = .ok (.imul, 1) := by decide +kernel
theorem dX0_buyForChest_83 : decode cX0_buyForChest 83 = .ok (.invokevirtual 101, 3) := by decide +kernel
theorem dX0_buyForChest_86 : decode cX0_buyForChest 86 = .ok (.aload 4, 2) := by decide +kernel
theorem dX0_buyForChest_88 : decode cX0_buyForChest 88 = .ok (.iload_n 2, 1) := by decide +kernel
theorem dX0_buyForChest_89 : decode cX0_buyForChest 89 = .ok (.iload_n 3, 1) := by decide +kernel
theorem dX0_buyForChest_90 : decode cX0_buyForChest 90 = .ok (.iload_n 3, 1) := by decide +kernel
theorem dX0_buyForChest_91 : decode cX0_buyForChest 91 = .ok (.aload_n 0, 1) := by decide +kernel
theorem dX0_buyForChest_92 : decode cX0_buyForChest 92 = .ok (.iconst 1, 1) := by decide +kernel
theorem dX0_buyForChest_93 : decode cX0_buyForChest 93 = .ok (.invokevirtual 105, 3) := by decide +kernel
theorem dX0_buyForChest_96 : decode cX0_buyForChest 96 = .ok (.imul, 1) := by decide +kernel
theorem dX0_buyForChest_97 : decode cX0_buyForChest 97 = .ok (.bipush 100, 2) := by decide +kernel
theorem dX0_buyForChest_99 : decode cX0_buyForChest 99 = .ok (.idiv, 1) := by decide +kernel
theorem dX0_buyForChest_100 : decode cX0_buyForChest 100 = .ok (.iadd, 1) := by decide +kernel
theorem dX0_buyForChest_101 : decode cX0_buyForChest 101 = .ok (.invokevirtual 109, 3) := by decide +kernel
theorem dX0_buyForChest_104 : decode cX0_buyForChest 104 = .ok (.aload 4, 2) := by decide +kernel
theorem dX0_buyForChest_106 : decode cX0_buyForChest 106 = .ok (.getfield 112, 3) := by decide +kernel
theorem dX0_buyForChest_109 : decode cX0_buyForChest 109 = .ok (.ireturn, 1) := by decide +kernel
theorem dX0_sellFromChest_0 : decode cX0_sellFromChest 0 = .ok (.aload_n 0, 1) := by decide +kernel
theorem dX0_sellFromChest_1 : decode cX0_sellFromChest 1 = .ok (.iload_n 1, 1) := by decide +kernel
theorem dX0_sellFromChest_2 : decode cX0_sellFromChest 2 = .ok (.invokevirtual 115, 3) := by decide +kernel
theorem dX0_sellFromChest_5 : decode cX0_sellFromChest 5 = .ok (.astore 4, 2) := by decide +kernel
theorem dX0_sellFromChest_7 : decode cX0_sellFromChest 7 = .ok (.aload_n 0, 1) := by decide +kernel
theorem dX0_sellFromChest_8 : decode cX0_sellFromChest 8 = .ok (.iload_n 2, 1) := by decide +kernel
theorem dX0_sellFromChest_9 : decode cX0_sellFromChest 9 = .ok (.invokevirtual 91, 3) := by decide +kernel
theorem dX0_sellFromChest_12 : decode cX0_sellFromChest 12 = .ok (.astore 5, 2) := by decide +kernel
theorem dX0_sellFromChest_14 : decode cX0_sellFromChest 14 = .ok (.aload 4, 2) := by decide +kernel
theorem dX0_sellFromChest_16 : decode cX0_sellFromChest 16 = .ok (.ifnull 18, 3) := by decide +kernel
theorem dX0_sellFromChest_19 : decode cX0_sellFromChest 19 = .ok (.aload 5, 2) := by decide +kernel
theorem dX0_sellFromChest_21 : decode cX0_sellFromChest 21 = .ok (.ifnull 13, 3) := by decide +kernel
theorem dX0_sellFromChest_24 : decode cX0_sellFromChest 24 = .ok (.iload_n 3, 1) := by decide +kernel
theorem dX0_sellFromChest_25 : decode cX0_sellFromChest 25 = .ok (.iconst 1, 1) := by decide +kernel
theorem dX0_sellFromChest_26 : decode cX0_sellFromChest 26 = .ok (.bipush 99, 2) := by decide +kernel
theorem dX0_sellFromChest_28 : decode cX0_sellFromChest 28 = .ok (.invokestatic 80, 3) := by decide +kernel
theorem dX0_sellFromChest_31 : decode cX0_sellFromChest 31 = .ok (.ifCond .ne 6, 3) := by decide +kernel
theorem dX0_sellFromChest_34 : decode cX0_sellFromChest 34 = .ok (.ldc 84, 2) := by decide +kernel
theorem dX0_sellFromChest_36 : decode cX0_sellFromChest 36 = .ok (.ireturn, 1) := by decide +kernel
theorem dX0_sellFromChest_37 : decode cX0_sellFromChest 37 = .ok (.aload_n 0, 1) := by decide +kernel
theorem dX0_sellFromChest_38 : decode cX0_sellFromChest 38 = .ok (.aload 4, 2) := by decide +kernel
theorem dX0_sellFromChest_40 : decode cX0_sellFromChest 40 = .ok (.aload 5, 2) := by decide +kernel
theorem dX0_sellFromChest_42 : decode cX0_sellFromChest 42 = .ok (.iload_n 3, 1) := by decide +kernel
theorem dX0_sellFromChest_43 : decode cX0_sellFromChest 43 = .ok (.invokevirtual 119, 3) := by decide +kernel
theorem dX0_sellFromChest_46 : decode cX0_sellFromChest 46 = .ok (.ifCond .eq 6, 3) := by decide +kernel
theorem dX0_sellFromChest_49 : decode cX0_sellFromChest 49 = .ok (.ldc 85, 2) := by decide +kernel
theorem dX0_sellFromChest_51 : decode cX0_sellFromChest 51 = .ok (.ireturn, 1) := by decide +kernel
theorem dX0_sellFromChest_52 : decode cX0_sellFromChest 52 = .ok (.iload_n 3, 1) := by decide +kernel
theorem dX0_sellFromChest_53 : decode cX0_sellFromChest 53 = .ok (.aload 5, 2) := by decide +kernel
theorem dX0_sellFromChest_55 : decode cX0_sellFromChest 55 = .ok (.getfield 112, 3) := by decide +kernel
theorem dX0_sellFromChest_58 : decode cX0_sellFromChest 58 = .ok (.imul, 1) := by decide +kernel
theorem dX0_sellFromChest_59 : decode cX0_sellFromChest 59 = .ok (.istore 6, 2) := by decide +kernel
theorem dX0_sellFromChest_61 : decode cX0_sellFromChest 61 = .ok (.aload 5, 2) := by decide +kernel
theorem dX0_sellFromChest_63 : decode cX0_sellFromChest 63 = .ok (.iload_n 3, 1) := by decide +kernel
theorem dX0_sellFromChest_64 : decode cX0_sellFromChest 64 = .ok (.iload 6, 2) := by decide +kernel
theorem dX0_sellFromChest_66 : decode cX0_sellFromChest 66 = .ok (.invokevirtual 123, 3) := by decide +kernel
theorem dX0_sellFromChest_69 : decode cX0_sellFromChest 69 = .ok (.aload 4, 2) := by decide +kernel
theorem dX0_sellFromChest_71 : decode cX0_sellFromChest 71 = .ok (.dup, 1) := by decide +kernel
theorem dX0_sellFromChest_72 : decode cX0_sellFromChest 72 = .ok (.getfield 126, 3) := by decide +kernel
theorem dX0_sellFromChest_75 : decode cX0_sellFromChest 75 = .ok (.iload 6, 2) := by decide +kernel
theorem dX0_sellFromChest_77 : decode cX0_sellFromChest 77 = .ok (.iadd, 1) := by decide +kernel
theorem dX0_sellFromChest_78 : decode cX0_sellFromChest 78 = .ok (.putfield 126, 3) := by decide +kernel
theorem dX0_sellFromChest_81 : decode cX0_sellFromChest 81 = .ok (.aload_n 0, 1) := by decide +kernel
theorem dX0_sellFromChest_82 : decode cX0_sellFromChest 82 = .ok (.getfield 46, 3) := by decide +kernel
theorem dX0_sellFromChest_85 : decode cX0_sellFromChest 85 = .ok (.dup, 1) := by decide +kernel
theorem dX0_sellFromChest_86 : decode cX0_sellFromChest 86 = .ok (.getfield 129, 3) := by decide +kernel
theorem dX0_sellFromChest_89 : decode cX0_sellFromChest 89 = .ok (.iload 6, 2) := by decide +kernel
theorem dX0_sellFromChest_91 : decode cX0_sellFromChest 91 = .ok (.iadd, 1) := by decide +kernel
theorem dX0_sellFromChest_92 : decode cX0_sellFromChest 92 = .ok (.putfield 129, 3) := by decide +kernel
theorem dX0_sellFromChest_95 : decode cX0_sellFromChest 95 = .ok (.aload_n 0, 1) := by decide +kernel
theorem dX0_sellFromChest_96 : decode cX0_sellFromChest 96 = .ok (.getfield 39, 3) := by decide +kernel
theorem dX0_sellFromChest_99 : decode cX0_sellFromChest 99 = .ok (.iload_n 1, 1) := by decide +kernel
theorem dX0_sellFromChest_100 : decode cX0_sellFromChest 100 = .ok (.iconst 0, 1) := by decide +kernel
theorem dX0_sellFromChest_101 : decode cX0_sellFromChest 101 = .ok (.iload 6, 2) := by decide +kernel
theorem dX0_sellFromChest_103 : decode cX0_sellFromChest 103 = .ok (.invokevirtual 132, 3) := by decide +kernel
theorem dX0_sellFromChest_106 : decode cX0_sellFromChest 106 = .ok (.iload 6, 2) := by decide +kernel
theorem dX0_sellFromChest_108 : decode cX0_sellFromChest 108 = .ok (.ireturn, 1) := by decide +kernel
theorem dX0_reasonNotToSell_0 : decode cX0_reasonNotToSell 0 = .ok (.aload_n 0, 1) := by decide +kernel
theorem dX0_reasonNotToSell_1 : decode cX0_reasonNotToSell 1 = .ok (.iload_n 1, 1) := by decide +kernel
theorem dX0_reasonNotToSell_2 : decode cX0_reasonNotToSell 2 = .ok (.invokevirtual 115, 3) := by decide +kernel
theorem dX0_reasonNotToSell_5 : decode cX0_reasonNotToSell 5 = .ok (.astore 4, 2) := by decide +kernel
theorem dX0_reasonNotToSell_7 : decode cX0_reasonNotToSell 7 = .ok (.aload_n 0, 1) := by decide +kernel
theorem dX0_reasonNotToSell_8 : decode cX0_reasonNotToSell 8 = .ok (.iload_n 2, 1) := by decide +kernel
theorem dX0_reasonNotToSell_9 : decode cX0_reasonNotToSell 9 = .ok (.invokevirtual 91, 3) := by decide +kernel
theorem dX0_reasonNotToSell_12 : decode cX0_reasonNotToSell 12 = .ok (.astore 5, 2) := by decide +kernel
theorem dX0_reasonNotToSell_14 : decode cX0_reasonNotToSell 14 = .ok (.aload 4, 2) := by decide +kernel
theorem dX0_reasonNotToSell_16 : decode cX0_reasonNotToSell 16 = .ok (.ifnull 18, 3) := by decide +kernel
theorem dX0_reasonNotToSell_19 : decode cX0_reasonNotToSell 19 = .ok (.aload 5, 2) := by decide +kernel
theorem dX0_reasonNotToSell_21 : decode cX0_reasonNotToSell 21 = .ok (.ifnull 13, 3) := by decide +kernel
theorem dX0_reasonNotToSell_24 : decode cX0_reasonNotToSell 24 = .ok (.iload_n 3, 1) := by decide +kernel
theorem dX0_reasonNotToSell_25 : decode cX0_reasonNotToSell 25 = .ok (.iconst 1, 1) := by decide +kernel
theorem dX0_reasonNotToSell_26 : decode cX0_reasonNotToSell 26 = .ok (.bipush 99, 2) := by decide +kernel
theorem dX0_reasonNotToSell_28 : decode cX0_reasonNotToSell 28 = .ok (.invokestatic 80, 3) := by decide +kernel
theorem dX0_reasonNotToSell_31 : decode cX0_reasonNotToSell 31 = .ok (.ifCond .ne 6, 3) := by decide +kernel
theorem dX0_reasonNotToSell_34 : decode cX0_reasonNotToSell 34 = .ok (.ldc 84, 2) := by decide +kernel
theorem dX0_reasonNotToSell_36 : decode cX0_reasonNotToSell 36 = .ok (.ireturn, 1) := by decide +kernel
theorem dX0_reasonNotToSell_37 : decode cX0_reasonNotToSell 37 = .ok (.aload_n 0, 1) := by decide +kernel
theorem dX0_reasonNotToSell_38 : decode cX0_reasonNotToSell 38 = .ok (.aload 4, 2) := by decide +kernel
theorem dX0_reasonNotToSell_40 : decode cX0_reasonNotToSell 40 = .ok (.aload 5, 2) := by decide +kernel
theorem dX0_reasonNotToSell_42 : decode cX0_reasonNotToSell 42 = .ok (.iload_n 3, 1) := by decide +kernel
theorem dX0_reasonNotToSell_43 : decode cX0_reasonNotToSell 43 = .ok (.invokevirtual 119, 3) := by decide +kernel
theorem dX0_reasonNotToSell_46 : decode cX0_reasonNotToSell 46 = .ok (.ireturn, 1) := by decide +kernel
theorem dX0_reasonAgainst_0 : decode cX0_reasonAgainst 0 = .ok (.aload_n 1, 1) := by decide +kernel
theorem dX0_reasonAgainst_1 : decode cX0_reasonAgainst 1 = .ok (.getfield 136, 3) := by decide +kernel
theorem dX0_reasonAgainst_4 : decode cX0_reasonAgainst 4 = .ok (.ifCond .eq 5, 3) := by decide +kernel
theorem dX0_reasonAgainst_7 : decode cX0_reasonAgainst 7 = .ok (.iconst 1, 1) := by decide +kernel
theorem dX0_reasonAgainst_8 : decode cX0_reasonAgainst 8 = .ok (.ireturn, 1) := by decide +kernel
theorem dX0_reasonAgainst_9 : decode cX0_reasonAgainst 9 = .ok (.aload_n 2, 1) := by decide +kernel
theorem dX0_reasonAgainst_10 : decode cX0_reasonAgainst 10 = .ok (.getfield 95, 3) := by decide +kernel
theorem dX0_reasonAgainst_13 : decode cX0_reasonAgainst 13 = .ok (.iload_n 3, 1) := by decide +kernel
theorem dX0_reasonAgainst_14 : decode cX0_reasonAgainst 14 = .ok (.if_icmp .ge 5, 3) := by decide +kernel
theorem dX0_reasonAgainst_17 : decode cX0_reasonAgainst 17 = .ok (.iconst 2, 1) := by decide +kernel
theorem dX0_reasonAgainst_18 : decode cX0_reasonAgainst 18 = .ok (.ireturn, 1) := by decide +kernel
theorem dX0_reasonAgainst_19 : decode cX0_reasonAgainst 19 = .ok (.aload_n 1, 1) := by decide +kernel
theorem dX0_reasonAgainst_20 : decode cX0_reasonAgainst 20 = .ok (.invokevirtual 139, 3) := by decide +kernel
theorem dX0_reasonAgainst_23 : decode cX0_reasonAgainst 23 = .ok (.iload_n 3, 1) := by decide +kernel
theorem dX0_reasonAgainst_24 : decode cX0_reasonAgainst 24 = .ok (.aload_n 2, 1) := by decide +kernel
theorem dX0_reasonAgainst_25 : decode cX0_reasonAgainst 25 = .ok (.getfield 112, 3) := by decide +kernel
theorem dX0_reasonAgainst_28 : decode cX0_reasonAgainst 28 = .ok (.imul, 1) := by decide +kernel
theorem dX0_reasonAgainst_29 : decode cX0_reasonAgainst 29 = .ok (.isub, 1) := by decide +kernel
theorem dX0_reasonAgainst_30 : decode cX0_reasonAgainst 30 = .ok (.aload_n 0, 1) := by decide +kernel
theorem dX0_reasonAgainst_31 : decode cX0_reasonAgainst 31 = .ok (.iconst 0, 1) := by decide +kernel
theorem dX0_reasonAgainst_32 : decode cX0_reasonAgainst 32 = .ok (.invokevirtual 105, 3) := by decide +kernel
theorem dX0_reasonAgainst_35 : decode cX0_reasonAgainst 35 = .ok (.ineg, 1) := by decide +kernel
theorem dX0_reasonAgainst_36 : decode cX0_reasonAgainst 36 = .ok (.if_icmp .ge 7, 3) := by decide +kernel
theorem dX0_reasonAgainst_39 : decode cX0_reasonAgainst 39 = .ok (.iconst 3, 1) := by decide +kernel
theorem dX0_reasonAgainst_40 : decode cX0_reasonAgainst 40 = .ok (.goto 4, 3) := by decide +kernel
theorem dX0_reasonAgainst_43 : decode cX0_reasonAgainst 43 = .ok (.iconst 0, 1) := by decide +kernel
theorem dX0_reasonAgainst_44 : decode cX0_reasonAgainst 44 = .ok (.ireturn, 1) := by decide +kernel
theorem dX0_couldBuy_0 : decode cX0_couldBuy 0 = .ok (.aload_n 0, 1) := by decide +kernel
theorem dX0_couldBuy_1 : decode cX0_couldBuy 1 = .ok (.iload_n 1, 1) := by decide +kernel
theorem dX0_couldBuy_2 : decode cX0_couldBuy 2 = .ok (.invokevirtual 115, 3) := by decide +kernel
theorem dX0_couldBuy_5 : decode cX0_couldBuy 5 = .ok (.astore_n 3, 1) := by decide +kernel
theorem dX0_couldBuy_6 : decode cX0_couldBuy 6 = .ok (.aload_n 0, 1) := by decide +kernel
theorem dX0_couldBuy_7 : decode cX0_couldBuy 7 = .ok (.iload_n 2, 1) := by decide +kernel
theorem dX0_couldBuy_8 : decode cX0_couldBuy 8 = .ok (.invokevirtual 91, 3) := by decide +kernel
theorem dX0_couldBuy_11 : decode cX0_couldBuy 11 = .ok (.astore 4, 2) := by decide +kernel
theorem dX0_couldBuy_13 : decode cX0_couldBuy 13 = .ok (.aload_n 3, 1) := by decide +kernel
theorem dX0_couldBuy_14 : decode cX0_couldBuy 14 = .ok (.ifnull 8, 3) := by decide +kernel
theorem dX0_couldBuy_17 : decode cX0_couldBuy 17 = .ok (.aload 4, 2) := by decide +kernel
theorem dX0_couldBuy_19 : decode cX0_couldBuy 19 = .ok (.ifnonnull 6, 3) := by decide +kernel
theorem dX0_couldBuy_22 : decode cX0_couldBuy 22 = .ok (.ldc 84, 2) := by decide +kernel
theorem dX0_couldBuy_24 : decode cX0_couldBuy 24 = .ok (.ireturn, 1) := by decide +kernel
theorem dX0_couldBuy_25 : decode cX0_couldBuy 25 = .ok (.aload_n 3, 1) := by decide +kernel
theorem dX0_couldBuy_26 : decode cX0_couldBuy 26 = .ok (.invokevirtual 139, 3) := by decide +kernel
theorem dX0_couldBuy_29 : decode cX0_couldBuy 29 = .ok (.aload_n 0, 1) := by decide +kernel
theorem dX0_couldBuy_30 : decode cX0_couldBuy 30 = .ok (.iconst 0, 1) := by decide +kernel
theorem dX0_couldBuy_31 : decode cX0_couldBuy 31 = .ok (.invokevirtual 105, 3) := by decide +kernel
theorem dX0_couldBuy_34 : decode cX0_couldBuy 34 = .ok (.iadd, 1) := by decide +kernel
theorem dX0_couldBuy_35 : decode cX0_couldBuy 35 = .ok (.istore 5, 2) := by decide +kernel
theorem dX0_couldBuy_37 : decode cX0_couldBuy 37 = .ok (.aload_n 3, 1) := by decide +kernel
theorem dX0_couldBuy_38 : decode cX0_couldBuy 38 = .ok (.getfield 136, 3) := by decide +kernel
theorem dX0_couldBuy_41 : decode cX0_couldBuy 41 = .ok (.ifCond .ne 16, 3) := by decide +kernel
theorem dX0_couldBuy_44 : decode cX0_couldBuy 44 = .ok (.aload 4, 2) := by decide +kernel
theorem dX0_couldBuy_46 : decode cX0_couldBuy 46 = .ok (.getfield 112, 3) := by decide +kernel
theorem dX0_couldBuy_49 : decode cX0_couldBuy 49 = .ok (.ifCond .le 8, 3) := by decide +kernel
theorem dX0_couldBuy_52 : decode cX0_couldBuy 52 = .ok (.iload 5, 2) := by decide +kernel
theorem dX0_couldBuy_54 : decode cX0_couldBuy 54 = .ok (.ifCond .ge 5, 3) := by decide +kernel
theorem dX0_couldBuy_57 : decode cX0_couldBuy 57 = .ok (.iconst 0, 1) := by decide +kernel
theorem dX0_couldBuy_58 : decode cX0_couldBuy 58 = .ok (.ireturn, 1) := by decide +kernel
theorem dX0_couldBuy_59 : decode cX0_couldBuy 59 = .ok (.iload 5, 2) := by decide +kernel
theorem dX0_couldBuy_61 : decode cX0_couldBuy 61 = .ok (.aload 4, 2) := by decide +kernel
theorem dX0_couldBuy_63 : decode cX0_couldBuy 63 = .ok (.getfield 112, 3) := by decide +kernel
theorem dX0_couldBuy_66 : decode cX0_couldBuy 66 = .ok (.idiv, 1) := by decide +kernel
theorem dX0_couldBuy_67 : decode cX0_couldBuy 67 = .ok (.aload 4, 2) := by decide +kernel
theorem dX0_couldBuy_69 : decode cX0_couldBuy 69 = .ok (.getfield 95, 3) := by decide +kernel
theorem dX0_couldBuy_72 : decode cX0_couldBuy 72 = .ok (.invokestatic 143, 3) := by decide +kernel
theorem dX0_couldBuy_75 : decode cX0_couldBuy 75 = .ok (.bipush 99, 2) := by decide +kernel
theorem dX0_couldBuy_77 : decode cX0_couldBuy 77 = .ok (.invokestatic 143, 3) := by decide +kernel
theorem dX0_couldBuy_80 : decode cX0_couldBuy 80 = .ok (.ireturn, 1) := by decide +kernel
theorem dX0_advanceTo_0 : decode cX0_advanceTo 0 = .ok (.aload_n 0, 1) := by decide +kernel
theorem dX0_advanceTo_1 : decode cX0_advanceTo 1 = .ok (.iload_n 1, 1) := by decide +kernel
theorem dX0_advanceTo_2 : decode cX0_advanceTo 2 = .ok (.invokevirtual 115, 3) := by decide +kernel
theorem dX0_advanceTo_5 : decode cX0_advanceTo 5 = .ok (.astore_n 3, 1) := by decide +kernel
theorem dX0_advanceTo_6 : decode cX0_advanceTo 6 = .ok (.aload_n 3, 1) := by decide +kernel
theorem dX0_advanceTo_7 : decode cX0_advanceTo 7 = .ok (.ifnull 14, 3) := by decide +kernel
theorem dX0_advanceTo_10 : decode cX0_advanceTo 10 = .ok (.iload_n 2, 1) := by decide +kernel
theorem dX0_advanceTo_11 : decode cX0_advanceTo 11 = .ok (.iconst 1, 1) := by decide +kernel
theorem dX0_advanceTo_12 : decode cX0_advanceTo 12 = .ok (.sipush 999, 3) := by decide +kernel
theorem dX0_advanceTo_15 : decode cX0_advanceTo 15 = .ok (.invokestatic 80, 3) := by decide +kernel
theorem dX0_advanceTo_18 : decode cX0_advanceTo 18 = .ok (.ifCond .ne 6, 3) := by decide +kernel
theorem dX0_advanceTo_21 : decode cX0_advanceTo 21 = .ok (.ldc 84, 2) := by decide +kernel
theorem dX0_advanceTo_23 : decode cX0_advanceTo 23 = .ok (.ireturn, 1) := by decide +kernel
theorem dX0_advanceTo_24 : decode cX0_advanceTo 24 = .ok (.aload_n 0, 1) := by decide +kernel
theorem dX0_advanceTo_25 : decode cX0_advanceTo 25 = .ok (.getfield 76, 3) := by decide +kernel
theorem dX0_advanceTo_28 : decode cX0_advanceTo 28 = .ok (.ifCond .ne 18, 3) := by decide +kernel
theorem dX0_advanceTo_31 : decode cX0_advanceTo 31 = .ok (.aload_n 3, 1) := by decide +kernel
theorem dX0_advanceTo_32 : decode cX0_advanceTo 32 = .ok (.invokevirtual 149, 3) := by decide +kernel
theorem dX0_advanceTo_35 : decode cX0_advanceTo 35 = .ok (.ifCond .ne 11, 3) := by decide +kernel
theorem dX0_advanceTo_38 : decode cX0_advanceTo 38 = .ok (.aload_n 3, 1) := by decide +kernel
theorem dX0_advanceTo_39 : decode cX0_advanceTo 39 = .ok (.invokevirtual 139, 3) := by decide +kernel
theorem dX0_advanceTo_42 : decode cX0_advanceTo 42 = .ok (.iload_n 2, 1) := by decide +kernel
theorem dX0_advanceTo_43 : decode cX0_advanceTo 43 = .ok (.if_icmp .ge 6, 3) := by decide +kernel
theorem dX0_advanceTo_46 : decode cX0_advanceTo 46 = .ok (.ldc 85, 2) := by decide +kernel
theorem dX0_advanceTo_48 : decode cX0_advanceTo 48 = .ok (.ireturn, 1) := by decide +kernel
theorem dX0_advanceTo_49 : decode cX0_advanceTo 49 = .ok (.aload_n 3, 1) := by decide +kernel
theorem dX0_advanceTo_50 : decode cX0_advanceTo 50 = .ok (.dup, 1) := by decide +kernel
theorem dX0_advanceTo_51 : decode cX0_advanceTo 51 = .ok (.getfield 153, 3) := by decide +kernel
theorem dX0_advanceTo_54 : decode cX0_advanceTo 54 = .ok (.iload_n 2, 1) := by decide +kernel
theorem dX0_advanceTo_55 : decode cX0_advanceTo 55 = .ok (.iadd, 1) := by decide +kernel
theorem dX0_advanceTo_56 : decode cX0_advanceTo 56 = .ok (.putfield 153, 3) := by decide +kernel
theorem dX0_advanceTo_59 : decode cX0_advanceTo 59 = .ok (.aload_n 0, 1) := by decide +kernel
theorem dX0_advanceTo_60 : decode cX0_advanceTo 60 = .ok (.getfield 46, 3) := by decide +kernel
theorem dX0_advanceTo_63 : decode cX0_advanceTo 63 = .ok (.dup, 1) := by decide +kernel
theorem dX0_advanceTo_64 : decode cX0_advanceTo 64 = .ok (.getfield 156, 3) := by decide +kernel
theorem dX0_advanceTo_67 : decode cX0_advanceTo 67 = .ok (.iload_n 2, 1) := by decide +kernel
theorem dX0_advanceTo_68 : decode cX0_advanceTo 68 = .ok (.iadd, 1) := by decide +kernel
theorem dX0_advanceTo_69 : decode cX0_advanceTo 69 = .ok (.putfield 156, 3) := by decide +kernel
theorem dX0_advanceTo_72 : decode cX0_advanceTo 72 = .ok (.aload_n 0, 1) := by decide +kernel
theorem dX0_advanceTo_73 : decode cX0_advanceTo 73 = .ok (.getfield 46, 3) := by decide +kernel
theorem dX0_advanceTo_76 : decode cX0_advanceTo 76 = .ok (.iload_n 2, 1) := by decide +kernel
theorem dX0_advanceTo_77 : decode cX0_advanceTo 77 = .ok (.invokevirtual 101, 3) := by decide +kernel
theorem dX0_advanceTo_80 : decode cX0_advanceTo 80 = .ok (.aload_n 0, 1) := by decide +kernel
theorem dX0_advanceTo_81 : decode cX0_advanceTo 81 = .ok (.getfield 39, 3) := by decide +kernel
theorem dX0_advanceTo_84 : decode cX0_advanceTo 84 = .ok (.iload_n 1, 1) := by decide +kernel
theorem dX0_advanceTo_85 : decode cX0_advanceTo 85 = .ok (.iconst 2, 1) := by decide +kernel
theorem dX0_advanceTo_86 : decode cX0_advanceTo 86 = .ok (.iload_n 2, 1) := by decide +kernel
theorem dX0_advanceTo_87 : decode cX0_advanceTo 87 = .ok (.invokevirtual 132, 3) := by decide +kernel
theorem dX0_advanceTo_90 : decode cX0_advanceTo 90 = .ok (.aload_n 0, 1) := by decide +kernel
theorem dX0_advanceTo_91 : decode cX0_advanceTo 91 = .ok (.getfield 46, 3) := by decide +kernel
theorem dX0_advanceTo_94 : decode cX0_advanceTo 94 = .ok (.getfield 159, 3) := by decide +kernel
theorem dX0_advanceTo_97 : decode cX0_advanceTo 97 = .ok (.ireturn, 1) := by decide +kernel
theorem dX0_fineOne_0 : decode cX0_fineOne 0 = .ok (.aload_n 0, 1) := by decide +kernel
theorem dX0_fineOne_1 : decode cX0_fineOne 1 = .ok (.iload_n 1, 1) := by decide +kernel
theorem dX0_fineOne_2 : decode cX0_fineOne 2 = .ok (.invokevirtual 115, 3) := by decide +kernel
theorem dX0_fineOne_5 : decode cX0_fineOne 5 = .ok (.astore_n 3, 1) := by decide +kernel
theorem dX0_fineOne_6 : decode cX0_fineOne 6 = .ok (.aload_n 3, 1) := by decide +kernel
theorem dX0_fineOne_7 : decode cX0_fineOne 7 = .ok (.ifnull 14, 3) := by decide +kernel
theorem dX0_fineOne_10 : decode cX0_fineOne 10 = .ok (.iload_n 2, 1) := by decide +kernel
theorem dX0_fineOne_11 : decode cX0_fineOne 11 = .ok (.iconst 1, 1) := by decide +kernel
theorem dX0_fineOne_12 : decode cX0_fineOne 12 = .ok (.sipush 999, 3) := by decide +kernel
theorem dX0_fineOne_15 : decode cX0_fineOne 15 = .ok (.invokestatic 80, 3) := by decide +kernel
theorem dX0_fineOne_18 : decode cX0_fineOne 18 = .ok (.ifCond .ne 6, 3) := by decide +kernel
theorem dX0_fineOne_21 : decode cX0_fineOne 21 = .ok (.ldc 84, 2) := by decide +kernel
theorem dX0_fineOne_23 : decode cX0_fineOne 23 = .ok (.ireturn, 1) := by decide +kernel
theorem dX0_fineOne_24 : decode cX0_fineOne 24 = .ok (.aload_n 3, 1) := by decide +kernel
theorem dX0_fineOne_25 : decode cX0_fineOne 25 = .ok (.invokevirtual 149, 3) := by decide +kernel
theorem dX0_fineOne_28 : decode cX0_fineOne 28 = .ok (.ifCond .ne 11, 3) := by decide +kernel
theorem dX0_fineOne_31 : decode cX0_fineOne 31 = .ok (.aload_n 3, 1) := by decide +kernel
theorem dX0_fineOne_32 : decode cX0_fineOne 32 = .ok (.iload_n 2, 1) := by decide +kernel
theorem dX0_fineOne_33 : decode cX0_fineOne 33 = .ok (.invokevirtual 162, 3) := by decide +kernel
theorem dX0_fineOne_36 : decode cX0_fineOne 36 = .ok (.ifCond .ne 6, 3) := by decide +kernel
theorem dX0_fineOne_39 : decode cX0_fineOne 39 = .ok (.ldc 85, 2) := by decide +kernel
theorem dX0_fineOne_41 : decode cX0_fineOne 41 = .ok (.ireturn, 1) := by decide +kernel
theorem dX0_fineOne_42 : decode cX0_fineOne 42 = .ok (.aload_n 0, 1) := by decide +kernel
theorem dX0_fineOne_43 : decode cX0_fineOne 43 = .ok (.iload_n 1, 1) := by decide +kernel
theorem dX0_fineOne_44 : decode cX0_fineOne 44 = .ok (.aload_n 3, 1) := by decide +kernel
theorem dX0_fineOne_45 : decode cX0_fineOne 45 = .ok (.iload_n 2, 1) := by decide +kernel
theorem dX0_fineOne_46 : decode cX0_fineOne 46 = .ok (.invokevirtual 166, 3) := by decide +kernel
theorem dX0_fineOne_49 : decode cX0_fineOne 49 = .ok (.sipush 5000, 3) := by decide +kernel
theorem dX0_fineOne_52 : decode cX0_fineOne 52 = .ok (.aload_n 3, 1) := by decide +kernel
theorem dX0_fineOne_53 : decode cX0_fineOne 53 = .ok (.invokevirtual 139, 3) := by decide +kernel
theorem dX0_fineOne_56 : decode cX0_fineOne 56 = .ok (.iadd, 1) := by decide +kernel
theorem dX0_fineOne_57 : decode cX0_fineOne 57 = .ok (.ireturn, 1) := by decide +kernel
theorem dX0_chargeFine_0 : decode cX0_chargeFine 0 = .ok (.aload_n 2, 1) := by decide +kernel
theorem dX0_chargeFine_1 : decode cX0_chargeFine 1 = .ok (.dup, 1) := by decide +kernel
theorem dX0_chargeFine_2 : decode cX0_chargeFine 2 = .ok (.getfield 170, 3) := by decide +kernel
theorem dX0_chargeFine_5 : decode cX0_chargeFine 5 = .ok (.iload_n 3, 1) := by decide +kernel
theorem dX0_chargeFine_6 : decode cX0_chargeFine 6 = .ok (.iadd, 1) := by decide +kernel
theorem dX0_chargeFine_7 : decode cX0_chargeFine 7 = .ok (.putfield 170, 3) := by decide +kernel
theorem dX0_chargeFine_10 : decode cX0_chargeFine 10 = .ok (.aload_n 0, 1) := by decide +kernel
theorem dX0_chargeFine_11 : decode cX0_chargeFine 11 = .ok (.getfield 46, 3) := by decide +kernel
theorem dX0_chargeFine_14 : decode cX0_chargeFine 14 = .ok (.dup, 1) := by decide +kernel
theorem dX0_chargeFine_15 : decode cX0_chargeFine 15 = .ok (.getfield 173, 3) := by decide +kernel
theorem dX0_chargeFine_18 : decode cX0_chargeFine 18 = .ok (.iload_n 3, 1) := by decide +kernel
theorem dX0_chargeFine_19 : decode cX0_chargeFine 19 = .ok (.iadd, 1) := by decide +kernel
theorem dX0_chargeFine_20 : decode cX0_chargeFine 20 = .ok (.putfield 173, 3) := by decide +kernel
theorem dX0_chargeFine_23 : decode cX0_chargeFine 23 = .ok (.aload_n 0, 1) := by decide +kernel
theorem dX0_chargeFine_24 : decode cX0_chargeFine 24 = .ok (.getfield 39, 3) := by decide +kernel
theorem dX0_chargeFine_27 : decode cX0_chargeFine 27 = .ok (.iload_n 1, 1) := by decide +kernel
theorem dX0_chargeFine_28 : decode cX0_chargeFine 28 = .ok (.iconst 1, 1) := by decide +kernel
theorem dX0_chargeFine_29 : decode cX0_chargeFine 29 = .ok (.iload_n 3, 1) := by decide +kernel
theorem dX0_chargeFine_30 : decode cX0_chargeFine 30 = .ok (.invokevirtual 132, 3) := by decide +kernel
theorem dX0_chargeFine_33 : decode cX0_chargeFine 33 = .ok (.return_, 1) := by decide +kernel
theorem dX0_fineAll_0 : decode cX0_fineAll 0 = .ok (.iload_n 1, 1) := by decide +kernel
theorem dX0_fineAll_1 : decode cX0_fineAll 1 = .ok (.iconst 0, 1) := by decide +kernel
theorem dX0_fineAll_2 : decode cX0_fineAll 2 = .ok (.iconst 1, 1) := by decide +kernel
theorem dX0_fineAll_3 : decode cX0_fineAll 3 = .ok (.invokestatic 80, 3) := by decide +kernel
theorem dX0_fineAll_6 : decode cX0_fineAll 6 = .ok (.ifCond .eq 14, 3) := by decide +kernel
theorem dX0_fineAll_9 : decode cX0_fineAll 9 = .ok (.iload_n 2, 1) := by decide +kernel
theorem dX0_fineAll_10 : decode cX0_fineAll 10 = .ok (.iconst 1, 1) := by decide +kernel
theorem dX0_fineAll_11 : decode cX0_fineAll 11 = .ok (.sipush 999, 3) := by decide +kernel
theorem dX0_fineAll_14 : decode cX0_fineAll 14 = .ok (.invokestatic 80, 3) := by decide +kernel
theorem dX0_fineAll_17 : decode cX0_fineAll 17 = .ok (.ifCond .ne 6, 3) := by decide +kernel
theorem dX0_fineAll_20 : decode cX0_fineAll 20 = .ok (.ldc 84, 2) := by decide +kernel
theorem dX0_fineAll_22 : decode cX0_fineAll 22 = .ok (.ireturn, 1) := by decide +kernel
theorem dX0_fineAll_23 : decode cX0_fineAll 23 = .ok (.aload_n 0, 1) := by decide +kernel
theorem dX0_fineAll_24 : decode cX0_fineAll 24 = .ok (.iload_n 1, 1) := by decide +kernel
theorem dX0_fineAll_25 : decode cX0_fineAll 25 = .ok (.invokevirtual 174, 3) := by decide +kernel
theorem dX0_fineAll_28 : decode cX0_fineAll 28 = .ok (.istore_n 3, 1) := by decide +kernel
theorem dX0_fineAll_29 : decode cX0_fineAll 29 = .ok (.iload_n 3, 1) := by decide +kernel
theorem dX0_fineAll_30 : decode cX0_fineAll 30 = .ok (.ifCond .gt 6, 3) := by decide +kernel
theorem dX0_fineAll_33 : decode cX0_fineAll 33 = .ok (.ldc 85, 2) := by decide +kernel
theorem dX0_fineAll_35 : decode cX0_fineAll 35 = .ok (.ireturn, 1) := by decide +kernel
theorem dX0_fineAll_36 : decode cX0_fineAll 36 = .ok (.iload_n 2, 1) := by decide +kernel
theorem dX0_fineAll_37 : decode cX0_fineAll 37 = .ok (.iload_n 3, 1) := by decide +kernel
theorem dX0_fineAll_38 : decode cX0_fineAll 38 = .ok (.idiv, 1) := by decide +kernel
theorem dX0_fineAll_39 : decode cX0_fineAll 39 = .ok (.istore 4, 2) := by decide +kernel
theorem dX0_fineAll_41 : decode cX0_fineAll 41 = .ok (.iload_n 2, 1) := by decide +kernel
theorem dX0_fineAll_42 : decode cX0_fineAll 42 = .ok (.iload_n 3, 1) := by decide +kernel
theorem dX0_fineAll_43 : decode cX0_fineAll 43 = .ok (.irem, 1) := by decide +kernel
theorem dX0_fineAll_44 : decode cX0_fineAll 44 = .ok (.istore 5, 2) := by decide +kernel
theorem dX0_fineAll_46 : decode cX0_fineAll 46 = .ok (.aload_n 0, 1) := by decide +kernel
theorem dX0_fineAll_47 : decode cX0_fineAll 47 = .ok (.iload_n 1, 1) := by decide +kernel
theorem dX0_fineAll_48 : decode cX0_fineAll 48 = .ok (.iload 4, 2) := by decide +kernel
theorem dX0_fineAll_50 : decode cX0_fineAll 50 = .ok (.iload 5, 2) := by decide +kernel
theorem dX0_fineAll_52 : decode cX0_fineAll 52 = .ok (.invokevirtual 177, 3) := by decide +kernel
theorem dX0_fineAll_55 : decode cX0_fineAll 55 = .ok (.ifCond .ne 6, 3) := by decide +kernel
theorem dX0_fineAll_58 : decode cX0_fineAll 58 = .ok (.ldc 85, 2) := by decide +kernel
theorem dX0_fineAll_60 : decode cX0_fineAll 60 = .ok (.ireturn, 1) := by decide +kernel
theorem dX0_fineAll_61 : decode cX0_fineAll 61 = .ok (.iconst 0, 1) := by decide +kernel
theorem dX0_fineAll_62 : decode cX0_fineAll 62 = .ok (.istore 6, 2) := by decide +kernel
theorem dX0_fineAll_64 : decode cX0_fineAll 64 = .ok (.iload 6, 2) := by decide +kernel
theorem dX0_fineAll_66 : decode cX0_fineAll 66 = .ok (.aload_n 0, 1) := by decide +kernel
theorem dX0_fineAll_67 : decode cX0_fineAll 67 = .ok (.getfield 63, 3) := by decide +kernel
theorem dX0_fineAll_70 : decode cX0_fineAll 70 = .ok (.if_icmp .ge 63, 3) := by decide +kernel
theorem dX0_fineAll_73 : decode cX0_fineAll 73 = .ok (.iload 6, 2) := by decide +kernel
theorem dX0_fineAll_75 : decode cX0_fineAll 75 = .ok (.aload_n 0, 1) := by decide +kernel
theorem dX0_fineAll_76 : decode cX0_fineAll 76 = .ok (.getfield 11, 3) := by decide +kernel
theorem dX0_fineAll_79 : decode cX0_fineAll 79 = .ok (.arraylength, 1) := by decide +kernel
theorem dX0_fineAll_80 : decode cX0_fineAll 80 = .ok (.if_icmp .ge 53, 3) := by decide +kernel
theorem dX0_fineAll_83 : decode cX0_fineAll 83 = .ok (.aload_n 0, 1) := by decide +kernel
theorem dX0_fineAll_84 : decode cX0_fineAll 84 = .ok (.getfield 11, 3) := by decide +kernel
theorem dX0_fineAll_87 : decode cX0_fineAll 87 = .ok (.iload 6, 2) := by decide +kernel
theorem dX0_fineAll_89 : decode cX0_fineAll 89 = .ok (.aaload, 1) := by decide +kernel
theorem dX0_fineAll_90 : decode cX0_fineAll 90 = .ok (.iload_n 1, 1) := by decide +kernel
theorem dX0_fineAll_91 : decode cX0_fineAll 91 = .ok (.invokevirtual 180, 3) := by decide +kernel
theorem dX0_fineAll_94 : decode cX0_fineAll 94 = .ok (.ifCond .eq 33, 3) := by decide +kernel
theorem dX0_fineAll_97 : decode cX0_fineAll 97 = .ok (.aload_n 0, 1) := by decide +kernel
theorem dX0_fineAll_98 : decode cX0_fineAll 98 = .ok (.iload 6, 2) := by decide +kernel
theorem dX0_fineAll_100 : decode cX0_fineAll 100 = .ok (.aload_n 0, 1) := by decide +kernel
theorem dX0_fineAll_101 : decode cX0_fineAll 101 = .ok (.getfield 11, 3) := by decide +kernel
theorem dX0_fineAll_104 : decode cX0_fineAll 104 = .ok (.iload 6, 2) := by decide +kernel
theorem dX0_fineAll_106 : decode cX0_fineAll 106 = .ok (.aaload, 1) := by decide +kernel
theorem dX0_fineAll_107 : decode cX0_fineAll 107 = .ok (.iload 5, 2) := by decide +kernel
theorem dX0_fineAll_109 : decode cX0_fineAll 109 = .ok (.ifCond .le 10, 3) := by decide +kernel
theorem dX0_fineAll_112 : decode cX0_fineAll 112 = .ok (.iload 4, 2) := by decide +kernel
theorem dX0_fineAll_114 : decode cX0_fineAll 114 = .ok (.iconst 1, 1) := by decide +kernel
theorem dX0_fineAll_115 : decode cX0_fineAll 115 = .ok (.iadd, 1) := by decide +kernel
theorem dX0_fineAll_116 : decode cX0_fineAll 116 = .ok (.goto 5, 3) := by decide +kernel
theorem dX0_fineAll_119 : decode cX0_fineAll 119 = .ok (.iload 4, 2) := by decide +kernel
theorem dX0_fineAll_121 : decode cX0_fineAll 121 = .ok (.invokevirtual 166, 3) := by decide +kernel
theorem dX0_fineAll_124 : decode cX0_fineAll 124 = .ok (.iinc 5 (-1), 3) := by decide +kernel
theorem dX0_fineAll_127 : decode cX0_fineAll 127 = .ok (.iinc 6 1, 3) := by decide +kernel
theorem dX0_fineAll_130 : decode cX0_fineAll 130 = .ok (.goto (-66), 3) := by decide +kernel
theorem dX0_fineAll_133 : decode cX0_fineAll 133 = .ok (.iload_n 3, 1) := by decide +kernel
theorem dX0_fineAll_134 : decode cX0_fineAll 134 = .ok (.ireturn, 1) := by decide +kernel
theorem dX0_couldAllBeFined_0 : decode cX0_couldAllBeFined 0 = .ok (.iload_n 3, 1) := by decide +kernel
theorem dX0_couldAllBeFined_1 : decode cX0_couldAllBeFined 1 = .ok (.istore 4, 2) := by decide +kernel
theorem dX0_couldAllBeFined_3 : decode cX0_couldAllBeFined 3 = .ok (.iconst 0, 1) := by decide +kernel
theorem dX0_couldAllBeFined_4 : decode cX0_couldAllBeFined 4 = .ok (.istore 5, 2) := by decide +kernel
theorem dX0_couldAllBeFined_6 : decode cX0_couldAllBeFined 6 = .ok (.iload 5, 2) := by decide +kernel
theorem dX0_couldAllBeFined_8 : decode cX0_couldAllBeFined 8 = .ok (.aload_n 0, 1) := by decide +kernel
theorem dX0_couldAllBeFined_9 : decode cX0_couldAllBeFined 9 = .ok (.getfield 63, 3) := by decide +kernel
theorem dX0_couldAllBeFined_12 : decode cX0_couldAllBeFined 12 = .ok (.if_icmp .ge 63, 3) := by decide +kernel
theorem dX0_couldAllBeFined_15 : decode cX0_couldAllBeFined 15 = .ok (.iload 5, 2) := by decide +kernel
theorem dX0_couldAllBeFined_17 : decode cX0_couldAllBeFined 17 = .ok (.aload_n 0, 1) := by decide +kernel
theorem dX0_couldAllBeFined_18 : decode cX0_couldAllBeFined 18 = .ok (.getfield 11, 3) := by decide +kernel
theorem dX0_couldAllBeFined_21 : decode cX0_couldAllBeFined 21 = .ok (.arraylength, 1) := by decide +kernel
theorem dX0_couldAllBeFined_22 : decode cX0_couldAllBeFined 22 = .ok (.if_icmp .ge 53, 3) := by decide +kernel
theorem dX0_couldAllBeFined_25 : decode cX0_couldAllBeFined 25 = .ok (.aload_n 0, 1) := by decide +kernel
theorem dX0_couldAllBeFined_26 : decode cX0_couldAllBeFined 26 = .ok (.getfield 11, 3) := by decide +kernel
theorem dX0_couldAllBeFined_29 : decode cX0_couldAllBeFined 29 = .ok (.iload 5, 2) := by decide +kernel
theorem dX0_couldAllBeFined_31 : decode cX0_couldAllBeFined 31 = .ok (.aaload, 1) := by decide +kernel
theorem dX0_couldAllBeFined_32 : decode cX0_couldAllBeFined 32 = .ok (.iload_n 1, 1) := by decide +kernel
theorem dX0_couldAllBeFined_33 : decode cX0_couldAllBeFined 33 = .ok (.invokevirtual 180, 3) := by decide +kernel
theorem dX0_couldAllBeFined_36 : decode cX0_couldAllBeFined 36 = .ok (.ifCond .eq 33, 3) := by decide +kernel
theorem dX0_couldAllBeFined_39 : decode cX0_couldAllBeFined 39 = .ok (.aload_n 0, 1) := by decide +kernel
theorem dX0_couldAllBeFined_40 : decode cX0_couldAllBeFined 40 = .ok (.getfield 11, 3) := by decide +kernel
theorem dX0_couldAllBeFined_43 : decode cX0_couldAllBeFined 43 = .ok (.iload 5, 2) := by decide +kernel
theorem dX0_couldAllBeFined_45 : decode cX0_couldAllBeFined 45 = .ok (.aaload, 1) := by decide +kernel
theorem dX0_couldAllBeFined_46 : decode cX0_couldAllBeFined 46 = .ok (.iload 4, 2) := by decide +kernel
theorem dX0_couldAllBeFined_48 : decode cX0_couldAllBeFined 48 = .ok (.ifCond .le 9, 3) := by decide +kernel
theorem dX0_couldAllBeFined_51 : decode cX0_couldAllBeFined 51 = .ok (.iload_n 2, 1) := by decide +kernel
theorem dX0_couldAllBeFined_52 : decode cX0_couldAllBeFined 52 = .ok (.iconst 1, 1) := by decide +kernel
theorem dX0_couldAllBeFined_53 : decode cX0_couldAllBeFined 53 = .ok (.iadd, 1) := by decide +kernel
theorem dX0_couldAllBeFined_54 : decode cX0_couldAllBeFined 54 = .ok (.goto 4, 3) := by decide +kernel
theorem dX0_couldAllBeFined_57 : decode cX0_couldAllBeFined 57 = .ok (.iload_n 2, 1) := by decide +kernel
theorem dX0_couldAllBeFined_58 : decode cX0_couldAllBeFined 58 = .ok (.invokevirtual 162, 3) := by decide +kernel
theorem dX0_couldAllBeFined_61 : decode cX0_couldAllBeFined 61 = .ok (.ifCond .ne 5, 3) := by decide +kernel
theorem dX0_couldAllBeFined_64 : decode cX0_couldAllBeFined 64 = .ok (.iconst 0, 1) := by decide +kernel
theorem dX0_couldAllBeFined_65 : decode cX0_couldAllBeFined 65 = .ok (.ireturn, 1) := by decide +kernel
theorem dX0_couldAllBeFined_66 : decode cX0_couldAllBeFined 66 = .ok (.iinc 4 (-1), 3) := by decide +kernel
theorem dX0_couldAllBeFined_69 : decode cX0_couldAllBeFined 69 = .ok (.iinc 5 1, 3) := by decide +kernel
theorem dX0_couldAllBeFined_72 : decode cX0_couldAllBeFined 72 = .ok (.goto (-66), 3) := by decide +kernel
theorem dX0_couldAllBeFined_75 : decode cX0_couldAllBeFined 75 = .ok (.iconst 1, 1) := by decide +kernel
theorem dX0_couldAllBeFined_76 : decode cX0_couldAllBeFined 76 = .ok (.ireturn, 1) := by decide +kernel
theorem dX0_sizeOfWatch_0 : decode cX0_sizeOfWatch 0 = .ok (.iconst 0, 1) := by decide +kernel
theorem dX0_sizeOfWatch_1 : decode cX0_sizeOfWatch 1 = .ok (.istore_n 2, 1) := by decide +kernel
theorem dX0_sizeOfWatch_2 : decode cX0_sizeOfWatch 2 = .ok (.iconst 0, 1) := by decide +kernel
theorem dX0_sizeOfWatch_3 : decode cX0_sizeOfWatch 3 = .ok (.istore_n 3, 1) := by decide +kernel
theorem dX0_sizeOfWatch_4 : decode cX0_sizeOfWatch 4 = .ok (.iload_n 3, 1) := by decide +kernel
theorem dX0_sizeOfWatch_5 : decode cX0_sizeOfWatch 5 = .ok (.aload_n 0, 1) := by decide +kernel
theorem dX0_sizeOfWatch_6 : decode cX0_sizeOfWatch 6 = .ok (.getfield 63, 3) := by decide +kernel
theorem dX0_sizeOfWatch_9 : decode cX0_sizeOfWatch 9 = .ok (.if_icmp .ge 34, 3) := by decide +kernel
theorem dX0_sizeOfWatch_12 : decode cX0_sizeOfWatch 12 = .ok (.iload_n 3, 1) := by decide +kernel
theorem dX0_sizeOfWatch_13 : decode cX0_sizeOfWatch 13 = .ok (.aload_n 0, 1) := by decide +kernel
theorem dX0_sizeOfWatch_14 : decode cX0_sizeOfWatch 14 = .ok (.getfield 11, 3) := by decide +kernel
theorem dX0_sizeOfWatch_17 : decode cX0_sizeOfWatch 17 = .ok (.arraylength, 1) := by decide +kernel
theorem dX0_sizeOfWatch_18 : decode cX0_sizeOfWatch 18 = .ok (.if_icmp .ge 25, 3) := by decide +kernel
theorem dX0_sizeOfWatch_21 : decode cX0_sizeOfWatch 21 = .ok (.aload_n 0, 1) := by decide +kernel
theorem dX0_sizeOfWatch_22 : decode cX0_sizeOfWatch 22 = .ok (.getfield 11, 3) := by decide +kernel
theorem dX0_sizeOfWatch_25 : decode cX0_sizeOfWatch 25 = .ok (.iload_n 3, 1) := by decide +kernel
theorem dX0_sizeOfWatch_26 : decode cX0_sizeOfWatch 26 = .ok (.aaload, 1) := by decide +kernel
theorem dX0_sizeOfWatch_27 : decode cX0_sizeOfWatch 27 = .ok (.iload_n 1, 1) := by decide +kernel
theorem dX0_sizeOfWatch_28 : decode cX0_sizeOfWatch 28 = .ok (.invokevirtual 180, 3) := by decide +kernel
theorem dX0_sizeOfWatch_31 : decode cX0_sizeOfWatch 31 = .ok (.ifCond .eq 6, 3) := by decide +kernel
theorem dX0_sizeOfWatch_34 : decode cX0_sizeOfWatch 34 = .ok (.iinc 2 1, 3) := by decide +kernel
theorem dX0_sizeOfWatch_37 : decode cX0_sizeOfWatch 37 = .ok (.iinc 3 1, 3) := by decide +kernel
theorem dX0_sizeOfWatch_40 : decode cX0_sizeOfWatch 40 = .ok (.goto (-36), 3) := by decide +kernel
theorem dX0_sizeOfWatch_43 : decode cX0_sizeOfWatch 43 = .ok (.iload_n 2, 1) := by decide +kernel
theorem dX0_sizeOfWatch_44 : decode cX0_sizeOfWatch 44 = .ok (.ireturn, 1) := by decide +kernel
theorem dX0_letAshore_0 : decode cX0_letAshore 0 = .ok (.iload_n 1, 1) := by decide +kernel
theorem dX0_letAshore_1 : decode cX0_letAshore 1 = .ok (.iconst 0, 1) := by decide +kernel
theorem dX0_letAshore_2 : decode cX0_letAshore 2 = .ok (.iconst 1, 1) := by decide +kernel
theorem dX0_letAshore_3 : decode cX0_letAshore 3 = .ok (.invokestatic 80, 3) := by decide +kernel
theorem dX0_letAshore_6 : decode cX0_letAshore 6 = .ok (.ifCond .ne 6, 3) := by decide +kernel
theorem dX0_letAshore_9 : decode cX0_letAshore 9 = .ok (.ldc 84, 2) := by decide +kernel
theorem dX0_letAshore_11 : decode cX0_letAshore 11 = .ok (.ireturn, 1) := by decide +kernel
theorem dX0_letAshore_12 : decode cX0_letAshore 12 = .ok (.aload_n 0, 1) := by decide +kernel
theorem dX0_letAshore_13 : decode cX0_letAshore 13 = .ok (.getfield 76, 3) := by decide +kernel
theorem dX0_letAshore_16 : decode cX0_letAshore 16 = .ok (.ifCond .ne 11, 3) := by decide +kernel
theorem dX0_letAshore_19 : decode cX0_letAshore 19 = .ok (.aload_n 0, 1) := by decide +kernel
theorem dX0_letAshore_20 : decode cX0_letAshore 20 = .ok (.iconst 1, 1) := by decide +kernel
theorem dX0_letAshore_21 : decode cX0_letAshore 21 = .ok (.invokevirtual 183, 3) := by decide +kernel
theorem dX0_letAshore_24 : decode cX0_letAshore 24 = .ok (.ifCond .eq 6, 3) := by decide +kernel
theorem dX0_letAshore_27 : decode cX0_letAshore 27 = .ok (.ldc 85, 2) := by decide +kernel
theorem dX0_letAshore_29 : decode cX0_letAshore 29 = .ok (.ireturn, 1) := by decide +kernel
theorem dX0_letAshore_30 : decode cX0_letAshore 30 = .ok (.iconst 0, 1) := by decide +kernel
theorem dX0_letAshore_31 : decode cX0_letAshore 31 = .ok (.istore_n 2, 1) := by decide +kernel
theorem dX0_letAshore_32 : decode cX0_letAshore 32 = .ok (.iconst 0, 1) := by decide +kernel
theorem dX0_letAshore_33 : decode cX0_letAshore 33 = .ok (.istore_n 3, 1) := by decide +kernel
theorem dX0_letAshore_34 : decode cX0_letAshore 34 = .ok (.iload_n 3, 1) := by decide +kernel
theorem dX0_letAshore_35 : decode cX0_letAshore 35 = .ok (.aload_n 0, 1) := by decide +kernel
theorem dX0_letAshore_36 : decode cX0_letAshore 36 = .ok (.getfield 63, 3) := by decide +kernel
theorem dX0_letAshore_39 : decode cX0_letAshore 39 = .ok (.if_icmp .ge 44, 3) := by decide +kernel
theorem dX0_letAshore_42 : decode cX0_letAshore 42 = .ok (.iload_n 3, 1) := by decide +kernel
theorem dX0_letAshore_43 : decode cX0_letAshore 43 = .ok (.aload_n 0, 1) := by decide +kernel
theorem dX0_letAshore_44 : decode cX0_letAshore 44 = .ok (.getfield 11, 3) := by decide +kernel
theorem dX0_letAshore_47 : decode cX0_letAshore 47 = .ok (.arraylength, 1) := by decide +kernel
theorem dX0_letAshore_48 : decode cX0_letAshore 48 = .ok (.if_icmp .ge 35, 3) := by decide +kernel
theorem dX0_letAshore_51 : decode cX0_letAshore 51 = .ok (.aload_n 0, 1) := by decide +kernel
theorem dX0_letAshore_52 : decode cX0_letAshore 52 = .ok (.getfield 11, 3) := by decide +kernel
theorem dX0_letAshore_55 : decode cX0_letAshore 55 = .ok (.iload_n 3, 1) := by decide +kernel
theorem dX0_letAshore_56 : decode cX0_letAshore 56 = .ok (.aaload, 1) := by decide +kernel
theorem dX0_letAshore_57 : decode cX0_letAshore 57 = .ok (.iload_n 1, 1) := by decide +kernel
theorem dX0_letAshore_58 : decode cX0_letAshore 58 = .ok (.invokevirtual 180, 3) := by decide +kernel
theorem dX0_letAshore_61 : decode cX0_letAshore 61 = .ok (.ifCond .eq 16, 3) := by decide +kernel
theorem dX0_letAshore_64 : decode cX0_letAshore 64 = .ok (.aload_n 0, 1) := by decide +kernel
theorem dX0_letAshore_65 : decode cX0_letAshore 65 = .ok (.getfield 11, 3) := by decide +kernel
theorem dX0_letAshore_68 : decode cX0_letAshore 68 = .ok (.iload_n 3, 1) := by decide +kernel
theorem dX0_letAshore_69 : decode cX0_letAshore 69 = .ok (.aaload, 1) := by decide +kernel
theorem dX0_letAshore_70 : decode cX0_letAshore 70 = .ok (.iconst 1, 1) := by decide +kernel
theorem dX0_letAshore_71 : decode cX0_letAshore 71 = .ok (.putfield 136, 3) := by decide +kernel
theorem dX0_letAshore_74 : decode cX0_letAshore 74 = .ok (.iinc 2 1, 3) := by decide +kernel
theorem dX0_letAshore_77 : decode cX0_letAshore 77 = .ok (.iinc 3 1, 3) := by decide +kernel
theorem dX0_letAshore_80 : decode cX0_letAshore 80 = .ok (.goto (-46), 3) := by decide +kernel
theorem dX0_letAshore_83 : decode cX0_letAshore 83 = .ok (.iload_n 2, 1) := by decide +kernel
theorem dX0_letAshore_84 : decode cX0_letAshore 84 = .ok (.ifCond .ne 8, 3) := by decide +kernel
theorem dX0_letAshore_87 : decode cX0_letAshore 87 = .ok (.ldc 85, 2) := by decide +kernel
theorem dX0_letAshore_89 : decode cX0_letAshore 89 = .ok (.goto 4, 3) := by decide +kernel
theorem dX0_letAshore_92 : decode cX0_letAshore 92 = .ok (.iload_n 2, 1) := by decide +kernel
theorem dX0_letAshore_93 : decode cX0_letAshore 93 = .ok (.ireturn, 1) := by decide +kernel
theorem dX0_comeBack_0 : decode cX0_comeBack 0 = .ok (.aload_n 0, 1) := by decide +kernel
theorem dX0_comeBack_1 : decode cX0_comeBack 1 = .ok (.iload_n 1, 1) := by decide +kernel
theorem dX0_comeBack_2 : decode cX0_comeBack 2 = .ok (.invokevirtual 115, 3) := by decide +kernel
theorem dX0_comeBack_5 : decode cX0_comeBack 5 = .ok (.astore_n 3, 1) := by decide +kernel
theorem dX0_comeBack_6 : decode cX0_comeBack 6 = .ok (.aload_n 3, 1) := by decide +kernel
theorem dX0_comeBack_7 : decode cX0_comeBack 7 = .ok (.ifnull 13, 3) := by decide +kernel
theorem dX0_comeBack_10 : decode cX0_comeBack 10 = .ok (.iload_n 2, 1) := by decide +kernel
theorem dX0_comeBack_11 : decode cX0_comeBack 11 = .ok (.iconst 0, 1) := by decide +kernel
theorem dX0_comeBack_12 : decode cX0_comeBack 12 = .ok (.bipush 99, 2) := by decide +kernel
theorem dX0_comeBack_14 : decode cX0_comeBack 14 = .ok (.invokestatic 80, 3) := by decide +kernel
theorem dX0_comeBack_17 : decode cX0_comeBack 17 = .ok (.ifCond .ne 6, 3) := by decide +kernel
theorem dX0_comeBack_20 : decode cX0_comeBack 20 = .ok (.ldc 84, 2) := by decide +kernel
theorem dX0_comeBack_22 : decode cX0_comeBack 22 = .ok (.ireturn, 1) := by decide +kernel
theorem dX0_comeBack_23 : decode cX0_comeBack 23 = .ok (.iload_n 2, 1) := by decide +kernel
theorem dX0_comeBack_24 : decode cX0_comeBack 24 = .ok (.aload_n 0, 1) := by decide +kernel
theorem dX0_comeBack_25 : decode cX0_comeBack 25 = .ok (.iconst 2, 1) := by decide +kernel
theorem dX0_comeBack_26 : decode cX0_comeBack 26 = .ok (.invokevirtual 105, 3) := by decide +kernel
theorem dX0_comeBack_29 : decode cX0_comeBack 29 = .ok (.imul, 1) := by decide +kernel
theorem dX0_comeBack_30 : decode cX0_comeBack 30 = .ok (.istore 4, 2) := by decide +kernel
theorem dX0_comeBack_32 : decode cX0_comeBack 32 = .ok (.aload_n 3, 1) := by decide +kernel
theorem dX0_comeBack_33 : decode cX0_comeBack 33 = .ok (.getfield 136, 3) := by decide +kernel
theorem dX0_comeBack_36 : decode cX0_comeBack 36 = .ok (.iconst 1, 1) := by decide +kernel
theorem dX0_comeBack_37 : decode cX0_comeBack 37 = .ok (.if_icmp .ne 12, 3) := by decide +kernel
theorem dX0_comeBack_40 : decode cX0_comeBack 40 = .ok (.aload_n 3, 1) := by decide +kernel
theorem dX0_comeBack_41 : decode cX0_comeBack 41 = .ok (.iload 4, 2) := by decide +kernel
theorem dX0_comeBack_43 : decode cX0_comeBack 43 = .ok (.invokevirtual 162, 3) := by decide +kernel
theorem dX0_comeBack_46 : decode cX0_comeBack 46 = .ok (.ifCond .ne 6, 3) := by decide +kernel
theorem dX0_comeBack_49 : decode cX0_comeBack 49 = .ok (.ldc 85, 2) := by decide +kernel
theorem dX0_comeBack_51 : decode cX0_comeBack 51 = .ok (.ireturn, 1) := by decide +kernel
theorem dX0_comeBack_52 : decode cX0_comeBack 52 = .ok (.aload_n 3, 1) := by decide +kernel
theorem dX0_comeBack_53 : decode cX0_comeBack 53 = .ok (.iconst 0, 1) := by decide +kernel
theorem dX0_comeBack_54 : decode cX0_comeBack 54 = .ok (.putfield 136, 3) := by decide +kernel
theorem dX0_comeBack_57 : decode cX0_comeBack 57 = .ok (.aload_n 0, 1) := by decide +kernel
theorem dX0_comeBack_58 : decode cX0_comeBack 58 = .ok (.iload_n 1, 1) := by decide +kernel
theorem dX0_comeBack_59 : decode cX0_comeBack 59 = .ok (.aload_n 3, 1) := by decide +kernel
theorem dX0_comeBack_60 : decode cX0_comeBack 60 = .ok (.iload 4, 2) := by decide +kernel
theorem dX0_comeBack_62 : decode cX0_comeBack 62 = .ok (.invokevirtual 166, 3) := by decide +kernel
theorem dX0_comeBack_65 : decode cX0_comeBack 65 = .ok (.iload 4, 2) := by decide +kernel
theorem dX0_comeBack_67 : decode cX0_comeBack 67 = .ok (.ireturn, 1) := by decide +kernel
theorem dX0_putToSea_0 : decode cX0_putToSea 0 = .ok (.aload_n 0, 1) := by decide +kernel
theorem dX0_putToSea_1 : decode cX0_putToSea 1 = .ok (.getfield 76, 3) := by decide +kernel
theorem dX0_putToSea_4 : decode cX0_putToSea 4 = .ok (.ifCond .eq 6, 3) := by decide +kernel
theorem dX0_putToSea_7 : decode cX0_putToSea 7 = .ok (.ldc 85, 2) := by decide +kernel
theorem dX0_putToSea_9 : decode cX0_putToSea 9 = .ok (.ireturn, 1) := by decide +kernel
theorem dX0_putToSea_10 : decode cX0_putToSea 10 = .ok (.iconst 0, 1) := by decide +kernel
theorem dX0_putToSea_11 : decode cX0_putToSea 11 = .ok (.istore_n 1, 1) := by decide +kernel
theorem dX0_putToSea_12 : decode cX0_putToSea 12 = .ok (.iconst 0, 1) := by decide +kernel
theorem dX0_putToSea_13 : decode cX0_putToSea 13 = .ok (.istore_n 2, 1) := by decide +kernel
theorem dX0_putToSea_14 : decode cX0_putToSea 14 = .ok (.iload_n 2, 1) := by decide +kernel
theorem dX0_putToSea_15 : decode cX0_putToSea 15 = .ok (.aload_n 0, 1) := by decide +kernel
theorem dX0_putToSea_16 : decode cX0_putToSea 16 = .ok (.getfield 63, 3) := by decide +kernel
theorem dX0_putToSea_19 : decode cX0_putToSea 19 = .ok (.if_icmp .ge 64, 3) := by decide +kernel
theorem dX0_putToSea_22 : decode cX0_putToSea 22 = .ok (.iload_n 2, 1) := by decide +kernel
theorem dX0_putToSea_23 : decode cX0_putToSea 23 = .ok (.aload_n 0, 1) := by decide +kernel
theorem dX0_putToSea_24 : decode cX0_putToSea 24 = .ok (.getfield 11, 3) := by decide +kernel
theorem dX0_putToSea_27 : decode cX0_putToSea 27 = .ok (.arraylength, 1) := by decide +kernel
theorem dX0_putToSea_28 : decode cX0_putToSea 28 = .ok (.if_icmp .ge 55, 3) := by decide +kernel
theorem dX0_putToSea_31 : decode cX0_putToSea 31 = .ok (.aload_n 0, 1) := by decide +kernel
theorem dX0_putToSea_32 : decode cX0_putToSea 32 = .ok (.getfield 11, 3) := by decide +kernel
theorem dX0_putToSea_35 : decode cX0_putToSea 35 = .ok (.iload_n 2, 1) := by decide +kernel
theorem dX0_putToSea_36 : decode cX0_putToSea 36 = .ok (.aaload, 1) := by decide +kernel
theorem dX0_putToSea_37 : decode cX0_putToSea 37 = .ok (.getfield 136, 3) := by decide +kernel
theorem dX0_putToSea_40 : decode cX0_putToSea 40 = .ok (.iconst 1, 1) := by decide +kernel
theorem dX0_putToSea_41 : decode cX0_putToSea 41 = .ok (.if_icmp .ne 36, 3) := by decide +kernel
theorem dX0_putToSea_44 : decode cX0_putToSea 44 = .ok (.aload_n 0, 1) := by decide +kernel
theorem dX0_putToSea_45 : decode cX0_putToSea 45 = .ok (.getfield 46, 3) := by decide +kernel
theorem dX0_putToSea_48 : decode cX0_putToSea 48 = .ok (.dup, 1) := by decide +kernel
theorem dX0_putToSea_49 : decode cX0_putToSea 49 = .ok (.getfield 186, 3) := by decide +kernel
theorem dX0_putToSea_52 : decode cX0_putToSea 52 = .ok (.aload_n 0, 1) := by decide +kernel
theorem dX0_putToSea_53 : decode cX0_putToSea 53 = .ok (.getfield 11, 3) := by decide +kernel
theorem dX0_putToSea_56 : decode cX0_putToSea 56 = .ok (.iload_n 2, 1) := by decide +kernel
theorem dX0_putToSea_57 : decode cX0_putToSea 57 = .ok (.aaload, 1) := by decide +kernel
theorem dX0_putToSea_58 : decode cX0_putToSea 58 = .ok (.invokevirtual 139, 3) := by decide +kernel
theorem dX0_putToSea_61 : decode cX0_putToSea 61 = .ok (.iadd, 1) := by decide +kernel
theorem dX0_putToSea_62 : decode cX0_putToSea 62 = .ok (.putfield 186, 3) := by decide +kernel
theorem dX0_putToSea_65 : decode cX0_putToSea 65 = .ok (.aload_n 0, 1) := by decide +kernel
theorem dX0_putToSea_66 : decode cX0_putToSea 66 = .ok (.getfield 11, 3) := by decide +kernel
theorem dX0_putToSea_69 : decode cX0_putToSea 69 = .ok (.iload_n 2, 1) := by decide +kernel
theorem dX0_putToSea_70 : decode cX0_putToSea 70 = .ok (.aaload, 1) := by decide +kernel
theorem dX0_putToSea_71 : decode cX0_putToSea 71 = .ok (.invokevirtual 189, 3) := by decide +kernel
theorem dX0_putToSea_74 : decode cX0_putToSea 74 = .ok (.iinc 1 1, 3) := by decide +kernel
theorem dX0_putToSea_77 : decode cX0_putToSea 77 = .ok (.iinc 2 1, 3) := by decide +kernel
theorem dX0_putToSea_80 : decode cX0_putToSea 80 = .ok (.goto (-66), 3) := by decide +kernel
theorem dX0_putToSea_83 : decode cX0_putToSea 83 = .ok (.aload_n 0, 1) := by decide +kernel
theorem dX0_putToSea_84 : decode cX0_putToSea 84 = .ok (.iconst 1, 1) := by decide +kernel
theorem dX0_putToSea_85 : decode cX0_putToSea 85 = .ok (.putfield 76, 3) := by decide +kernel
theorem dX0_putToSea_88 : decode cX0_putToSea 88 = .ok (.iload_n 1, 1) := by decide +kernel
theorem dX0_putToSea_89 : decode cX0_putToSea 89 = .ok (.ireturn, 1) := by decide +kernel
theorem dX0_comeIntoPort_0 : decode cX0_comeIntoPort 0 = .ok (.aload_n 0, 1) := by decide +kernel
theorem dX0_comeIntoPort_1 : decode cX0_comeIntoPort 1 = .ok (.getfield 76, 3) := by decide +kernel
theorem dX0_comeIntoPort_4 : decode cX0_comeIntoPort 4 = .ok (.ifCond .ne 6, 3) := by decide +kernel
theorem dX0_comeIntoPort_7 : decode cX0_comeIntoPort 7 = .ok (.ldc 85, 2) := by decide +kernel
theorem dX0_comeIntoPort_9 : decode cX0_comeIntoPort 9 = .ok (.ireturn, 1) := by decide +kernel
theorem dX0_comeIntoPort_10 : decode cX0_comeIntoPort 10 = .ok (.aload_n 0, 1) := by decide +kernel
theorem dX0_comeIntoPort_11 : decode cX0_comeIntoPort 11 = .ok (.iconst 0, 1) := by decide +kernel
theorem dX0_comeIntoPort_12 : decode cX0_comeIntoPort 12 = .ok (.putfield 76, 3) := by decide +kernel
theorem dX0_comeIntoPort_15 : decode cX0_comeIntoPort 15 = .ok (.aload_n 0, 1) := by decide +kernel
theorem dX0_comeIntoPort_16 : decode cX0_comeIntoPort 16 = .ok (.dup, 1) := by decide +kernel
theorem dX0_comeIntoPort_17 : decode cX0_comeIntoPort 17 = .ok (.getfield 73, 3) := by decide +kernel
theorem dX0_comeIntoPort_20 : decode cX0_comeIntoPort 20 = .ok (.iconst 1, 1) := by decide +kernel
theorem dX0_comeIntoPort_21 : decode cX0_comeIntoPort 21 = .ok (.iadd, 1) := by decide +kernel
theorem dX0_comeIntoPort_22 : decode cX0_comeIntoPort 22 = .ok (.putfield 73, 3) := by decide +kernel
theorem dX0_comeIntoPort_25 : decode cX0_comeIntoPort 25 = .ok (.aload_n 0, 1) := by decide +kernel
theorem dX0_comeIntoPort_26 : decode cX0_comeIntoPort 26 = .ok (.getfield 73, 3) := by decide +kernel
theorem dX0_comeIntoPort_29 : decode cX0_comeIntoPort 29 = .ok (.ireturn, 1) := by decide +kernel
theorem dX0_passDays_0 : decode cX0_passDays 0 = .ok (.iload_n 1, 1) := by decide +kernel
theorem dX0_passDays_1 : decode cX0_passDays 1 = .ok (.iconst 1, 1) := by decide +kernel
theorem dX0_passDays_2 : decode cX0_passDays 2 = .ok (.bipush 99, 2) := by decide +kernel
theorem dX0_passDays_4 : decode cX0_passDays 4 = .ok (.invokestatic 80, 3) := by decide +kernel
theorem dX0_passDays_7 : decode cX0_passDays 7 = .ok (.ifCond .ne 6, 3) := by decide +kernel
theorem dX0_passDays_10 : decode cX0_passDays 10 = .ok (.ldc 84, 2) := by decide +kernel
theorem dX0_passDays_12 : decode cX0_passDays 12 = .ok (.ireturn, 1) := by decide +kernel
theorem dX0_passDays_13 : decode cX0_passDays 13 = .ok (.aload_n 0, 1) := by decide +kernel
theorem dX0_passDays_14 : decode cX0_passDays 14 = .ok (.getfield 70, 3) := by decide +kernel
theorem dX0_passDays_17 : decode cX0_passDays 17 = .ok (.iload_n 1, 1) := by decide +kernel
theorem dX0_passDays_18 : decode cX0_passDays 18 = .ok (.iadd, 1) := by decide +kernel
theorem dX0_passDays_19 : decode cX0_passDays 19 = .ok (.sipush 999, 3) := by decide +kernel
theorem dX0_passDays_22 : decode cX0_passDays 22 = .ok (.if_icmp .le 6, 3) := by decide +kernel
theorem dX0_passDays_25 : decode cX0_passDays 25 = .ok (.ldc 86, 2) := by decide +kernel
theorem dX0_passDays_27 : decode cX0_passDays 27 = .ok (.ireturn, 1) := by decide +kernel
theorem dX0_passDays_28 : decode cX0_passDays 28 = .ok (.iconst 0, 1) := by decide +kernel
theorem dX0_passDays_29 : decode cX0_passDays 29 = .ok (.istore_n 2, 1) := by decide +kernel
theorem dX0_passDays_30 : decode cX0_passDays 30 = .ok (.iload_n 2, 1) := by decide +kernel
theorem dX0_passDays_31 : decode cX0_passDays 31 = .ok (.aload_n 0, 1) := by decide +kernel
theorem dX0_passDays_32 : decode cX0_passDays 32 = .ok (.getfield 63, 3) := by decide +kernel
theorem dX0_passDays_35 : decode cX0_passDays 35 = .ok (.if_icmp .ge 44, 3) := by decide +kernel
theorem dX0_passDays_38 : decode cX0_passDays 38 = .ok (.iload_n 2, 1) := by decide +kernel
theorem dX0_passDays_39 : decode cX0_passDays 39 = .ok (.aload_n 0, 1) := by decide +kernel
theorem dX0_passDays_40 : decode cX0_passDays 40 = .ok (.getfield 11, 3) := by decide +kernel
theorem dX0_passDays_43 : decode cX0_passDays 43 = .ok (.arraylength, 1) := by decide +kernel
theorem dX0_passDays_44 : decode cX0_passDays 44 = .ok (.if_icmp .ge 35, 3) := by decide +kernel
theorem dX0_passDays_47 : decode cX0_passDays 47 = .ok (.aload_n 0, 1) := by decide +kernel
theorem dX0_passDays_48 : decode cX0_passDays 48 = .ok (.getfield 11, 3) := by decide +kernel
theorem dX0_passDays_51 : decode cX0_passDays 51 = .ok (.iload_n 2, 1) := by decide +kernel
theorem dX0_passDays_52 : decode cX0_passDays 52 = .ok (.aaload, 1) := by decide +kernel
theorem dX0_passDays_53 : decode cX0_passDays 53 = .ok (.invokevirtual 149, 3) := by decide +kernel
theorem dX0_passDays_56 : decode cX0_passDays 56 = .ok (.ifCond .ne 17, 3) := by decide +kernel
theorem dX0_passDays_59 : decode cX0_passDays 59 = .ok (.aload_n 0, 1) := by decide +kernel
theorem dX0_passDays_60 : decode cX0_passDays 60 = .ok (.getfield 11, 3) := by decide +kernel
theorem dX0_passDays_63 : decode cX0_passDays 63 = .ok (.iload_n 2, 1) := by decide +kernel
theorem dX0_passDays_64 : decode cX0_passDays 64 = .ok (.aaload, 1) := by decide +kernel
theorem dX0_passDays_65 : decode cX0_passDays 65 = .ok (.iload_n 1, 1) := by decide +kernel
theorem dX0_passDays_66 : decode cX0_passDays 66 = .ok (.aload_n 0, 1) := by decide +kernel
theorem dX0_passDays_67 : decode cX0_passDays 67 = .ok (.getfield 76, 3) := by decide +kernel
theorem dX0_passDays_70 : decode cX0_passDays 70 = .ok (.invokevirtual 192, 3) := by decide +kernel
theorem dX0_passDays_73 : decode cX0_passDays 73 = .ok (.iinc 2 1, 3) := by decide +kernel
theorem dX0_passDays_76 : decode cX0_passDays 76 = .ok (.goto (-46), 3) := by decide +kernel
theorem dX0_passDays_79 : decode cX0_passDays 79 = .ok (.aload_n 0, 1) := by decide +kernel
theorem dX0_passDays_80 : decode cX0_passDays 80 = .ok (.dup, 1) := by decide +kernel
theorem dX0_passDays_81 : decode cX0_passDays 81 = .ok (.getfield 70, 3) := by decide +kernel
theorem dX0_passDays_84 : decode cX0_passDays 84 = .ok (.iload_n 1, 1) := by decide +kernel
theorem dX0_passDays_85 : decode cX0_passDays 85 = .ok (.iadd, 1) := by decide +kernel
theorem dX0_passDays_86 : decode cX0_passDays 86 = .ok (.putfield 70, 3) := by decide +kernel
theorem dX0_passDays_89 : decode cX0_passDays 89 = .ok (.aload_n 0, 1) := by decide +kernel
theorem dX0_passDays_90 : decode cX0_passDays 90 = .ok (.getfield 70, 3) := by decide +kernel
theorem dX0_passDays_93 : decode cX0_passDays 93 = .ok (.ireturn, 1) := by decide +kernel
theorem dX0_sendAway_0 : decode cX0_sendAway 0 = .ok (.aload_n 0, 1) := by decide +kernel
theorem dX0_sendAway_1 : decode cX0_sendAway 1 = .ok (.iload_n 1, 1) := by decide +kernel
theorem dX0_sendAway_2 : decode cX0_sendAway 2 = .ok (.invokevirtual 115, 3) := by decide +kernel
theorem dX0_sendAway_5 : decode cX0_sendAway 5 = .ok (.astore_n 2, 1) := by decide +kernel
theorem dX0_sendAway_6 : decode cX0_sendAway 6 = .ok (.aload_n 2, 1) := by decide +kernel
theorem dX0_sendAway_7 : decode cX0_sendAway 7 = .ok (.ifnonnull 6, 3) := by decide +kernel
theorem dX0_sendAway_10 : decode cX0_sendAway 10 = .ok (.ldc 84, 2) := by decide +kernel
theorem dX0_sendAway_12 : decode cX0_sendAway 12 = .ok (.ireturn, 1) := by decide +kernel
theorem dX0_sendAway_13 : decode cX0_sendAway 13 = .ok (.aload_n 2, 1) := by decide +kernel
theorem dX0_sendAway_14 : decode cX0_sendAway 14 = .ok (.invokevirtual 139, 3) := by decide +kernel
theorem dX0_sendAway_17 : decode cX0_sendAway 17 = .ok (.istore_n 3, 1) := by decide +kernel
theorem dX0_sendAway_18 : decode cX0_sendAway 18 = .ok (.aload_n 0, 1) := by decide +kernel
theorem dX0_sendAway_19 : decode cX0_sendAway 19 = .ok (.getfield 76, 3) := by decide +kernel
theorem dX0_sendAway_22 : decode cX0_sendAway 22 = .ok (.ifCond .ne 14, 3) := by decide +kernel
theorem dX0_sendAway_25 : decode cX0_sendAway 25 = .ok (.aload_n 2, 1) := by decide +kernel
theorem dX0_sendAway_26 : decode cX0_sendAway 26 = .ok (.invokevirtual 149, 3) := by decide +kernel
theorem dX0_sendAway_29 : decode cX0_sendAway 29 = .ok (.ifCond .ne 7, 3) := by decide +kernel
theorem dX0_sendAway_32 : decode cX0_sendAway 32 = .ok (.iload_n 3, 1) := by decide +kernel
theorem dX0_sendAway_33 : decode cX0_sendAway 33 = .ok (.ifCond .ge 6, 3) := by decide +kernel
theorem dX0_sendAway_36 : decode cX0_sendAway 36 = .ok (.ldc 85, 2) := by decide +kernel
theorem dX0_sendAway_38 : decode cX0_sendAway 38 = .ok (.ireturn, 1) := by decide +kernel
theorem dX0_sendAway_39 : decode cX0_sendAway 39 = .ok (.aload_n 0, 1) := by decide +kernel
theorem dX0_sendAway_40 : decode cX0_sendAway 40 = .ok (.iload_n 1, 1) := by decide +kernel
theorem dX0_sendAway_41 : decode cX0_sendAway 41 = .ok (.aload_n 2, 1) := by decide +kernel
theorem dX0_sendAway_42 : decode cX0_sendAway 42 = .ok (.iload_n 3, 1) := by decide +kernel
theorem dX0_sendAway_43 : decode cX0_sendAway 43 = .ok (.invokevirtual 196, 3) := by decide +kernel
theorem dX0_sendAway_46 : decode cX0_sendAway 46 = .ok (.aload_n 2, 1) := by decide +kernel
theorem dX0_sendAway_47 : decode cX0_sendAway 47 = .ok (.invokevirtual 189, 3) := by decide +kernel
theorem dX0_sendAway_50 : decode cX0_sendAway 50 = .ok (.iload_n 3, 1) := by decide +kernel
theorem dX0_sendAway_51 : decode cX0_sendAway 51 = .ok (.ireturn, 1) := by decide +kernel
theorem dX0_payTo_0 : decode cX0_payTo 0 = .ok (.aload_n 2, 1) := by decide +kernel
theorem dX0_payTo_1 : decode cX0_payTo 1 = .ok (.dup, 1) := by decide +kernel
theorem dX0_payTo_2 : decode cX0_payTo 2 = .ok (.getfield 199, 3) := by decide +kernel
theorem dX0_payTo_5 : decode cX0_payTo 5 = .ok (.iload_n 3, 1) := by decide +kernel
theorem dX0_payTo_6 : decode cX0_payTo 6 = .ok (.iadd, 1) := by decide +kernel
theorem dX0_payTo_7 : decode cX0_payTo 7 = .ok (.putfield 199, 3) := by decide +kernel
theorem dX0_payTo_10 : decode cX0_payTo 10 = .ok (.aload_n 0, 1) := by decide +kernel
theorem dX0_payTo_11 : decode cX0_payTo 11 = .ok (.getfield 46, 3) := by decide +kernel
theorem dX0_payTo_14 : decode cX0_payTo 14 = .ok (.dup, 1) := by decide +kernel
theorem dX0_payTo_15 : decode cX0_payTo 15 = .ok (.getfield 202, 3) := by decide +kernel
theorem dX0_payTo_18 : decode cX0_payTo 18 = .ok (.iload_n 3, 1) := by decide +kernel
theorem dX0_payTo_19 : decode cX0_payTo 19 = .ok (.iadd, 1) := by decide +kernel
theorem dX0_payTo_20 : decode cX0_payTo 20 = .ok (.putfield 202, 3) := by decide +kernel
theorem dX0_payTo_23 : decode cX0_payTo 23 = .ok (.aload_n 0, 1) := by decide +kernel
theorem dX0_payTo_24 : decode cX0_payTo 24 = .ok (.getfield 46, 3) := by decide +kernel
theorem dX0_payTo_27 : decode cX0_payTo 27 = .ok (.iload_n 3, 1) := by decide +kernel
theorem dX0_payTo_28 : decode cX0_payTo 28 = .ok (.invokevirtual 101, 3) := by decide +kernel
theorem dX0_payTo_31 : decode cX0_payTo 31 = .ok (.aload_n 0, 1) := by decide +kernel
theorem dX0_payTo_32 : decode cX0_payTo 32 = .ok (.getfield 39, 3) := by decide +kernel
theorem dX0_payTo_35 : decode cX0_payTo 35 = .ok (.iload_n 1, 1) := by decide +kernel
theorem dX0_payTo_36 : decode cX0_payTo 36 = .ok (.iconst 3, 1) := by decide +kernel
theorem dX0_payTo_37 : decode cX0_payTo 37 = .ok (.iload_n 3, 1) := by decide +kernel
theorem dX0_payTo_38 : decode cX0_payTo 38 = .ok (.invokevirtual 132, 3) := by decide +kernel
theorem dX0_payTo_41 : decode cX0_payTo 41 = .ok (.return_, 1) := by decide +kernel
theorem dX0_endVoyage_0 : decode cX0_endVoyage 0 = .ok (.aload_n 0, 1) := by decide +kernel
theorem dX0_endVoyage_1 : decode cX0_endVoyage 1 = .ok (.getfield 76, 3) := by decide +kernel
theorem dX0_endVoyage_4 : decode cX0_endVoyage 4 = .ok (.ifCond .ne 10, 3) := by decide +kernel
theorem dX0_endVoyage_7 : decode cX0_endVoyage 7 = .ok (.aload_n 0, 1) := by decide +kernel
theorem dX0_endVoyage_8 : decode cX0_endVoyage 8 = .ok (.getfield 70, 3) := by decide +kernel
theorem dX0_endVoyage_11 : decode cX0_endVoyage 11 = .ok (.ifCond .ne 6, 3) := by decide +kernel
theorem dX0_endVoyage_14 : decode cX0_endVoyage 14 = .ok (.ldc 85, 2) := by decide +kernel
theorem dX0_endVoyage_16 : decode cX0_endVoyage 16 = .ok (.ireturn, 1) := by decide +kernel
theorem dX0_endVoyage_17 : decode cX0_endVoyage 17 = .ok (.iconst 0, 1) := by decide +kernel
theorem dX0_endVoyage_18 : decode cX0_endVoyage 18 = .ok (.istore_n 1, 1) := by decide +kernel
theorem dX0_endVoyage_19 : decode cX0_endVoyage 19 = .ok (.iconst 0, 1) := by decide +kernel
theorem dX0_endVoyage_20 : decode cX0_endVoyage 20 = .ok (.istore_n 2, 1) := by decide +kernel
theorem dX0_endVoyage_21 : decode cX0_endVoyage 21 = .ok (.iload_n 2, 1) := by decide +kernel
theorem dX0_endVoyage_22 : decode cX0_endVoyage 22 = .ok (.aload_n 0, 1) := by decide +kernel
theorem dX0_endVoyage_23 : decode cX0_endVoyage 23 = .ok (.getfield 63, 3) := by decide +kernel
theorem dX0_endVoyage_26 : decode cX0_endVoyage 26 = .ok (.if_icmp .ge 67, 3) := by decide +kernel
theorem dX0_endVoyage_29 : decode cX0_endVoyage 29 = .ok (.iload_n 2, 1) := by decide +kernel
theorem dX0_endVoyage_30 : decode cX0_endVoyage 30 = .ok (.aload_n 0, 1) := by decide +kernel
theorem dX0_endVoyage_31 : decode cX0_endVoyage 31 = .ok (.getfield 11, 3) := by decide +kernel
theorem dX0_endVoyage_34 : decode cX0_endVoyage 34 = .ok (.arraylength, 1) := by decide +kernel
theorem dX0_endVoyage_35 : decode cX0_endVoyage 35 = .ok (.if_icmp .ge 58, 3) := by decide +kernel
theorem dX0_endVoyage_38 : decode cX0_endVoyage 38 = .ok (.aload_n 0, 1) := by decide +kernel
theorem dX0_endVoyage_39 : decode cX0_endVoyage 39 = .ok (.getfield 11, 3) := by decide +kernel
theorem dX0_endVoyage_42 : decode cX0_endVoyage 42 = .ok (.iload_n 2, 1) := by decide +kernel
theorem dX0_endVoyage_43 : decode cX0_endVoyage 43 = .ok (.aaload, 1) := by decide +kernel
theorem dX0_endVoyage_44 : decode cX0_endVoyage 44 = .ok (.invokevirtual 139, 3) := by decide +kernel
theorem dX0_endVoyage_47 : decode cX0_endVoyage 47 = .ok (.istore_n 3, 1) := by decide +kernel
theorem dX0_endVoyage_48 : decode cX0_endVoyage 48 = .ok (.iload_n 3, 1) := by decide +kernel
theorem dX0_endVoyage_49 : decode cX0_endVoyage 49 = .ok (.ifCond .le 19, 3) := by decide +kernel
theorem dX0_endVoyage_52 : decode cX0_endVoyage 52 = .ok (.aload_n 0, 1) := by decide +kernel
theorem dX0_endVoyage_53 : decode cX0_endVoyage 53 = .ok (.iload_n 2, 1) := by decide +kernel
theorem dX0_endVoyage_54 : decode cX0_endVoyage 54 = .ok (.aload_n 0, 1) := by decide +kernel
theorem dX0_endVoyage_55 : decode cX0_endVoyage 55 = .ok (.getfield 11, 3) := by decide +kernel
theorem dX0_endVoyage_58 : decode cX0_endVoyage 58 = .ok (.iload_n 2, 1) := by decide +kernel
theorem dX0_endVoyage_59 : decode cX0_endVoyage 59 = .ok (.aaload, 1) := by decide +kernel
theorem dX0_endVoyage_60 : decode cX0_endVoyage 60 = .ok (.iload_n 3, 1) := by decide +kernel
theorem dX0_endVoyage_61 : decode cX0_endVoyage 61 = .ok (.invokevirtual 196, 3) := by decide +kernel
theorem dX0_endVoyage_64 : decode cX0_endVoyage 64 = .ok (.iload_n 1, 1) := by decide +kernel
theorem dX0_endVoyage_65 : decode cX0_endVoyage 65 = .ok (.iload_n 3, 1) := by decide +kernel
theorem dX0_endVoyage_66 : decode cX0_endVoyage 66 = .ok (.iadd, 1) := by decide +kernel
theorem dX0_endVoyage_67 : decode cX0_endVoyage 67 = .ok (.istore_n 1, 1) := by decide +kernel
theorem dX0_endVoyage_68 : decode cX0_endVoyage 68 = .ok (.aload_n 0, 1) := by decide +kernel
theorem dX0_endVoyage_69 : decode cX0_endVoyage 69 = .ok (.getfield 11, 3) := by decide +kernel
theorem dX0_endVoyage_72 : decode cX0_endVoyage 72 = .ok (.iload_n 2, 1) := by decide +kernel
theorem dX0_endVoyage_73 : decode cX0_endVoyage 73 = .ok (.aaload, 1) := by decide +kernel
theorem dX0_endVoyage_74 : decode cX0_endVoyage 74 = .ok (.iload_n 3, 1) := by decide +kernel
theorem dX0_endVoyage_75 : decode cX0_endVoyage 75 = .ok (.ifCond .ge 8, 3) := by decide +kernel
theorem dX0_endVoyage_78 : decode cX0_endVoyage 78 = .ok (.iload_n 3, 1) := by decide +kernel
theorem dX0_endVoyage_79 : decode cX0_endVoyage 79 = .ok (.ineg, 1) := by decide +kernel
theorem dX0_endVoyage_80 : decode cX0_endVoyage 80 = .ok (.goto 4, 3) := by decide +kernel
theorem dX0_endVoyage_83 : decode cX0_endVoyage 83 = .ok (.iconst 0, 1) := by decide +kernel
theorem dX0_endVoyage_84 : decode cX0_endVoyage 84 = .ok (.invokevirtual 203, 3) := by decide +kernel
theorem dX0_endVoyage_87 : decode cX0_endVoyage 87 = .ok (.iinc 2 1, 3) := by decide +kernel
theorem dX0_endVoyage_90 : decode cX0_endVoyage 90 = .ok (.goto (-69), 3) := by decide +kernel
theorem dX0_endVoyage_93 : decode cX0_endVoyage 93 = .ok (.aload_n 0, 1) := by decide +kernel
theorem dX0_endVoyage_94 : decode cX0_endVoyage 94 = .ok (.dup, 1) := by decide +kernel
theorem dX0_endVoyage_95 : decode cX0_endVoyage 95 = .ok (.getfield 67, 3) := by decide +kernel
theorem dX0_endVoyage_98 : decode cX0_endVoyage 98 = .ok (.iconst 1, 1) := by decide +kernel
theorem dX0_endVoyage_99 : decode cX0_endVoyage 99 = .ok (.iadd, 1) := by decide +kernel
theorem dX0_endVoyage_100 : decode cX0_endVoyage 100 = .ok (.putfield 67, 3) := by decide +kernel
theorem dX0_endVoyage_103 : decode cX0_endVoyage 103 = .ok (.aload_n 0, 1) := by decide +kernel
theorem dX0_endVoyage_104 : decode cX0_endVoyage 104 = .ok (.iconst 0, 1) := by decide +kernel
theorem dX0_endVoyage_105 : decode cX0_endVoyage 105 = .ok (.putfield 70, 3) := by decide +kernel
theorem dX0_endVoyage_108 : decode cX0_endVoyage 108 = .ok (.iload_n 1, 1) := by decide +kernel
theorem dX0_endVoyage_109 : decode cX0_endVoyage 109 = .ok (.ireturn, 1) := by decide +kernel
theorem dX0_changeSetting_0 : decode cX0_changeSetting 0 = .ok (.iload_n 1, 1) := by decide +kernel
theorem dX0_changeSetting_1 : decode cX0_changeSetting 1 = .ok (.ifCond .lt 33, 3) := by decide +kernel
theorem dX0_changeSetting_4 : decode cX0_changeSetting 4 = .ok (.iload_n 1, 1) := by decide +kernel
theorem dX0_changeSetting_5 : decode cX0_changeSetting 5 = .ok (.aload_n 0, 1) := by decide +kernel
theorem dX0_changeSetting_6 : decode cX0_changeSetting 6 = .ok (.getfield 29, 3) := by decide +kernel
theorem dX0_changeSetting_9 : decode cX0_changeSetting 9 = .ok (.arraylength, 1) := by decide +kernel
theorem dX0_changeSetting_10 : decode cX0_changeSetting 10 = .ok (.if_icmp .ge 24, 3) := by decide +kernel
theorem dX0_changeSetting_13 : decode cX0_changeSetting 13 = .ok (.iload_n 1, 1) := by decide +kernel
theorem dX0_changeSetting_14 : decode cX0_changeSetting 14 = .ok (.getstatic 206, 3) := by decide +kernel
theorem dX0_changeSetting_17 : decode cX0_changeSetting 17 = .ok (.arraylength, 1) := by decide +kernel
theorem dX0_changeSetting_18 : decode cX0_changeSetting 18 = .ok (.if_icmp .ge 16, 3) := by decide +kernel
theorem dX0_changeSetting_21 : decode cX0_changeSetting 21 = .ok (.iload_n 2, 1) := by decide +kernel
theorem dX0_changeSetting_22 : decode cX0_changeSetting 22 = .ok (.iconst 0, 1) := by decide +kernel
theorem dX0_changeSetting_23 : decode cX0_changeSetting 23 = .ok (.getstatic 206, 3) := by decide +kernel
theorem dX0_changeSetting_26 : decode cX0_changeSetting 26 = .ok (.iload_n 1, 1) := by decide +kernel
theorem dX0_changeSetting_27 : decode cX0_changeSetting 27 = .ok (.iaload, 1) := by decide +kernel
theorem dX0_changeSetting_28 : decode cX0_changeSetting 28 = .ok (.invokestatic 80, 3) := by decide +kernel
theorem dX0_changeSetting_31 : decode cX0_changeSetting 31 = .ok (.ifCond .ne 6, 3) := by decide +kernel
theorem dX0_changeSetting_34 : decode cX0_changeSetting 34 = .ok (.ldc 84, 2) := by decide +kernel
theorem dX0_changeSetting_36 : decode cX0_changeSetting 36 = .ok (.ireturn, 1) := by decide +kernel
theorem dX0_changeSetting_37 : decode cX0_changeSetting 37 = .ok (.aload_n 0, 1) := by decide +kernel
theorem dX0_changeSetting_38 : decode cX0_changeSetting 38 = .ok (.getfield 29, 3) := by decide +kernel
theorem dX0_changeSetting_41 : decode cX0_changeSetting 41 = .ok (.iload_n 1, 1) := by decide +kernel
theorem dX0_changeSetting_42 : decode cX0_changeSetting 42 = .ok (.iaload, 1) := by decide +kernel
theorem dX0_changeSetting_43 : decode cX0_changeSetting 43 = .ok (.istore_n 3, 1) := by decide +kernel
theorem dX0_changeSetting_44 : decode cX0_changeSetting 44 = .ok (.aload_n 0, 1) := by decide +kernel
theorem dX0_changeSetting_45 : decode cX0_changeSetting 45 = .ok (.getfield 29, 3) := by decide +kernel
theorem dX0_changeSetting_48 : decode cX0_changeSetting 48 = .ok (.iload_n 1, 1) := by decide +kernel
theorem dX0_changeSetting_49 : decode cX0_changeSetting 49 = .ok (.iload_n 2, 1) := by decide +kernel
theorem dX0_changeSetting_50 : decode cX0_changeSetting 50 = .ok (.iastore, 1) := by decide +kernel
theorem dX0_changeSetting_51 : decode cX0_changeSetting 51 = .ok (.iload_n 3, 1) := by decide +kernel
theorem dX0_changeSetting_52 : decode cX0_changeSetting 52 = .ok (.ireturn, 1) := by decide +kernel
theorem dX0_daysUntilClear_0 : decode cX0_daysUntilClear 0 = .ok (.aload_n 0, 1) := by decide +kernel
theorem dX0_daysUntilClear_1 : decode cX0_daysUntilClear 1 = .ok (.iload_n 1, 1) := by decide +kernel
theorem dX0_daysUntilClear_2 : decode cX0_daysUntilClear 2 = .ok (.invokevirtual 115, 3) := by decide +kernel
theorem dX0_daysUntilClear_5 : decode cX0_daysUntilClear 5 = .ok (.astore_n 2, 1) := by decide +kernel
theorem dX0_daysUntilClear_6 : decode cX0_daysUntilClear 6 = .ok (.aload_n 2, 1) := by decide +kernel
theorem dX0_daysUntilClear_7 : decode cX0_daysUntilClear 7 = .ok (.ifnonnull 6, 3) := by decide +kernel
theorem dX0_daysUntilClear_10 : decode cX0_daysUntilClear 10 = .ok (.ldc 84, 2) := by decide +kernel
theorem dX0_daysUntilClear_12 : decode cX0_daysUntilClear 12 = .ok (.ireturn, 1) := by decide +kernel
theorem dX0_daysUntilClear_13 : decode cX0_daysUntilClear 13 = .ok (.aload_n 2, 1) := by decide +kernel
theorem dX0_daysUntilClear_14 : decode cX0_daysUntilClear 14 = .ok (.invokevirtual 149, 3) := by decide +kernel
theorem dX0_daysUntilClear_17 : decode cX0_daysUntilClear 17 = .ok (.ifCond .eq 6, 3) := by decide +kernel
theorem dX0_daysUntilClear_20 : decode cX0_daysUntilClear 20 = .ok (.ldc 85, 2) := by decide +kernel
theorem dX0_daysUntilClear_22 : decode cX0_daysUntilClear 22 = .ok (.ireturn, 1) := by decide +kernel
theorem dX0_daysUntilClear_23 : decode cX0_daysUntilClear 23 = .ok (.aload_n 2, 1) := by decide +kernel
theorem dX0_daysUntilClear_24 : decode cX0_daysUntilClear 24 = .ok (.getfield 209, 3) := by decide +kernel
theorem dX0_daysUntilClear_27 : decode cX0_daysUntilClear 27 = .ok (.aload_n 2, 1) := by decide +kernel
theorem dX0_daysUntilClear_28 : decode cX0_daysUntilClear 28 = .ok (.invokevirtual 212, 3) := by decide +kernel
theorem dX0_daysUntilClear_31 : decode cX0_daysUntilClear 31 = .ok (.iadd, 1) := by decide +kernel
theorem dX0_daysUntilClear_32 : decode cX0_daysUntilClear 32 = .ok (.istore_n 3, 1) := by decide +kernel
theorem dX0_daysUntilClear_33 : decode cX0_daysUntilClear 33 = .ok (.iconst 0, 1) := by decide +kernel
theorem dX0_daysUntilClear_34 : decode cX0_daysUntilClear 34 = .ok (.istore 4, 2) := by decide +kernel
theorem dX0_daysUntilClear_36 : decode cX0_daysUntilClear 36 = .ok (.iload 4, 2) := by decide +kernel
theorem dX0_daysUntilClear_38 : decode cX0_daysUntilClear 38 = .ok (.sipush 400, 3) := by decide +kernel
theorem dX0_daysUntilClear_41 : decode cX0_daysUntilClear 41 = .ok (.if_icmp .gt 26, 3) := by decide +kernel
theorem dX0_daysUntilClear_44 : decode cX0_daysUntilClear 44 = .ok (.aload_n 2, 1) := by decide +kernel
theorem dX0_daysUntilClear_45 : decode cX0_daysUntilClear 45 = .ok (.iload 4, 2) := by decide +kernel
theorem dX0_daysUntilClear_47 : decode cX0_daysUntilClear 47 = .ok (.aload_n 0, 1) := by decide +kernel
theorem dX0_daysUntilClear_48 : decode cX0_daysUntilClear 48 = .ok (.getfield 76, 3) := by decide +kernel
theorem dX0_daysUntilClear_51 : decode cX0_daysUntilClear 51 = .ok (.invokevirtual 214, 3) := by decide +kernel
theorem dX0_daysUntilClear_54 : decode cX0_daysUntilClear 54 = .ok (.iload_n 3, 1) := by decide +kernel
theorem dX0_daysUntilClear_55 : decode cX0_daysUntilClear 55 = .ok (.if_icmp .lt 6, 3) := by decide +kernel
theorem dX0_daysUntilClear_58 : decode cX0_daysUntilClear 58 = .ok (.iload 4, 2) := by decide +kernel
theorem dX0_daysUntilClear_60 : decode cX0_daysUntilClear 60 = .ok (.ireturn, 1) := by decide +kernel
theorem dX0_daysUntilClear_61 : decode cX0_daysUntilClear 61 = .ok (.iinc 4 1, 3) := by decide +kernel
theorem dX0_daysUntilClear_64 : decode cX0_daysUntilClear 64 = .ok (.goto (-28), 3) := by decide +kernel
theorem dX0_daysUntilClear_67 : decode cX0_daysUntilClear 67 = .ok (.ldc 218, 2) := by decide +kernel
theorem dX0_daysUntilClear_69 : decode cX0_daysUntilClear 69 = .ok (.ireturn, 1) := by decide +kernel
theorem dX0_tellPayingOff_0 : decode cX0_tellPayingOff 0 = .ok (.iload_n 1, 1) := by decide +kernel
theorem dX0_tellPayingOff_1 : decode cX0_tellPayingOff 1 = .ok (.tableswitch 58 0 3 #[31, 36, 48, 53], 31) := by decide +kernel
theorem dX0_tellPayingOff_32 : decode cX0_tellPayingOff 32 = .ok (.aload_n 0, 1) := by decide +kernel
theorem dX0_tellPayingOff_33 : decode cX0_tellPayingOff 33 = .ok (.invokevirtual 219, 3) := by decide +kernel
theorem dX0_tellPayingOff_36 : decode cX0_tellPayingOff 36 = .ok (.ireturn, 1) := by decide +kernel
theorem dX0_tellPayingOff_37 : decode cX0_tellPayingOff 37 = .ok (.aload_n 0, 1) := by decide +kernel
theorem dX0_tellPayingOff_38 : decode cX0_tellPayingOff 38 = .ok (.getfield 46, 3) := by decide +kernel
theorem dX0_tellPayingOff_41 : decode cX0_tellPayingOff 41 = .ok (.aload_n 0, 1) := by decide +kernel
theorem dX0_tellPayingOff_42 : decode cX0_tellPayingOff 42 = .ok (.invokevirtual 219, 3) := by decide +kernel
theorem dX0_tellPayingOff_45 : decode cX0_tellPayingOff 45 = .ok (.invokevirtual 222, 3) := by decide +kernel
theorem dX0_tellPayingOff_48 : decode cX0_tellPayingOff 48 = .ok (.ireturn, 1) := by decide +kernel
theorem dX0_tellPayingOff_49 : decode cX0_tellPayingOff 49 = .ok (.aload_n 0, 1) := by decide +kernel
theorem dX0_tellPayingOff_50 : decode cX0_tellPayingOff 50 = .ok (.invokevirtual 225, 3) := by decide +kernel
theorem dX0_tellPayingOff_53 : decode cX0_tellPayingOff 53 = .ok (.ireturn, 1) := by decide +kernel
theorem dX0_tellPayingOff_54 : decode cX0_tellPayingOff 54 = .ok (.aload_n 0, 1) := by decide +kernel
theorem dX0_tellPayingOff_55 : decode cX0_tellPayingOff 55 = .ok (.invokevirtual 228, 3) := by decide +kernel
theorem dX0_tellPayingOff_58 : decode cX0_tellPayingOff 58 = .ok (.ireturn, 1) := by decide +kernel
theorem dX0_tellPayingOff_59 : decode cX0_tellPayingOff 59 = .ok (.ldc 84, 2) := by decide +kernel
theorem dX0_tellPayingOff_61 : decode cX0_tellPayingOff 61 = .ok (.ireturn, 1) := by decide +kernel
theorem dX0_wouldBePaid_0 : decode cX0_wouldBePaid 0 = .ok (.iconst 0, 1) := by decide +kernel
theorem dX0_wouldBePaid_1 : decode cX0_wouldBePaid 1 = .ok (.istore_n 1, 1) := by decide +kernel
theorem dX0_wouldBePaid_2 : decode cX0_wouldBePaid 2 = .ok (.iconst 0, 1) := by decide +kernel
theorem dX0_wouldBePaid_3 : decode cX0_wouldBePaid 3 = .ok (.istore_n 2, 1) := by decide +kernel
theorem dX0_wouldBePaid_4 : decode cX0_wouldBePaid 4 = .ok (.iload_n 2, 1) := by decide +kernel
theorem dX0_wouldBePaid_5 : decode cX0_wouldBePaid 5 = .ok (.aload_n 0, 1) := by decide +kernel
theorem dX0_wouldBePaid_6 : decode cX0_wouldBePaid 6 = .ok (.getfield 63, 3) := by decide +kernel
theorem dX0_wouldBePaid_9 : decode cX0_wouldBePaid 9 = .ok (.if_icmp .ge 34, 3) := by decide +kernel
theorem dX0_wouldBePaid_12 : decode cX0_wouldBePaid 12 = .ok (.iload_n 2, 1) := by decide +kernel
theorem dX0_wouldBePaid_13 : decode cX0_wouldBePaid 13 = .ok (.aload_n 0, 1) := by decide +kernel
theorem dX0_wouldBePaid_14 : decode cX0_wouldBePaid 14 = .ok (.getfield 11, 3) := by decide +kernel
theorem dX0_wouldBePaid_17 : decode cX0_wouldBePaid 17 = .ok (.arraylength, 1) := by decide +kernel
theorem dX0_wouldBePaid_18 : decode cX0_wouldBePaid 18 = .ok (.if_icmp .ge 25, 3) := by decide +kernel
theorem dX0_wouldBePaid_21 : decode cX0_wouldBePaid 21 = .ok (.iload_n 1, 1) := by decide +kernel
theorem dX0_wouldBePaid_22 : decode cX0_wouldBePaid 22 = .ok (.iconst 0, 1) := by decide +kernel
theorem dX0_wouldBePaid_23 : decode cX0_wouldBePaid 23 = .ok (.aload_n 0, 1) := by decide +kernel
theorem dX0_wouldBePaid_24 : decode cX0_wouldBePaid 24 = .ok (.getfield 11, 3) := by decide +kernel
theorem dX0_wouldBePaid_27 : decode cX0_wouldBePaid 27 = .ok (.iload_n 2, 1) := by decide +kernel
theorem dX0_wouldBePaid_28 : decode cX0_wouldBePaid 28 = .ok (.aaload, 1) := by decide +kernel
theorem dX0_wouldBePaid_29 : decode cX0_wouldBePaid 29 = .ok (.invokevirtual 139, 3) := by decide +kernel
theorem dX0_wouldBePaid_32 : decode cX0_wouldBePaid 32 = .ok (.invokestatic 231, 3) := by decide +kernel
theorem dX0_wouldBePaid_35 : decode cX0_wouldBePaid 35 = .ok (.iadd, 1) := by decide +kernel
theorem dX0_wouldBePaid_36 : decode cX0_wouldBePaid 36 = .ok (.istore_n 1, 1) := by decide +kernel
theorem dX0_wouldBePaid_37 : decode cX0_wouldBePaid 37 = .ok (.iinc 2 1, 3) := by decide +kernel
theorem dX0_wouldBePaid_40 : decode cX0_wouldBePaid 40 = .ok (.goto (-36), 3) := by decide +kernel
theorem dX0_wouldBePaid_43 : decode cX0_wouldBePaid 43 = .ok (.iload_n 1, 1) := by decide +kernel
theorem dX0_wouldBePaid_44 : decode cX0_wouldBePaid 44 = .ok (.ireturn, 1) := by decide +kernel
theorem dX0_debtsTogether_0 : decode cX0_debtsTogether 0 = .ok (.iconst 0, 1) := by decide +kernel
theorem dX0_debtsTogether_1 : decode cX0_debtsTogether 1 = .ok (.istore_n 1, 1) := by decide +kernel
theorem dX0_debtsTogether_2 : decode cX0_debtsTogether 2 = .ok (.iconst 0, 1) := by decide +kernel
theorem dX0_debtsTogether_3 : decode cX0_debtsTogether 3 = .ok (.istore_n 2, 1) := by decide +kernel
theorem dX0_debtsTogether_4 : decode cX0_debtsTogether 4 = .ok (.iload_n 2, 1) := by decide +kernel
theorem dX0_debtsTogether_5 : decode cX0_debtsTogether 5 = .ok (.aload_n 0, 1) := by decide +kernel
theorem dX0_debtsTogether_6 : decode cX0_debtsTogether 6 = .ok (.getfield 63, 3) := by decide +kernel
theorem dX0_debtsTogether_9 : decode cX0_debtsTogether 9 = .ok (.if_icmp .ge 35, 3) := by decide +kernel
theorem dX0_debtsTogether_12 : decode cX0_debtsTogether 12 = .ok (.iload_n 2, 1) := by decide +kernel
theorem dX0_debtsTogether_13 : decode cX0_debtsTogether 13 = .ok (.aload_n 0, 1) := by decide +kernel
theorem dX0_debtsTogether_14 : decode cX0_debtsTogether 14 = .ok (.getfield 11, 3) := by decide +kernel
theorem dX0_debtsTogether_17 : decode cX0_debtsTogether 17 = .ok (.arraylength, 1) := by decide +kernel
theorem dX0_debtsTogether_18 : decode cX0_debtsTogether 18 = .ok (.if_icmp .ge 26, 3) := by decide +kernel
theorem dX0_debtsTogether_21 : decode cX0_debtsTogether 21 = .ok (.iload_n 1, 1) := by decide +kernel
theorem dX0_debtsTogether_22 : decode cX0_debtsTogether 22 = .ok (.iconst 0, 1) := by decide +kernel
theorem dX0_debtsTogether_23 : decode cX0_debtsTogether 23 = .ok (.aload_n 0, 1) := by decide +kernel
theorem dX0_debtsTogether_24 : decode cX0_debtsTogether 24 = .ok (.getfield 11, 3) := by decide +kernel
theorem dX0_debtsTogether_27 : decode cX0_debtsTogether 27 = .ok (.iload_n 2, 1) := by decide +kernel
theorem dX0_debtsTogether_28 : decode cX0_debtsTogether 28 = .ok (.aaload, 1) := by decide +kernel
theorem dX0_debtsTogether_29 : decode cX0_debtsTogether 29 = .ok (.invokevirtual 139, 3) := by decide +kernel
theorem dX0_debtsTogether_32 : decode cX0_debtsTogether 32 = .ok (.ineg, 1) := by decide +kernel
theorem dX0_debtsTogether_33 : decode cX0_debtsTogether 33 = .ok (.invokestatic 231, 3) := by decide +kernel
theorem dX0_debtsTogether_36 : decode cX0_debtsTogether 36 = .ok (.iadd, 1) := by decide +kernel
theorem dX0_debtsTogether_37 : decode cX0_debtsTogether 37 = .ok (.istore_n 1, 1) := by decide +kernel
theorem dX0_debtsTogether_38 : decode cX0_debtsTogether 38 = .ok (.iinc 2 1, 3) := by decide +kernel
theorem dX0_debtsTogether_41 : decode cX0_debtsTogether 41 = .ok (.goto (-37), 3) := by decide +kernel
theorem dX0_debtsTogether_44 : decode cX0_debtsTogether 44 = .ok (.iload_n 1, 1) := by decide +kernel
theorem dX0_debtsTogether_45 : decode cX0_debtsTogether 45 = .ok (.ireturn, 1) := by decide +kernel
theorem dX0_setOfDebtors_0 : decode cX0_setOfDebtors 0 = .ok (.iconst 0, 1) := by decide +kernel
theorem dX0_setOfDebtors_1 : decode cX0_setOfDebtors 1 = .ok (.istore_n 1, 1) := by decide +kernel
theorem dX0_setOfDebtors_2 : decode cX0_setOfDebtors 2 = .ok (.iconst 0, 1) := by decide +kernel
theorem dX0_setOfDebtors_3 : decode cX0_setOfDebtors 3 = .ok (.istore_n 2, 1) := by decide +kernel
theorem dX0_setOfDebtors_4 : decode cX0_setOfDebtors 4 = .ok (.iload_n 2, 1) := by decide +kernel
theorem dX0_setOfDebtors_5 : decode cX0_setOfDebtors 5 = .ok (.aload_n 0, 1) := by decide +kernel
theorem dX0_setOfDebtors_6 : decode cX0_setOfDebtors 6 = .ok (.getfield 63, 3) := by decide +kernel
theorem dX0_setOfDebtors_9 : decode cX0_setOfDebtors 9 = .ok (.if_icmp .ge 36, 3) := by decide +kernel
theorem dX0_setOfDebtors_12 : decode cX0_setOfDebtors 12 = .ok (.iload_n 2, 1) := by decide +kernel
theorem dX0_setOfDebtors_13 : decode cX0_setOfDebtors 13 = .ok (.aload_n 0, 1) := by decide +kernel
theorem dX0_setOfDebtors_14 : decode cX0_setOfDebtors 14 = .ok (.getfield 11, 3) := by decide +kernel
theorem dX0_setOfDebtors_17 : decode cX0_setOfDebtors 17 = .ok (.arraylength, 1) := by decide +kernel
theorem dX0_setOfDebtors_18 : decode cX0_setOfDebtors 18 = .ok (.if_icmp .ge 27, 3) := by decide +kernel
theorem dX0_setOfDebtors_21 : decode cX0_setOfDebtors 21 = .ok (.aload_n 0, 1) := by decide +kernel
theorem dX0_setOfDebtors_22 : decode cX0_setOfDebtors 22 = .ok (.getfield 11, 3) := by decide +kernel
theorem dX0_setOfDebtors_25 : decode cX0_setOfDebtors 25 = .ok (.iload_n 2, 1) := by decide +kernel
theorem dX0_setOfDebtors_26 : decode cX0_setOfDebtors 26 = .ok (.aaload, 1) := by decide +kernel
theorem dX0_setOfDebtors_27 : decode cX0_setOfDebtors 27 = .ok (.invokevirtual 139, 3) := by decide +kernel
theorem dX0_setOfDebtors_30 : decode cX0_setOfDebtors 30 = .ok (.ifCond .ge 9, 3) := by decide +kernel
theorem dX0_setOfDebtors_33 : decode cX0_setOfDebtors 33 = .ok (.iload_n 1, 1) := by decide +kernel
theorem dX0_setOfDebtors_34 : decode cX0_setOfDebtors 34 = .ok (.iconst 1, 1) := by decide +kernel
theorem dX0_setOfDebtors_35 : decode cX0_setOfDebtors 35 = .ok (.iload_n 2, 1) := by decide +kernel
theorem dX0_setOfDebtors_36 : decode cX0_setOfDebtors 36 = .ok (.ishl, 1) := by decide +kernel
theorem dX0_setOfDebtors_37 : decode cX0_setOfDebtors 37 = .ok (.ior, 1) := by decide +kernel
theorem dX0_setOfDebtors_38 : decode cX0_setOfDebtors 38 = .ok (.istore_n 1, 1) := by decide +kernel
theorem dX0_setOfDebtors_39 : decode cX0_setOfDebtors 39 = .ok (.iinc 2 1, 3) := by decide +kernel
theorem dX0_setOfDebtors_42 : decode cX0_setOfDebtors 42 = .ok (.goto (-38), 3) := by decide +kernel
theorem dX0_setOfDebtors_45 : decode cX0_setOfDebtors 45 = .ok (.iload_n 1, 1) := by decide +kernel
theorem dX0_setOfDebtors_46 : decode cX0_setOfDebtors 46 = .ok (.ireturn, 1) := by decide +kernel
theorem dX0_setOf_0 : decode cX0_setOf 0 = .ok (.iconst 0, 1) := by decide +kernel
theorem dX0_setOf_1 : decode cX0_setOf 1 = .ok (.istore_n 2, 1) := by decide +kernel
theorem dX0_setOf_2 : decode cX0_setOf 2 = .ok (.iconst 0, 1) := by decide +kernel
theorem dX0_setOf_3 : decode cX0_setOf 3 = .ok (.istore_n 3, 1) := by decide +kernel
theorem dX0_setOf_4 : decode cX0_setOf 4 = .ok (.iload_n 3, 1) := by decide +kernel
theorem dX0_setOf_5 : decode cX0_setOf 5 = .ok (.aload_n 0, 1) := by decide +kernel
theorem dX0_setOf_6 : decode cX0_setOf 6 = .ok (.getfield 63, 3) := by decide +kernel
theorem dX0_setOf_9 : decode cX0_setOf 9 = .ok (.if_icmp .ge 37, 3) := by decide +kernel
theorem dX0_setOf_12 : decode cX0_setOf 12 = .ok (.iload_n 3, 1) := by decide +kernel
theorem dX0_setOf_13 : decode cX0_setOf 13 = .ok (.aload_n 0, 1) := by decide +kernel
theorem dX0_setOf_14 : decode cX0_setOf 14 = .ok (.getfield 11, 3) := by decide +kernel
theorem dX0_setOf_17 : decode cX0_setOf 17 = .ok (.arraylength, 1) := by decide +kernel
theorem dX0_setOf_18 : decode cX0_setOf 18 = .ok (.if_icmp .ge 28, 3) := by decide +kernel
theorem dX0_setOf_21 : decode cX0_setOf 21 = .ok (.aload_n 0, 1) := by decide +kernel
theorem dX0_setOf_22 : decode cX0_setOf 22 = .ok (.getfield 11, 3) := by decide +kernel
theorem dX0_setOf_25 : decode cX0_setOf 25 = .ok (.iload_n 3, 1) := by decide +kernel
theorem dX0_setOf_26 : decode cX0_setOf 26 = .ok (.aaload, 1) := by decide +kernel
theorem dX0_setOf_27 : decode cX0_setOf 27 = .ok (.getfield 136, 3) := by decide +kernel
theorem dX0_setOf_30 : decode cX0_setOf 30 = .ok (.iload_n 1, 1) := by decide +kernel
theorem dX0_setOf_31 : decode cX0_setOf 31 = .ok (.if_icmp .ne 9, 3) := by decide +kernel
theorem dX0_setOf_34 : decode cX0_setOf 34 = .ok (.iload_n 2, 1) := by decide +kernel
theorem dX0_setOf_35 : decode cX0_setOf 35 = .ok (.iconst 1, 1) := by decide +kernel
theorem dX0_setOf_36 : decode cX0_setOf 36 = .ok (.iload_n 3, 1) := by decide +kernel
theorem dX0_setOf_37 : decode cX0_setOf 37 = .ok (.ishl, 1) := by decide +kernel
theorem dX0_setOf_38 : decode cX0_setOf 38 = .ok (.ior, 1) := by decide +kernel
theorem dX0_setOf_39 : decode cX0_setOf 39 = .ok (.istore_n 2, 1) := by decide +kernel
theorem dX0_setOf_40 : decode cX0_setOf 40 = .ok (.iinc 3 1, 3) := by decide +kernel
theorem dX0_setOf_43 : decode cX0_setOf 43 = .ok (.goto (-39), 3) := by decide +kernel
theorem dX0_setOf_46 : decode cX0_setOf 46 = .ok (.iload_n 2, 1) := by decide +kernel
theorem dX0_setOf_47 : decode cX0_setOf 47 = .ok (.ireturn, 1) := by decide +kernel
theorem dX0_sailorByBalance_0 : decode cX0_sailorByBalance 0 = .ok (.iload_n 1, 1) := by decide +kernel
theorem dX0_sailorByBalance_1 : decode cX0_sailorByBalance 1 = .ok (.ifCond .ge 6, 3) := by decide +kernel
theorem dX0_sailorByBalance_4 : decode cX0_sailorByBalance 4 = .ok (.ldc 84, 2) := by decide +kernel
theorem dX0_sailorByBalance_6 : decode cX0_sailorByBalance 6 = .ok (.ireturn, 1) := by decide +kernel
theorem dX0_sailorByBalance_7 : decode cX0_sailorByBalance 7 = .ok (.iconst 0, 1) := by decide +kernel
theorem dX0_sailorByBalance_8 : decode cX0_sailorByBalance 8 = .ok (.istore_n 2, 1) := by decide +kernel
theorem dX0_sailorByBalance_9 : decode cX0_sailorByBalance 9 = .ok (.iload_n 2, 1) := by decide +kernel
theorem dX0_sailorByBalance_10 : decode cX0_sailorByBalance 10 = .ok (.aload_n 0, 1) := by decide +kernel
theorem dX0_sailorByBalance_11 : decode cX0_sailorByBalance 11 = .ok (.getfield 63, 3) := by decide +kernel
theorem dX0_sailorByBalance_14 : decode cX0_sailorByBalance 14 = .ok (.if_icmp .ge 50, 3) := by decide +kernel
theorem dX0_sailorByBalance_17 : decode cX0_sailorByBalance 17 = .ok (.iload_n 2, 1) := by decide +kernel
theorem dX0_sailorByBalance_18 : decode cX0_sailorByBalance 18 = .ok (.aload_n 0, 1) := by decide +kernel
theorem dX0_sailorByBalance_19 : decode cX0_sailorByBalance 19 = .ok (.getfield 11, 3) := by decide +kernel
theorem dX0_sailorByBalance_22 : decode cX0_sailorByBalance 22 = .ok (.arraylength, 1) := by decide +kernel
theorem dX0_sailorByBalance_23 : decode cX0_sailorByBalance 23 = .ok (.if_icmp .ge 41, 3) := by decide +kernel
theorem dX0_sailorByBalance_26 : decode cX0_sailorByBalance 26 = .ok (.aload_n 0, 1) := by decide +kernel
theorem dX0_sailorByBalance_27 : decode cX0_sailorByBalance 27 = .ok (.getfield 11, 3) := by decide +kernel
theorem dX0_sailorByBalance_30 : decode cX0_sailorByBalance 30 = .ok (.iload_n 2, 1) := by decide +kernel
theorem dX0_sailorByBalance_31 : decode cX0_sailorByBalance 31 = .ok (.aaload, 1) := by decide +kernel
theorem dX0_sailorByBalance_32 : decode cX0_sailorByBalance 32 = .ok (.invokevirtual 149, 3) := by decide +kernel
theorem dX0_sailorByBalance_35 : decode cX0_sailorByBalance 35 = .ok (.ifCond .ne 23, 3) := by decide +kernel
theorem dX0_sailorByBalance_38 : decode cX0_sailorByBalance 38 = .ok (.aload_n 0, 1) := by decide +kernel
theorem dX0_sailorByBalance_39 : decode cX0_sailorByBalance 39 = .ok (.iload_n 2, 1) := by decide +kernel
theorem dX0_sailorByBalance_40 : decode cX0_sailorByBalance 40 = .ok (.aload_n 0, 1) := by decide +kernel
theorem dX0_sailorByBalance_41 : decode cX0_sailorByBalance 41 = .ok (.getfield 11, 3) := by decide +kernel
theorem dX0_sailorByBalance_44 : decode cX0_sailorByBalance 44 = .ok (.iload_n 2, 1) := by decide +kernel
theorem dX0_sailorByBalance_45 : decode cX0_sailorByBalance 45 = .ok (.aaload, 1) := by decide +kernel
theorem dX0_sailorByBalance_46 : decode cX0_sailorByBalance 46 = .ok (.invokevirtual 139, 3) := by decide +kernel
theorem dX0_sailorByBalance_49 : decode cX0_sailorByBalance 49 = .ok (.invokevirtual 234, 3) := by decide +kernel
theorem dX0_sailorByBalance_52 : decode cX0_sailorByBalance 52 = .ok (.iload_n 1, 1) := by decide +kernel
theorem dX0_sailorByBalance_53 : decode cX0_sailorByBalance 53 = .ok (.if_icmp .ne 5, 3) := by decide +kernel
theorem dX0_sailorByBalance_56 : decode cX0_sailorByBalance 56 = .ok (.iload_n 2, 1) := by decide +kernel
theorem dX0_sailorByBalance_57 : decode cX0_sailorByBalance 57 = .ok (.ireturn, 1) := by decide +kernel
theorem dX0_sailorByBalance_58 : decode cX0_sailorByBalance 58 = .ok (.iinc 2 1, 3) := by decide +kernel
theorem dX0_sailorByBalance_61 : decode cX0_sailorByBalance 61 = .ok (.goto (-52), 3) := by decide +kernel
theorem dX0_sailorByBalance_64 : decode cX0_sailorByBalance 64 = .ok (.ldc 218, 2) := by decide +kernel
theorem dX0_sailorByBalance_66 : decode cX0_sailorByBalance 66 = .ok (.ireturn, 1) := by decide +kernel
theorem dX0_poorerThan_0 : decode cX0_poorerThan 0 = .ok (.iconst 0, 1) := by decide +kernel
theorem dX0_poorerThan_1 : decode cX0_poorerThan 1 = .ok (.istore_n 3, 1) := by decide +kernel
theorem dX0_poorerThan_2 : decode cX0_poorerThan 2 = .ok (.iconst 0, 1) := by decide +kernel
theorem dX0_poorerThan_3 : decode cX0_poorerThan 3 = .ok (.istore 4, 2) := by decide +kernel
theorem dX0_poorerThan_5 : decode cX0_poorerThan 5 = .ok (.iload 4, 2) := by decide +kernel
theorem dX0_poorerThan_7 : decode cX0_poorerThan 7 = .ok (.aload_n 0, 1) := by decide +kernel
theorem dX0_poorerThan_8 : decode cX0_poorerThan 8 = .ok (.getfield 63, 3) := by decide +kernel
theorem dX0_poorerThan_11 : decode cX0_poorerThan 11 = .ok (.if_icmp .ge 65, 3) := by decide +kernel
theorem dX0_poorerThan_14 : decode cX0_poorerThan 14 = .ok (.iload 4, 2) := by decide +kernel
theorem dX0_poorerThan_16 : decode cX0_poorerThan 16 = .ok (.aload_n 0, 1) := by decide +kernel
theorem dX0_poorerThan_17 : decode cX0_poorerThan 17 = .ok (.getfield 11, 3) := by decide +kernel
theorem dX0_poorerThan_20 : decode cX0_poorerThan 20 = .ok (.arraylength, 1) := by decide +kernel
theorem dX0_poorerThan_21 : decode cX0_poorerThan 21 = .ok (.if_icmp .ge 55, 3) := by decide +kernel
theorem dX0_poorerThan_24 : decode cX0_poorerThan 24 = .ok (.aload_n 0, 1) := by decide +kernel
theorem dX0_poorerThan_25 : decode cX0_poorerThan 25 = .ok (.getfield 11, 3) := by decide +kernel
theorem dX0_poorerThan_28 : decode cX0_poorerThan 28 = .ok (.iload 4, 2) := by decide +kernel
theorem dX0_poorerThan_30 : decode cX0_poorerThan 30 = .ok (.aaload, 1) := by decide +kernel
theorem dX0_poorerThan_31 : decode cX0_poorerThan 31 = .ok (.invokevirtual 139, 3) := by decide +kernel
theorem dX0_poorerThan_34 : decode cX0_poorerThan 34 = .ok (.istore 5, 2) := by decide +kernel
theorem dX0_poorerThan_36 : decode cX0_poorerThan 36 = .ok (.aload_n 0, 1) := by decide +kernel
theorem dX0_poorerThan_37 : decode cX0_poorerThan 37 = .ok (.getfield 11, 3) := by decide +kernel
theorem dX0_poorerThan_40 : decode cX0_poorerThan 40 = .ok (.iload 4, 2) := by decide +kernel
theorem dX0_poorerThan_42 : decode cX0_poorerThan 42 = .ok (.aaload, 1) := by decide +kernel
theorem dX0_poorerThan_43 : decode cX0_poorerThan 43 = .ok (.invokevirtual 149, 3) := by decide +kernel
theorem dX0_poorerThan_46 : decode cX0_poorerThan 46 = .ok (.ifCond .ne 24, 3) := by decide +kernel
theorem dX0_poorerThan_49 : decode cX0_poorerThan 49 = .ok (.iload 5, 2) := by decide +kernel
theorem dX0_poorerThan_51 : decode cX0_poorerThan 51 = .ok (.iload_n 2, 1) := by decide +kernel
theorem dX0_poorerThan_52 : decode cX0_poorerThan 52 = .ok (.if_icmp .lt 15, 3) := by decide +kernel
theorem dX0_poorerThan_55 : decode cX0_poorerThan 55 = .ok (.iload 5, 2) := by decide +kernel
theorem dX0_poorerThan_57 : decode cX0_poorerThan 57 = .ok (.iload_n 2, 1) := by decide +kernel
theorem dX0_poorerThan_58 : decode cX0_poorerThan 58 = .ok (.if_icmp .ne 12, 3) := by decide +kernel
theorem dX0_poorerThan_61 : decode cX0_poorerThan 61 = .ok (.iload 4, 2) := by decide +kernel
theorem dX0_poorerThan_63 : decode cX0_poorerThan 63 = .ok (.iload_n 1, 1) := by decide +kernel
theorem dX0_poorerThan_64 : decode cX0_poorerThan 64 = .ok (.if_icmp .ge 6, 3) := by decide +kernel
theorem dX0_poorerThan_67 : decode cX0_poorerThan 67 = .ok (.iinc 3 1, 3) := by decide +kernel
theorem dX0_poorerThan_70 : decode cX0_poorerThan 70 = .ok (.iinc 4 1, 3) := by decide +kernel
theorem dX0_poorerThan_73 : decode cX0_poorerThan 73 = .ok (.goto (-68), 3) := by decide +kernel
theorem dX0_poorerThan_76 : decode cX0_poorerThan 76 = .ok (.iload_n 3, 1) := by decide +kernel
theorem dX0_poorerThan_77 : decode cX0_poorerThan 77 = .ok (.ireturn, 1) := by decide +kernel
theorem dX0_chargedShare_0 : decode cX0_chargedShare 0 = .ok (.iconst 0, 1) := by decide +kernel
theorem dX0_chargedShare_1 : decode cX0_chargedShare 1 = .ok (.istore_n 1, 1) := by decide +kernel
theorem dX0_chargedShare_2 : decode cX0_chargedShare 2 = .ok (.iconst 0, 1) := by decide +kernel
theorem dX0_chargedShare_3 : decode cX0_chargedShare 3 = .ok (.istore_n 2, 1) := by decide +kernel
theorem dX0_chargedShare_4 : decode cX0_chargedShare 4 = .ok (.iconst 0, 1) := by decide +kernel
theorem dX0_chargedShare_5 : decode cX0_chargedShare 5 = .ok (.istore_n 3, 1) := by decide +kernel
theorem dX0_chargedShare_6 : decode cX0_chargedShare 6 = .ok (.iload_n 3, 1) := by decide +kernel
theorem dX0_chargedShare_7 : decode cX0_chargedShare 7 = .ok (.aload_n 0, 1) := by decide +kernel
theorem dX0_chargedShare_8 : decode cX0_chargedShare 8 = .ok (.getfield 63, 3) := by decide +kernel
theorem dX0_chargedShare_11 : decode cX0_chargedShare 11 = .ok (.if_icmp .ge 42, 3) := by decide +kernel
theorem dX0_chargedShare_14 : decode cX0_chargedShare 14 = .ok (.iload_n 3, 1) := by decide +kernel
theorem dX0_chargedShare_15 : decode cX0_chargedShare 15 = .ok (.aload_n 0, 1) := by decide +kernel
theorem dX0_chargedShare_16 : decode cX0_chargedShare 16 = .ok (.getfield 11, 3) := by decide +kernel
theorem dX0_chargedShare_19 : decode cX0_chargedShare 19 = .ok (.arraylength, 1) := by decide +kernel
theorem dX0_chargedShare_20 : decode cX0_chargedShare 20 = .ok (.if_icmp .ge 33, 3) := by decide +kernel
theorem dX0_chargedShare_23 : decode cX0_chargedShare 23 = .ok (.iload_n 1, 1) := by decide +kernel
theorem dX0_chargedShare_24 : decode cX0_chargedShare 24 = .ok (.aload_n 0, 1) := by decide +kernel
theorem dX0_chargedShare_25 : decode cX0_chargedShare 25 = .ok (.getfield 11, 3) := by decide +kernel
theorem dX0_chargedShare_28 : decode cX0_chargedShare 28 = .ok (.iload_n 3, 1) := by decide +kernel
theorem dX0_chargedShare_29 : decode cX0_chargedShare 29 = .ok (.aaload, 1) := by decide +kernel
theorem dX0_chargedShare_30 : decode cX0_chargedShare 30 = .ok (.invokevirtual 237, 3) := by decide +kernel
theorem dX0_chargedShare_33 : decode cX0_chargedShare 33 = .ok (.iadd, 1) := by decide +kernel
theorem dX0_chargedShare_34 : decode cX0_chargedShare 34 = .ok (.istore_n 1, 1) := by decide +kernel
theorem dX0_chargedShare_35 : decode cX0_chargedShare 35 = .ok (.iload_n 2, 1) := by decide +kernel
theorem dX0_chargedShare_36 : decode cX0_chargedShare 36 = .ok (.aload_n 0, 1) := by decide +kernel
theorem dX0_chargedShare_37 : decode cX0_chargedShare 37 = .ok (.getfield 11, 3) := by decide +kernel
theorem dX0_chargedShare_40 : decode cX0_chargedShare 40 = .ok (.iload_n 3, 1) := by decide +kernel
theorem dX0_chargedShare_41 : decode cX0_chargedShare 41 = .ok (.aaload, 1) := by decide +kernel
theorem dX0_chargedShare_42 : decode cX0_chargedShare 42 = .ok (.invokevirtual 212, 3) := by decide +kernel
theorem dX0_chargedShare_45 : decode cX0_chargedShare 45 = .ok (.iadd, 1) := by decide +kernel
theorem dX0_chargedShare_46 : decode cX0_chargedShare 46 = .ok (.istore_n 2, 1) := by decide +kernel
theorem dX0_chargedShare_47 : decode cX0_chargedShare 47 = .ok (.iinc 3 1, 3) := by decide +kernel
theorem dX0_chargedShare_50 : decode cX0_chargedShare 50 = .ok (.goto (-44), 3) := by decide +kernel
theorem dX0_chargedShare_53 : decode cX0_chargedShare 53 = .ok (.iload_n 1, 1) := by decide +kernel
theorem dX0_chargedShare_54 : decode cX0_chargedShare 54 = .ok (.ifCond .gt 8, 3) := by decide +kernel
theorem dX0_chargedShare_57 : decode cX0_chargedShare 57 = .ok (.ldc 218, 2) := by decide +kernel
theorem dX0_chargedShare_59 : decode cX0_chargedShare 59 = .ok (.goto 11, 3) := by decide +kernel
theorem dX0_chargedShare_62 : decode cX0_chargedShare 62 = .ok (.iload_n 2, 1) := by decide +kernel
theorem dX0_chargedShare_63 : decode cX0_chargedShare 63 = .ok (.i2f, 1) := by decide +kernel
theorem dX0_chargedShare_64 : decode cX0_chargedShare 64 = .ok (.iload_n 1, 1) := by decide +kernel
theorem dX0_chargedShare_65 : decode cX0_chargedShare 65 = .ok (.i2f, 1) := by decide +kernel
theorem dX0_chargedShare_66 : decode cX0_chargedShare 66 = .ok (.fdiv, 1) := by decide +kernel
theorem dX0_chargedShare_67 : decode cX0_chargedShare 67 = .ok (.invokestatic 240, 3) := by decide +kernel
theorem dX0_chargedShare_70 : decode cX0_chargedShare 70 = .ok (.ireturn, 1) := by decide +kernel
theorem dX0_tell_0 : decode cX0_tell 0 = .ok (.iload_n 1, 1) := by decide +kernel
theorem dX0_tell_1 : decode cX0_tell 1 = .ok (.tableswitch 184 0 22 #[107, 112, 125, 130, 135, 140, 146, 152, 184, 184, 184, 184, 184, 184, 184, 184, 158, 184, 184, 184, 166, 172, 178], 107) := by decide +kernel
theorem dX0_tell_108 : decode cX0_tell 108 = .ok (.aload_n 0, 1) := by decide +kernel
theorem dX0_tell_109 : decode cX0_tell 109 = .ok (.getfield 67, 3) := by decide +kernel
theorem dX0_tell_112 : decode cX0_tell 112 = .ok (.ireturn, 1) := by decide +kernel
theorem dX0_tell_113 : decode cX0_tell 113 = .ok (.aload_n 0, 1) := by decide +kernel
theorem dX0_tell_114 : decode cX0_tell 114 = .ok (.getfield 76, 3) := by decide +kernel
theorem dX0_tell_117 : decode cX0_tell 117 = .ok (.ifCond .eq 7, 3) := by decide +kernel
theorem dX0_tell_120 : decode cX0_tell 120 = .ok (.iconst 1, 1) := by decide +kernel
theorem dX0_tell_121 : decode cX0_tell 121 = .ok (.goto 4, 3) := by decide +kernel
theorem dX0_tell_124 : decode cX0_tell 124 = .ok (.iconst 0, 1) := by decide +kernel
theorem dX0_tell_125 : decode cX0_tell 125 = .ok (.ireturn, 1) := by decide +kernel
theorem dX0_tell_126 : decode cX0_tell 126 = .ok (.aload_n 0, 1) := by decide +kernel
theorem dX0_tell_127 : decode cX0_tell 127 = .ok (.getfield 70, 3) := by decide +kernel
theorem dX0_tell_130 : decode cX0_tell 130 = .ok (.ireturn, 1) := by decide +kernel
theorem dX0_tell_131 : decode cX0_tell 131 = .ok (.aload_n 0, 1) := by decide +kernel
theorem dX0_tell_132 : decode cX0_tell 132 = .ok (.getfield 73, 3) := by decide +kernel
theorem dX0_tell_135 : decode cX0_tell 135 = .ok (.ireturn, 1) := by decide +kernel
theorem dX0_tell_136 : decode cX0_tell 136 = .ok (.aload_n 0, 1) := by decide +kernel
theorem dX0_tell_137 : decode cX0_tell 137 = .ok (.getfield 63, 3) := by decide +kernel
theorem dX0_tell_140 : decode cX0_tell 140 = .ok (.ireturn, 1) := by decide +kernel
theorem dX0_tell_141 : decode cX0_tell 141 = .ok (.aload_n 0, 1) := by decide +kernel
theorem dX0_tell_142 : decode cX0_tell 142 = .ok (.iconst 0, 1) := by decide +kernel
theorem dX0_tell_143 : decode cX0_tell 143 = .ok (.invokevirtual 183, 3) := by decide +kernel
theorem dX0_tell_146 : decode cX0_tell 146 = .ok (.ireturn, 1) := by decide +kernel
theorem dX0_tell_147 : decode cX0_tell 147 = .ok (.aload_n 0, 1) := by decide +kernel
theorem dX0_tell_148 : decode cX0_tell 148 = .ok (.iconst 1, 1) := by decide +kernel
theorem dX0_tell_149 : decode cX0_tell 149 = .ok (.invokevirtual 183, 3) := by decide +kernel
theorem dX0_tell_152 : decode cX0_tell 152 = .ok (.ireturn, 1) := by decide +kernel
theorem dX0_tell_153 : decode cX0_tell 153 = .ok (.aload_n 0, 1) := by decide +kernel
theorem dX0_tell_154 : decode cX0_tell 154 = .ok (.iconst 2, 1) := by decide +kernel
theorem dX0_tell_155 : decode cX0_tell 155 = .ok (.invokevirtual 183, 3) := by decide +kernel
theorem dX0_tell_158 : decode cX0_tell 158 = .ok (.ireturn, 1) := by decide +kernel
theorem dX0_tell_159 : decode cX0_tell 159 = .ok (.aload_n 0, 1) := by decide +kernel
theorem dX0_tell_160 : decode cX0_tell 160 = .ok (.getfield 39, 3) := by decide +kernel
theorem dX0_tell_163 : decode cX0_tell 163 = .ok (.getfield 244, 3) := by decide +kernel
theorem dX0_tell_166 : decode cX0_tell 166 = .ok (.ireturn, 1) := by decide +kernel
theorem dX0_tell_167 : decode cX0_tell 167 = .ok (.aload_n 0, 1) := by decide +kernel
theorem dX0_tell_168 : decode cX0_tell 168 = .ok (.iconst 0, 1) := by decide +kernel
theorem dX0_tell_169 : decode cX0_tell 169 = .ok (.invokevirtual 105, 3) := by decide +kernel
theorem dX0_tell_172 : decode cX0_tell 172 = .ok (.ireturn, 1) := by decide +kernel
theorem dX0_tell_173 : decode cX0_tell 173 = .ok (.aload_n 0, 1) := by decide +kernel
theorem dX0_tell_174 : decode cX0_tell 174 = .ok (.iconst 1, 1) := by decide +kernel
theorem dX0_tell_175 : decode cX0_tell 175 = .ok (.invokevirtual 105, 3) := by decide +kernel
theorem dX0_tell_178 : decode cX0_tell 178 = .ok (.ireturn, 1) := by decide +kernel
theorem dX0_tell_179 : decode cX0_tell 179 = .ok (.aload_n 0, 1) := by decide +kernel
theorem dX0_tell_180 : decode cX0_tell 180 = .ok (.iconst 2, 1) := by decide +kernel
theorem dX0_tell_181 : decode cX0_tell 181 = .ok (.invokevirtual 105, 3) := by decide +kernel
theorem dX0_tell_184 : decode cX0_tell 184 = .ok (.ireturn, 1) := by decide +kernel
theorem dX0_tell_185 : decode cX0_tell 185 = .ok (.aload_n 0, 1) := by decide +kernel
theorem dX0_tell_186 : decode cX0_tell 186 = .ok (.iload_n 1, 1) := by decide +kernel
theorem dX0_tell_187 : decode cX0_tell 187 = .ok (.invokevirtual 247, 3) := by decide +kernel
theorem dX0_tell_190 : decode cX0_tell 190 = .ok (.ireturn, 1) := by decide +kernel
theorem dX0_tellCoins_0 : decode cX0_tellCoins 0 = .ok (.iload_n 1, 1) := by decide +kernel
theorem dX0_tellCoins_1 : decode cX0_tellCoins 1 = .ok (.tableswitch 114 8 15 #[47, 55, 63, 71, 79, 87, 95, 103], 47) := by decide +kernel
theorem dX0_tellCoins_48 : decode cX0_tellCoins 48 = .ok (.aload_n 0, 1) := by decide +kernel
theorem dX0_tellCoins_49 : decode cX0_tellCoins 49 = .ok (.getfield 46, 3) := by decide +kernel
theorem dX0_tellCoins_52 : decode cX0_tellCoins 52 = .ok (.getfield 159, 3) := by decide +kernel
theorem dX0_tellCoins_55 : decode cX0_tellCoins 55 = .ok (.ireturn, 1) := by decide +kernel
theorem dX0_tellCoins_56 : decode cX0_tellCoins 56 = .ok (.aload_n 0, 1) := by decide +kernel
theorem dX0_tellCoins_57 : decode cX0_tellCoins 57 = .ok (.getfield 46, 3) := by decide +kernel
theorem dX0_tellCoins_60 : decode cX0_tellCoins 60 = .ok (.getfield 250, 3) := by decide +kernel
theorem dX0_tellCoins_63 : decode cX0_tellCoins 63 = .ok (.ireturn, 1) := by decide +kernel
theorem dX0_tellCoins_64 : decode cX0_tellCoins 64 = .ok (.aload_n 0, 1) := by decide +kernel
theorem dX0_tellCoins_65 : decode cX0_tellCoins 65 = .ok (.getfield 46, 3) := by decide +kernel
theorem dX0_tellCoins_68 : decode cX0_tellCoins 68 = .ok (.getfield 98, 3) := by decide +kernel
theorem dX0_tellCoins_71 : decode cX0_tellCoins 71 = .ok (.ireturn, 1) := by decide +kernel
theorem dX0_tellCoins_72 : decode cX0_tellCoins 72 = .ok (.aload_n 0, 1) := by decide +kernel
theorem dX0_tellCoins_73 : decode cX0_tellCoins 73 = .ok (.getfield 46, 3) := by decide +kernel
theorem dX0_tellCoins_76 : decode cX0_tellCoins 76 = .ok (.getfield 156, 3) := by decide +kernel
theorem dX0_tellCoins_79 : decode cX0_tellCoins 79 = .ok (.ireturn, 1) := by decide +kernel
theorem dX0_tellCoins_80 : decode cX0_tellCoins 80 = .ok (.aload_n 0, 1) := by decide +kernel
theorem dX0_tellCoins_81 : decode cX0_tellCoins 81 = .ok (.getfield 46, 3) := by decide +kernel
theorem dX0_tellCoins_84 : decode cX0_tellCoins 84 = .ok (.getfield 202, 3) := by decide +kernel
theorem dX0_tellCoins_87 : decode cX0_tellCoins 87 = .ok (.ireturn, 1) := by decide +kernel
theorem dX0_tellCoins_88 : decode cX0_tellCoins 88 = .ok (.aload_n 0, 1) := by decide +kernel
theorem dX0_tellCoins_89 : decode cX0_tellCoins 89 = .ok (.getfield 46, 3) := by decide +kernel
theorem dX0_tellCoins_92 : decode cX0_tellCoins 92 = .ok (.getfield 129, 3) := by decide +kernel
theorem dX0_tellCoins_95 : decode cX0_tellCoins 95 = .ok (.ireturn, 1) := by decide +kernel
theorem dX0_tellCoins_96 : decode cX0_tellCoins 96 = .ok (.aload_n 0, 1) := by decide +kernel
theorem dX0_tellCoins_97 : decode cX0_tellCoins 97 = .ok (.getfield 46, 3) := by decide +kernel
theorem dX0_tellCoins_100 : decode cX0_tellCoins 100 = .ok (.getfield 173, 3) := by decide +kernel
theorem dX0_tellCoins_103 : decode cX0_tellCoins 103 = .ok (.ireturn, 1) := by decide +kernel
theorem dX0_tellCoins_104 : decode cX0_tellCoins 104 = .ok (.ldc 253, 2) := by decide +kernel
theorem dX0_tellCoins_106 : decode cX0_tellCoins 106 = .ok (.aload_n 0, 1) := by decide +kernel
theorem dX0_tellCoins_107 : decode cX0_tellCoins 107 = .ok (.getfield 46, 3) := by decide +kernel
theorem dX0_tellCoins_110 : decode cX0_tellCoins 110 = .ok (.getfield 186, 3) := by decide +kernel
theorem dX0_tellCoins_113 : decode cX0_tellCoins 113 = .ok (.iadd, 1) := by decide +kernel
theorem dX0_tellCoins_114 : decode cX0_tellCoins 114 = .ok (.ireturn, 1) := by decide +kernel
theorem dX0_tellCoins_115 : decode cX0_tellCoins 115 = .ok (.ldc 84, 2) := by decide +kernel
theorem dX0_tellCoins_117 : decode cX0_tellCoins 117 = .ok (.ireturn, 1) := by decide +kernel
theorem dX1_init_0 : decode cX1_init 0 = .ok (.aload_n 0, 1) := by decide +kernel
theorem dX1_init_1 : decode cX1_init 1 = .ok (.invokespecial 3, 3) := by decide +kernel
theorem dX1_init_4 : decode cX1_init 4 = .ok (.aload_n 0, 1) := by decide +kernel
theorem dX1_init_5 : decode cX1_init 5 = .ok (.bipush 8, 2) := by decide +kernel
theorem dX1_init_7 : decode cX1_init 7 = .ok (.newarray .int, 2) := by decide +kernel
theorem dX1_init_9 : decode cX1_init 9 = .ok (.putfield 9, 3) := by decide +kernel
theorem dX1_init_12 : decode cX1_init 12 = .ok (.aload_n 0, 1) := by decide +kernel
theorem dX1_init_13 : decode cX1_init 13 = .ok (.bipush 8, 2) := by decide +kernel
theorem dX1_init_15 : decode cX1_init 15 = .ok (.newarray .int, 2) := by decide +kernel
theorem dX1_init_17 : decode cX1_init 17 = .ok (.putfield 15, 3) := by decide +kernel
theorem dX1_init_20 : decode cX1_init 20 = .ok (.aload_n 0, 1) := by decide +kernel
theorem dX1_init_21 : decode cX1_init 21 = .ok (.bipush 8, 2) := by decide +kernel
theorem dX1_init_23 : decode cX1_init 23 = .ok (.newarray .int, 2) := by decide +kernel
theorem dX1_init_25 : decode cX1_init 25 = .ok (.putfield 18, 3) := by decide +kernel
theorem dX1_init_28 : decode cX1_init 28 = .ok (.return_, 1) := by decide +kernel
theorem dX1_copyFrom_0 : decode cX1_copyFrom 0 = .ok (.aload_n 1, 1) := by decide +kernel
theorem dX1_copyFrom_1 : decode cX1_copyFrom 1 = .ok (.getfield 9, 3) := by decide +kernel
theorem dX1_copyFrom_4 : decode cX1_copyFrom 4 = .ok (.aload_n 0, 1) := by decide +kernel
theorem dX1_copyFrom_5 : decode cX1_copyFrom 5 = .ok (.getfield 9, 3) := by decide +kernel
theorem dX1_copyFrom_8 : decode cX1_copyFrom 8 = .ok (.invokestatic 21, 3) := by decide +kernel
theorem dX1_copyFrom_11 : decode cX1_copyFrom 11 = .ok (.aload_n 1, 1) := by decide +kernel
theorem dX1_copyFrom_12 : decode cX1_copyFrom 12 = .ok (.getfield 15, 3) := by decide +kernel
theorem dX1_copyFrom_15 : decode cX1_copyFrom 15 = .ok (.aload_n 0, 1) := by decide +kernel
theorem dX1_copyFrom_16 : decode cX1_copyFrom 16 = .ok (.getfield 15, 3) := by decide +kernel
theorem dX1_copyFrom_19 : decode cX1_copyFrom 19 = .ok (.invokestatic 21, 3) := by decide +kernel
theorem dX1_copyFrom_22 : decode cX1_copyFrom 22 = .ok (.aload_n 1, 1) := by decide +kernel
theorem dX1_copyFrom_23 : decode cX1_copyFrom 23 = .ok (.getfield 18, 3) := by decide +kernel
theorem dX1_copyFrom_26 : decode cX1_copyFrom 26 = .ok (.aload_n 0, 1) := by decide +kernel
theorem dX1_copyFrom_27 : decode cX1_copyFrom 27 = .ok (.getfield 18, 3) := by decide +kernel
theorem dX1_copyFrom_30 : decode cX1_copyFrom 30 = .ok (.invokestatic 21, 3) := by decide +kernel
theorem dX1_copyFrom_33 : decode cX1_copyFrom 33 = .ok (.aload_n 0, 1) := by decide +kernel
theorem dX1_copyFrom_34 : decode cX1_copyFrom 34 = .ok (.aload_n 1, 1) := by decide +kernel
theorem dX1_copyFrom_35 : decode cX1_copyFrom 35 = .ok (.getfield 25, 3) := by decide +kernel
theorem dX1_copyFrom_38 : decode cX1_copyFrom 38 = .ok (.putfield 25, 3) := by decide +kernel
theorem dX1_copyFrom_41 : decode cX1_copyFrom 41 = .ok (.return_, 1) := by decide +kernel
theorem dX1_enter_0 : decode cX1_enter 0 = .ok (.iload_n 3, 1) := by decide +kernel
theorem dX1_enter_1 : decode cX1_enter 1 = .ok (.ifCond .gt 4, 3) := by decide +kernel
theorem dX1_enter_4 : decode cX1_enter 4 = .ok (.return_, 1) := by decide +kernel
theorem dX1_enter_5 : decode cX1_enter 5 = .ok (.aload_n 0, 1) := by decide +kernel
theorem dX1_enter_6 : decode cX1_enter 6 = .ok (.getfield 9, 3) := by decide +kernel
theorem dX1_enter_9 : decode cX1_enter 9 = .ok (.iload_n 1, 1) := by decide +kernel
theorem dX1_enter_10 : decode cX1_enter 10 = .ok (.invokestatic 29, 3) := by decide +kernel
theorem dX1_enter_13 : decode cX1_enter 13 = .ok (.aload_n 0, 1) := by decide +kernel
theorem dX1_enter_14 : decode cX1_enter 14 = .ok (.getfield 15, 3) := by decide +kernel
theorem dX1_enter_17 : decode cX1_enter 17 = .ok (.iload_n 2, 1) := by decide +kernel
theorem dX1_enter_18 : decode cX1_enter 18 = .ok (.invokestatic 29, 3) := by decide +kernel
theorem dX1_enter_21 : decode cX1_enter 21 = .ok (.aload_n 0, 1) := by decide +kernel
theorem dX1_enter_22 : decode cX1_enter 22 = .ok (.getfield 18, 3) := by decide +kernel
theorem dX1_enter_25 : decode cX1_enter 25 = .ok (.iload_n 3, 1) := by decide +kernel
theorem dX1_enter_26 : decode cX1_enter 26 = .ok (.invokestatic 29, 3) := by decide +kernel
theorem dX1_enter_29 : decode cX1_enter 29 = .ok (.aload_n 0, 1) := by decide +kernel
theorem dX1_enter_30 : decode cX1_enter 30 = .ok (.getfield 25, 3) := by decide +kernel
theorem dX1_enter_33 : decode cX1_enter 33 = .ok (.bipush 8, 2) := by decide +kernel
theorem dX1_enter_35 : decode cX1_enter 35 = .ok (.if_icmp .ge 13, 3) := by decide +kernel
theorem dX1_enter_38 : decode cX1_enter 38 = .ok (.aload_n 0, 1) := by decide +kernel
theorem dX1_enter_39 : decode cX1_enter 39 = .ok (.dup, 1) := by decide +kernel
theorem dX1_enter_40 : decode cX1_enter 40 = .ok (.getfield 25, 3) := by decide +kernel
theorem dX1_enter_43 : decode cX1_enter 43 = .ok (.iconst 1, 1) := by decide +kernel
theorem dX1_enter_44 : decode cX1_enter 44 = .ok (.iadd, 1) := by decide +kernel
theorem dX1_enter_45 : decode cX1_enter 45 = .ok (.putfield 25, 3) := by decide +kernel
theorem dX1_enter_48 : decode cX1_enter 48 = .ok (.return_, 1) := by decide +kernel
theorem dX1_putAhead_0 : decode cX1_putAhead 0 = .ok (.aload_n 0, 1) := by decide +kernel
theorem dX1_putAhead_1 : decode cX1_putAhead 1 = .ok (.arraylength, 1) := by decide +kernel
theorem dX1_putAhead_2 : decode cX1_putAhead 2 = .ok (.iconst 1, 1) := by decide +kernel
theorem dX1_putAhead_3 : decode cX1_putAhead 3 = .ok (.isub, 1) := by decide +kernel
theorem dX1_putAhead_4 : decode cX1_putAhead 4 = .ok (.istore_n 2, 1) := by decide +kernel
theorem dX1_putAhead_5 : decode cX1_putAhead 5 = .ok (.iload_n 2, 1) := by decide +kernel
theorem dX1_putAhead_6 : decode cX1_putAhead 6 = .ok (.ifCond .le 17, 3) := by decide +kernel
theorem dX1_putAhead_9 : decode cX1_putAhead 9 = .ok (.aload_n 0, 1) := by decide +kernel
theorem dX1_putAhead_10 : decode cX1_putAhead 10 = .ok (.iload_n 2, 1) := by decide +kernel
theorem dX1_putAhead_11 : decode cX1_putAhead 11 = .ok (.aload_n 0, 1) := by decide +kernel
theorem dX1_putAhead_12 : decode cX1_putAhead 12 = .ok (.iload_n 2, 1) := by decide +kernel
theorem dX1_putAhead_13 : decode cX1_putAhead 13 = .ok (.iconst 1, 1) := by decide +kernel
theorem dX1_putAhead_14 : decode cX1_putAhead 14 = .ok (.isub, 1) := by decide +kernel
theorem dX1_putAhead_15 : decode cX1_putAhead 15 = .ok (.iaload, 1) := by decide +kernel
theorem dX1_putAhead_16 : decode cX1_putAhead 16 = .ok (.iastore, 1) := by decide +kernel
theorem dX1_putAhead_17 : decode cX1_putAhead 17 = .ok (.iinc 2 (-1), 3) := by decide +kernel
theorem dX1_putAhead_20 : decode cX1_putAhead 20 = .ok (.goto (-15), 3) := by decide +kernel
theorem dX1_putAhead_23 : decode cX1_putAhead 23 = .ok (.aload_n 0, 1) := by decide +kernel
theorem dX1_putAhead_24 : decode cX1_putAhead 24 = .ok (.arraylength, 1) := by decide +kernel
theorem dX1_putAhead_25 : decode cX1_putAhead 25 = .ok (.ifCond .le 7, 3) := by decide +kernel
theorem dX1_putAhead_28 : decode cX1_putAhead 28 = .ok (.aload_n 0, 1) := by decide +kernel
theorem dX1_putAhead_29 : decode cX1_putAhead 29 = .ok (.iconst 0, 1) := by decide +kernel
theorem dX1_putAhead_30 : decode cX1_putAhead 30 = .ok (.iload_n 1, 1) := by decide +kernel
theorem dX1_putAhead_31 : decode cX1_putAhead 31 = .ok (.iastore, 1) := by decide +kernel
theorem dX1_putAhead_32 : decode cX1_putAhead 32 = .ok (.return_, 1) := by decide +kernel
theorem dX1_tell_0 : decode cX1_tell 0 = .ok (.iload_n 1, 1) := by decide +kernel
theorem dX1_tell_1 : decode cX1_tell 1 = .ok (.ifCond .lt 12, 3) := by decide +kernel
theorem dX1_tell_4 : decode cX1_tell 4 = .ok (.iload_n 2, 1) := by decide +kernel
theorem dX1_tell_5 : decode cX1_tell 5 = .ok (.iconst 0, 1) := by decide +kernel
theorem dX1_tell_6 : decode cX1_tell 6 = .ok (.iconst 2, 1) := by decide +kernel
theorem dX1_tell_7 : decode cX1_tell 7 = .ok (.invokestatic 33, 3) := by decide +kernel
theorem dX1_tell_10 : decode cX1_tell 10 = .ok (.ifCond .ne 6, 3) := by decide +kernel
theorem dX1_tell_13 : decode cX1_tell 13 = .ok (.ldc 37, 2) := by decide +kernel
theorem dX1_tell_15 : decode cX1_tell 15 = .ok (.ireturn, 1) := by decide +kernel
theorem dX1_tell_16 : decode cX1_tell 16 = .ok (.iload_n 1, 1) := by decide +kernel
theorem dX1_tell_17 : decode cX1_tell 17 = .ok (.aload_n 0, 1) := by decide +kernel
theorem dX1_tell_18 : decode cX1_tell 18 = .ok (.getfield 25, 3) := by decide +kernel
theorem dX1_tell_21 : decode cX1_tell 21 = .ok (.if_icmp .lt 6, 3) := by decide +kernel
theorem dX1_tell_24 : decode cX1_tell 24 = .ok (.ldc 38, 2) := by decide +kernel
theorem dX1_tell_26 : decode cX1_tell 26 = .ok (.ireturn, 1) := by decide +kernel
theorem dX1_tell_27 : decode cX1_tell 27 = .ok (.iload_n 2, 1) := by decide +kernel
theorem dX1_tell_28 : decode cX1_tell 28 = .ok (.ifCond .ne 10, 3) := by decide +kernel
theorem dX1_tell_31 : decode cX1_tell 31 = .ok (.aload_n 0, 1) := by decide +kernel
theorem dX1_tell_32 : decode cX1_tell 32 = .ok (.getfield 9, 3) := by decide +kernel
theorem dX1_tell_35 : decode cX1_tell 35 = .ok (.goto 19, 3) := by decide +kernel
theorem dX1_tell_38 : decode cX1_tell 38 = .ok (.iload_n 2, 1) := by decide +kernel
theorem dX1_tell_39 : decode cX1_tell 39 = .ok (.iconst 1, 1) := by decide +kernel
theorem dX1_tell_40 : decode cX1_tell 40 = .ok (.if_icmp .ne 10, 3) := by decide +kernel
theorem dX1_tell_43 : decode cX1_tell 43 = .ok (.aload_n 0, 1) := by decide +kernel
theorem dX1_tell_44 : decode cX1_tell 44 = .ok (.getfield 15, 3) := by decide +kernel
theorem dX1_tell_47 : decode cX1_tell 47 = .ok (.goto 7, 3) := by decide +kernel
theorem dX1_tell_50 : decode cX1_tell 50 = .ok (.aload_n 0, 1) := by decide +kernel
theorem dX1_tell_51 : decode cX1_tell 51 = .ok (.getfield 18, 3) := by decide +kernel
theorem dX1_tell_54 : decode cX1_tell 54 = .ok (.iload_n 1, 1) := by decide +kernel
theorem dX1_tell_55 : decode cX1_tell 55 = .ok (.invokestatic 39, 3) := by decide +kernel
theorem dX1_tell_58 : decode cX1_tell 58 = .ok (.ireturn, 1) := by decide +kernel
theorem dX1_numberAt_0 : decode cX1_numberAt 0 = .ok (.iload_n 1, 1) := by decide +kernel
theorem dX1_numberAt_1 : decode cX1_numberAt 1 = .ok (.ifCond .lt 15, 3) := by decide +kernel
theorem dX1_numberAt_4 : decode cX1_numberAt 4 = .ok (.iload_n 1, 1) := by decide +kernel
theorem dX1_numberAt_5 : decode cX1_numberAt 5 = .ok (.aload_n 0, 1) := by decide +kernel
theorem dX1_numberAt_6 : decode cX1_numberAt 6 = .ok (.arraylength, 1) := by decide +kernel
theorem dX1_numberAt_7 : decode cX1_numberAt 7 = .ok (.if_icmp .ge 9, 3) := by decide +kernel
theorem dX1_numberAt_10 : decode cX1_numberAt 10 = .ok (.aload_n 0, 1) := by decide +kernel
theorem dX1_numberAt_11 : decode cX1_numberAt 11 = .ok (.iload_n 1, 1) := by decide +kernel
theorem dX1_numberAt_12 : decode cX1_numberAt 12 = .ok (.iaload, 1) := by decide +kernel
theorem dX1_numberAt_13 : decode cX1_numberAt 13 = .ok (.goto 5, 3) := by decide +kernel
theorem dX1_numberAt_16 : decode cX1_numberAt 16 = .ok (.ldc 38, 2) := by decide +kernel
theorem dX1_numberAt_18 : decode cX1_numberAt 18 = .ok (.ireturn, 1) := by decide +kernel
theorem dX2_init_0 : decode cX2_init 0 = .ok (.aload_n 0, 1) := by decide +kernel
theorem dX2_init_1 : decode cX2_init 1 = .ok (.invokespecial 3, 3) := by decide +kernel
theorem dX2_init_4 : decode cX2_init 4 = .ok (.aload_n 0, 1) := by decide +kernel
theorem dX2_init_5 : decode cX2_init 5 = .ok (.iconst 4, 1) := by decide +kernel
theorem dX2_init_6 : decode cX2_init 6 = .ok (.anewarray 9, 3) := by decide +kernel
theorem dX2_init_9 : decode cX2_init 9 = .ok (.putfield 11, 3) := by decide +kernel
theorem dX2_init_12 : decode cX2_init 12 = .ok (.iconst 0, 1) := by decide +kernel
theorem dX2_init_13 : decode cX2_init 13 = .ok (.istore_n 1, 1) := by decide +kernel
theorem dX2_init_14 : decode cX2_init 14 = .ok (.iload_n 1, 1) := by decide +kernel
theorem dX2_init_15 : decode cX2_init 15 = .ok (.aload_n 0, 1) := by decide +kernel
theorem dX2_init_16 : decode cX2_init 16 = .ok (.getfield 11, 3) := by decide +kernel
theorem dX2_init_19 : decode cX2_init 19 = .ok (.arraylength, 1) := by decide +kernel
theorem dX2_init_20 : decode cX2_init 20 = .ok (.if_icmp .ge 22, 3) := by decide +kernel
theorem dX2_init_23 : decode cX2_init 23 = .ok (.aload_n 0, 1) := by decide +kernel
theorem dX2_init_24 : decode cX2_init 24 = .ok (.getfield 11, 3) := by decide +kernel
theorem dX2_init_27 : decode cX2_init 27 = .ok (.iload_n 1, 1) := by decide +kernel
theorem dX2_init_28 : decode cX2_init 28 = .ok (.new 9, 3) := by decide +kernel
theorem dX2_init_31 : decode cX2_init 31 = .ok (.dup, 1) := by decide +kernel
theorem dX2_init_32 : decode cX2_init 32 = .ok (.invokespecial 17, 3) := by decide +kernel
theorem dX2_init_35 : decode cX2_init 35 = .ok (.aastore, 1) := by decide +kernel
theorem dX2_init_36 : decode cX2_init 36 = .ok (.iinc 1 1, 3) := by decide +kernel
theorem dX2_init_39 : decode cX2_init 39 = .ok (.goto (-25), 3) := by decide +kernel
theorem dX2_init_42 : decode cX2_init 42 = .ok (.return_, 1) := by decide +kernel
theorem dX2_record_0 : decode cX2_record 0 = .ok (.aload_n 0, 1) := by decide +kernel
theorem dX2_record_1 : decode cX2_record 1 = .ok (.getfield 11, 3) := by decide +kernel
theorem dX2_record_4 : decode cX2_record 4 = .ok (.arraylength, 1) := by decide +kernel
theorem dX2_record_5 : decode cX2_record 5 = .ok (.iconst 1, 1) := by decide +kernel
theorem dX2_record_6 : decode cX2_record 6 = .ok (.isub, 1) := by decide +kernel
theorem dX2_record_7 : decode cX2_record 7 = .ok (.istore_n 2, 1) := by decide +kernel
theorem dX2_record_8 : decode cX2_record 8 = .ok (.iload_n 2, 1) := by decide +kernel
theorem dX2_record_9 : decode cX2_record 9 = .ok (.ifCond .ge 4, 3) := by decide +kernel
theorem dX2_record_12 : decode cX2_record 12 = .ok (.return_, 1) := by decide +kernel
theorem dX2_record_13 : decode cX2_record 13 = .ok (.aload_n 0, 1) := by decide +kernel
theorem dX2_record_14 : decode cX2_record 14 = .ok (.getfield 11, 3) := by decide +kernel
theorem dX2_record_17 : decode cX2_record 17 = .ok (.iload_n 2, 1) := by decide +kernel
theorem dX2_record_18 : decode cX2_record 18 = .ok (.aaload, 1) := by decide +kernel
theorem dX2_record_19 : decode cX2_record 19 = .ok (.astore_n 3, 1) := by decide +kernel
theorem dX2_record_20 : decode cX2_record 20 = .ok (.iload_n 2, 1) := by decide +kernel
theorem dX2_record_21 : decode cX2_record 21 = .ok (.istore 4, 2) := by decide +kernel
theorem dX2_record_23 : decode cX2_record 23 = .ok (.iload 4, 2) := by decide +kernel
theorem dX2_record_25 : decode cX2_record 25 = .ok (.ifCond .le 25, 3) := by decide +kernel
theorem dX2_record_28 : decode cX2_record 28 = .ok (.aload_n 0, 1) := by decide +kernel
theorem dX2_record_29 : decode cX2_record 29 = .ok (.getfield 11, 3) := by decide +kernel
theorem dX2_record_32 : decode cX2_record 32 = .ok (.iload 4, 2) := by decide +kernel
theorem dX2_record_34 : decode cX2_record 34 = .ok (.aload_n 0, 1) := by decide +kernel
theorem dX2_record_35 : decode cX2_record 35 = .ok (.getfield 11, 3) := by decide +kernel
theorem dX2_record_38 : decode cX2_record 38 = .ok (.iload 4, 2) := by decide +kernel
theorem dX2_record_40 : decode cX2_record 40 = .ok (.iconst 1, 1) := by decide +kernel
theorem dX2_record_41 : decode cX2_record 41 = .ok (.isub, 1) := by decide +kernel
theorem dX2_record_42 : decode cX2_record 42 = .ok (.aaload, 1) := by decide +kernel
theorem dX2_record_43 : decode cX2_record 43 = .ok (.aastore, 1) := by decide +kernel
theorem dX2_record_44 : decode cX2_record 44 = .ok (.iinc 4 (-1), 3) := by decide +kernel
theorem dX2_record_47 : decode cX2_record 47 = .ok (.goto (-24), 3) := by decide +kernel
theorem dX2_record_50 : decode cX2_record 50 = .ok (.aload_n 0, 1) := by decide +kernel
theorem dX2_record_51 : decode cX2_record 51 = .ok (.getfield 11, 3) := by decide +kernel
theorem dX2_record_54 : decode cX2_record 54 = .ok (.iconst 0, 1) := by decide +kernel
theorem dX2_record_55 : decode cX2_record 55 = .ok (.aload_n 3, 1) := by decide +kernel
theorem dX2_record_56 : decode cX2_record 56 = .ok (.aastore, 1) := by decide +kernel
theorem dX2_record_57 : decode cX2_record 57 = .ok (.aload_n 3, 1) := by decide +kernel
theorem dX2_record_58 : decode cX2_record 58 = .ok (.aload_n 1, 1) := by decide +kernel
theorem dX2_record_59 : decode cX2_record 59 = .ok (.invokevirtual 18, 3) := by decide +kernel
theorem dX2_record_62 : decode cX2_record 62 = .ok (.aload_n 0, 1) := by decide +kernel
theorem dX2_record_63 : decode cX2_record 63 = .ok (.getfield 22, 3) := by decide +kernel
theorem dX2_record_66 : decode cX2_record 66 = .ok (.iconst 4, 1) := by decide +kernel
theorem dX2_record_67 : decode cX2_record 67 = .ok (.if_icmp .ge 13, 3) := by decide +kernel
theorem dX2_record_70 : decode cX2_record 70 = .ok (.aload_n 0, 1) := by decide +kernel
theorem dX2_record_71 : decode cX2_record 71 = .ok (.dup, 1) := by decide +kernel
theorem dX2_record_72 : decode cX2_record 72 = .ok (.getfield 22, 3) := by decide +kernel
theorem dX2_record_75 : decode cX2_record 75 = .ok (.iconst 1, 1) := by decide +kernel
theorem dX2_record_76 : decode cX2_record 76 = .ok (.iadd, 1) := by decide +kernel
theorem dX2_record_77 : decode cX2_record 77 = .ok (.putfield 22, 3) := by decide +kernel
theorem dX2_record_80 : decode cX2_record 80 = .ok (.return_, 1) := by decide +kernel
theorem dX2_restoreInto_0 : decode cX2_restoreInto 0 = .ok (.aload_n 0, 1) := by decide +kernel
theorem dX2_restoreInto_1 : decode cX2_restoreInto 1 = .ok (.getfield 11, 3) := by decide +kernel
theorem dX2_restoreInto_4 : decode cX2_restoreInto 4 = .ok (.arraylength, 1) := by decide +kernel
theorem dX2_restoreInto_5 : decode cX2_restoreInto 5 = .ok (.iconst 1, 1) := by decide +kernel
theorem dX2_restoreInto_6 : decode cX2_restoreInto 6 = .ok (.isub, 1) := by decide +kernel
theorem dX2_restoreInto_7 : decode cX2_restoreInto 7 = .ok (.istore_n 2, 1) := by decide +kernel
theorem dX2_restoreInto_8 : decode cX2_restoreInto 8 = .ok (.aload_n 0, 1) := by decide +kernel
theorem dX2_restoreInto_9 : decode cX2_restoreInto 9 = .ok (.getfield 22, 3) := by decide +kernel
theorem dX2_restoreInto_12 : decode cX2_restoreInto 12 = .ok (.ifCond .le 7, 3) := by decide +kernel
theorem dX2_restoreInto_15 : decode cX2_restoreInto 15 = .ok (.iload_n 2, 1) := by decide +kernel
theorem dX2_restoreInto_16 : decode cX2_restoreInto 16 = .ok (.ifCond .ge 6, 3) := by decide +kernel
theorem dX2_restoreInto_19 : decode cX2_restoreInto 19 = .ok (.ldc 26, 2) := by decide +kernel
theorem dX2_restoreInto_21 : decode cX2_restoreInto 21 = .ok (.ireturn, 1) := by decide +kernel
theorem dX2_restoreInto_22 : decode cX2_restoreInto 22 = .ok (.aload_n 0, 1) := by decide +kernel
theorem dX2_restoreInto_23 : decode cX2_restoreInto 23 = .ok (.getfield 11, 3) := by decide +kernel
theorem dX2_restoreInto_26 : decode cX2_restoreInto 26 = .ok (.iconst 0, 1) := by decide +kernel
theorem dX2_restoreInto_27 : decode cX2_restoreInto 27 = .ok (.aaload, 1) := by decide +kernel
theorem dX2_restoreInto_28 : decode cX2_restoreInto 28 = .ok (.astore_n 3, 1) := by decide +kernel
theorem dX2_restoreInto_29 : decode cX2_restoreInto 29 = .ok (.iconst 0, 1) := by decide +kernel
theorem dX2_restoreInto_30 : decode cX2_restoreInto 30 = .ok (.istore 4, 2) := by decide +kernel
theorem dX2_restoreInto_32 : decode cX2_restoreInto 32 = .ok (.iload 4, 2) := by decide +kernel
theorem dX2_restoreInto_34 : decode cX2_restoreInto 34 = .ok (.iload_n 2, 1) := by decide +kernel
theorem dX2_restoreInto_35 : decode cX2_restoreInto 35 = .ok (.if_icmp .ge 25, 3) := by decide +kernel
theorem dX2_restoreInto_38 : decode cX2_restoreInto 38 = .ok (.aload_n 0, 1) := by decide +kernel
theorem dX2_restoreInto_39 : decode cX2_restoreInto 39 = .ok (.getfield 11, 3) := by decide +kernel
theorem dX2_restoreInto_42 : decode cX2_restoreInto 42 = .ok (.iload 4, 2) := by decide +kernel
theorem dX2_restoreInto_44 : decode cX2_restoreInto 44 = .ok (.aload_n 0, 1) := by decide +kernel
theorem dX2_restoreInto_45 : decode cX2_restoreInto 45 = .ok (.getfield 11, 3) := by decide +kernel
theorem dX2_restoreInto_48 : decode cX2_restoreInto 48 = .ok (.iload 4, 2) := by decide +kernel
theorem dX2_restoreInto_50 : decode cX2_restoreInto 50 = .ok (.iconst 1, 1) := by decide +kernel
theorem dX2_restoreInto_51 : decode cX2_restoreInto 51 = .ok (.iadd, 1) := by decide +kernel
theorem dX2_restoreInto_52 : decode cX2_restoreInto 52 = .ok (.aaload, 1) := by decide +kernel
theorem dX2_restoreInto_53 : decode cX2_restoreInto 53 = .ok (.aastore, 1) := by decide +kernel
theorem dX2_restoreInto_54 : decode cX2_restoreInto 54 = .ok (.iinc 4 1, 3) := by decide +kernel
theorem dX2_restoreInto_57 : decode cX2_restoreInto 57 = .ok (.goto (-25), 3) := by decide +kernel
theorem dX2_restoreInto_60 : decode cX2_restoreInto 60 = .ok (.aload_n 0, 1) := by decide +kernel
theorem dX2_restoreInto_61 : decode cX2_restoreInto 61 = .ok (.getfield 11, 3) := by decide +kernel
theorem dX2_restoreInto_64 : decode cX2_restoreInto 64 = .ok (.iload_n 2, 1) := by decide +kernel
theorem dX2_restoreInto_65 : decode cX2_restoreInto 65 = .ok (.aload_n 3, 1) := by decide +kernel
theorem dX2_restoreInto_66 : decode cX2_restoreInto 66 = .ok (.aastore, 1) := by decide +kernel
theorem dX2_restoreInto_67 : decode cX2_restoreInto 67 = .ok (.aload_n 1, 1) := by decide +kernel
theorem dX2_restoreInto_68 : decode cX2_restoreInto 68 = .ok (.aload_n 3, 1) := by decide +kernel
theorem dX2_restoreInto_69 : decode cX2_restoreInto 69 = .ok (.invokevirtual 18, 3) := by decide +kernel
theorem dX2_restoreInto_72 : decode cX2_restoreInto 72 = .ok (.aload_n 0, 1) := by decide +kernel
theorem dX2_restoreInto_73 : decode cX2_restoreInto 73 = .ok (.dup, 1) := by decide +kernel
theorem dX2_restoreInto_74 : decode cX2_restoreInto 74 = .ok (.getfield 22, 3) := by decide +kernel
theorem dX2_restoreInto_77 : decode cX2_restoreInto 77 = .ok (.iconst 1, 1) := by decide +kernel
theorem dX2_restoreInto_78 : decode cX2_restoreInto 78 = .ok (.isub, 1) := by decide +kernel
theorem dX2_restoreInto_79 : decode cX2_restoreInto 79 = .ok (.putfield 22, 3) := by decide +kernel
theorem dX2_restoreInto_82 : decode cX2_restoreInto 82 = .ok (.aload_n 0, 1) := by decide +kernel
theorem dX2_restoreInto_83 : decode cX2_restoreInto 83 = .ok (.getfield 22, 3) := by decide +kernel
theorem dX2_restoreInto_86 : decode cX2_restoreInto 86 = .ok (.ireturn, 1) := by decide +kernel
theorem dX3_init_0 : decode cX3_init 0 = .ok (.aload_n 0, 1) := by decide +kernel
theorem dX3_init_1 : decode cX3_init 1 = .ok (.invokespecial 3, 3) := by decide +kernel
theorem dX3_init_4 : decode cX3_init 4 = .ok (.return_, 1) := by decide +kernel
theorem dX3_copyFrom_0 : decode cX3_copyFrom 0 = .ok (.aload_n 0, 1) := by decide +kernel
theorem dX3_copyFrom_1 : decode cX3_copyFrom 1 = .ok (.aload_n 1, 1) := by decide +kernel
theorem dX3_copyFrom_2 : decode cX3_copyFrom 2 = .ok (.getfield 9, 3) := by decide +kernel
theorem dX3_copyFrom_5 : decode cX3_copyFrom 5 = .ok (.putfield 9, 3) := by decide +kernel
theorem dX3_copyFrom_8 : decode cX3_copyFrom 8 = .ok (.aload_n 0, 1) := by decide +kernel
theorem dX3_copyFrom_9 : decode cX3_copyFrom 9 = .ok (.aload_n 1, 1) := by decide +kernel
theorem dX3_copyFrom_10 : decode cX3_copyFrom 10 = .ok (.getfield 15, 3) := by decide +kernel
theorem dX3_copyFrom_13 : decode cX3_copyFrom 13 = .ok (.putfield 15, 3) := by decide +kernel
theorem dX3_copyFrom_16 : decode cX3_copyFrom 16 = .ok (.aload_n 0, 1) := by decide +kernel
theorem dX3_copyFrom_17 : decode cX3_copyFrom 17 = .ok (.aload_n 1, 1) := by decide +kernel
theorem dX3_copyFrom_18 : decode cX3_copyFrom 18 = .ok (.getfield 18, 3) := by decide +kernel
theorem dX3_copyFrom_21 : decode cX3_copyFrom 21 = .ok (.putfield 18, 3) := by decide +kernel
theorem dX3_copyFrom_24 : decode cX3_copyFrom 24 = .ok (.aload_n 0, 1) := by decide +kernel
theorem dX3_copyFrom_25 : decode cX3_copyFrom 25 = .ok (.aload_n 1, 1) := by decide +kernel
theorem dX3_copyFrom_26 : decode cX3_copyFrom 26 = .ok (.getfield 21, 3) := by decide +kernel
theorem dX3_copyFrom_29 : decode cX3_copyFrom 29 = .ok (.putfield 21, 3) := by decide +kernel
theorem dX3_copyFrom_32 : decode cX3_copyFrom 32 = .ok (.aload_n 0, 1) := by decide +kernel
theorem dX3_copyFrom_33 : decode cX3_copyFrom 33 = .ok (.aload_n 1, 1) := by decide +kernel
theorem dX3_copyFrom_34 : decode cX3_copyFrom 34 = .ok (.getfield 24, 3) := by decide +kernel
theorem dX3_copyFrom_37 : decode cX3_copyFrom 37 = .ok (.putfield 24, 3) := by decide +kernel
theorem dX3_copyFrom_40 : decode cX3_copyFrom 40 = .ok (.return_, 1) := by decide +kernel
theorem dX3_takeIn_0 : decode cX3_takeIn 0 = .ok (.aload_n 0, 1) := by decide +kernel
theorem dX3_takeIn_1 : decode cX3_takeIn 1 = .ok (.dup, 1) := by decide +kernel
theorem dX3_takeIn_2 : decode cX3_takeIn 2 = .ok (.getfield 9, 3) := by decide +kernel
theorem dX3_takeIn_5 : decode cX3_takeIn 5 = .ok (.iload_n 1, 1) := by decide +kernel
theorem dX3_takeIn_6 : decode cX3_takeIn 6 = .ok (.iadd, 1) := by decide +kernel
theorem dX3_takeIn_7 : decode cX3_takeIn 7 = .ok (.putfield 9, 3) := by decide +kernel
theorem dX3_takeIn_10 : decode cX3_takeIn 10 = .ok (.aload_n 0, 1) := by decide +kernel
theorem dX3_takeIn_11 : decode cX3_takeIn 11 = .ok (.dup, 1) := by decide +kernel
theorem dX3_takeIn_12 : decode cX3_takeIn 12 = .ok (.getfield 18, 3) := by decide +kernel
theorem dX3_takeIn_15 : decode cX3_takeIn 15 = .ok (.iload_n 1, 1) := by decide +kernel
theorem dX3_takeIn_16 : decode cX3_takeIn 16 = .ok (.iadd, 1) := by decide +kernel
theorem dX3_takeIn_17 : decode cX3_takeIn 17 = .ok (.putfield 18, 3) := by decide +kernel
theorem dX3_takeIn_20 : decode cX3_takeIn 20 = .ok (.aload_n 0, 1) := by decide +kernel
theorem dX3_takeIn_21 : decode cX3_takeIn 21 = .ok (.iload_n 2, 1) := by decide +kernel
theorem dX3_takeIn_22 : decode cX3_takeIn 22 = .ok (.putfield 15, 3) := by decide +kernel
theorem dX3_takeIn_25 : decode cX3_takeIn 25 = .ok (.return_, 1) := by decide +kernel
theorem dX3_giveOut_0 : decode cX3_giveOut 0 = .ok (.aload_n 0, 1) := by decide +kernel
theorem dX3_giveOut_1 : decode cX3_giveOut 1 = .ok (.dup, 1) := by decide +kernel
theorem dX3_giveOut_2 : decode cX3_giveOut 2 = .ok (.getfield 9, 3) := by decide +kernel
theorem dX3_giveOut_5 : decode cX3_giveOut 5 = .ok (.iload_n 1, 1) := by decide +kernel
theorem dX3_giveOut_6 : decode cX3_giveOut 6 = .ok (.isub, 1) := by decide +kernel
theorem dX3_giveOut_7 : decode cX3_giveOut 7 = .ok (.putfield 9, 3) := by decide +kernel
theorem dX3_giveOut_10 : decode cX3_giveOut 10 = .ok (.aload_n 0, 1) := by decide +kernel
theorem dX3_giveOut_11 : decode cX3_giveOut 11 = .ok (.dup, 1) := by decide +kernel
theorem dX3_giveOut_12 : decode cX3_giveOut 12 = .ok (.getfield 21, 3) := by decide +kernel
theorem dX3_giveOut_15 : decode cX3_giveOut 15 = .ok (.iload_n 1, 1) := by decide +kernel
theorem dX3_giveOut_16 : decode cX3_giveOut 16 = .ok (.iadd, 1) := by decide +kernel
theorem dX3_giveOut_17 : decode cX3_giveOut 17 = .ok (.putfield 21, 3) := by decide +kernel
theorem dX3_giveOut_20 : decode cX3_giveOut 20 = .ok (.aload_n 0, 1) := by decide +kernel
theorem dX3_giveOut_21 : decode cX3_giveOut 21 = .ok (.dup, 1) := by decide +kernel
theorem dX3_giveOut_22 : decode cX3_giveOut 22 = .ok (.getfield 24, 3) := by decide +kernel
theorem dX3_giveOut_25 : decode cX3_giveOut 25 = .ok (.iload_n 2, 1) := by decide +kernel
theorem dX3_giveOut_26 : decode cX3_giveOut 26 = .ok (.iadd, 1) := by decide +kernel
theorem dX3_giveOut_27 : decode cX3_giveOut 27 = .ok (.putfield 24, 3) := by decide +kernel
theorem dX3_giveOut_30 : decode cX3_giveOut 30 = .ok (.return_, 1) := by decide +kernel
theorem dX3_tell_0 : decode cX3_tell 0 = .ok (.iload_n 1, 1) := by decide +kernel
theorem dX3_tell_1 : decode cX3_tell 1 = .ok (.tableswitch 60 0 4 #[35, 40, 45, 50, 55], 35) := by decide +kernel
theorem dX3_tell_36 : decode cX3_tell 36 = .ok (.aload_n 0, 1) := by decide +kernel
theorem dX3_tell_37 : decode cX3_tell 37 = .ok (.getfield 9, 3) := by decide +kernel
theorem dX3_tell_40 : decode cX3_tell 40 = .ok (.ireturn, 1) := by decide +kernel
theorem dX3_tell_41 : decode cX3_tell 41 = .ok (.aload_n 0, 1) := by decide +kernel
theorem dX3_tell_42 : decode cX3_tell 42 = .ok (.getfield 15, 3) := by decide +kernel
theorem dX3_tell_45 : decode cX3_tell 45 = .ok (.ireturn, 1) := by decide +kernel
theorem dX3_tell_46 : decode cX3_tell 46 = .ok (.aload_n 0, 1) := by decide +kernel
theorem dX3_tell_47 : decode cX3_tell 47 = .ok (.getfield 18, 3) := by decide +kernel
theorem dX3_tell_50 : decode cX3_tell 50 = .ok (.ireturn, 1) := by decide +kernel
theorem dX3_tell_51 : decode cX3_tell 51 = .ok (.aload_n 0, 1) := by decide +kernel
theorem dX3_tell_52 : decode cX3_tell 52 = .ok (.getfield 21, 3) := by decide +kernel
theorem dX3_tell_55 : decode cX3_tell 55 = .ok (.ireturn, 1) := by decide +kernel
theorem dX3_tell_56 : decode cX3_tell 56 = .ok (.aload_n 0, 1) := by decide +kernel
theorem dX3_tell_57 : decode cX3_tell 57 = .ok (.getfield 24, 3) := by decide +kernel
theorem dX3_tell_60 : decode cX3_tell 60 = .ok (.ireturn, 1) := by decide +kernel
theorem dX3_tell_61 : decode cX3_tell 61 = .ok (.ldc 27, 2) := by decide +kernel
theorem dX3_tell_63 : decode cX3_tell 63 = .ok (.ireturn, 1) := by decide +kernel
theorem dX4_init_0 : decode cX4_init 0 = .ok (.aload_n 0, 1) := by decide +kernel
theorem dX4_init_1 : decode cX4_init 1 = .ok (.invokespecial 3, 3) := by decide +kernel
theorem dX4_init_4 : decode cX4_init 4 = .ok (.aload_n 0, 1) := by decide +kernel
theorem dX4_init_5 : decode cX4_init 5 = .ok (.iconst 3, 1) := by decide +kernel
theorem dX4_init_6 : decode cX4_init 6 = .ok (.newarray .int, 2) := by decide +kernel
theorem dX4_init_8 : decode cX4_init 8 = .ok (.putfield 9, 3) := by decide +kernel
theorem dX4_init_11 : decode cX4_init 11 = .ok (.return_, 1) := by decide +kernel
theorem dX5_init_0 : decode cX5_init 0 = .ok (.aload_n 0, 1) := by decide +kernel
theorem dX5_init_1 : decode cX5_init 1 = .ok (.invokespecial 3, 3) := by decide +kernel
theorem dX5_init_4 : decode cX5_init 4 = .ok (.aload_n 0, 1) := by decide +kernel
theorem dX5_init_5 : decode cX5_init 5 = .ok (.new 9, 3) := by decide +kernel
theorem dX5_init_8 : decode cX5_init 8 = .ok (.dup, 1) := by decide +kernel
theorem dX5_init_9 : decode cX5_init 9 = .ok (.invokespecial 11, 3) := by decide +kernel
theorem dX5_init_12 : decode cX5_init 12 = .ok (.putfield 12, 3) := by decide +kernel
theorem dX5_init_15 : decode cX5_init 15 = .ok (.return_, 1) := by decide +kernel
theorem dX6_init_0 : decode cX6_init 0 = .ok (.aload_n 0, 1) := by decide +kernel
theorem dX6_init_1 : decode cX6_init 1 = .ok (.invokespecial 3, 3) := by decide +kernel
theorem dX6_init_4 : decode cX6_init 4 = .ok (.return_, 1) := by decide +kernel
theorem dX6_copyFrom_0 : decode cX6_copyFrom 0 = .ok (.aload_n 0, 1) := by decide +kernel
theorem dX6_copyFrom_1 : decode cX6_copyFrom 1 = .ok (.aload_n 1, 1) := by decide +kernel
theorem dX6_copyFrom_2 : decode cX6_copyFrom 2 = .ok (.getfield 9, 3) := by decide +kernel
theorem dX6_copyFrom_5 : decode cX6_copyFrom 5 = .ok (.putfield 9, 3) := by decide +kernel
theorem dX6_copyFrom_8 : decode cX6_copyFrom 8 = .ok (.aload_n 0, 1) := by decide +kernel
theorem dX6_copyFrom_9 : decode cX6_copyFrom 9 = .ok (.aload_n 1, 1) := by decide +kernel
theorem dX6_copyFrom_10 : decode cX6_copyFrom 10 = .ok (.getfield 15, 3) := by decide +kernel
theorem dX6_copyFrom_13 : decode cX6_copyFrom 13 = .ok (.putfield 15, 3) := by decide +kernel
theorem dX6_copyFrom_16 : decode cX6_copyFrom 16 = .ok (.aload_n 0, 1) := by decide +kernel
theorem dX6_copyFrom_17 : decode cX6_copyFrom 17 = .ok (.aload_n 1, 1) := by decide +kernel
theorem dX6_copyFrom_18 : decode cX6_copyFrom 18 = .ok (.getfield 18, 3) := by decide +kernel
theorem dX6_copyFrom_21 : decode cX6_copyFrom 21 = .ok (.putfield 18, 3) := by decide +kernel
theorem dX6_copyFrom_24 : decode cX6_copyFrom 24 = .ok (.aload_n 0, 1) := by decide +kernel
theorem dX6_copyFrom_25 : decode cX6_copyFrom 25 = .ok (.aload_n 1, 1) := by decide +kernel
theorem dX6_copyFrom_26 : decode cX6_copyFrom 26 = .ok (.getfield 21, 3) := by decide +kernel
theorem dX6_copyFrom_29 : decode cX6_copyFrom 29 = .ok (.putfield 21, 3) := by decide +kernel
theorem dX6_copyFrom_32 : decode cX6_copyFrom 32 = .ok (.aload_n 0, 1) := by decide +kernel
theorem dX6_copyFrom_33 : decode cX6_copyFrom 33 = .ok (.aload_n 1, 1) := by decide +kernel
theorem dX6_copyFrom_34 : decode cX6_copyFrom 34 = .ok (.getfield 24, 3) := by decide +kernel
theorem dX6_copyFrom_37 : decode cX6_copyFrom 37 = .ok (.putfield 24, 3) := by decide +kernel
theorem dX6_copyFrom_40 : decode cX6_copyFrom 40 = .ok (.aload_n 0, 1) := by decide +kernel
theorem dX6_copyFrom_41 : decode cX6_copyFrom 41 = .ok (.aload_n 1, 1) := by decide +kernel
theorem dX6_copyFrom_42 : decode cX6_copyFrom 42 = .ok (.getfield 27, 3) := by decide +kernel
theorem dX6_copyFrom_45 : decode cX6_copyFrom 45 = .ok (.putfield 27, 3) := by decide +kernel
theorem dX6_copyFrom_48 : decode cX6_copyFrom 48 = .ok (.aload_n 0, 1) := by decide +kernel
theorem dX6_copyFrom_49 : decode cX6_copyFrom 49 = .ok (.aload_n 1, 1) := by decide +kernel
theorem dX6_copyFrom_50 : decode cX6_copyFrom 50 = .ok (.getfield 30, 3) := by decide +kernel
theorem dX6_copyFrom_53 : decode cX6_copyFrom 53 = .ok (.putfield 30, 3) := by decide +kernel
theorem dX6_copyFrom_56 : decode cX6_copyFrom 56 = .ok (.aload_n 0, 1) := by decide +kernel
theorem dX6_copyFrom_57 : decode cX6_copyFrom 57 = .ok (.aload_n 1, 1) := by decide +kernel
theorem dX6_copyFrom_58 : decode cX6_copyFrom 58 = .ok (.getfield 33, 3) := by decide +kernel
theorem dX6_copyFrom_61 : decode cX6_copyFrom 61 = .ok (.putfield 33, 3) := by decide +kernel
theorem dX6_copyFrom_64 : decode cX6_copyFrom 64 = .ok (.aload_n 0, 1) := by decide +kernel
theorem dX6_copyFrom_65 : decode cX6_copyFrom 65 = .ok (.aload_n 1, 1) := by decide +kernel
theorem dX6_copyFrom_66 : decode cX6_copyFrom 66 = .ok (.getfield 36, 3) := by decide +kernel
theorem dX6_copyFrom_69 : decode cX6_copyFrom 69 = .ok (.putfield 36, 3) := by decide +kernel
theorem dX6_copyFrom_72 : decode cX6_copyFrom 72 = .ok (.aload_n 0, 1) := by decide +kernel
theorem dX6_copyFrom_73 : decode cX6_copyFrom 73 = .ok (.aload_n 1, 1) := by decide +kernel
theorem dX6_copyFrom_74 : decode cX6_copyFrom 74 = .ok (.getfield 39, 3) := by decide +kernel
theorem dX6_copyFrom_77 : decode cX6_copyFrom 77 = .ok (.putfield 39, 3) := by decide +kernel
theorem dX6_copyFrom_80 : decode cX6_copyFrom 80 = .ok (.return_, 1) := by decide +kernel
theorem dX6_comeAboard_0 : decode cX6_comeAboard 0 = .ok (.aload_n 0, 1) := by decide +kernel
theorem dX6_comeAboard_1 : decode cX6_comeAboard 1 = .ok (.iload_n 1, 1) := by decide +kernel
theorem dX6_comeAboard_2 : decode cX6_comeAboard 2 = .ok (.putfield 9, 3) := by decide +kernel
theorem dX6_comeAboard_5 : decode cX6_comeAboard 5 = .ok (.aload_n 0, 1) := by decide +kernel
theorem dX6_comeAboard_6 : decode cX6_comeAboard 6 = .ok (.iload_n 2, 1) := by decide +kernel
theorem dX6_comeAboard_7 : decode cX6_comeAboard 7 = .ok (.putfield 15, 3) := by decide +kernel
theorem dX6_comeAboard_10 : decode cX6_comeAboard 10 = .ok (.aload_n 0, 1) := by decide +kernel
theorem dX6_comeAboard_11 : decode cX6_comeAboard 11 = .ok (.iconst 0, 1) := by decide +kernel
theorem dX6_comeAboard_12 : decode cX6_comeAboard 12 = .ok (.putfield 18, 3) := by decide +kernel
theorem dX6_comeAboard_15 : decode cX6_comeAboard 15 = .ok (.aload_n 0, 1) := by decide +kernel
theorem dX6_comeAboard_16 : decode cX6_comeAboard 16 = .ok (.iconst 0, 1) := by decide +kernel
theorem dX6_comeAboard_17 : decode cX6_comeAboard 17 = .ok (.putfield 39, 3) := by decide +kernel
theorem dX6_comeAboard_20 : decode cX6_comeAboard 20 = .ok (.aload_n 0, 1) := by decide +kernel
theorem dX6_comeAboard_21 : decode cX6_comeAboard 21 = .ok (.iconst 0, 1) := by decide +kernel
theorem dX6_comeAboard_22 : decode cX6_comeAboard 22 = .ok (.invokevirtual 42, 3) := by decide +kernel
theorem dX6_comeAboard_25 : decode cX6_comeAboard 25 = .ok (.return_, 1) := by decide +kernel
theorem dX6_beginVoyage_0 : decode cX6_beginVoyage 0 = .ok (.aload_n 0, 1) := by decide +kernel
theorem dX6_beginVoyage_1 : decode cX6_beginVoyage 1 = .ok (.iconst 0, 1) := by decide +kernel
theorem dX6_beginVoyage_2 : decode cX6_beginVoyage 2 = .ok (.putfield 21, 3) := by decide +kernel
theorem dX6_beginVoyage_5 : decode cX6_beginVoyage 5 = .ok (.aload_n 0, 1) := by decide +kernel
theorem dX6_beginVoyage_6 : decode cX6_beginVoyage 6 = .ok (.iconst 0, 1) := by decide +kernel
theorem dX6_beginVoyage_7 : decode cX6_beginVoyage 7 = .ok (.putfield 24, 3) := by decide +kernel
theorem dX6_beginVoyage_10 : decode cX6_beginVoyage 10 = .ok (.aload_n 0, 1) := by decide +kernel
theorem dX6_beginVoyage_11 : decode cX6_beginVoyage 11 = .ok (.iconst 0, 1) := by decide +kernel
theorem dX6_beginVoyage_12 : decode cX6_beginVoyage 12 = .ok (.putfield 27, 3) := by decide +kernel
theorem dX6_beginVoyage_15 : decode cX6_beginVoyage 15 = .ok (.aload_n 0, 1) := by decide +kernel
theorem dX6_beginVoyage_16 : decode cX6_beginVoyage 16 = .ok (.iconst 0, 1) := by decide +kernel
theorem dX6_beginVoyage_17 : decode cX6_beginVoyage 17 = .ok (.putfield 30, 3) := by decide +kernel
theorem dX6_beginVoyage_20 : decode cX6_beginVoyage 20 = .ok (.aload_n 0, 1) := by decide +kernel
theorem dX6_beginVoyage_21 : decode cX6_beginVoyage 21 = .ok (.iconst 0, 1) := by decide +kernel
theorem dX6_beginVoyage_22 : decode cX6_beginVoyage 22 = .ok (.putfield 33, 3) := by decide +kernel
theorem dX6_beginVoyage_25 : decode cX6_beginVoyage 25 = .ok (.aload_n 0, 1) := by decide +kernel
theorem dX6_beginVoyage_26 : decode cX6_beginVoyage 26 = .ok (.iload_n 1, 1) := by decide +kernel
theorem dX6_beginVoyage_27 : decode cX6_beginVoyage 27 = .ok (.putfield 36, 3) := by decide +kernel
theorem dX6_beginVoyage_30 : decode cX6_beginVoyage 30 = .ok (.return_, 1) := by decide +kernel
theorem dX6_goAway_0 : decode cX6_goAway 0 = .ok (.aload_n 0, 1) := by decide +kernel
theorem dX6_goAway_1 : decode cX6_goAway 1 = .ok (.iconst 2, 1) := by decide +kernel
theorem dX6_goAway_2 : decode cX6_goAway 2 = .ok (.putfield 18, 3) := by decide +kernel
theorem dX6_goAway_5 : decode cX6_goAway 5 = .ok (.aload_n 0, 1) := by decide +kernel
theorem dX6_goAway_6 : decode cX6_goAway 6 = .ok (.iconst 0, 1) := by decide +kernel
theorem dX6_goAway_7 : decode cX6_goAway 7 = .ok (.invokevirtual 42, 3) := by decide +kernel
theorem dX6_goAway_10 : decode cX6_goAway 10 = .ok (.return_, 1) := by decide +kernel
theorem dX6_isGone_0 : decode cX6_isGone 0 = .ok (.aload_n 0, 1) := by decide +kernel
theorem dX6_isGone_1 : decode cX6_isGone 1 = .ok (.getfield 18, 3) := by decide +kernel
theorem dX6_isGone_4 : decode cX6_isGone 4 = .ok (.iconst 2, 1) := by decide +kernel
theorem dX6_isGone_5 : decode cX6_isGone 5 = .ok (.if_icmp .ne 7, 3) := by decide +kernel
theorem dX6_isGone_8 : decode cX6_isGone 8 = .ok (.iconst 1, 1) := by decide +kernel
theorem dX6_isGone_9 : decode cX6_isGone 9 = .ok (.goto 4, 3) := by decide +kernel
theorem dX6_isGone_12 : decode cX6_isGone 12 = .ok (.iconst 0, 1) := by decide +kernel
theorem dX6_isGone_13 : decode cX6_isGone 13 = .ok (.ireturn, 1) := by decide +kernel
theorem dX6_isOfWatch_0 : decode cX6_isOfWatch 0 = .ok (.aload_n 0, 1) := by decide +kernel
theorem dX6_isOfWatch_1 : decode cX6_isOfWatch 1 = .ok (.getfield 15, 3) := by decide +kernel
theorem dX6_isOfWatch_4 : decode cX6_isOfWatch 4 = .ok (.iload_n 1, 1) := by decide +kernel
theorem dX6_isOfWatch_5 : decode cX6_isOfWatch 5 = .ok (.if_icmp .ne 14, 3) := by decide +kernel
theorem dX6_isOfWatch_8 : decode cX6_isOfWatch 8 = .ok (.aload_n 0, 1) := by decide +kernel
theorem dX6_isOfWatch_9 : decode cX6_isOfWatch 9 = .ok (.invokevirtual 46, 3) := by decide +kernel
theorem dX6_isOfWatch_12 : decode cX6_isOfWatch 12 = .ok (.ifCond .ne 7, 3) := by decide +kernel
theorem dX6_isOfWatch_15 : decode cX6_isOfWatch 15 = .ok (.iconst 1, 1) := by decide +kernel
theorem dX6_isOfWatch_16 : decode cX6_isOfWatch 16 = .ok (.goto 4, 3) := by decide +kernel
theorem dX6_isOfWatch_19 : decode cX6_isOfWatch 19 = .ok (.iconst 0, 1) := by decide +kernel
theorem dX6_isOfWatch_20 : decode cX6_isOfWatch 20 = .ok (.ireturn, 1) := by decide +kernel
theorem dX6_passDays_0 : decode cX6_passDays 0 = .ok (.iload_n 2, 1) := by decide +kernel
theorem dX6_passDays_1 : decode cX6_passDays 1 = .ok (.ifCond .eq 16, 3) := by decide +kernel
theorem dX6_passDays_4 : decode cX6_passDays 4 = .ok (.aload_n 0, 1) := by decide +kernel
theorem dX6_passDays_5 : decode cX6_passDays 5 = .ok (.dup, 1) := by decide +kernel
theorem dX6_passDays_6 : decode cX6_passDays 6 = .ok (.getfield 21, 3) := by decide +kernel
theorem dX6_passDays_9 : decode cX6_passDays 9 = .ok (.iload_n 1, 1) := by decide +kernel
theorem dX6_passDays_10 : decode cX6_passDays 10 = .ok (.iadd, 1) := by decide +kernel
theorem dX6_passDays_11 : decode cX6_passDays 11 = .ok (.putfield 21, 3) := by decide +kernel
theorem dX6_passDays_14 : decode cX6_passDays 14 = .ok (.goto 13, 3) := by decide +kernel
theorem dX6_passDays_17 : decode cX6_passDays 17 = .ok (.aload_n 0, 1) := by decide +kernel
theorem dX6_passDays_18 : decode cX6_passDays 18 = .ok (.dup, 1) := by decide +kernel
theorem dX6_passDays_19 : decode cX6_passDays 19 = .ok (.getfield 24, 3) := by decide +kernel
theorem dX6_passDays_22 : decode cX6_passDays 22 = .ok (.iload_n 1, 1) := by decide +kernel
theorem dX6_passDays_23 : decode cX6_passDays 23 = .ok (.iadd, 1) := by decide +kernel
theorem dX6_passDays_24 : decode cX6_passDays 24 = .ok (.putfield 24, 3) := by decide +kernel
theorem dX6_passDays_27 : decode cX6_passDays 27 = .ok (.return_, 1) := by decide +kernel
theorem dX6_earned_0 : decode cX6_earned 0 = .ok (.aload_n 0, 1) := by decide +kernel
theorem dX6_earned_1 : decode cX6_earned 1 = .ok (.aload_n 0, 1) := by decide +kernel
theorem dX6_earned_2 : decode cX6_earned 2 = .ok (.getfield 21, 3) := by decide +kernel
theorem dX6_earned_5 : decode cX6_earned 5 = .ok (.aload_n 0, 1) := by decide +kernel
theorem dX6_earned_6 : decode cX6_earned 6 = .ok (.getfield 24, 3) := by decide +kernel
theorem dX6_earned_9 : decode cX6_earned 9 = .ok (.invokevirtual 50, 3) := by decide +kernel
theorem dX6_earned_12 : decode cX6_earned 12 = .ok (.ireturn, 1) := by decide +kernel
theorem dX6_earnedAfter_0 : decode cX6_earnedAfter 0 = .ok (.iload_n 2, 1) := by decide +kernel
theorem dX6_earnedAfter_1 : decode cX6_earnedAfter 1 = .ok (.ifCond .eq 20, 3) := by decide +kernel
theorem dX6_earnedAfter_4 : decode cX6_earnedAfter 4 = .ok (.aload_n 0, 1) := by decide +kernel
theorem dX6_earnedAfter_5 : decode cX6_earnedAfter 5 = .ok (.aload_n 0, 1) := by decide +kernel
theorem dX6_earnedAfter_6 : decode cX6_earnedAfter 6 = .ok (.getfield 21, 3) := by decide +kernel
theorem dX6_earnedAfter_9 : decode cX6_earnedAfter 9 = .ok (.iload_n 1, 1) := by decide +kernel
theorem dX6_earnedAfter_10 : decode cX6_earnedAfter 10 = .ok (.iadd, 1) := by decide +kernel
theorem dX6_earnedAfter_11 : decode cX6_earnedAfter 11 = .ok (.aload_n 0, 1) := by decide +kernel
theorem dX6_earnedAfter_12 : decode cX6_earnedAfter 12 = .ok (.getfield 24, 3) := by decide +kernel
theorem dX6_earnedAfter_15 : decode cX6_earnedAfter 15 = .ok (.invokevirtual 50, 3) := by decide +kernel
theorem dX6_earnedAfter_18 : decode cX6_earnedAfter 18 = .ok (.goto 17, 3) := by decide +kernel
theorem dX6_earnedAfter_21 : decode cX6_earnedAfter 21 = .ok (.aload_n 0, 1) := by decide +kernel
theorem dX6_earnedAfter_22 : decode cX6_earnedAfter 22 = .ok (.aload_n 0, 1) := by decide +kernel
theorem dX6_earnedAfter_23 : decode cX6_earnedAfter 23 = .ok (.getfield 21, 3) := by decide +kernel
theorem dX6_earnedAfter_26 : decode cX6_earnedAfter 26 = .ok (.aload_n 0, 1) := by decide +kernel
theorem dX6_earnedAfter_27 : decode cX6_earnedAfter 27 = .ok (.getfield 24, 3) := by decide +kernel
theorem dX6_earnedAfter_30 : decode cX6_earnedAfter 30 = .ok (.iload_n 1, 1) := by decide +kernel
theorem dX6_earnedAfter_31 : decode cX6_earnedAfter 31 = .ok (.iadd, 1) := by decide +kernel
theorem dX6_earnedAfter_32 : decode cX6_earnedAfter 32 = .ok (.invokevirtual 50, 3) := by decide +kernel
theorem dX6_earnedAfter_35 : decode cX6_earnedAfter 35 = .ok (.ireturn, 1) := by decide +kernel
theorem dX6_wages_0 : decode cX6_wages 0 = .ok (.aload_n 0, 1) := by decide +kernel
theorem dX6_wages_1 : decode cX6_wages 1 = .ok (.getfield 9, 3) := by decide +kernel
theorem dX6_wages_4 : decode cX6_wages 4 = .ok (.tableswitch 53 0 2 #[28, 34, 40], 28) := by decide +kernel
theorem dX6_wages_32 : decode cX6_wages 32 = .ok (.iload_n 1, 1) := by decide +kernel
theorem dX6_wages_33 : decode cX6_wages 33 = .ok (.iload_n 2, 1) := by decide +kernel
theorem dX6_wages_34 : decode cX6_wages 34 = .ok (.iadd, 1) := by decide +kernel
theorem dX6_wages_35 : decode cX6_wages 35 = .ok (.iconst 2, 1) := by decide +kernel
theorem dX6_wages_36 : decode cX6_wages 36 = .ok (.idiv, 1) := by decide +kernel
theorem dX6_wages_37 : decode cX6_wages 37 = .ok (.ireturn, 1) := by decide +kernel
theorem dX6_wages_38 : decode cX6_wages 38 = .ok (.iconst 2, 1) := by decide +kernel
theorem dX6_wages_39 : decode cX6_wages 39 = .ok (.iload_n 1, 1) := by decide +kernel
theorem dX6_wages_40 : decode cX6_wages 40 = .ok (.imul, 1) := by decide +kernel
theorem dX6_wages_41 : decode cX6_wages 41 = .ok (.iload_n 2, 1) := by decide +kernel
theorem dX6_wages_42 : decode cX6_wages 42 = .ok (.iadd, 1) := by decide +kernel
theorem dX6_wages_43 : decode cX6_wages 43 = .ok (.ireturn, 1) := by decide +kernel
theorem dX6_wages_44 : decode cX6_wages 44 = .ok (.iconst 2, 1) := by decide +kernel
theorem dX6_wages_45 : decode cX6_wages 45 = .ok (.iload_n 1, 1) := by decide +kernel
theorem dX6_wages_46 : decode cX6_wages 46 = .ok (.iload_n 2, 1) := by decide +kernel
theorem dX6_wages_47 : decode cX6_wages 47 = .ok (.iadd, 1) := by decide +kernel
theorem dX6_wages_48 : decode cX6_wages 48 = .ok (.imul, 1) := by decide +kernel
theorem dX6_wages_49 : decode cX6_wages 49 = .ok (.iload_n 1, 1) := by decide +kernel
theorem dX6_wages_50 : decode cX6_wages 50 = .ok (.iload_n 2, 1) := by decide +kernel
theorem dX6_wages_51 : decode cX6_wages 51 = .ok (.iadd, 1) := by decide +kernel
theorem dX6_wages_52 : decode cX6_wages 52 = .ok (.bipush 7, 2) := by decide +kernel
theorem dX6_wages_54 : decode cX6_wages 54 = .ok (.idiv, 1) := by decide +kernel
theorem dX6_wages_55 : decode cX6_wages 55 = .ok (.iadd, 1) := by decide +kernel
theorem dX6_wages_56 : decode cX6_wages 56 = .ok (.ireturn, 1) := by decide +kernel
theorem dX6_wages_57 : decode cX6_wages 57 = .ok (.iconst 4, 1) := by decide +kernel
theorem dX6_wages_58 : decode cX6_wages 58 = .ok (.iload_n 1, 1) := by decide +kernel
theorem dX6_wages_59 : decode cX6_wages 59 = .ok (.imul, 1) := by decide +kernel
theorem dX6_wages_60 : decode cX6_wages 60 = .ok (.iconst 2, 1) := by decide +kernel
theorem dX6_wages_61 : decode cX6_wages 61 = .ok (.iload_n 2, 1) := by decide +kernel
theorem dX6_wages_62 : decode cX6_wages 62 = .ok (.imul, 1) := by decide +kernel
theorem dX6_wages_63 : decode cX6_wages 63 = .ok (.iadd, 1) := by decide +kernel
theorem dX6_wages_64 : decode cX6_wages 64 = .ok (.ireturn, 1) := by decide +kernel
theorem dX6_charged_0 : decode cX6_charged 0 = .ok (.aload_n 0, 1) := by decide +kernel
theorem dX6_charged_1 : decode cX6_charged 1 = .ok (.getfield 27, 3) := by decide +kernel
theorem dX6_charged_4 : decode cX6_charged 4 = .ok (.aload_n 0, 1) := by decide +kernel
theorem dX6_charged_5 : decode cX6_charged 5 = .ok (.getfield 30, 3) := by decide +kernel
theorem dX6_charged_8 : decode cX6_charged 8 = .ok (.iadd, 1) := by decide +kernel
theorem dX6_charged_9 : decode cX6_charged 9 = .ok (.aload_n 0, 1) := by decide +kernel
theorem dX6_charged_10 : decode cX6_charged 10 = .ok (.getfield 33, 3) := by decide +kernel
theorem dX6_charged_13 : decode cX6_charged 13 = .ok (.iadd, 1) := by decide +kernel
theorem dX6_charged_14 : decode cX6_charged 14 = .ok (.ireturn, 1) := by decide +kernel
theorem dX6_balance_0 : decode cX6_balance 0 = .ok (.aload_n 0, 1) := by decide +kernel
theorem dX6_balance_1 : decode cX6_balance 1 = .ok (.aload_n 0, 1) := by decide +kernel
theorem dX6_balance_2 : decode cX6_balance 2 = .ok (.getfield 21, 3) := by decide +kernel
theorem dX6_balance_5 : decode cX6_balance 5 = .ok (.aload_n 0, 1) := by decide +kernel
theorem dX6_balance_6 : decode cX6_balance 6 = .ok (.getfield 24, 3) := by decide +kernel
theorem dX6_balance_9 : decode cX6_balance 9 = .ok (.invokevirtual 50, 3) := by decide +kernel
theorem dX6_balance_12 : decode cX6_balance 12 = .ok (.aload_n 0, 1) := by decide +kernel
theorem dX6_balance_13 : decode cX6_balance 13 = .ok (.getfield 36, 3) := by decide +kernel
theorem dX6_balance_16 : decode cX6_balance 16 = .ok (.isub, 1) := by decide +kernel
theorem dX6_balance_17 : decode cX6_balance 17 = .ok (.aload_n 0, 1) := by decide +kernel
theorem dX6_balance_18 : decode cX6_balance 18 = .ok (.invokevirtual 54, 3) := by decide +kernel
theorem dX6_balance_21 : decode cX6_balance 21 = .ok (.isub, 1) := by decide +kernel
theorem dX6_balance_22 : decode cX6_balance 22 = .ok (.ireturn, 1) := by decide +kernel
theorem dX6_couldBeFined_0 : decode cX6_couldBeFined 0 = .ok (.aload_n 0, 1) := by decide +kernel
theorem dX6_couldBeFined_1 : decode cX6_couldBeFined 1 = .ok (.invokevirtual 58, 3) := by decide +kernel
theorem dX6_couldBeFined_4 : decode cX6_couldBeFined 4 = .ok (.iload_n 1, 1) := by decide +kernel
theorem dX6_couldBeFined_5 : decode cX6_couldBeFined 5 = .ok (.isub, 1) := by decide +kernel
theorem dX6_couldBeFined_6 : decode cX6_couldBeFined 6 = .ok (.sipush (-4000), 3) := by decide +kernel
theorem dX6_couldBeFined_9 : decode cX6_couldBeFined 9 = .ok (.if_icmp .lt 7, 3) := by decide +kernel
theorem dX6_couldBeFined_12 : decode cX6_couldBeFined 12 = .ok (.iconst 1, 1) := by decide +kernel
theorem dX6_couldBeFined_13 : decode cX6_couldBeFined 13 = .ok (.goto 4, 3) := by decide +kernel
theorem dX6_couldBeFined_16 : decode cX6_couldBeFined 16 = .ok (.iconst 0, 1) := by decide +kernel
theorem dX6_couldBeFined_17 : decode cX6_couldBeFined 17 = .ok (.ireturn, 1) := by decide +kernel
theorem dX6_tell_0 : decode cX6_tell 0 = .ok (.iload_n 1, 1) := by decide +kernel
theorem dX6_tell_1 : decode cX6_tell 1 = .ok (.tableswitch 131 0 12 #[67, 72, 77, 82, 82, 91, 96, 101, 106, 111, 116, 121, 126], 67) := by decide +kernel
theorem dX6_tell_68 : decode cX6_tell 68 = .ok (.aload_n 0, 1) := by decide +kernel
theorem dX6_tell_69 : decode cX6_tell 69 = .ok (.getfield 9, 3) := by decide +kernel
theorem dX6_tell_72 : decode cX6_tell 72 = .ok (.ireturn, 1) := by decide +kernel
theorem dX6_tell_73 : decode cX6_tell 73 = .ok (.aload_n 0, 1) := by decide +kernel
theorem dX6_tell_74 : decode cX6_tell 74 = .ok (.getfield 15, 3) := by decide +kernel
theorem dX6_tell_77 : decode cX6_tell 77 = .ok (.ireturn, 1) := by decide +kernel
theorem dX6_tell_78 : decode cX6_tell 78 = .ok (.aload_n 0, 1) := by decide +kernel
theorem dX6_tell_79 : decode cX6_tell 79 = .ok (.getfield 18, 3) := by decide +kernel
theorem dX6_tell_82 : decode cX6_tell 82 = .ok (.ireturn, 1) := by decide +kernel
theorem dX6_tell_83 : decode cX6_tell 83 = .ok (.sipush 10000, 3) := by decide +kernel
theorem dX6_tell_86 : decode cX6_tell 86 = .ok (.aload_n 0, 1) := by decide +kernel
theorem dX6_tell_87 : decode cX6_tell 87 = .ok (.invokevirtual 58, 3) := by decide +kernel
theorem dX6_tell_90 : decode cX6_tell 90 = .ok (.iadd, 1) := by decide +kernel
theorem dX6_tell_91 : decode cX6_tell 91 = .ok (.ireturn, 1) := by decide +kernel
theorem dX6_tell_92 : decode cX6_tell 92 = .ok (.aload_n 0, 1) := by decide +kernel
theorem dX6_tell_93 : decode cX6_tell 93 = .ok (.getfield 21, 3) := by decide +kernel
theorem dX6_tell_96 : decode cX6_tell 96 = .ok (.ireturn, 1) := by decide +kernel
theorem dX6_tell_97 : decode cX6_tell 97 = .ok (.aload_n 0, 1) := by decide +kernel
theorem dX6_tell_98 : decode cX6_tell 98 = .ok (.getfield 24, 3) := by decide +kernel
theorem dX6_tell_101 : decode cX6_tell 101 = .ok (.ireturn, 1) := by decide +kernel
theorem dX6_tell_102 : decode cX6_tell 102 = .ok (.aload_n 0, 1) := by decide +kernel
theorem dX6_tell_103 : decode cX6_tell 103 = .ok (.invokevirtual 61, 3) := by decide +kernel
theorem dX6_tell_106 : decode cX6_tell 106 = .ok (.ireturn, 1) := by decide +kernel
theorem dX6_tell_107 : decode cX6_tell 107 = .ok (.aload_n 0, 1) := by decide +kernel
theorem dX6_tell_108 : decode cX6_tell 108 = .ok (.getfield 27, 3) := by decide +kernel
theorem dX6_tell_111 : decode cX6_tell 111 = .ok (.ireturn, 1) := by decide +kernel
theorem dX6_tell_112 : decode cX6_tell 112 = .ok (.aload_n 0, 1) := by decide +kernel
theorem dX6_tell_113 : decode cX6_tell 113 = .ok (.getfield 30, 3) := by decide +kernel
theorem dX6_tell_116 : decode cX6_tell 116 = .ok (.ireturn, 1) := by decide +kernel
theorem dX6_tell_117 : decode cX6_tell 117 = .ok (.aload_n 0, 1) := by decide +kernel
theorem dX6_tell_118 : decode cX6_tell 118 = .ok (.getfield 33, 3) := by decide +kernel
theorem dX6_tell_121 : decode cX6_tell 121 = .ok (.ireturn, 1) := by decide +kernel
theorem dX6_tell_122 : decode cX6_tell 122 = .ok (.aload_n 0, 1) := by decide +kernel
theorem dX6_tell_123 : decode cX6_tell 123 = .ok (.getfield 36, 3) := by decide +kernel
theorem dX6_tell_126 : decode cX6_tell 126 = .ok (.ireturn, 1) := by decide +kernel
theorem dX6_tell_127 : decode cX6_tell 127 = .ok (.aload_n 0, 1) := by decide +kernel
theorem dX6_tell_128 : decode cX6_tell 128 = .ok (.getfield 39, 3) := by decide +kernel
theorem dX6_tell_131 : decode cX6_tell 131 = .ok (.ireturn, 1) := by decide +kernel
theorem dX6_tell_132 : decode cX6_tell 132 = .ok (.ldc 64, 2) := by decide +kernel
theorem dX6_tell_134 : decode cX6_tell 134 = .ok (.ireturn, 1) := by decide +kernel
theorem dX7_init_0 : decode cX7_init 0 = .ok (.aload_n 0, 1) := by decide +kernel
theorem dX7_init_1 : decode cX7_init 1 = .ok (.invokespecial 3, 3) := by decide +kernel
theorem dX7_init_4 : decode cX7_init 4 = .ok (.aload_n 0, 1) := by decide +kernel
theorem dX7_init_5 : decode cX7_init 5 = .ok (.bipush 60, 2) := by decide +kernel
theorem dX7_init_7 : decode cX7_init 7 = .ok (.newarray .int, 2) := by decide +kernel
theorem dX7_init_9 : decode cX7_init 9 = .ok (.putfield 9, 3) := by decide +kernel
theorem dX7_init_12 : decode cX7_init 12 = .ok (.return_, 1) := by decide +kernel
theorem dX8_init_0 : decode cX8_init 0 = .ok (.aload_n 0, 1) := by decide +kernel
theorem dX8_init_1 : decode cX8_init 1 = .ok (.invokespecial 3, 3) := by decide +kernel
theorem dX8_init_4 : decode cX8_init 4 = .ok (.aload_n 0, 1) := by decide +kernel
theorem dX8_init_5 : decode cX8_init 5 = .ok (.sipush 500, 3) := by decide +kernel
theorem dX8_init_8 : decode cX8_init 8 = .ok (.putfield 9, 3) := by decide +kernel
theorem dX8_init_11 : decode cX8_init 11 = .ok (.return_, 1) := by decide +kernel
theorem dX8_copyFrom_0 : decode cX8_copyFrom 0 = .ok (.aload_n 0, 1) := by decide +kernel
theorem dX8_copyFrom_1 : decode cX8_copyFrom 1 = .ok (.aload_n 1, 1) := by decide +kernel
theorem dX8_copyFrom_2 : decode cX8_copyFrom 2 = .ok (.getfield 9, 3) := by decide +kernel
theorem dX8_copyFrom_5 : decode cX8_copyFrom 5 = .ok (.putfield 9, 3) := by decide +kernel
theorem dX8_copyFrom_8 : decode cX8_copyFrom 8 = .ok (.aload_n 0, 1) := by decide +kernel
theorem dX8_copyFrom_9 : decode cX8_copyFrom 9 = .ok (.aload_n 1, 1) := by decide +kernel
theorem dX8_copyFrom_10 : decode cX8_copyFrom 10 = .ok (.getfield 15, 3) := by decide +kernel
theorem dX8_copyFrom_13 : decode cX8_copyFrom 13 = .ok (.putfield 15, 3) := by decide +kernel
theorem dX8_copyFrom_16 : decode cX8_copyFrom 16 = .ok (.aload_n 0, 1) := by decide +kernel
theorem dX8_copyFrom_17 : decode cX8_copyFrom 17 = .ok (.aload_n 1, 1) := by decide +kernel
theorem dX8_copyFrom_18 : decode cX8_copyFrom 18 = .ok (.getfield 18, 3) := by decide +kernel
theorem dX8_copyFrom_21 : decode cX8_copyFrom 21 = .ok (.putfield 18, 3) := by decide +kernel
theorem dX8_copyFrom_24 : decode cX8_copyFrom 24 = .ok (.aload_n 0, 1) := by decide +kernel
theorem dX8_copyFrom_25 : decode cX8_copyFrom 25 = .ok (.aload_n 1, 1) := by decide +kernel
theorem dX8_copyFrom_26 : decode cX8_copyFrom 26 = .ok (.getfield 21, 3) := by decide +kernel
theorem dX8_copyFrom_29 : decode cX8_copyFrom 29 = .ok (.putfield 21, 3) := by decide +kernel
theorem dX8_copyFrom_32 : decode cX8_copyFrom 32 = .ok (.aload_n 0, 1) := by decide +kernel
theorem dX8_copyFrom_33 : decode cX8_copyFrom 33 = .ok (.aload_n 1, 1) := by decide +kernel
theorem dX8_copyFrom_34 : decode cX8_copyFrom 34 = .ok (.getfield 24, 3) := by decide +kernel
theorem dX8_copyFrom_37 : decode cX8_copyFrom 37 = .ok (.putfield 24, 3) := by decide +kernel
theorem dX8_copyFrom_40 : decode cX8_copyFrom 40 = .ok (.aload_n 0, 1) := by decide +kernel
theorem dX8_copyFrom_41 : decode cX8_copyFrom 41 = .ok (.aload_n 1, 1) := by decide +kernel
theorem dX8_copyFrom_42 : decode cX8_copyFrom 42 = .ok (.getfield 27, 3) := by decide +kernel
theorem dX8_copyFrom_45 : decode cX8_copyFrom 45 = .ok (.putfield 27, 3) := by decide +kernel
theorem dX8_copyFrom_48 : decode cX8_copyFrom 48 = .ok (.aload_n 0, 1) := by decide +kernel
theorem dX8_copyFrom_49 : decode cX8_copyFrom 49 = .ok (.aload_n 1, 1) := by decide +kernel
theorem dX8_copyFrom_50 : decode cX8_copyFrom 50 = .ok (.getfield 30, 3) := by decide +kernel
theorem dX8_copyFrom_53 : decode cX8_copyFrom 53 = .ok (.putfield 30, 3) := by decide +kernel
theorem dX8_copyFrom_56 : decode cX8_copyFrom 56 = .ok (.aload_n 0, 1) := by decide +kernel
theorem dX8_copyFrom_57 : decode cX8_copyFrom 57 = .ok (.aload_n 1, 1) := by decide +kernel
theorem dX8_copyFrom_58 : decode cX8_copyFrom 58 = .ok (.getfield 33, 3) := by decide +kernel
theorem dX8_copyFrom_61 : decode cX8_copyFrom 61 = .ok (.putfield 33, 3) := by decide +kernel
theorem dX8_copyFrom_64 : decode cX8_copyFrom 64 = .ok (.return_, 1) := by decide +kernel
theorem dX8_missingFor_0 : decode cX8_missingFor 0 = .ok (.iload_n 1, 1) := by decide +kernel
theorem dX8_missingFor_1 : decode cX8_missingFor 1 = .ok (.aload_n 0, 1) := by decide +kernel
theorem dX8_missingFor_2 : decode cX8_missingFor 2 = .ok (.getfield 9, 3) := by decide +kernel
theorem dX8_missingFor_5 : decode cX8_missingFor 5 = .ok (.if_icmp .le 12, 3) := by decide +kernel
theorem dX8_missingFor_8 : decode cX8_missingFor 8 = .ok (.iload_n 1, 1) := by decide +kernel
theorem dX8_missingFor_9 : decode cX8_missingFor 9 = .ok (.aload_n 0, 1) := by decide +kernel
theorem dX8_missingFor_10 : decode cX8_missingFor 10 = .ok (.getfield 9, 3) := by decide +kernel
theorem dX8_missingFor_13 : decode cX8_missingFor 13 = .ok (.isub, 1) := by decide +kernel
theorem dX8_missingFor_14 : decode cX8_missingFor 14 = .ok (.goto 4, 3) := by decide +kernel
theorem dX8_missingFor_17 : decode cX8_missingFor 17 = .ok (.iconst 0, 1) := by decide +kernel
theorem dX8_missingFor_18 : decode cX8_missingFor 18 = .ok (.ireturn, 1) := by decide +kernel
theorem dX8_takeCash_0 : decode cX8_takeCash 0 = .ok (.aload_n 0, 1) := by decide +kernel
theorem dX8_takeCash_1 : decode cX8_takeCash 1 = .ok (.iload_n 1, 1) := by decide +kernel
theorem dX8_takeCash_2 : decode cX8_takeCash 2 = .ok (.invokevirtual 36, 3) := by decide +kernel
theorem dX8_takeCash_5 : decode cX8_takeCash 5 = .ok (.istore_n 2, 1) := by decide +kernel
theorem dX8_takeCash_6 : decode cX8_takeCash 6 = .ok (.aload_n 0, 1) := by decide +kernel
theorem dX8_takeCash_7 : decode cX8_takeCash 7 = .ok (.dup, 1) := by decide +kernel
theorem dX8_takeCash_8 : decode cX8_takeCash 8 = .ok (.getfield 15, 3) := by decide +kernel
theorem dX8_takeCash_11 : decode cX8_takeCash 11 = .ok (.iload_n 2, 1) := by decide +kernel
theorem dX8_takeCash_12 : decode cX8_takeCash 12 = .ok (.iadd, 1) := by decide +kernel
theorem dX8_takeCash_13 : decode cX8_takeCash 13 = .ok (.putfield 15, 3) := by decide +kernel
theorem dX8_takeCash_16 : decode cX8_takeCash 16 = .ok (.aload_n 0, 1) := by decide +kernel
theorem dX8_takeCash_17 : decode cX8_takeCash 17 = .ok (.dup, 1) := by decide +kernel
theorem dX8_takeCash_18 : decode cX8_takeCash 18 = .ok (.getfield 9, 3) := by decide +kernel
theorem dX8_takeCash_21 : decode cX8_takeCash 21 = .ok (.iload_n 2, 1) := by decide +kernel
theorem dX8_takeCash_22 : decode cX8_takeCash 22 = .ok (.iload_n 1, 1) := by decide +kernel
theorem dX8_takeCash_23 : decode cX8_takeCash 23 = .ok (.isub, 1) := by decide +kernel
theorem dX8_takeCash_24 : decode cX8_takeCash 24 = .ok (.iadd, 1) := by decide +kernel
theorem dX8_takeCash_25 : decode cX8_takeCash 25 = .ok (.putfield 9, 3) := by decide +kernel
theorem dX8_takeCash_28 : decode cX8_takeCash 28 = .ok (.return_, 1) := by decide +kernel
theorem dX9_init_0 : decode cX9_init 0 = .ok (.aload_n 0, 1) := by decide +kernel
theorem dX9_init_1 : decode cX9_init 1 = .ok (.invokespecial 1, 3) := by decide +kernel
theorem dX9_init_4 : decode cX9_init 4 = .ok (.aload_n 0, 1) := by decide +kernel
theorem dX9_init_5 : decode cX9_init 5 = .ok (.new 7, 3) := by decide +kernel
theorem dX9_init_8 : decode cX9_init 8 = .ok (.dup, 1) := by decide +kernel
theorem dX9_init_9 : decode cX9_init 9 = .ok (.invokespecial 9, 3) := by decide +kernel
theorem dX9_init_12 : decode cX9_init 12 = .ok (.putfield 10, 3) := by decide +kernel
theorem dX9_init_15 : decode cX9_init 15 = .ok (.aload_n 0, 1) := by decide +kernel
theorem dX9_init_16 : decode cX9_init 16 = .ok (.new 7, 3) := by decide +kernel
theorem dX9_init_19 : decode cX9_init 19 = .ok (.dup, 1) := by decide +kernel
theorem dX9_init_20 : decode cX9_init 20 = .ok (.invokespecial 9, 3) := by decide +kernel
theorem dX9_init_23 : decode cX9_init 23 = .ok (.putfield 16, 3) := by decide +kernel
theorem dX9_init_26 : decode cX9_init 26 = .ok (.aload_n 0, 1) := by decide +kernel
theorem dX9_init_27 : decode cX9_init 27 = .ok (.new 19, 3) := by decide +kernel
theorem dX9_init_30 : decode cX9_init 30 = .ok (.dup, 1) := by decide +kernel
theorem dX9_init_31 : decode cX9_init 31 = .ok (.invokespecial 21, 3) := by decide +kernel
theorem dX9_init_34 : decode cX9_init 34 = .ok (.putfield 22, 3) := by decide +kernel
theorem dX9_init_37 : decode cX9_init 37 = .ok (.aload_n 0, 1) := by decide +kernel
theorem dX9_init_38 : decode cX9_init 38 = .ok (.new 26, 3) := by decide +kernel
theorem dX9_init_41 : decode cX9_init 41 = .ok (.dup, 1) := by decide +kernel
theorem dX9_init_42 : decode cX9_init 42 = .ok (.invokespecial 28, 3) := by decide +kernel
theorem dX9_init_45 : decode cX9_init 45 = .ok (.putfield 29, 3) := by decide +kernel
theorem dX9_init_48 : decode cX9_init 48 = .ok (.aload_n 0, 1) := by decide +kernel
theorem dX9_init_49 : decode cX9_init 49 = .ok (.new 33, 3) := by decide +kernel
theorem dX9_init_52 : decode cX9_init 52 = .ok (.dup, 1) := by decide +kernel
theorem dX9_init_53 : decode cX9_init 53 = .ok (.invokespecial 35, 3) := by decide +kernel
theorem dX9_init_56 : decode cX9_init 56 = .ok (.putfield 36, 3) := by decide +kernel
theorem dX9_init_59 : decode cX9_init 59 = .ok (.return_, 1) := by decide +kernel
theorem dX9_sign_0 : decode cX9_sign 0 = .ok (.aload_n 0, 1) := by decide +kernel
theorem dX9_sign_1 : decode cX9_sign 1 = .ok (.aload_n 0, 1) := by decide +kernel
theorem dX9_sign_2 : decode cX9_sign 2 = .ok (.invokevirtual 40, 3) := by decide +kernel
theorem dX9_sign_5 : decode cX9_sign 5 = .ok (.iload_n 1, 1) := by decide +kernel
theorem dX9_sign_6 : decode cX9_sign 6 = .ok (.iload_n 2, 1) := by decide +kernel
theorem dX9_sign_7 : decode cX9_sign 7 = .ok (.invokevirtual 44, 3) := by decide +kernel
theorem dX9_sign_10 : decode cX9_sign 10 = .ok (.invokevirtual 48, 3) := by decide +kernel
theorem dX9_sign_13 : decode cX9_sign 13 = .ok (.ireturn, 1) := by decide +kernel
theorem dX9_stock_0 : decode cX9_stock 0 = .ok (.aload_n 0, 1) := by decide +kernel
theorem dX9_stock_1 : decode cX9_stock 1 = .ok (.aload_n 0, 1) := by decide +kernel
theorem dX9_stock_2 : decode cX9_stock 2 = .ok (.invokevirtual 40, 3) := by decide +kernel
theorem dX9_stock_5 : decode cX9_stock 5 = .ok (.iload_n 1, 1) := by decide +kernel
theorem dX9_stock_6 : decode cX9_stock 6 = .ok (.iload_n 2, 1) := by decide +kernel
theorem dX9_stock_7 : decode cX9_stock 7 = .ok (.iload_n 3, 1) := by decide +kernel
theorem dX9_stock_8 : decode cX9_stock 8 = .ok (.invokevirtual 52, 3) := by decide +kernel
theorem dX9_stock_11 : decode cX9_stock 11 = .ok (.invokevirtual 48, 3) := by decide +kernel
theorem dX9_stock_14 : decode cX9_stock 14 = .ok (.ireturn, 1) := by decide +kernel
theorem dX9_sell_0 : decode cX9_sell 0 = .ok (.aload_n 0, 1) := by decide +kernel
theorem dX9_sell_1 : decode cX9_sell 1 = .ok (.aload_n 0, 1) := by decide +kernel
theorem dX9_sell_2 : decode cX9_sell 2 = .ok (.invokevirtual 40, 3) := by decide +kernel
theorem dX9_sell_5 : decode cX9_sell 5 = .ok (.iload_n 1, 1) := by decide +kernel
theorem dX9_sell_6 : decode cX9_sell 6 = .ok (.iload_n 2, 1) := by decide +kernel
theorem dX9_sell_7 : decode cX9_sell 7 = .ok (.iload_n 3, 1) := by decide +kernel
theorem dX9_sell_8 : decode cX9_sell 8 = .ok (.invokevirtual 56, 3) := by decide +kernel
theorem dX9_sell_11 : decode cX9_sell 11 = .ok (.invokevirtual 48, 3) := by decide +kernel
theorem dX9_sell_14 : decode cX9_sell 14 = .ok (.ireturn, 1) := by decide +kernel
theorem dX9_advance_0 : decode cX9_advance 0 = .ok (.aload_n 0, 1) := by decide +kernel
theorem dX9_advance_1 : decode cX9_advance 1 = .ok (.aload_n 0, 1) := by decide +kernel
theorem dX9_advance_2 : decode cX9_advance 2 = .ok (.invokevirtual 40, 3) := by decide +kernel
theorem dX9_advance_5 : decode cX9_advance 5 = .ok (.iload_n 1, 1) := by decide +kernel
theorem dX9_advance_6 : decode cX9_advance 6 = .ok (.iload_n 2, 1) := by decide +kernel
theorem dX9_advance_7 : decode cX9_advance 7 = .ok (.invokevirtual 59, 3) := by decide +kernel
theorem dX9_advance_10 : decode cX9_advance 10 = .ok (.invokevirtual 48, 3) := by decide +kernel
theorem dX9_advance_13 : decode cX9_advance 13 = .ok (.ireturn, 1) := by decide +kernel
theorem dX9_fine_0 : decode cX9_fine 0 = .ok (.aload_n 0, 1) := by decide +kernel
theorem dX9_fine_1 : decode cX9_fine 1 = .ok (.aload_n 0, 1) := by decide +kernel
theorem dX9_fine_2 : decode cX9_fine 2 = .ok (.invokevirtual 40, 3) := by decide +kernel
theorem dX9_fine_5 : decode cX9_fine 5 = .ok (.iload_n 1, 1) := by decide +kernel
theorem dX9_fine_6 : decode cX9_fine 6 = .ok (.iload_n 2, 1) := by decide +kernel
theorem dX9_fine_7 : decode cX9_fine 7 = .ok (.invokevirtual 62, 3) := by decide +kernel
theorem dX9_fine_10 : decode cX9_fine 10 = .ok (.invokevirtual 48, 3) := by decide +kernel
theorem dX9_fine_13 : decode cX9_fine 13 = .ok (.ireturn, 1) := by decide +kernel
theorem dX9_fineWatch_0 : decode cX9_fineWatch 0 = .ok (.aload_n 0, 1) := by decide +kernel
theorem dX9_fineWatch_1 : decode cX9_fineWatch 1 = .ok (.aload_n 0, 1) := by decide +kernel
theorem dX9_fineWatch_2 : decode cX9_fineWatch 2 = .ok (.invokevirtual 40, 3) := by decide +kernel
theorem dX9_fineWatch_5 : decode cX9_fineWatch 5 = .ok (.iload_n 1, 1) := by decide +kernel
theorem dX9_fineWatch_6 : decode cX9_fineWatch 6 = .ok (.iload_n 2, 1) := by decide +kernel
theorem dX9_fineWatch_7 : decode cX9_fineWatch 7 = .ok (.invokevirtual 65, 3) := by decide +kernel
theorem dX9_fineWatch_10 : decode cX9_fineWatch 10 = .ok (.invokevirtual 48, 3) := by decide +kernel
theorem dX9_fineWatch_13 : decode cX9_fineWatch 13 = .ok (.ireturn, 1) := by decide +kernel
theorem dX9_leave_0 : decode cX9_leave 0 = .ok (.aload_n 0, 1) := by decide +kernel
theorem dX9_leave_1 : decode cX9_leave 1 = .ok (.aload_n 0, 1) := by decide +kernel
theorem dX9_leave_2 : decode cX9_leave 2 = .ok (.invokevirtual 40, 3) := by decide +kernel
theorem dX9_leave_5 : decode cX9_leave 5 = .ok (.iload_n 1, 1) := by decide +kernel
theorem dX9_leave_6 : decode cX9_leave 6 = .ok (.invokevirtual 68, 3) := by decide +kernel
theorem dX9_leave_9 : decode cX9_leave 9 = .ok (.invokevirtual 48, 3) := by decide +kernel
theorem dX9_leave_12 : decode cX9_leave 12 = .ok (.ireturn, 1) := by decide +kernel
theorem dX9_back_0 : decode cX9_back 0 = .ok (.aload_n 0, 1) := by decide +kernel
theorem dX9_back_1 : decode cX9_back 1 = .ok (.aload_n 0, 1) := by decide +kernel
theorem dX9_back_2 : decode cX9_back 2 = .ok (.invokevirtual 40, 3) := by decide +kernel
theorem dX9_back_5 : decode cX9_back 5 = .ok (.iload_n 1, 1) := by decide +kernel
theorem dX9_back_6 : decode cX9_back 6 = .ok (.iload_n 2, 1) := by decide +kernel
theorem dX9_back_7 : decode cX9_back 7 = .ok (.invokevirtual 71, 3) := by decide +kernel
theorem dX9_back_10 : decode cX9_back 10 = .ok (.invokevirtual 48, 3) := by decide +kernel
theorem dX9_back_13 : decode cX9_back 13 = .ok (.ireturn, 1) := by decide +kernel
theorem dX9_sail_0 : decode cX9_sail 0 = .ok (.aload_n 0, 1) := by decide +kernel
theorem dX9_sail_1 : decode cX9_sail 1 = .ok (.aload_n 0, 1) := by decide +kernel
theorem dX9_sail_2 : decode cX9_sail 2 = .ok (.invokevirtual 40, 3) := by decide +kernel
theorem dX9_sail_5 : decode cX9_sail 5 = .ok (.invokevirtual 74, 3) := by decide +kernel
theorem dX9_sail_8 : decode cX9_sail 8 = .ok (.invokevirtual 48, 3) := by decide +kernel
theorem dX9_sail_11 : decode cX9_sail 11 = .ok (.ireturn, 1) := by decide +kernel
theorem dX9_port_0 : decode cX9_port 0 = .ok (.aload_n 0, 1) := by decide +kernel
theorem dX9_port_1 : decode cX9_port 1 = .ok (.aload_n 0, 1) := by decide +kernel
theorem dX9_port_2 : decode cX9_port 2 = .ok (.invokevirtual 40, 3) := by decide +kernel
theorem dX9_port_5 : decode cX9_port 5 = .ok (.invokevirtual 78, 3) := by decide +kernel
theorem dX9_port_8 : decode cX9_port 8 = .ok (.invokevirtual 48, 3) := by decide +kernel
theorem dX9_port_11 : decode cX9_port 11 = .ok (.ireturn, 1) := by decide +kernel
theorem dX9_days_0 : decode cX9_days 0 = .ok (.aload_n 0, 1) := by decide +kernel
theorem dX9_days_1 : decode cX9_days 1 = .ok (.aload_n 0, 1) := by decide +kernel
theorem dX9_days_2 : decode cX9_days 2 = .ok (.invokevirtual 40, 3) := by decide +kernel
theorem dX9_days_5 : decode cX9_days 5 = .ok (.iload_n 1, 1) := by decide +kernel
theorem dX9_days_6 : decode cX9_days 6 = .ok (.invokevirtual 81, 3) := by decide +kernel
theorem dX9_days_9 : decode cX9_days 9 = .ok (.invokevirtual 48, 3) := by decide +kernel
theorem dX9_days_12 : decode cX9_days 12 = .ok (.ireturn, 1) := by decide +kernel
theorem dX9_dismiss_0 : decode cX9_dismiss 0 = .ok (.aload_n 0, 1) := by decide +kernel
theorem dX9_dismiss_1 : decode cX9_dismiss 1 = .ok (.aload_n 0, 1) := by decide +kernel
theorem dX9_dismiss_2 : decode cX9_dismiss 2 = .ok (.invokevirtual 40, 3) := by decide +kernel
theorem dX9_dismiss_5 : decode cX9_dismiss 5 = .ok (.iload_n 1, 1) := by decide +kernel
theorem dX9_dismiss_6 : decode cX9_dismiss 6 = .ok (.invokevirtual 84, 3) := by decide +kernel
theorem dX9_dismiss_9 : decode cX9_dismiss 9 = .ok (.invokevirtual 48, 3) := by decide +kernel
theorem dX9_dismiss_12 : decode cX9_dismiss 12 = .ok (.ireturn, 1) := by decide +kernel
theorem dX9_payOff_0 : decode cX9_payOff 0 = .ok (.aload_n 0, 1) := by decide +kernel
theorem dX9_payOff_1 : decode cX9_payOff 1 = .ok (.aload_n 0, 1) := by decide +kernel
theorem dX9_payOff_2 : decode cX9_payOff 2 = .ok (.invokevirtual 40, 3) := by decide +kernel
theorem dX9_payOff_5 : decode cX9_payOff 5 = .ok (.invokevirtual 87, 3) := by decide +kernel
theorem dX9_payOff_8 : decode cX9_payOff 8 = .ok (.invokevirtual 48, 3) := by decide +kernel
theorem dX9_payOff_11 : decode cX9_payOff 11 = .ok (.ireturn, 1) := by decide +kernel
theorem dX9_set_0 : decode cX9_set 0 = .ok (.aload_n 0, 1) := by decide +kernel
theorem dX9_set_1 : decode cX9_set 1 = .ok (.aload_n 0, 1) := by decide +kernel
theorem dX9_set_2 : decode cX9_set 2 = .ok (.invokevirtual 40, 3) := by decide +kernel
theorem dX9_set_5 : decode cX9_set 5 = .ok (.iload_n 1, 1) := by decide +kernel
theorem dX9_set_6 : decode cX9_set 6 = .ok (.iload_n 2, 1) := by decide +kernel
theorem dX9_set_7 : decode cX9_set 7 = .ok (.invokevirtual 90, 3) := by decide +kernel
theorem dX9_set_10 : decode cX9_set 10 = .ok (.invokevirtual 48, 3) := by decide +kernel
theorem dX9_set_13 : decode cX9_set 13 = .ok (.ireturn, 1) := by decide +kernel
theorem dX9_sailor_0 : decode cX9_sailor 0 = .ok (.aload_n 0, 1) := by decide +kernel
theorem dX9_sailor_1 : decode cX9_sailor 1 = .ok (.getfield 10, 3) := by decide +kernel
theorem dX9_sailor_4 : decode cX9_sailor 4 = .ok (.iload_n 1, 1) := by decide +kernel
theorem dX9_sailor_5 : decode cX9_sailor 5 = .ok (.invokevirtual 93, 3) := by decide +kernel
theorem dX9_sailor_8 : decode cX9_sailor 8 = .ok (.astore_n 3, 1) := by decide +kernel
theorem dX9_sailor_9 : decode cX9_sailor 9 = .ok (.aload_n 3, 1) := by decide +kernel
theorem dX9_sailor_10 : decode cX9_sailor 10 = .ok (.ifnonnull 8, 3) := by decide +kernel
theorem dX9_sailor_13 : decode cX9_sailor 13 = .ok (.ldc 97, 2) := by decide +kernel
theorem dX9_sailor_15 : decode cX9_sailor 15 = .ok (.goto 8, 3) := by decide +kernel
theorem dX9_sailor_18 : decode cX9_sailor 18 = .ok (.aload_n 3, 1) := by decide +kernel
theorem dX9_sailor_19 : decode cX9_sailor 19 = .ok (.iload_n 2, 1) := by decide +kernel
theorem dX9_sailor_20 : decode cX9_sailor 20 = .ok (.invokevirtual 98, 3) := by decide +kernel
theorem dX9_sailor_23 : decode cX9_sailor 23 = .ok (.ireturn, 1) := by decide +kernel
theorem dX9_item_0 : decode cX9_item 0 = .ok (.aload_n 0, 1) := by decide +kernel
theorem dX9_item_1 : decode cX9_item 1 = .ok (.getfield 10, 3) := by decide +kernel
theorem dX9_item_4 : decode cX9_item 4 = .ok (.iload_n 1, 1) := by decide +kernel
theorem dX9_item_5 : decode cX9_item 5 = .ok (.invokevirtual 103, 3) := by decide +kernel
theorem dX9_item_8 : decode cX9_item 8 = .ok (.astore_n 3, 1) := by decide +kernel
theorem dX9_item_9 : decode cX9_item 9 = .ok (.aload_n 3, 1) := by decide +kernel
theorem dX9_item_10 : decode cX9_item 10 = .ok (.ifnonnull 8, 3) := by decide +kernel
theorem dX9_item_13 : decode cX9_item 13 = .ok (.ldc 97, 2) := by decide +kernel
theorem dX9_item_15 : decode cX9_item 15 = .ok (.goto 8, 3) := by decide +kernel
theorem dX9_item_18 : decode cX9_item 18 = .ok (.aload_n 3, 1) := by decide +kernel
theorem dX9_item_19 : decode cX9_item 19 = .ok (.iload_n 2, 1) := by decide +kernel
theorem dX9_item_20 : decode cX9_item 20 = .ok (.invokevirtual 107, 3) := by decide +kernel
theorem dX9_item_23 : decode cX9_item 23 = .ok (.ireturn, 1) := by decide +kernel
theorem dX9_book_0 : decode cX9_book 0 = .ok (.aload_n 0, 1) := by decide +kernel
theorem dX9_book_1 : decode cX9_book 1 = .ok (.getfield 10, 3) := by decide +kernel
theorem dX9_book_4 : decode cX9_book 4 = .ok (.getfield 110, 3) := by decide +kernel
theorem dX9_book_7 : decode cX9_book 7 = .ok (.iload_n 1, 1) := by decide +kernel
theorem dX9_book_8 : decode cX9_book 8 = .ok (.iload_n 2, 1) := by decide +kernel
theorem dX9_book_9 : decode cX9_book 9 = .ok (.invokevirtual 114, 3) := by decide +kernel
theorem dX9_book_12 : decode cX9_book 12 = .ok (.ireturn, 1) := by decide +kernel
theorem dX9_why_0 : decode cX9_why 0 = .ok (.aload_n 0, 1) := by decide +kernel
theorem dX9_why_1 : decode cX9_why 1 = .ok (.getfield 10, 3) := by decide +kernel
theorem dX9_why_4 : decode cX9_why 4 = .ok (.iload_n 1, 1) := by decide +kernel
theorem dX9_why_5 : decode cX9_why 5 = .ok (.iload_n 2, 1) := by decide +kernel
theorem dX9_why_6 : decode cX9_why 6 = .ok (.iload_n 3, 1) := by decide +kernel
theorem dX9_why_7 : decode cX9_why 7 = .ok (.invokevirtual 118, 3) := by decide +kernel
theorem dX9_why_10 : decode cX9_why 10 = .ok (.ireturn, 1) := by decide +kernel
theorem dX9_most_0 : decode cX9_most 0 = .ok (.aload_n 0, 1) := by decide +kernel
theorem dX9_most_1 : decode cX9_most 1 = .ok (.getfield 10, 3) := by decide +kernel
theorem dX9_most_4 : decode cX9_most 4 = .ok (.iload_n 1, 1) := by decide +kernel
theorem dX9_most_5 : decode cX9_most 5 = .ok (.iload_n 2, 1) := by decide +kernel
theorem dX9_most_6 : decode cX9_most 6 = .ok (.invokevirtual 121, 3) := by decide +kernel
theorem dX9_most_9 : decode cX9_most 9 = .ok (.ireturn, 1) := by decide +kernel
theorem dX9_clearIn_0 : decode cX9_clearIn 0 = .ok (.aload_n 0, 1) := by decide +kernel
theorem dX9_clearIn_1 : decode cX9_clearIn 1 = .ok (.getfield 10, 3) := by decide +kernel
theorem dX9_clearIn_4 : decode cX9_clearIn 4 = .ok (.iload_n 1, 1) := by decide +kernel
theorem dX9_clearIn_5 : decode cX9_clearIn 5 = .ok (.invokevirtual 124, 3) := by decide +kernel
theorem dX9_clearIn_8 : decode cX9_clearIn 8 = .ok (.ireturn, 1) := by decide +kernel
theorem dX9_ifPaidOff_0 : decode cX9_ifPaidOff 0 = .ok (.aload_n 0, 1) := by decide +kernel
theorem dX9_ifPaidOff_1 : decode cX9_ifPaidOff 1 = .ok (.getfield 10, 3) := by decide +kernel
theorem dX9_ifPaidOff_4 : decode cX9_ifPaidOff 4 = .ok (.iload_n 1, 1) := by decide +kernel
theorem dX9_ifPaidOff_5 : decode cX9_ifPaidOff 5 = .ok (.invokevirtual 127, 3) := by decide +kernel
theorem dX9_ifPaidOff_8 : decode cX9_ifPaidOff 8 = .ok (.ireturn, 1) := by decide +kernel
theorem dX9_poorest_0 : decode cX9_poorest 0 = .ok (.aload_n 0, 1) := by decide +kernel
theorem dX9_poorest_1 : decode cX9_poorest 1 = .ok (.getfield 10, 3) := by decide +kernel
theorem dX9_poorest_4 : decode cX9_poorest 4 = .ok (.iload_n 1, 1) := by decide +kernel
theorem dX9_poorest_5 : decode cX9_poorest 5 = .ok (.invokevirtual 130, 3) := by decide +kernel
theorem dX9_poorest_8 : decode cX9_poorest 8 = .ok (.ireturn, 1) := by decide +kernel
theorem dX9_share_0 : decode cX9_share 0 = .ok (.aload_n 0, 1) := by decide +kernel
theorem dX9_share_1 : decode cX9_share 1 = .ok (.getfield 10, 3) := by decide +kernel
theorem dX9_share_4 : decode cX9_share 4 = .ok (.invokevirtual 133, 3) := by decide +kernel
theorem dX9_share_7 : decode cX9_share 7 = .ok (.ireturn, 1) := by decide +kernel
theorem dX9_count_0 : decode cX9_count 0 = .ok (.iload_n 1, 1) := by decide +kernel
theorem dX9_count_1 : decode cX9_count 1 = .ok (.bipush 17, 2) := by decide +kernel
theorem dX9_count_3 : decode cX9_count 3 = .ok (.if_icmp .ne 11, 3) := by decide +kernel
theorem dX9_count_6 : decode cX9_count 6 = .ok (.aload_n 0, 1) := by decide +kernel
theorem dX9_count_7 : decode cX9_count 7 = .ok (.getfield 22, 3) := by decide +kernel
theorem dX9_count_10 : decode cX9_count 10 = .ok (.getfield 136, 3) := by decide +kernel
theorem dX9_count_13 : decode cX9_count 13 = .ok (.ireturn, 1) := by decide +kernel
theorem dX9_count_14 : decode cX9_count 14 = .ok (.iload_n 1, 1) := by decide +kernel
theorem dX9_count_15 : decode cX9_count 15 = .ok (.bipush 18, 2) := by decide +kernel
theorem dX9_count_17 : decode cX9_count 17 = .ok (.if_icmp .ne 11, 3) := by decide +kernel
theorem dX9_count_20 : decode cX9_count 20 = .ok (.aload_n 0, 1) := by decide +kernel
theorem dX9_count_21 : decode cX9_count 21 = .ok (.getfield 29, 3) := by decide +kernel
theorem dX9_count_24 : decode cX9_count 24 = .ok (.getfield 140, 3) := by decide +kernel
theorem dX9_count_27 : decode cX9_count 27 = .ok (.ireturn, 1) := by decide +kernel
theorem dX9_count_28 : decode cX9_count 28 = .ok (.aload_n 0, 1) := by decide +kernel
theorem dX9_count_29 : decode cX9_count 29 = .ok (.getfield 10, 3) := by decide +kernel
theorem dX9_count_32 : decode cX9_count 32 = .ok (.iload_n 1, 1) := by decide +kernel
theorem dX9_count_33 : decode cX9_count 33 = .ok (.invokevirtual 143, 3) := by decide +kernel
theorem dX9_count_36 : decode cX9_count 36 = .ok (.ireturn, 1) := by decide +kernel
theorem dX9_undo_0 : decode cX9_undo 0 = .ok (.aload_n 0, 1) := by decide +kernel
theorem dX9_undo_1 : decode cX9_undo 1 = .ok (.getfield 22, 3) := by decide +kernel
theorem dX9_undo_4 : decode cX9_undo 4 = .ok (.aload_n 0, 1) := by decide +kernel
theorem dX9_undo_5 : decode cX9_undo 5 = .ok (.getfield 10, 3) := by decide +kernel
theorem dX9_undo_8 : decode cX9_undo 8 = .ok (.invokevirtual 144, 3) := by decide +kernel
theorem dX9_undo_11 : decode cX9_undo 11 = .ok (.ireturn, 1) := by decide +kernel
theorem dX9_newTrial_0 : decode cX9_newTrial 0 = .ok (.aload_n 0, 1) := by decide +kernel
theorem dX9_newTrial_1 : decode cX9_newTrial 1 = .ok (.getfield 16, 3) := by decide +kernel
theorem dX9_newTrial_4 : decode cX9_newTrial 4 = .ok (.aload_n 0, 1) := by decide +kernel
theorem dX9_newTrial_5 : decode cX9_newTrial 5 = .ok (.getfield 10, 3) := by decide +kernel
theorem dX9_newTrial_8 : decode cX9_newTrial 8 = .ok (.invokevirtual 173, 3) := by decide +kernel
theorem dX9_newTrial_11 : decode cX9_newTrial 11 = .ok (.aload_n 0, 1) := by decide +kernel
theorem dX9_newTrial_12 : decode cX9_newTrial 12 = .ok (.getfield 16, 3) := by decide +kernel
theorem dX9_newTrial_15 : decode cX9_newTrial 15 = .ok (.areturn, 1) := by decide +kernel
theorem dX9_settleTrial_0 : decode cX9_settleTrial 0 = .ok (.iload_n 1, 1) := by decide +kernel
theorem dX9_settleTrial_1 : decode cX9_settleTrial 1 = .ok (.ifCond .lt 25, 3) := by decide +kernel
theorem dX9_settleTrial_4 : decode cX9_settleTrial 4 = .ok (.aload_n 0, 1) := by decide +kernel
theorem dX9_settleTrial_5 : decode cX9_settleTrial 5 = .ok (.getfield 22, 3) := by decide +kernel
theorem dX9_settleTrial_8 : decode cX9_settleTrial 8 = .ok (.aload_n 0, 1) := by decide +kernel
theorem dX9_settleTrial_9 : decode cX9_settleTrial 9 = .ok (.getfield 10, 3) := by decide +kernel
theorem dX9_settleTrial_12 : decode cX9_settleTrial 12 = .ok (.invokevirtual 177, 3) := by decide +kernel
theorem dX9_settleTrial_15 : decode cX9_settleTrial 15 = .ok (.aload_n 0, 1) := by decide +kernel
theorem dX9_settleTrial_16 : decode cX9_settleTrial 16 = .ok (.getfield 10, 3) := by decide +kernel
theorem dX9_settleTrial_19 : decode cX9_settleTrial 19 = .ok (.aload_n 0, 1) := by decide +kernel
theorem dX9_settleTrial_20 : decode cX9_settleTrial 20 = .ok (.getfield 16, 3) := by decide +kernel
theorem dX9_settleTrial_23 : decode cX9_settleTrial 23 = .ok (.invokevirtual 173, 3) := by decide +kernel
theorem dX9_settleTrial_26 : decode cX9_settleTrial 26 = .ok (.iload_n 1, 1) := by decide +kernel
theorem dX9_settleTrial_27 : decode cX9_settleTrial 27 = .ok (.ireturn, 1) := by decide +kernel
theorem dX9_within_0 : decode cX9_within 0 = .ok (.iload_n 0, 1) := by decide +kernel
theorem dX9_within_1 : decode cX9_within 1 = .ok (.iload_n 1, 1) := by decide +kernel
theorem dX9_within_2 : decode cX9_within 2 = .ok (.if_icmp .lt 12, 3) := by decide +kernel
theorem dX9_within_5 : decode cX9_within 5 = .ok (.iload_n 0, 1) := by decide +kernel
theorem dX9_within_6 : decode cX9_within 6 = .ok (.iload_n 2, 1) := by decide +kernel
theorem dX9_within_7 : decode cX9_within 7 = .ok (.if_icmp .gt 7, 3) := by decide +kernel
theorem dX9_within_10 : decode cX9_within 10 = .ok (.iconst 1, 1) := by decide +kernel
theorem dX9_within_11 : decode cX9_within 11 = .ok (.goto 4, 3) := by decide +kernel
theorem dX9_within_14 : decode cX9_within 14 = .ok (.iconst 0, 1) := by decide +kernel
theorem dX9_within_15 : decode cX9_within 15 = .ok (.ireturn, 1) := by decide +kernel
theorem dX9_copyNumbers_0 : decode cX9_copyNumbers 0 = .ok (.iconst 0, 1) := by decide +kernel
theorem dX9_copyNumbers_1 : decode cX9_copyNumbers 1 = .ok (.istore_n 2, 1) := by decide +kernel
theorem dX9_copyNumbers_2 : decode cX9_copyNumbers 2 = .ok (.iload_n 2, 1) := by decide +kernel
theorem dX9_copyNumbers_3 : decode cX9_copyNumbers 3 = .ok (.aload_n 0, 1) := by decide +kernel
theorem dX9_copyNumbers_4 : decode cX9_copyNumbers 4 = .ok (.arraylength, 1) := by decide +kernel
theorem dX9_copyNumbers_5 : decode cX9_copyNumbers 5 = .ok (.if_icmp .ge 21, 3) := by decide +kernel
theorem dX9_copyNumbers_8 : decode cX9_copyNumbers 8 = .ok (.iload_n 2, 1) := by decide +kernel
theorem dX9_copyNumbers_9 : decode cX9_copyNumbers 9 = .ok (.aload_n 1, 1) := by decide +kernel
theorem dX9_copyNumbers_10 : decode cX9_copyNumbers 10 = .ok (.arraylength, 1) := by decide +kernel
theorem dX9_copyNumbers_11 : decode cX9_copyNumbers 11 = .ok (.if_icmp .ge 15, 3) := by decide +kernel
theorem dX9_copyNumbers_14 : decode cX9_copyNumbers 14 = .ok (.aload_n 1, 1) := by decide +kernel
theorem dX9_copyNumbers_15 : decode cX9_copyNumbers 15 = .ok (.iload_n 2, 1) := by decide +kernel
theorem dX9_copyNumbers_16 : decode cX9_copyNumbers 16 = .ok (.aload_n 0, 1) := by decide +kernel
theorem dX9_copyNumbers_17 : decode cX9_copyNumbers 17 = .ok (.iload_n 2, 1) := by decide +kernel
theorem dX9_copyNumbers_18 : decode cX9_copyNumbers 18 = .ok (.iaload, 1) := by decide +kernel
theorem dX9_copyNumbers_19 : decode cX9_copyNumbers 19 = .ok (.iastore, 1) := by decide +kernel
theorem dX9_copyNumbers_20 : decode cX9_copyNumbers 20 = .ok (.iinc 2 1, 3) := by decide +kernel
theorem dX9_copyNumbers_23 : decode cX9_copyNumbers 23 = .ok (.goto (-21), 3) := by decide +kernel
theorem dX9_copyNumbers_26 : decode cX9_copyNumbers 26 = .ok (.return_, 1) := by decide +kernel
theorem dX9_bitsOf_0 : decode cX9_bitsOf 0 = .ok (.fload_n 0, 1) := by decide +kernel
theorem dX9_bitsOf_1 : decode cX9_bitsOf 1 = .ok (.fconst 0, 1) := by decide +kernel
theorem dX9_bitsOf_2 : decode cX9_bitsOf 2 = .ok (.fcmp .l, 1) := by decide +kernel
theorem dX9_bitsOf_3 : decode cX9_bitsOf 3 = .ok (.ifCond .gt 5, 3) := by decide +kernel
theorem dX9_bitsOf_6 : decode cX9_bitsOf 6 = .ok (.iconst 0, 1) := by decide +kernel
theorem dX9_bitsOf_7 : decode cX9_bitsOf 7 = .ok (.ireturn, 1) := by decide +kernel
theorem dX9_bitsOf_8 : decode cX9_bitsOf 8 = .ok (.fload_n 0, 1) := by decide +kernel
theorem dX9_bitsOf_9 : decode cX9_bitsOf 9 = .ok (.fstore_n 1, 1) := by decide +kernel
theorem dX9_bitsOf_10 : decode cX9_bitsOf 10 = .ok (.bipush 127, 2) := by decide +kernel
theorem dX9_bitsOf_12 : decode cX9_bitsOf 12 = .ok (.istore_n 2, 1) := by decide +kernel
theorem dX9_bitsOf_13 : decode cX9_bitsOf 13 = .ok (.iconst 0, 1) := by decide +kernel
theorem dX9_bitsOf_14 : decode cX9_bitsOf 14 = .ok (.istore_n 3, 1) := by decide +kernel
theorem dX9_bitsOf_15 : decode cX9_bitsOf 15 = .ok (.iload_n 3, 1) := by decide +kernel
theorem dX9_bitsOf_16 : decode cX9_bitsOf 16 = .ok (.sipush 128, 3) := by decide +kernel
theorem dX9_bitsOf_19 : decode cX9_bitsOf 19 = .ok (.if_icmp .ge 22, 3) := by decide +kernel
theorem dX9_bitsOf_22 : decode cX9_bitsOf 22 = .ok (.fload_n 1, 1) := by decide +kernel
theorem dX9_bitsOf_23 : decode cX9_bitsOf 23 = .ok (.fconst 2, 1) := by decide +kernel
theorem dX9_bitsOf_24 : decode cX9_bitsOf 24 = .ok (.fcmp .l, 1) := by decide +kernel
theorem dX9_bitsOf_25 : decode cX9_bitsOf 25 = .ok (.ifCond .lt 16, 3) := by decide +kernel
theorem dX9_bitsOf_28 : decode cX9_bitsOf 28 = .ok (.fload_n 1, 1) := by decide +kernel
theorem dX9_bitsOf_29 : decode cX9_bitsOf 29 = .ok (.fconst 2, 1) := by decide +kernel
theorem dX9_bitsOf_30 : decode cX9_bitsOf 30 = .ok (.fdiv, 1) := by decide +kernel
theorem dX9_bitsOf_31 : decode cX9_bitsOf 31 = .ok (.fstore_n 1, 1) := by decide +kernel
theorem dX9_bitsOf_32 : decode cX9_bitsOf 32 = .ok (.iinc 2 1, 3) := by decide +kernel
theorem dX9_bitsOf_35 : decode cX9_bitsOf 35 = .ok (.iinc 3 1, 3) := by decide +kernel
theorem dX9_bitsOf_38 : decode cX9_bitsOf 38 = .ok (.goto (-23), 3) := by decide +kernel
theorem dX9_bitsOf_41 : decode cX9_bitsOf 41 = .ok (.iconst 0, 1) := by decide +kernel
theorem dX9_bitsOf_42 : decode cX9_bitsOf 42 = .ok (.istore_n 3, 1) := by decide +kernel
theorem dX9_bitsOf_43 : decode cX9_bitsOf 43 = .ok (.iload_n 3, 1) := by decide +kernel
theorem dX9_bitsOf_44 : decode cX9_bitsOf 44 = .ok (.sipush 128, 3) := by decide +kernel
theorem dX9_bitsOf_47 : decode cX9_bitsOf 47 = .ok (.if_icmp .ge 22, 3) := by decide +kernel
theorem dX9_bitsOf_50 : decode cX9_bitsOf 50 = .ok (.fload_n 1, 1) := by decide +kernel
theorem dX9_bitsOf_51 : decode cX9_bitsOf 51 = .ok (.fconst 1, 1) := by decide +kernel
theorem dX9_bitsOf_52 : decode cX9_bitsOf 52 = .ok (.fcmp .g, 1) := by decide +kernel
theorem dX9_bitsOf_53 : decode cX9_bitsOf 53 = .ok (.ifCond .ge 16, 3) := by decide +kernel
theorem dX9_bitsOf_56 : decode cX9_bitsOf 56 = .ok (.fload_n 1, 1) := by decide +kernel
theorem dX9_bitsOf_57 : decode cX9_bitsOf 57 = .ok (.fconst 2, 1) := by decide +kernel
theorem dX9_bitsOf_58 : decode cX9_bitsOf 58 = .ok (.fmul, 1) := by decide +kernel
theorem dX9_bitsOf_59 : decode cX9_bitsOf 59 = .ok (.fstore_n 1, 1) := by decide +kernel
theorem dX9_bitsOf_60 : decode cX9_bitsOf 60 = .ok (.iinc 2 (-1), 3) := by decide +kernel
theorem dX9_bitsOf_63 : decode cX9_bitsOf 63 = .ok (.iinc 3 1, 3) := by decide +kernel
theorem dX9_bitsOf_66 : decode cX9_bitsOf 66 = .ok (.goto (-23), 3) := by decide +kernel
theorem dX9_bitsOf_69 : decode cX9_bitsOf 69 = .ok (.iload_n 2, 1) := by decide +kernel
theorem dX9_bitsOf_70 : decode cX9_bitsOf 70 = .ok (.bipush 23, 2) := by decide +kernel
theorem dX9_bitsOf_72 : decode cX9_bitsOf 72 = .ok (.ishl, 1) := by decide +kernel
theorem dX9_bitsOf_73 : decode cX9_bitsOf 73 = .ok (.fload_n 1, 1) := by decide +kernel
theorem dX9_bitsOf_74 : decode cX9_bitsOf 74 = .ok (.fconst 1, 1) := by decide +kernel
theorem dX9_bitsOf_75 : decode cX9_bitsOf 75 = .ok (.fsub, 1) := by decide +kernel
theorem dX9_bitsOf_76 : decode cX9_bitsOf 76 = .ok (.ldc 180, 2) := by decide +kernel
theorem dX9_bitsOf_78 : decode cX9_bitsOf 78 = .ok (.fmul, 1) := by decide +kernel
theorem dX9_bitsOf_79 : decode cX9_bitsOf 79 = .ok (.f2i, 1) := by decide +kernel
theorem dX9_bitsOf_80 : decode cX9_bitsOf 80 = .ok (.iadd, 1) := by decide +kernel
theorem dX9_bitsOf_81 : decode cX9_bitsOf 81 = .ok (.ireturn, 1) := by decide +kernel
theorem dJ9_max_7cf53_0 : decode cJ9_max_7cf53 0 = .ok (.iload_n 0, 1) := by decide +kernel
theorem dJ9_max_7cf53_1 : decode cJ9_max_7cf53 1 = .ok (.iload_n 1, 1) := by decide +kernel
theorem dJ9_max_7cf53_2 : decode cJ9_max_7cf53 2 = .ok (.if_icmp .lt 7, 3) := by decide +kernel
theorem dJ9_max_7cf53_5 : decode cJ9_max_7cf53 5 = .ok (.iload_n 0, 1) := by decide +kernel
theorem dJ9_max_7cf53_6 : decode cJ9_max_7cf53 6 = .ok (.goto 4, 3) := by decide +kernel
theorem dJ9_max_7cf53_9 : decode cJ9_max_7cf53 9 = .ok (.iload_n 1, 1) := by decide +kernel
theorem dJ9_max_7cf53_10 : decode cJ9_max_7cf53 10 = .ok (.ireturn, 1) := by decide +kernel
theorem dJ9_min_7cf53_0 : decode cJ9_min_7cf53 0 = .ok (.iload_n 0, 1) := by decide +kernel
theorem dJ9_min_7cf53_1 : decode cJ9_min_7cf53 1 = .ok (.iload_n 1, 1) := by decide +kernel
theorem dJ9_min_7cf53_2 : decode cJ9_min_7cf53 2 = .ok (.if_icmp .gt 7, 3) := by decide +kernel
theorem dJ9_min_7cf53_5 : decode cJ9_min_7cf53 5 = .ok (.iload_n 0, 1) := by decide +kernel
theorem dJ9_min_7cf53_6 : decode cJ9_min_7cf53 6 = .ok (.goto 4, 3) := by decide +kernel
theorem dJ9_min_7cf53_9 : decode cJ9_min_7cf53 9 = .ok (.iload_n 1, 1) := by decide +kernel
theorem dJ9_min_7cf53_10 : decode cJ9_min_7cf53 10 = .ok (.ireturn, 1) := by decide +kernel
