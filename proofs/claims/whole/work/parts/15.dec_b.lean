theorem dX5_init_0 : decode cX5_init 0 = .ok (.aload_n 0, 1) := by decide +kernel
theorem dX5_init_1 : decode cX5_init 1 = .ok (.invokespecial 3, 3) := by decide +kernel
theorem dX5_init_4 : decode cX5_init 4 = .ok (.aload_n 0, 1) := by decide +kernel
theorem dX5_init_5 : decode cX5_init 5 = .ok (.bipush 7, 2) := by decide +kernel
theorem dX5_init_7 : decode cX5_init 7 = .ok (.newarray .int, 2) := by decide +kernel
theorem dX5_init_9 : decode cX5_init 9 = .ok (.dup, 1) := by decide +kernel
theorem dX5_init_10 : decode cX5_init 10 = .ok (.iconst 0, 1) := by decide +kernel
theorem dX5_init_11 : decode cX5_init 11 = .ok (.iconst 0, 1) := by decide +kernel
theorem dX5_init_12 : decode cX5_init 12 = .ok (.iastore, 1) := by decide +kernel
theorem dX5_init_13 : decode cX5_init 13 = .ok (.dup, 1) := by decide +kernel
theorem dX5_init_14 : decode cX5_init 14 = .ok (.iconst 1, 1) := by decide +kernel
theorem dX5_init_15 : decode cX5_init 15 = .ok (.sipush 9999, 3) := by decide +kernel
theorem dX5_init_18 : decode cX5_init 18 = .ok (.iastore, 1) := by decide +kernel
theorem dX5_init_19 : decode cX5_init 19 = .ok (.dup, 1) := by decide +kernel
theorem dX5_init_20 : decode cX5_init 20 = .ok (.iconst 2, 1) := by decide +kernel
theorem dX5_init_21 : decode cX5_init 21 = .ok (.iconst 0, 1) := by decide +kernel
theorem dX5_init_22 : decode cX5_init 22 = .ok (.iastore, 1) := by decide +kernel
theorem dX5_init_23 : decode cX5_init 23 = .ok (.dup, 1) := by decide +kernel
theorem dX5_init_24 : decode cX5_init 24 = .ok (.iconst 3, 1) := by decide +kernel
theorem dX5_init_25 : decode cX5_init 25 = .ok (.bipush 100, 2) := by decide +kernel
theorem dX5_init_27 : decode cX5_init 27 = .ok (.iastore, 1) := by decide +kernel
theorem dX5_init_28 : decode cX5_init 28 = .ok (.dup, 1) := by decide +kernel
theorem dX5_init_29 : decode cX5_init 29 = .ok (.iconst 4, 1) := by decide +kernel
theorem dX5_init_30 : decode cX5_init 30 = .ok (.iconst 0, 1) := by decide +kernel
theorem dX5_init_31 : decode cX5_init 31 = .ok (.iastore, 1) := by decide +kernel
theorem dX5_init_32 : decode cX5_init 32 = .ok (.dup, 1) := by decide +kernel
theorem dX5_init_33 : decode cX5_init 33 = .ok (.iconst 5, 1) := by decide +kernel
theorem dX5_init_34 : decode cX5_init 34 = .ok (.bipush 100, 2) := by decide +kernel
theorem dX5_init_36 : decode cX5_init 36 = .ok (.iastore, 1) := by decide +kernel
theorem dX5_init_37 : decode cX5_init 37 = .ok (.dup, 1) := by decide +kernel
theorem dX5_init_38 : decode cX5_init 38 = .ok (.bipush 6, 2) := by decide +kernel
theorem dX5_init_40 : decode cX5_init 40 = .ok (.bipush 10, 2) := by decide +kernel
theorem dX5_init_42 : decode cX5_init 42 = .ok (.iastore, 1) := by decide +kernel
theorem dX5_init_43 : decode cX5_init 43 = .ok (.putfield 9, 3) := by decide +kernel
theorem dX5_init_46 : decode cX5_init 46 = .ok (.aload_n 0, 1) := by decide +kernel
theorem dX5_init_47 : decode cX5_init 47 = .ok (.new 13, 3) := by decide +kernel
theorem dX5_init_50 : decode cX5_init 50 = .ok (.dup, 1) := by decide +kernel
theorem dX5_init_51 : decode cX5_init 51 = .ok (.invokespecial 15, 3) := by decide +kernel
theorem dX5_init_54 : decode cX5_init 54 = .ok (.putfield 16, 3) := by decide +kernel
theorem dX5_init_57 : decode cX5_init 57 = .ok (.aload_n 0, 1) := by decide +kernel
theorem dX5_init_58 : decode cX5_init 58 = .ok (.new 13, 3) := by decide +kernel
theorem dX5_init_61 : decode cX5_init 61 = .ok (.dup, 1) := by decide +kernel
theorem dX5_init_62 : decode cX5_init 62 = .ok (.invokespecial 15, 3) := by decide +kernel
theorem dX5_init_65 : decode cX5_init 65 = .ok (.putfield 20, 3) := by decide +kernel
theorem dX5_init_68 : decode cX5_init 68 = .ok (.aload_n 0, 1) := by decide +kernel
theorem dX5_init_69 : decode cX5_init 69 = .ok (.new 23, 3) := by decide +kernel
theorem dX5_init_72 : decode cX5_init 72 = .ok (.dup, 1) := by decide +kernel
theorem dX5_init_73 : decode cX5_init 73 = .ok (.invokespecial 25, 3) := by decide +kernel
theorem dX5_init_76 : decode cX5_init 76 = .ok (.putfield 26, 3) := by decide +kernel
theorem dX5_init_79 : decode cX5_init 79 = .ok (.aload_n 0, 1) := by decide +kernel
theorem dX5_init_80 : decode cX5_init 80 = .ok (.new 30, 3) := by decide +kernel
theorem dX5_init_83 : decode cX5_init 83 = .ok (.dup, 1) := by decide +kernel
theorem dX5_init_84 : decode cX5_init 84 = .ok (.invokespecial 32, 3) := by decide +kernel
theorem dX5_init_87 : decode cX5_init 87 = .ok (.putfield 33, 3) := by decide +kernel
theorem dX5_init_90 : decode cX5_init 90 = .ok (.aload_n 0, 1) := by decide +kernel
theorem dX5_init_91 : decode cX5_init 91 = .ok (.new 37, 3) := by decide +kernel
theorem dX5_init_94 : decode cX5_init 94 = .ok (.dup, 1) := by decide +kernel
theorem dX5_init_95 : decode cX5_init 95 = .ok (.invokespecial 39, 3) := by decide +kernel
theorem dX5_init_98 : decode cX5_init 98 = .ok (.putfield 40, 3) := by decide +kernel
theorem dX5_init_101 : decode cX5_init 101 = .ok (.aload_n 0, 1) := by decide +kernel
theorem dX5_init_102 : decode cX5_init 102 = .ok (.iconst 2, 1) := by decide +kernel
theorem dX5_init_103 : decode cX5_init 103 = .ok (.anewarray 44, 3) := by decide +kernel
theorem dX5_init_106 : decode cX5_init 106 = .ok (.dup, 1) := by decide +kernel
theorem dX5_init_107 : decode cX5_init 107 = .ok (.iconst 0, 1) := by decide +kernel
theorem dX5_init_108 : decode cX5_init 108 = .ok (.new 44, 3) := by decide +kernel
theorem dX5_init_111 : decode cX5_init 111 = .ok (.dup, 1) := by decide +kernel
theorem dX5_init_112 : decode cX5_init 112 = .ok (.invokespecial 46, 3) := by decide +kernel
theorem dX5_init_115 : decode cX5_init 115 = .ok (.aastore, 1) := by decide +kernel
theorem dX5_init_116 : decode cX5_init 116 = .ok (.dup, 1) := by decide +kernel
theorem dX5_init_117 : decode cX5_init 117 = .ok (.iconst 1, 1) := by decide +kernel
theorem dX5_init_118 : decode cX5_init 118 = .ok (.new 44, 3) := by decide +kernel
theorem dX5_init_121 : decode cX5_init 121 = .ok (.dup, 1) := by decide +kernel
theorem dX5_init_122 : decode cX5_init 122 = .ok (.invokespecial 46, 3) := by decide +kernel
theorem dX5_init_125 : decode cX5_init 125 = .ok (.aastore, 1) := by decide +kernel
theorem dX5_init_126 : decode cX5_init 126 = .ok (.putfield 47, 3) := by decide +kernel
theorem dX5_init_129 : decode cX5_init 129 = .ok (.aload_n 0, 1) := by decide +kernel
theorem dX5_init_130 : decode cX5_init 130 = .ok (.sipush 1000, 3) := by decide +kernel
theorem dX5_init_133 : decode cX5_init 133 = .ok (.putfield 51, 3) := by decide +kernel
theorem dX5_init_136 : decode cX5_init 136 = .ok (.aload_n 0, 1) := by decide +kernel
theorem dX5_init_137 : decode cX5_init 137 = .ok (.sipush 3000, 3) := by decide +kernel
theorem dX5_init_140 : decode cX5_init 140 = .ok (.putfield 55, 3) := by decide +kernel
theorem dX5_init_143 : decode cX5_init 143 = .ok (.aload_n 0, 1) := by decide +kernel
theorem dX5_init_144 : decode cX5_init 144 = .ok (.bipush 60, 2) := by decide +kernel
theorem dX5_init_146 : decode cX5_init 146 = .ok (.putfield 58, 3) := by decide +kernel
theorem dX5_init_149 : decode cX5_init 149 = .ok (.aload_n 0, 1) := by decide +kernel
theorem dX5_init_150 : decode cX5_init 150 = .ok (.iconst 0, 1) := by decide +kernel
theorem dX5_init_151 : decode cX5_init 151 = .ok (.putfield 61, 3) := by decide +kernel
theorem dX5_init_154 : decode cX5_init 154 = .ok (.return_, 1) := by decide +kernel
theorem dX5_stage_0 : decode cX5_stage 0 = .ok (.iload_n 1, 1) := by decide +kernel
theorem dX5_stage_1 : decode cX5_stage 1 = .ok (.iconst 0, 1) := by decide +kernel
theorem dX5_stage_2 : decode cX5_stage 2 = .ok (.iconst 2, 1) := by decide +kernel
theorem dX5_stage_3 : decode cX5_stage 3 = .ok (.invokestatic 64, 3) := by decide +kernel
theorem dX5_stage_6 : decode cX5_stage 6 = .ok (.ifCond .ne 20, 3) := by decide +kernel
theorem dX5_stage_9 : decode cX5_stage 9 = .ok (.iload_n 2, 1) := by decide +kernel
theorem dX5_stage_10 : decode cX5_stage 10 = .ok (.iload_n 1, 1) := by decide +kernel
theorem dX5_stage_11 : decode cX5_stage 11 = .ok (.ifCond .ne 7, 3) := by decide +kernel
theorem dX5_stage_14 : decode cX5_stage 14 = .ok (.iconst 1, 1) := by decide +kernel
theorem dX5_stage_15 : decode cX5_stage 15 = .ok (.goto 4, 3) := by decide +kernel
theorem dX5_stage_18 : decode cX5_stage 18 = .ok (.iconst 0, 1) := by decide +kernel
theorem dX5_stage_19 : decode cX5_stage 19 = .ok (.iconst 4, 1) := by decide +kernel
theorem dX5_stage_20 : decode cX5_stage 20 = .ok (.invokestatic 64, 3) := by decide +kernel
theorem dX5_stage_23 : decode cX5_stage 23 = .ok (.ifCond .eq 7, 3) := by decide +kernel
theorem dX5_stage_26 : decode cX5_stage 26 = .ok (.ldc2_w 68, 3) := by decide +kernel
theorem dX5_stage_29 : decode cX5_stage 29 = .ok (.lreturn, 1) := by decide +kernel
theorem dX5_stage_30 : decode cX5_stage 30 = .ok (.aload_n 0, 1) := by decide +kernel
theorem dX5_stage_31 : decode cX5_stage 31 = .ok (.getfield 16, 3) := by decide +kernel
theorem dX5_stage_34 : decode cX5_stage 34 = .ok (.getfield 70, 3) := by decide +kernel
theorem dX5_stage_37 : decode cX5_stage 37 = .ok (.iload_n 1, 1) := by decide +kernel
theorem dX5_stage_38 : decode cX5_stage 38 = .ok (.iaload, 1) := by decide +kernel
theorem dX5_stage_39 : decode cX5_stage 39 = .ok (.istore_n 3, 1) := by decide +kernel
theorem dX5_stage_40 : decode cX5_stage 40 = .ok (.aload_n 0, 1) := by decide +kernel
theorem dX5_stage_41 : decode cX5_stage 41 = .ok (.getfield 16, 3) := by decide +kernel
theorem dX5_stage_44 : decode cX5_stage 44 = .ok (.getfield 70, 3) := by decide +kernel
theorem dX5_stage_47 : decode cX5_stage 47 = .ok (.iload_n 1, 1) := by decide +kernel
theorem dX5_stage_48 : decode cX5_stage 48 = .ok (.iload_n 2, 1) := by decide +kernel
theorem dX5_stage_49 : decode cX5_stage 49 = .ok (.iastore, 1) := by decide +kernel
theorem dX5_stage_50 : decode cX5_stage 50 = .ok (.iload_n 3, 1) := by decide +kernel
theorem dX5_stage_51 : decode cX5_stage 51 = .ok (.i2l, 1) := by decide +kernel
theorem dX5_stage_52 : decode cX5_stage 52 = .ok (.lreturn, 1) := by decide +kernel
theorem dX5_length_0 : decode cX5_length 0 = .ok (.iload_n 1, 1) := by decide +kernel
theorem dX5_length_1 : decode cX5_length 1 = .ok (.iconst 1, 1) := by decide +kernel
theorem dX5_length_2 : decode cX5_length 2 = .ok (.bipush 6, 2) := by decide +kernel
theorem dX5_length_4 : decode cX5_length 4 = .ok (.invokestatic 64, 3) := by decide +kernel
theorem dX5_length_7 : decode cX5_length 7 = .ok (.ifCond .eq 7, 3) := by decide +kernel
theorem dX5_length_10 : decode cX5_length 10 = .ok (.ldc2_w 68, 3) := by decide +kernel
theorem dX5_length_13 : decode cX5_length 13 = .ok (.lreturn, 1) := by decide +kernel
theorem dX5_length_14 : decode cX5_length 14 = .ok (.aload_n 0, 1) := by decide +kernel
theorem dX5_length_15 : decode cX5_length 15 = .ok (.getfield 16, 3) := by decide +kernel
theorem dX5_length_18 : decode cX5_length 18 = .ok (.getfield 73, 3) := by decide +kernel
theorem dX5_length_21 : decode cX5_length 21 = .ok (.istore_n 2, 1) := by decide +kernel
theorem dX5_length_22 : decode cX5_length 22 = .ok (.aload_n 0, 1) := by decide +kernel
theorem dX5_length_23 : decode cX5_length 23 = .ok (.getfield 16, 3) := by decide +kernel
theorem dX5_length_26 : decode cX5_length 26 = .ok (.iload_n 1, 1) := by decide +kernel
theorem dX5_length_27 : decode cX5_length 27 = .ok (.putfield 73, 3) := by decide +kernel
theorem dX5_length_30 : decode cX5_length 30 = .ok (.iload_n 2, 1) := by decide +kernel
theorem dX5_length_31 : decode cX5_length 31 = .ok (.i2l, 1) := by decide +kernel
theorem dX5_length_32 : decode cX5_length 32 = .ok (.lreturn, 1) := by decide +kernel
theorem dX5_fresh_0 : decode cX5_fresh 0 = .ok (.iload_n 1, 1) := by decide +kernel
theorem dX5_fresh_1 : decode cX5_fresh 1 = .ok (.invokestatic 76, 3) := by decide +kernel
theorem dX5_fresh_4 : decode cX5_fresh 4 = .ok (.istore_n 3, 1) := by decide +kernel
theorem dX5_fresh_5 : decode cX5_fresh 5 = .ok (.iload_n 3, 1) := by decide +kernel
theorem dX5_fresh_6 : decode cX5_fresh 6 = .ok (.ifCond .lt 12, 3) := by decide +kernel
theorem dX5_fresh_9 : decode cX5_fresh 9 = .ok (.iload_n 2, 1) := by decide +kernel
theorem dX5_fresh_10 : decode cX5_fresh 10 = .ok (.iconst 0, 1) := by decide +kernel
theorem dX5_fresh_11 : decode cX5_fresh 11 = .ok (.iconst 3, 1) := by decide +kernel
theorem dX5_fresh_12 : decode cX5_fresh 12 = .ok (.invokestatic 64, 3) := by decide +kernel
theorem dX5_fresh_15 : decode cX5_fresh 15 = .ok (.ifCond .eq 7, 3) := by decide +kernel
theorem dX5_fresh_18 : decode cX5_fresh 18 = .ok (.ldc2_w 68, 3) := by decide +kernel
theorem dX5_fresh_21 : decode cX5_fresh 21 = .ok (.lreturn, 1) := by decide +kernel
theorem dX5_fresh_22 : decode cX5_fresh 22 = .ok (.aload_n 0, 1) := by decide +kernel
theorem dX5_fresh_23 : decode cX5_fresh 23 = .ok (.getfield 26, 3) := by decide +kernel
theorem dX5_fresh_26 : decode cX5_fresh 26 = .ok (.iload_n 3, 1) := by decide +kernel
theorem dX5_fresh_27 : decode cX5_fresh 27 = .ok (.iload_n 2, 1) := by decide +kernel
theorem dX5_fresh_28 : decode cX5_fresh 28 = .ok (.invokevirtual 80, 3) := by decide +kernel
theorem dX5_fresh_31 : decode cX5_fresh 31 = .ok (.i2l, 1) := by decide +kernel
theorem dX5_fresh_32 : decode cX5_fresh 32 = .ok (.lreturn, 1) := by decide +kernel
theorem dX5_told_0 : decode cX5_told 0 = .ok (.iload_n 1, 1) := by decide +kernel
theorem dX5_told_1 : decode cX5_told 1 = .ok (.invokestatic 76, 3) := by decide +kernel
theorem dX5_told_4 : decode cX5_told 4 = .ok (.istore_n 3, 1) := by decide +kernel
theorem dX5_told_5 : decode cX5_told 5 = .ok (.iload_n 3, 1) := by decide +kernel
theorem dX5_told_6 : decode cX5_told 6 = .ok (.ifCond .ge 7, 3) := by decide +kernel
theorem dX5_told_9 : decode cX5_told 9 = .ok (.ldc2_w 68, 3) := by decide +kernel
theorem dX5_told_12 : decode cX5_told 12 = .ok (.lreturn, 1) := by decide +kernel
theorem dX5_told_13 : decode cX5_told 13 = .ok (.iload_n 2, 1) := by decide +kernel
theorem dX5_told_14 : decode cX5_told 14 = .ok (.tableswitch 72 0 3 #[30, 41, 52, 62], 30) := by decide +kernel
theorem dX5_told_44 : decode cX5_told 44 = .ok (.aload_n 0, 1) := by decide +kernel
theorem dX5_told_45 : decode cX5_told 45 = .ok (.getfield 26, 3) := by decide +kernel
theorem dX5_told_48 : decode cX5_told 48 = .ok (.getfield 84, 3) := by decide +kernel
theorem dX5_told_51 : decode cX5_told 51 = .ok (.iload_n 3, 1) := by decide +kernel
theorem dX5_told_52 : decode cX5_told 52 = .ok (.iaload, 1) := by decide +kernel
theorem dX5_told_53 : decode cX5_told 53 = .ok (.i2l, 1) := by decide +kernel
theorem dX5_told_54 : decode cX5_told 54 = .ok (.lreturn, 1) := by decide +kernel
theorem dX5_told_55 : decode cX5_told 55 = .ok (.aload_n 0, 1) := by decide +kernel
theorem dX5_told_56 : decode cX5_told 56 = .ok (.getfield 26, 3) := by decide +kernel
theorem dX5_told_59 : decode cX5_told 59 = .ok (.getfield 87, 3) := by decide +kernel
theorem dX5_told_62 : decode cX5_told 62 = .ok (.iload_n 3, 1) := by decide +kernel
theorem dX5_told_63 : decode cX5_told 63 = .ok (.iaload, 1) := by decide +kernel
theorem dX5_told_64 : decode cX5_told 64 = .ok (.i2l, 1) := by decide +kernel
theorem dX5_told_65 : decode cX5_told 65 = .ok (.lreturn, 1) := by decide +kernel
theorem dX5_told_66 : decode cX5_told 66 = .ok (.aload_n 0, 1) := by decide +kernel
theorem dX5_told_67 : decode cX5_told 67 = .ok (.getfield 26, 3) := by decide +kernel
theorem dX5_told_70 : decode cX5_told 70 = .ok (.iload_n 3, 1) := by decide +kernel
theorem dX5_told_71 : decode cX5_told 71 = .ok (.invokevirtual 90, 3) := by decide +kernel
theorem dX5_told_74 : decode cX5_told 74 = .ok (.i2l, 1) := by decide +kernel
theorem dX5_told_75 : decode cX5_told 75 = .ok (.lreturn, 1) := by decide +kernel
theorem dX5_told_76 : decode cX5_told 76 = .ok (.aload_n 0, 1) := by decide +kernel
theorem dX5_told_77 : decode cX5_told 77 = .ok (.getfield 26, 3) := by decide +kernel
theorem dX5_told_80 : decode cX5_told 80 = .ok (.iload_n 3, 1) := by decide +kernel
theorem dX5_told_81 : decode cX5_told 81 = .ok (.invokevirtual 93, 3) := by decide +kernel
theorem dX5_told_84 : decode cX5_told 84 = .ok (.i2l, 1) := by decide +kernel
theorem dX5_told_85 : decode cX5_told 85 = .ok (.lreturn, 1) := by decide +kernel
theorem dX5_told_86 : decode cX5_told 86 = .ok (.ldc2_w 68, 3) := by decide +kernel
theorem dX5_told_89 : decode cX5_told 89 = .ok (.lreturn, 1) := by decide +kernel
theorem dX5_isOf_0 : decode cX5_isOf 0 = .ok (.iload_n 1, 1) := by decide +kernel
theorem dX5_isOf_1 : decode cX5_isOf 1 = .ok (.invokestatic 76, 3) := by decide +kernel
theorem dX5_isOf_4 : decode cX5_isOf 4 = .ok (.istore_n 3, 1) := by decide +kernel
theorem dX5_isOf_5 : decode cX5_isOf 5 = .ok (.iload_n 3, 1) := by decide +kernel
theorem dX5_isOf_6 : decode cX5_isOf 6 = .ok (.ifCond .lt 12, 3) := by decide +kernel
theorem dX5_isOf_9 : decode cX5_isOf 9 = .ok (.iload_n 2, 1) := by decide +kernel
theorem dX5_isOf_10 : decode cX5_isOf 10 = .ok (.iconst 0, 1) := by decide +kernel
theorem dX5_isOf_11 : decode cX5_isOf 11 = .ok (.iconst 3, 1) := by decide +kernel
theorem dX5_isOf_12 : decode cX5_isOf 12 = .ok (.invokestatic 64, 3) := by decide +kernel
theorem dX5_isOf_15 : decode cX5_isOf 15 = .ok (.ifCond .eq 7, 3) := by decide +kernel
theorem dX5_isOf_18 : decode cX5_isOf 18 = .ok (.ldc2_w 68, 3) := by decide +kernel
theorem dX5_isOf_21 : decode cX5_isOf 21 = .ok (.lreturn, 1) := by decide +kernel
theorem dX5_isOf_22 : decode cX5_isOf 22 = .ok (.aload_n 0, 1) := by decide +kernel
theorem dX5_isOf_23 : decode cX5_isOf 23 = .ok (.getfield 26, 3) := by decide +kernel
theorem dX5_isOf_26 : decode cX5_isOf 26 = .ok (.iload_n 3, 1) := by decide +kernel
theorem dX5_isOf_27 : decode cX5_isOf 27 = .ok (.iload_n 2, 1) := by decide +kernel
theorem dX5_isOf_28 : decode cX5_isOf 28 = .ok (.invokevirtual 96, 3) := by decide +kernel
theorem dX5_isOf_31 : decode cX5_isOf 31 = .ok (.ifCond .eq 7, 3) := by decide +kernel
theorem dX5_isOf_34 : decode cX5_isOf 34 = .ok (.lconst 1, 1) := by decide +kernel
theorem dX5_isOf_35 : decode cX5_isOf 35 = .ok (.goto 4, 3) := by decide +kernel
theorem dX5_isOf_38 : decode cX5_isOf 38 = .ok (.lconst 0, 1) := by decide +kernel
theorem dX5_isOf_39 : decode cX5_isOf 39 = .ok (.lreturn, 1) := by decide +kernel
theorem dX5_feed_0 : decode cX5_feed 0 = .ok (.iload_n 1, 1) := by decide +kernel
theorem dX5_feed_1 : decode cX5_feed 1 = .ok (.iconst 0, 1) := by decide +kernel
theorem dX5_feed_2 : decode cX5_feed 2 = .ok (.sipush 20000, 3) := by decide +kernel
theorem dX5_feed_5 : decode cX5_feed 5 = .ok (.invokestatic 64, 3) := by decide +kernel
theorem dX5_feed_8 : decode cX5_feed 8 = .ok (.ifCond .ne 24, 3) := by decide +kernel
theorem dX5_feed_11 : decode cX5_feed 11 = .ok (.iload_n 2, 1) := by decide +kernel
theorem dX5_feed_12 : decode cX5_feed 12 = .ok (.iconst 0, 1) := by decide +kernel
theorem dX5_feed_13 : decode cX5_feed 13 = .ok (.ldc 100, 2) := by decide +kernel
theorem dX5_feed_15 : decode cX5_feed 15 = .ok (.invokestatic 64, 3) := by decide +kernel
theorem dX5_feed_18 : decode cX5_feed 18 = .ok (.ifCond .ne 14, 3) := by decide +kernel
theorem dX5_feed_21 : decode cX5_feed 21 = .ok (.iload_n 3, 1) := by decide +kernel
theorem dX5_feed_22 : decode cX5_feed 22 = .ok (.iconst 0, 1) := by decide +kernel
theorem dX5_feed_23 : decode cX5_feed 23 = .ok (.sipush 900, 3) := by decide +kernel
theorem dX5_feed_26 : decode cX5_feed 26 = .ok (.invokestatic 64, 3) := by decide +kernel
theorem dX5_feed_29 : decode cX5_feed 29 = .ok (.ifCond .eq 7, 3) := by decide +kernel
theorem dX5_feed_32 : decode cX5_feed 32 = .ok (.ldc2_w 68, 3) := by decide +kernel
theorem dX5_feed_35 : decode cX5_feed 35 = .ok (.lreturn, 1) := by decide +kernel
theorem dX5_feed_36 : decode cX5_feed 36 = .ok (.aload_n 0, 1) := by decide +kernel
theorem dX5_feed_37 : decode cX5_feed 37 = .ok (.iload_n 1, 1) := by decide +kernel
theorem dX5_feed_38 : decode cX5_feed 38 = .ok (.putfield 51, 3) := by decide +kernel
theorem dX5_feed_41 : decode cX5_feed 41 = .ok (.aload_n 0, 1) := by decide +kernel
theorem dX5_feed_42 : decode cX5_feed 42 = .ok (.iload_n 2, 1) := by decide +kernel
theorem dX5_feed_43 : decode cX5_feed 43 = .ok (.putfield 55, 3) := by decide +kernel
theorem dX5_feed_46 : decode cX5_feed 46 = .ok (.aload_n 0, 1) := by decide +kernel
theorem dX5_feed_47 : decode cX5_feed 47 = .ok (.iload_n 3, 1) := by decide +kernel
theorem dX5_feed_48 : decode cX5_feed 48 = .ok (.putfield 58, 3) := by decide +kernel
theorem dX5_feed_51 : decode cX5_feed 51 = .ok (.lconst 0, 1) := by decide +kernel
theorem dX5_feed_52 : decode cX5_feed 52 = .ok (.lreturn, 1) := by decide +kernel
theorem dX5_change_0 : decode cX5_change 0 = .ok (.iload_n 1, 1) := by decide +kernel
theorem dX5_change_1 : decode cX5_change 1 = .ok (.invokestatic 76, 3) := by decide +kernel
theorem dX5_change_4 : decode cX5_change 4 = .ok (.istore_n 3, 1) := by decide +kernel
theorem dX5_change_5 : decode cX5_change 5 = .ok (.iload_n 2, 1) := by decide +kernel
theorem dX5_change_6 : decode cX5_change 6 = .ok (.invokestatic 76, 3) := by decide +kernel
theorem dX5_change_9 : decode cX5_change 9 = .ok (.istore 4, 2) := by decide +kernel
theorem dX5_change_11 : decode cX5_change 11 = .ok (.iload_n 3, 1) := by decide +kernel
theorem dX5_change_12 : decode cX5_change 12 = .ok (.ifCond .lt 14, 3) := by decide +kernel
theorem dX5_change_15 : decode cX5_change 15 = .ok (.iload 4, 2) := by decide +kernel
theorem dX5_change_17 : decode cX5_change 17 = .ok (.ifCond .lt 9, 3) := by decide +kernel
theorem dX5_change_20 : decode cX5_change 20 = .ok (.iload_n 3, 1) := by decide +kernel
theorem dX5_change_21 : decode cX5_change 21 = .ok (.iload 4, 2) := by decide +kernel
theorem dX5_change_23 : decode cX5_change 23 = .ok (.if_icmp .ne 7, 3) := by decide +kernel
theorem dX5_change_26 : decode cX5_change 26 = .ok (.ldc2_w 68, 3) := by decide +kernel
theorem dX5_change_29 : decode cX5_change 29 = .ok (.lreturn, 1) := by decide +kernel
theorem dX5_change_30 : decode cX5_change 30 = .ok (.aload_n 0, 1) := by decide +kernel
theorem dX5_change_31 : decode cX5_change 31 = .ok (.getfield 26, 3) := by decide +kernel
theorem dX5_change_34 : decode cX5_change 34 = .ok (.iload_n 3, 1) := by decide +kernel
theorem dX5_change_35 : decode cX5_change 35 = .ok (.iload 4, 2) := by decide +kernel
theorem dX5_change_37 : decode cX5_change 37 = .ok (.invokevirtual 101, 3) := by decide +kernel
theorem dX5_change_40 : decode cX5_change 40 = .ok (.lconst 0, 1) := by decide +kernel
theorem dX5_change_41 : decode cX5_change 41 = .ok (.lreturn, 1) := by decide +kernel
theorem dX5_flow_0 : decode cX5_flow 0 = .ok (.iload_n 1, 1) := by decide +kernel
theorem dX5_flow_1 : decode cX5_flow 1 = .ok (.invokestatic 76, 3) := by decide +kernel
theorem dX5_flow_4 : decode cX5_flow 4 = .ok (.istore_n 3, 1) := by decide +kernel
theorem dX5_flow_5 : decode cX5_flow 5 = .ok (.iload_n 3, 1) := by decide +kernel
theorem dX5_flow_6 : decode cX5_flow 6 = .ok (.ifCond .lt 12, 3) := by decide +kernel
theorem dX5_flow_9 : decode cX5_flow 9 = .ok (.iload_n 2, 1) := by decide +kernel
theorem dX5_flow_10 : decode cX5_flow 10 = .ok (.iconst 0, 1) := by decide +kernel
theorem dX5_flow_11 : decode cX5_flow 11 = .ok (.iconst 4, 1) := by decide +kernel
theorem dX5_flow_12 : decode cX5_flow 12 = .ok (.invokestatic 64, 3) := by decide +kernel
theorem dX5_flow_15 : decode cX5_flow 15 = .ok (.ifCond .eq 7, 3) := by decide +kernel
theorem dX5_flow_18 : decode cX5_flow 18 = .ok (.ldc2_w 68, 3) := by decide +kernel
theorem dX5_flow_21 : decode cX5_flow 21 = .ok (.lreturn, 1) := by decide +kernel
theorem dX5_flow_22 : decode cX5_flow 22 = .ok (.aload_n 0, 1) := by decide +kernel
theorem dX5_flow_23 : decode cX5_flow 23 = .ok (.getfield 16, 3) := by decide +kernel
theorem dX5_flow_26 : decode cX5_flow 26 = .ok (.iload_n 3, 1) := by decide +kernel
theorem dX5_flow_27 : decode cX5_flow 27 = .ok (.invokevirtual 105, 3) := by decide +kernel
theorem dX5_flow_30 : decode cX5_flow 30 = .ok (.ifCond .ne 7, 3) := by decide +kernel
theorem dX5_flow_33 : decode cX5_flow 33 = .ok (.ldc2_w 109, 3) := by decide +kernel
theorem dX5_flow_36 : decode cX5_flow 36 = .ok (.lreturn, 1) := by decide +kernel
theorem dX5_flow_37 : decode cX5_flow 37 = .ok (.aload_n 0, 1) := by decide +kernel
theorem dX5_flow_38 : decode cX5_flow 38 = .ok (.invokevirtual 111, 3) := by decide +kernel
theorem dX5_flow_41 : decode cX5_flow 41 = .ok (.iload_n 2, 1) := by decide +kernel
theorem dX5_flow_42 : decode cX5_flow 42 = .ok (.tableswitch 70 0 3 #[30, 40, 50, 60], 30) := by decide +kernel
theorem dX5_flow_72 : decode cX5_flow 72 = .ok (.aload_n 0, 1) := by decide +kernel
theorem dX5_flow_73 : decode cX5_flow 73 = .ok (.getfield 33, 3) := by decide +kernel
theorem dX5_flow_76 : decode cX5_flow 76 = .ok (.getfield 114, 3) := by decide +kernel
theorem dX5_flow_79 : decode cX5_flow 79 = .ok (.iload_n 3, 1) := by decide +kernel
theorem dX5_flow_80 : decode cX5_flow 80 = .ok (.laload, 1) := by decide +kernel
theorem dX5_flow_81 : decode cX5_flow 81 = .ok (.lreturn, 1) := by decide +kernel
theorem dX5_flow_82 : decode cX5_flow 82 = .ok (.aload_n 0, 1) := by decide +kernel
theorem dX5_flow_83 : decode cX5_flow 83 = .ok (.getfield 33, 3) := by decide +kernel
theorem dX5_flow_86 : decode cX5_flow 86 = .ok (.getfield 118, 3) := by decide +kernel
theorem dX5_flow_89 : decode cX5_flow 89 = .ok (.iload_n 3, 1) := by decide +kernel
theorem dX5_flow_90 : decode cX5_flow 90 = .ok (.laload, 1) := by decide +kernel
theorem dX5_flow_91 : decode cX5_flow 91 = .ok (.lreturn, 1) := by decide +kernel
theorem dX5_flow_92 : decode cX5_flow 92 = .ok (.aload_n 0, 1) := by decide +kernel
theorem dX5_flow_93 : decode cX5_flow 93 = .ok (.getfield 33, 3) := by decide +kernel
theorem dX5_flow_96 : decode cX5_flow 96 = .ok (.getfield 121, 3) := by decide +kernel
theorem dX5_flow_99 : decode cX5_flow 99 = .ok (.iload_n 3, 1) := by decide +kernel
theorem dX5_flow_100 : decode cX5_flow 100 = .ok (.laload, 1) := by decide +kernel
theorem dX5_flow_101 : decode cX5_flow 101 = .ok (.lreturn, 1) := by decide +kernel
theorem dX5_flow_102 : decode cX5_flow 102 = .ok (.aload_n 0, 1) := by decide +kernel
theorem dX5_flow_103 : decode cX5_flow 103 = .ok (.getfield 33, 3) := by decide +kernel
theorem dX5_flow_106 : decode cX5_flow 106 = .ok (.getfield 124, 3) := by decide +kernel
theorem dX5_flow_109 : decode cX5_flow 109 = .ok (.iload_n 3, 1) := by decide +kernel
theorem dX5_flow_110 : decode cX5_flow 110 = .ok (.laload, 1) := by decide +kernel
theorem dX5_flow_111 : decode cX5_flow 111 = .ok (.lreturn, 1) := by decide +kernel
theorem dX5_flow_112 : decode cX5_flow 112 = .ok (.aload_n 0, 1) := by decide +kernel
theorem dX5_flow_113 : decode cX5_flow 113 = .ok (.getfield 33, 3) := by decide +kernel
theorem dX5_flow_116 : decode cX5_flow 116 = .ok (.getfield 127, 3) := by decide +kernel
theorem dX5_flow_119 : decode cX5_flow 119 = .ok (.iload_n 3, 1) := by decide +kernel
theorem dX5_flow_120 : decode cX5_flow 120 = .ok (.laload, 1) := by decide +kernel
theorem dX5_flow_121 : decode cX5_flow 121 = .ok (.lreturn, 1) := by decide +kernel
theorem dX5_sweet_0 : decode cX5_sweet 0 = .ok (.iload_n 1, 1) := by decide +kernel
theorem dX5_sweet_1 : decode cX5_sweet 1 = .ok (.iconst 0, 1) := by decide +kernel
theorem dX5_sweet_2 : decode cX5_sweet 2 = .ok (.iconst 2, 1) := by decide +kernel
theorem dX5_sweet_3 : decode cX5_sweet 3 = .ok (.invokestatic 64, 3) := by decide +kernel
theorem dX5_sweet_6 : decode cX5_sweet 6 = .ok (.ifCond .eq 7, 3) := by decide +kernel
theorem dX5_sweet_9 : decode cX5_sweet 9 = .ok (.ldc2_w 68, 3) := by decide +kernel
theorem dX5_sweet_12 : decode cX5_sweet 12 = .ok (.lreturn, 1) := by decide +kernel
theorem dX5_sweet_13 : decode cX5_sweet 13 = .ok (.aload_n 0, 1) := by decide +kernel
theorem dX5_sweet_14 : decode cX5_sweet 14 = .ok (.invokevirtual 111, 3) := by decide +kernel
theorem dX5_sweet_17 : decode cX5_sweet 17 = .ok (.iload_n 1, 1) := by decide +kernel
theorem dX5_sweet_18 : decode cX5_sweet 18 = .ok (.lookupswitch 42 #[(0, 26), (1, 34)], 26) := by decide +kernel
theorem dX5_sweet_44 : decode cX5_sweet 44 = .ok (.aload_n 0, 1) := by decide +kernel
theorem dX5_sweet_45 : decode cX5_sweet 45 = .ok (.getfield 33, 3) := by decide +kernel
theorem dX5_sweet_48 : decode cX5_sweet 48 = .ok (.getfield 130, 3) := by decide +kernel
theorem dX5_sweet_51 : decode cX5_sweet 51 = .ok (.lreturn, 1) := by decide +kernel
theorem dX5_sweet_52 : decode cX5_sweet 52 = .ok (.aload_n 0, 1) := by decide +kernel
theorem dX5_sweet_53 : decode cX5_sweet 53 = .ok (.getfield 33, 3) := by decide +kernel
theorem dX5_sweet_56 : decode cX5_sweet 56 = .ok (.getfield 134, 3) := by decide +kernel
theorem dX5_sweet_59 : decode cX5_sweet 59 = .ok (.lreturn, 1) := by decide +kernel
theorem dX5_sweet_60 : decode cX5_sweet 60 = .ok (.aload_n 0, 1) := by decide +kernel
theorem dX5_sweet_61 : decode cX5_sweet 61 = .ok (.getfield 33, 3) := by decide +kernel
theorem dX5_sweet_64 : decode cX5_sweet 64 = .ok (.getfield 130, 3) := by decide +kernel
theorem dX5_sweet_67 : decode cX5_sweet 67 = .ok (.aload_n 0, 1) := by decide +kernel
theorem dX5_sweet_68 : decode cX5_sweet 68 = .ok (.getfield 33, 3) := by decide +kernel
theorem dX5_sweet_71 : decode cX5_sweet 71 = .ok (.getfield 134, 3) := by decide +kernel
theorem dX5_sweet_74 : decode cX5_sweet 74 = .ok (.invokestatic 137, 3) := by decide +kernel
theorem dX5_sweet_77 : decode cX5_sweet 77 = .ok (.lreturn, 1) := by decide +kernel
theorem dX5_brine_0 : decode cX5_brine 0 = .ok (.iload_n 1, 1) := by decide +kernel
theorem dX5_brine_1 : decode cX5_brine 1 = .ok (.iconst 0, 1) := by decide +kernel
theorem dX5_brine_2 : decode cX5_brine 2 = .ok (.iconst 2, 1) := by decide +kernel
theorem dX5_brine_3 : decode cX5_brine 3 = .ok (.invokestatic 64, 3) := by decide +kernel
theorem dX5_brine_6 : decode cX5_brine 6 = .ok (.ifCond .eq 7, 3) := by decide +kernel
theorem dX5_brine_9 : decode cX5_brine 9 = .ok (.ldc2_w 68, 3) := by decide +kernel
theorem dX5_brine_12 : decode cX5_brine 12 = .ok (.lreturn, 1) := by decide +kernel
theorem dX5_brine_13 : decode cX5_brine 13 = .ok (.aload_n 0, 1) := by decide +kernel
theorem dX5_brine_14 : decode cX5_brine 14 = .ok (.invokevirtual 111, 3) := by decide +kernel
theorem dX5_brine_17 : decode cX5_brine 17 = .ok (.iload_n 1, 1) := by decide +kernel
theorem dX5_brine_18 : decode cX5_brine 18 = .ok (.lookupswitch 42 #[(0, 26), (1, 34)], 26) := by decide +kernel
theorem dX5_brine_44 : decode cX5_brine 44 = .ok (.aload_n 0, 1) := by decide +kernel
theorem dX5_brine_45 : decode cX5_brine 45 = .ok (.getfield 33, 3) := by decide +kernel
theorem dX5_brine_48 : decode cX5_brine 48 = .ok (.getfield 141, 3) := by decide +kernel
theorem dX5_brine_51 : decode cX5_brine 51 = .ok (.lreturn, 1) := by decide +kernel
theorem dX5_brine_52 : decode cX5_brine 52 = .ok (.aload_n 0, 1) := by decide +kernel
theorem dX5_brine_53 : decode cX5_brine 53 = .ok (.getfield 33, 3) := by decide +kernel
theorem dX5_brine_56 : decode cX5_brine 56 = .ok (.getfield 144, 3) := by decide +kernel
theorem dX5_brine_59 : decode cX5_brine 59 = .ok (.lreturn, 1) := by decide +kernel
theorem dX5_brine_60 : decode cX5_brine 60 = .ok (.aload_n 0, 1) := by decide +kernel
theorem dX5_brine_61 : decode cX5_brine 61 = .ok (.getfield 33, 3) := by decide +kernel
theorem dX5_brine_64 : decode cX5_brine 64 = .ok (.getfield 147, 3) := by decide +kernel
theorem dX5_brine_67 : decode cX5_brine 67 = .ok (.lreturn, 1) := by decide +kernel
theorem dX5_power_0 : decode cX5_power 0 = .ok (.aload_n 0, 1) := by decide +kernel
theorem dX5_power_1 : decode cX5_power 1 = .ok (.invokevirtual 111, 3) := by decide +kernel
theorem dX5_power_4 : decode cX5_power 4 = .ok (.aload_n 0, 1) := by decide +kernel
theorem dX5_power_5 : decode cX5_power 5 = .ok (.aload_n 0, 1) := by decide +kernel
theorem dX5_power_6 : decode cX5_power 6 = .ok (.getfield 58, 3) := by decide +kernel
theorem dX5_power_9 : decode cX5_power 9 = .ok (.invokevirtual 150, 3) := by decide +kernel
theorem dX5_power_12 : decode cX5_power 12 = .ok (.lreturn, 1) := by decide +kernel
theorem dX5_failure_0 : decode cX5_failure 0 = .ok (.aload_n 0, 1) := by decide +kernel
theorem dX5_failure_1 : decode cX5_failure 1 = .ok (.invokevirtual 111, 3) := by decide +kernel
theorem dX5_failure_4 : decode cX5_failure 4 = .ok (.aload_n 0, 1) := by decide +kernel
theorem dX5_failure_5 : decode cX5_failure 5 = .ok (.getfield 33, 3) := by decide +kernel
theorem dX5_failure_8 : decode cX5_failure 8 = .ok (.aload_n 0, 1) := by decide +kernel
theorem dX5_failure_9 : decode cX5_failure 9 = .ok (.getfield 16, 3) := by decide +kernel
theorem dX5_failure_12 : decode cX5_failure 12 = .ok (.aload_n 0, 1) := by decide +kernel
theorem dX5_failure_13 : decode cX5_failure 13 = .ok (.getfield 9, 3) := by decide +kernel
theorem dX5_failure_16 : decode cX5_failure 16 = .ok (.iconst 0, 1) := by decide +kernel
theorem dX5_failure_17 : decode cX5_failure 17 = .ok (.iaload, 1) := by decide +kernel
theorem dX5_failure_18 : decode cX5_failure 18 = .ok (.aload_n 0, 1) := by decide +kernel
theorem dX5_failure_19 : decode cX5_failure 19 = .ok (.getfield 9, 3) := by decide +kernel
theorem dX5_failure_22 : decode cX5_failure 22 = .ok (.iconst 1, 1) := by decide +kernel
theorem dX5_failure_23 : decode cX5_failure 23 = .ok (.iaload, 1) := by decide +kernel
theorem dX5_failure_24 : decode cX5_failure 24 = .ok (.invokevirtual 154, 3) := by decide +kernel
theorem dX5_failure_27 : decode cX5_failure 27 = .ok (.lreturn, 1) := by decide +kernel
theorem dX5_rule_0 : decode cX5_rule 0 = .ok (.iload_n 1, 1) := by decide +kernel
theorem dX5_rule_1 : decode cX5_rule 1 = .ok (.iconst 0, 1) := by decide +kernel
theorem dX5_rule_2 : decode cX5_rule 2 = .ok (.bipush 6, 2) := by decide +kernel
theorem dX5_rule_4 : decode cX5_rule 4 = .ok (.invokestatic 64, 3) := by decide +kernel
theorem dX5_rule_7 : decode cX5_rule 7 = .ok (.ifCond .ne 20, 3) := by decide +kernel
theorem dX5_rule_10 : decode cX5_rule 10 = .ok (.iload_n 2, 1) := by decide +kernel
theorem dX5_rule_11 : decode cX5_rule 11 = .ok (.getstatic 158, 3) := by decide +kernel
theorem dX5_rule_14 : decode cX5_rule 14 = .ok (.iload_n 1, 1) := by decide +kernel
theorem dX5_rule_15 : decode cX5_rule 15 = .ok (.iaload, 1) := by decide +kernel
theorem dX5_rule_16 : decode cX5_rule 16 = .ok (.getstatic 161, 3) := by decide +kernel
theorem dX5_rule_19 : decode cX5_rule 19 = .ok (.iload_n 1, 1) := by decide +kernel
theorem dX5_rule_20 : decode cX5_rule 20 = .ok (.iaload, 1) := by decide +kernel
theorem dX5_rule_21 : decode cX5_rule 21 = .ok (.invokestatic 64, 3) := by decide +kernel
theorem dX5_rule_24 : decode cX5_rule 24 = .ok (.ifCond .eq 7, 3) := by decide +kernel
theorem dX5_rule_27 : decode cX5_rule 27 = .ok (.ldc2_w 68, 3) := by decide +kernel
theorem dX5_rule_30 : decode cX5_rule 30 = .ok (.lreturn, 1) := by decide +kernel
theorem dX5_rule_31 : decode cX5_rule 31 = .ok (.aload_n 0, 1) := by decide +kernel
theorem dX5_rule_32 : decode cX5_rule 32 = .ok (.getfield 9, 3) := by decide +kernel
theorem dX5_rule_35 : decode cX5_rule 35 = .ok (.iload_n 1, 1) := by decide +kernel
theorem dX5_rule_36 : decode cX5_rule 36 = .ok (.iaload, 1) := by decide +kernel
theorem dX5_rule_37 : decode cX5_rule 37 = .ok (.istore_n 3, 1) := by decide +kernel
theorem dX5_rule_38 : decode cX5_rule 38 = .ok (.aload_n 0, 1) := by decide +kernel
theorem dX5_rule_39 : decode cX5_rule 39 = .ok (.getfield 9, 3) := by decide +kernel
theorem dX5_rule_42 : decode cX5_rule 42 = .ok (.iload_n 1, 1) := by decide +kernel
theorem dX5_rule_43 : decode cX5_rule 43 = .ok (.iload_n 2, 1) := by decide +kernel
theorem dX5_rule_44 : decode cX5_rule 44 = .ok (.iastore, 1) := by decide +kernel
theorem dX5_rule_45 : decode cX5_rule 45 = .ok (.iload_n 3, 1) := by decide +kernel
theorem dX5_rule_46 : decode cX5_rule 46 = .ok (.i2l, 1) := by decide +kernel
theorem dX5_rule_47 : decode cX5_rule 47 = .ok (.lreturn, 1) := by decide +kernel
theorem dX5_days_0 : decode cX5_days 0 = .ok (.iload_n 1, 1) := by decide +kernel
theorem dX5_days_1 : decode cX5_days 1 = .ok (.iconst 1, 1) := by decide +kernel
theorem dX5_days_2 : decode cX5_days 2 = .ok (.bipush 60, 2) := by decide +kernel
theorem dX5_days_4 : decode cX5_days 4 = .ok (.invokestatic 64, 3) := by decide +kernel
theorem dX5_days_7 : decode cX5_days 7 = .ok (.ifCond .ne 15, 3) := by decide +kernel
theorem dX5_days_10 : decode cX5_days 10 = .ok (.aload_n 0, 1) := by decide +kernel
theorem dX5_days_11 : decode cX5_days 11 = .ok (.getfield 61, 3) := by decide +kernel
theorem dX5_days_14 : decode cX5_days 14 = .ok (.iload_n 1, 1) := by decide +kernel
theorem dX5_days_15 : decode cX5_days 15 = .ok (.iadd, 1) := by decide +kernel
theorem dX5_days_16 : decode cX5_days 16 = .ok (.sipush 1000, 3) := by decide +kernel
theorem dX5_days_19 : decode cX5_days 19 = .ok (.if_icmp .le 7, 3) := by decide +kernel
theorem dX5_days_22 : decode cX5_days 22 = .ok (.ldc2_w 68, 3) := by decide +kernel
theorem dX5_days_25 : decode cX5_days 25 = .ok (.lreturn, 1) := by decide +kernel
theorem dX5_days_26 : decode cX5_days 26 = .ok (.iconst 0, 1) := by decide +kernel
theorem dX5_days_27 : decode cX5_days 27 = .ok (.istore_n 2, 1) := by decide +kernel
theorem dX5_days_28 : decode cX5_days 28 = .ok (.iload_n 2, 1) := by decide +kernel
theorem dX5_days_29 : decode cX5_days 29 = .ok (.iload_n 1, 1) := by decide +kernel
theorem dX5_days_30 : decode cX5_days 30 = .ok (.if_icmp .ge 13, 3) := by decide +kernel
theorem dX5_days_33 : decode cX5_days 33 = .ok (.aload_n 0, 1) := by decide +kernel
theorem dX5_days_34 : decode cX5_days 34 = .ok (.invokevirtual 164, 3) := by decide +kernel
theorem dX5_days_37 : decode cX5_days 37 = .ok (.iinc 2 1, 3) := by decide +kernel
theorem dX5_days_40 : decode cX5_days 40 = .ok (.goto (-12), 3) := by decide +kernel
theorem dX5_days_43 : decode cX5_days 43 = .ok (.aload_n 0, 1) := by decide +kernel
theorem dX5_days_44 : decode cX5_days 44 = .ok (.getfield 61, 3) := by decide +kernel
theorem dX5_days_47 : decode cX5_days 47 = .ok (.i2l, 1) := by decide +kernel
theorem dX5_days_48 : decode cX5_days 48 = .ok (.lreturn, 1) := by decide +kernel
theorem dX5_foul_0 : decode cX5_foul 0 = .ok (.iload_n 1, 1) := by decide +kernel
theorem dX5_foul_1 : decode cX5_foul 1 = .ok (.iconst 0, 1) := by decide +kernel
theorem dX5_foul_2 : decode cX5_foul 2 = .ok (.iconst 2, 1) := by decide +kernel
theorem dX5_foul_3 : decode cX5_foul 3 = .ok (.invokestatic 64, 3) := by decide +kernel
theorem dX5_foul_6 : decode cX5_foul 6 = .ok (.ifCond .eq 7, 3) := by decide +kernel
theorem dX5_foul_9 : decode cX5_foul 9 = .ok (.ldc2_w 68, 3) := by decide +kernel
theorem dX5_foul_12 : decode cX5_foul 12 = .ok (.lreturn, 1) := by decide +kernel
theorem dX5_foul_13 : decode cX5_foul 13 = .ok (.lconst 0, 1) := by decide +kernel
theorem dX5_foul_14 : decode cX5_foul 14 = .ok (.lstore_n 2, 1) := by decide +kernel
theorem dX5_foul_15 : decode cX5_foul 15 = .ok (.iconst 0, 1) := by decide +kernel
theorem dX5_foul_16 : decode cX5_foul 16 = .ok (.istore 4, 2) := by decide +kernel
theorem dX5_foul_18 : decode cX5_foul 18 = .ok (.iconst 0, 1) := by decide +kernel
theorem dX5_foul_19 : decode cX5_foul 19 = .ok (.istore 5, 2) := by decide +kernel
theorem dX5_foul_21 : decode cX5_foul 21 = .ok (.iload 5, 2) := by decide +kernel
theorem dX5_foul_23 : decode cX5_foul 23 = .ok (.bipush 72, 2) := by decide +kernel
theorem dX5_foul_25 : decode cX5_foul 25 = .ok (.if_icmp .ge 67, 3) := by decide +kernel
theorem dX5_foul_28 : decode cX5_foul 28 = .ok (.aload_n 0, 1) := by decide +kernel
theorem dX5_foul_29 : decode cX5_foul 29 = .ok (.getfield 16, 3) := by decide +kernel
theorem dX5_foul_32 : decode cX5_foul 32 = .ok (.iload 5, 2) := by decide +kernel
theorem dX5_foul_34 : decode cX5_foul 34 = .ok (.invokevirtual 105, 3) := by decide +kernel
theorem dX5_foul_37 : decode cX5_foul 37 = .ok (.ifCond .eq 49, 3) := by decide +kernel
theorem dX5_foul_40 : decode cX5_foul 40 = .ok (.lload_n 2, 1) := by decide +kernel
theorem dX5_foul_41 : decode cX5_foul 41 = .ok (.aload_n 0, 1) := by decide +kernel
theorem dX5_foul_42 : decode cX5_foul 42 = .ok (.getfield 26, 3) := by decide +kernel
theorem dX5_foul_45 : decode cX5_foul 45 = .ok (.getfield 87, 3) := by decide +kernel
theorem dX5_foul_48 : decode cX5_foul 48 = .ok (.iload 5, 2) := by decide +kernel
theorem dX5_foul_50 : decode cX5_foul 50 = .ok (.iaload, 1) := by decide +kernel
theorem dX5_foul_51 : decode cX5_foul 51 = .ok (.i2l, 1) := by decide +kernel
theorem dX5_foul_52 : decode cX5_foul 52 = .ok (.ladd, 1) := by decide +kernel
theorem dX5_foul_53 : decode cX5_foul 53 = .ok (.lstore_n 2, 1) := by decide +kernel
theorem dX5_foul_54 : decode cX5_foul 54 = .ok (.aload_n 0, 1) := by decide +kernel
theorem dX5_foul_55 : decode cX5_foul 55 = .ok (.getfield 26, 3) := by decide +kernel
theorem dX5_foul_58 : decode cX5_foul 58 = .ok (.getfield 87, 3) := by decide +kernel
theorem dX5_foul_61 : decode cX5_foul 61 = .ok (.iload 5, 2) := by decide +kernel
theorem dX5_foul_63 : decode cX5_foul 63 = .ok (.iaload, 1) := by decide +kernel
theorem dX5_foul_64 : decode cX5_foul 64 = .ok (.aload_n 0, 1) := by decide +kernel
theorem dX5_foul_65 : decode cX5_foul 65 = .ok (.getfield 26, 3) := by decide +kernel
theorem dX5_foul_68 : decode cX5_foul 68 = .ok (.getfield 87, 3) := by decide +kernel
theorem dX5_foul_71 : decode cX5_foul 71 = .ok (.iload 4, 2) := by decide +kernel
theorem dX5_foul_73 : decode cX5_foul 73 = .ok (.iaload, 1) := by decide +kernel
theorem dX5_foul_74 : decode cX5_foul 74 = .ok (.if_icmp .le 8, 3) := by decide +kernel
theorem dX5_foul_77 : decode cX5_foul 77 = .ok (.iload 5, 2) := by decide +kernel
theorem dX5_foul_79 : decode cX5_foul 79 = .ok (.goto 5, 3) := by decide +kernel
theorem dX5_foul_82 : decode cX5_foul 82 = .ok (.iload 4, 2) := by decide +kernel
theorem dX5_foul_84 : decode cX5_foul 84 = .ok (.istore 4, 2) := by decide +kernel
theorem dX5_foul_86 : decode cX5_foul 86 = .ok (.iinc 5 1, 3) := by decide +kernel
theorem dX5_foul_89 : decode cX5_foul 89 = .ok (.goto (-68), 3) := by decide +kernel
theorem dX5_foul_92 : decode cX5_foul 92 = .ok (.iload_n 1, 1) := by decide +kernel
theorem dX5_foul_93 : decode cX5_foul 93 = .ok (.ifCond .ne 5, 3) := by decide +kernel
theorem dX5_foul_96 : decode cX5_foul 96 = .ok (.lload_n 2, 1) := by decide +kernel
theorem dX5_foul_97 : decode cX5_foul 97 = .ok (.lreturn, 1) := by decide +kernel
theorem dX5_foul_98 : decode cX5_foul 98 = .ok (.iload_n 1, 1) := by decide +kernel
theorem dX5_foul_99 : decode cX5_foul 99 = .ok (.iconst 1, 1) := by decide +kernel
theorem dX5_foul_100 : decode cX5_foul 100 = .ok (.if_icmp .ne 17, 3) := by decide +kernel
theorem dX5_foul_103 : decode cX5_foul 103 = .ok (.aload_n 0, 1) := by decide +kernel
theorem dX5_foul_104 : decode cX5_foul 104 = .ok (.getfield 26, 3) := by decide +kernel
theorem dX5_foul_107 : decode cX5_foul 107 = .ok (.getfield 87, 3) := by decide +kernel
theorem dX5_foul_110 : decode cX5_foul 110 = .ok (.iload 4, 2) := by decide +kernel
theorem dX5_foul_112 : decode cX5_foul 112 = .ok (.iaload, 1) := by decide +kernel
theorem dX5_foul_113 : decode cX5_foul 113 = .ok (.i2l, 1) := by decide +kernel
theorem dX5_foul_114 : decode cX5_foul 114 = .ok (.goto 9, 3) := by decide +kernel
theorem dX5_foul_117 : decode cX5_foul 117 = .ok (.iload 4, 2) := by decide +kernel
theorem dX5_foul_119 : decode cX5_foul 119 = .ok (.invokestatic 167, 3) := by decide +kernel
theorem dX5_foul_122 : decode cX5_foul 122 = .ok (.i2l, 1) := by decide +kernel
theorem dX5_foul_123 : decode cX5_foul 123 = .ok (.lreturn, 1) := by decide +kernel
theorem dX5_swap_0 : decode cX5_swap 0 = .ok (.aload_n 0, 1) := by decide +kernel
theorem dX5_swap_1 : decode cX5_swap 1 = .ok (.invokevirtual 111, 3) := by decide +kernel
theorem dX5_swap_4 : decode cX5_swap 4 = .ok (.ldc2_w 170, 3) := by decide +kernel
theorem dX5_swap_7 : decode cX5_swap 7 = .ok (.lstore_n 1, 1) := by decide +kernel
theorem dX5_swap_8 : decode cX5_swap 8 = .ok (.aload_n 0, 1) := by decide +kernel
theorem dX5_swap_9 : decode cX5_swap 9 = .ok (.getfield 33, 3) := by decide +kernel
theorem dX5_swap_12 : decode cX5_swap 12 = .ok (.getfield 130, 3) := by decide +kernel
theorem dX5_swap_15 : decode cX5_swap 15 = .ok (.lstore_n 3, 1) := by decide +kernel
theorem dX5_swap_16 : decode cX5_swap 16 = .ok (.iconst 0, 1) := by decide +kernel
theorem dX5_swap_17 : decode cX5_swap 17 = .ok (.istore 5, 2) := by decide +kernel
theorem dX5_swap_19 : decode cX5_swap 19 = .ok (.iload 5, 2) := by decide +kernel
theorem dX5_swap_21 : decode cX5_swap 21 = .ok (.bipush 72, 2) := by decide +kernel
theorem dX5_swap_23 : decode cX5_swap 23 = .ok (.if_icmp .ge 77, 3) := by decide +kernel
theorem dX5_swap_26 : decode cX5_swap 26 = .ok (.iload 5, 2) := by decide +kernel
theorem dX5_swap_28 : decode cX5_swap 28 = .ok (.iconst 1, 1) := by decide +kernel
theorem dX5_swap_29 : decode cX5_swap 29 = .ok (.iadd, 1) := by decide +kernel
theorem dX5_swap_30 : decode cX5_swap 30 = .ok (.istore 6, 2) := by decide +kernel
theorem dX5_swap_32 : decode cX5_swap 32 = .ok (.iload 6, 2) := by decide +kernel
theorem dX5_swap_34 : decode cX5_swap 34 = .ok (.bipush 72, 2) := by decide +kernel
theorem dX5_swap_36 : decode cX5_swap 36 = .ok (.if_icmp .ge 58, 3) := by decide +kernel
theorem dX5_swap_39 : decode cX5_swap 39 = .ok (.aload_n 0, 1) := by decide +kernel
theorem dX5_swap_40 : decode cX5_swap 40 = .ok (.iload 5, 2) := by decide +kernel
theorem dX5_swap_42 : decode cX5_swap 42 = .ok (.iload 6, 2) := by decide +kernel
theorem dX5_swap_44 : decode cX5_swap 44 = .ok (.invokevirtual 172, 3) := by decide +kernel
theorem dX5_swap_47 : decode cX5_swap 47 = .ok (.ifCond .eq 41, 3) := by decide +kernel
theorem dX5_swap_50 : decode cX5_swap 50 = .ok (.aload_n 0, 1) := by decide +kernel
theorem dX5_swap_51 : decode cX5_swap 51 = .ok (.iload 5, 2) := by decide +kernel
theorem dX5_swap_53 : decode cX5_swap 53 = .ok (.iload 6, 2) := by decide +kernel
theorem dX5_swap_55 : decode cX5_swap 55 = .ok (.invokevirtual 175, 3) := by decide +kernel
theorem dX5_swap_58 : decode cX5_swap 58 = .ok (.lstore 7, 2) := by decide +kernel
theorem dX5_swap_60 : decode cX5_swap 60 = .ok (.lload 7, 2) := by decide +kernel
theorem dX5_swap_62 : decode cX5_swap 62 = .ok (.lload_n 3, 1) := by decide +kernel
theorem dX5_swap_63 : decode cX5_swap 63 = .ok (.lcmp, 1) := by decide +kernel
theorem dX5_swap_64 : decode cX5_swap 64 = .ok (.ifCond .le 24, 3) := by decide +kernel
theorem dX5_swap_67 : decode cX5_swap 67 = .ok (.lload 7, 2) := by decide +kernel
theorem dX5_swap_69 : decode cX5_swap 69 = .ok (.lstore_n 3, 1) := by decide +kernel
theorem dX5_swap_70 : decode cX5_swap 70 = .ok (.ldc2_w 179, 3) := by decide +kernel
theorem dX5_swap_73 : decode cX5_swap 73 = .ok (.iload 5, 2) := by decide +kernel
theorem dX5_swap_75 : decode cX5_swap 75 = .ok (.invokestatic 167, 3) := by decide +kernel
theorem dX5_swap_78 : decode cX5_swap 78 = .ok (.i2l, 1) := by decide +kernel
theorem dX5_swap_79 : decode cX5_swap 79 = .ok (.lmul, 1) := by decide +kernel
theorem dX5_swap_80 : decode cX5_swap 80 = .ok (.iload 6, 2) := by decide +kernel
theorem dX5_swap_82 : decode cX5_swap 82 = .ok (.invokestatic 167, 3) := by decide +kernel
theorem dX5_swap_85 : decode cX5_swap 85 = .ok (.i2l, 1) := by decide +kernel
theorem dX5_swap_86 : decode cX5_swap 86 = .ok (.ladd, 1) := by decide +kernel
theorem dX5_swap_87 : decode cX5_swap 87 = .ok (.lstore_n 1, 1) := by decide +kernel
theorem dX5_swap_88 : decode cX5_swap 88 = .ok (.iinc 6 1, 3) := by decide +kernel
theorem dX5_swap_91 : decode cX5_swap 91 = .ok (.goto (-59), 3) := by decide +kernel
theorem dX5_swap_94 : decode cX5_swap 94 = .ok (.iinc 5 1, 3) := by decide +kernel
theorem dX5_swap_97 : decode cX5_swap 97 = .ok (.goto (-78), 3) := by decide +kernel
theorem dX5_swap_100 : decode cX5_swap 100 = .ok (.lload_n 1, 1) := by decide +kernel
theorem dX5_swap_101 : decode cX5_swap 101 = .ok (.lreturn, 1) := by decide +kernel
theorem dX5_array_0 : decode cX5_array 0 = .ok (.iload_n 1, 1) := by decide +kernel
theorem dX5_array_1 : decode cX5_array 1 = .ok (.iconst 0, 1) := by decide +kernel
theorem dX5_array_2 : decode cX5_array 2 = .ok (.ldc 181, 2) := by decide +kernel
theorem dX5_array_4 : decode cX5_array 4 = .ok (.invokestatic 64, 3) := by decide +kernel
theorem dX5_array_7 : decode cX5_array 7 = .ok (.ifCond .ne 13, 3) := by decide +kernel
theorem dX5_array_10 : decode cX5_array 10 = .ok (.iload_n 2, 1) := by decide +kernel
theorem dX5_array_11 : decode cX5_array 11 = .ok (.iconst 0, 1) := by decide +kernel
theorem dX5_array_12 : decode cX5_array 12 = .ok (.ldc 100, 2) := by decide +kernel
theorem dX5_array_14 : decode cX5_array 14 = .ok (.invokestatic 64, 3) := by decide +kernel
theorem dX5_array_17 : decode cX5_array 17 = .ok (.ifCond .eq 7, 3) := by decide +kernel
theorem dX5_array_20 : decode cX5_array 20 = .ok (.ldc2_w 68, 3) := by decide +kernel
theorem dX5_array_23 : decode cX5_array 23 = .ok (.lreturn, 1) := by decide +kernel
theorem dX5_array_24 : decode cX5_array 24 = .ok (.aload_n 0, 1) := by decide +kernel
theorem dX5_array_25 : decode cX5_array 25 = .ok (.getfield 33, 3) := by decide +kernel
theorem dX5_array_28 : decode cX5_array 28 = .ok (.aload_n 0, 1) := by decide +kernel
theorem dX5_array_29 : decode cX5_array 29 = .ok (.getfield 26, 3) := by decide +kernel
theorem dX5_array_32 : decode cX5_array 32 = .ok (.invokevirtual 182, 3) := by decide +kernel
theorem dX5_array_35 : decode cX5_array 35 = .ok (.aload_n 0, 1) := by decide +kernel
theorem dX5_array_36 : decode cX5_array 36 = .ok (.getfield 20, 3) := by decide +kernel
theorem dX5_array_39 : decode cX5_array 39 = .ok (.aload_n 0, 1) := by decide +kernel
theorem dX5_array_40 : decode cX5_array 40 = .ok (.getfield 16, 3) := by decide +kernel
theorem dX5_array_43 : decode cX5_array 43 = .ok (.getfield 73, 3) := by decide +kernel
theorem dX5_array_46 : decode cX5_array 46 = .ok (.putfield 73, 3) := by decide +kernel
theorem dX5_array_49 : decode cX5_array 49 = .ok (.ldc2_w 109, 3) := by decide +kernel
theorem dX5_array_52 : decode cX5_array 52 = .ok (.lstore_n 3, 1) := by decide +kernel
theorem dX5_array_53 : decode cX5_array 53 = .ok (.ldc2_w 188, 3) := by decide +kernel
theorem dX5_array_56 : decode cX5_array 56 = .ok (.lstore 5, 2) := by decide +kernel
theorem dX5_array_58 : decode cX5_array 58 = .ok (.bipush 100, 2) := by decide +kernel
theorem dX5_array_60 : decode cX5_array 60 = .ok (.istore 7, 2) := by decide +kernel
theorem dX5_array_62 : decode cX5_array 62 = .ok (.iload 7, 2) := by decide +kernel
theorem dX5_array_64 : decode cX5_array 64 = .ok (.sipush 900, 3) := by decide +kernel
theorem dX5_array_67 : decode cX5_array 67 = .ok (.if_icmp .gt 110, 3) := by decide +kernel
theorem dX5_array_70 : decode cX5_array 70 = .ok (.iconst 0, 1) := by decide +kernel
theorem dX5_array_71 : decode cX5_array 71 = .ok (.istore 8, 2) := by decide +kernel
theorem dX5_array_73 : decode cX5_array 73 = .ok (.iload 8, 2) := by decide +kernel
theorem dX5_array_75 : decode cX5_array 75 = .ok (.bipush 100, 2) := by decide +kernel
theorem dX5_array_77 : decode cX5_array 77 = .ok (.if_icmp .ge 94, 3) := by decide +kernel
theorem dX5_array_80 : decode cX5_array 80 = .ok (.aload_n 0, 1) := by decide +kernel
theorem dX5_array_81 : decode cX5_array 81 = .ok (.getfield 20, 3) := by decide +kernel
theorem dX5_array_84 : decode cX5_array 84 = .ok (.iload 8, 2) := by decide +kernel
theorem dX5_array_86 : decode cX5_array 86 = .ok (.invokevirtual 190, 3) := by decide +kernel
theorem dX5_array_89 : decode cX5_array 89 = .ok (.ifCond .ne 6, 3) := by decide +kernel
theorem dX5_array_92 : decode cX5_array 92 = .ok (.goto 73, 3) := by decide +kernel
theorem dX5_array_95 : decode cX5_array 95 = .ok (.aload_n 0, 1) := by decide +kernel
theorem dX5_array_96 : decode cX5_array 96 = .ok (.getfield 33, 3) := by decide +kernel
theorem dX5_array_99 : decode cX5_array 99 = .ok (.aload_n 0, 1) := by decide +kernel
theorem dX5_array_100 : decode cX5_array 100 = .ok (.getfield 20, 3) := by decide +kernel
theorem dX5_array_103 : decode cX5_array 103 = .ok (.aload_n 0, 1) := by decide +kernel
theorem dX5_array_104 : decode cX5_array 104 = .ok (.getfield 51, 3) := by decide +kernel
theorem dX5_array_107 : decode cX5_array 107 = .ok (.i2l, 1) := by decide +kernel
theorem dX5_array_108 : decode cX5_array 108 = .ok (.aload_n 0, 1) := by decide +kernel
theorem dX5_array_109 : decode cX5_array 109 = .ok (.getfield 55, 3) := by decide +kernel
theorem dX5_array_112 : decode cX5_array 112 = .ok (.i2l, 1) := by decide +kernel
theorem dX5_array_113 : decode cX5_array 113 = .ok (.iload 7, 2) := by decide +kernel
theorem dX5_array_115 : decode cX5_array 115 = .ok (.i2l, 1) := by decide +kernel
theorem dX5_array_116 : decode cX5_array 116 = .ok (.invokevirtual 193, 3) := by decide +kernel
theorem dX5_array_119 : decode cX5_array 119 = .ok (.aload_n 0, 1) := by decide +kernel
theorem dX5_array_120 : decode cX5_array 120 = .ok (.iload 7, 2) := by decide +kernel
theorem dX5_array_122 : decode cX5_array 122 = .ok (.invokevirtual 150, 3) := by decide +kernel
theorem dX5_array_125 : decode cX5_array 125 = .ok (.lstore 9, 2) := by decide +kernel
theorem dX5_array_127 : decode cX5_array 127 = .ok (.lload 9, 2) := by decide +kernel
theorem dX5_array_129 : decode cX5_array 129 = .ok (.lload 5, 2) := by decide +kernel
theorem dX5_array_131 : decode cX5_array 131 = .ok (.lcmp, 1) := by decide +kernel
theorem dX5_array_132 : decode cX5_array 132 = .ok (.ifCond .ge 33, 3) := by decide +kernel
theorem dX5_array_135 : decode cX5_array 135 = .ok (.aload_n 0, 1) := by decide +kernel
theorem dX5_array_136 : decode cX5_array 136 = .ok (.iload_n 1, 1) := by decide +kernel
theorem dX5_array_137 : decode cX5_array 137 = .ok (.iload_n 2, 1) := by decide +kernel
theorem dX5_array_138 : decode cX5_array 138 = .ok (.invokevirtual 197, 3) := by decide +kernel
theorem dX5_array_141 : decode cX5_array 141 = .ok (.ifCond .eq 24, 3) := by decide +kernel
theorem dX5_array_144 : decode cX5_array 144 = .ok (.lload 9, 2) := by decide +kernel
theorem dX5_array_146 : decode cX5_array 146 = .ok (.lstore 5, 2) := by decide +kernel
theorem dX5_array_148 : decode cX5_array 148 = .ok (.ldc2_w 179, 3) := by decide +kernel
theorem dX5_array_151 : decode cX5_array 151 = .ok (.iload 7, 2) := by decide +kernel
theorem dX5_array_153 : decode cX5_array 153 = .ok (.i2l, 1) := by decide +kernel
theorem dX5_array_154 : decode cX5_array 154 = .ok (.lmul, 1) := by decide +kernel
theorem dX5_array_155 : decode cX5_array 155 = .ok (.aload_n 0, 1) := by decide +kernel
theorem dX5_array_156 : decode cX5_array 156 = .ok (.getfield 20, 3) := by decide +kernel
theorem dX5_array_159 : decode cX5_array 159 = .ok (.invokevirtual 200, 3) := by decide +kernel
theorem dX5_array_162 : decode cX5_array 162 = .ok (.i2l, 1) := by decide +kernel
theorem dX5_array_163 : decode cX5_array 163 = .ok (.ladd, 1) := by decide +kernel
theorem dX5_array_164 : decode cX5_array 164 = .ok (.lstore_n 3, 1) := by decide +kernel
theorem dX5_array_165 : decode cX5_array 165 = .ok (.iinc 8 1, 3) := by decide +kernel
theorem dX5_array_168 : decode cX5_array 168 = .ok (.goto (-95), 3) := by decide +kernel
theorem dX5_array_171 : decode cX5_array 171 = .ok (.iinc 7 100, 3) := by decide +kernel
theorem dX5_array_174 : decode cX5_array 174 = .ok (.goto (-112), 3) := by decide +kernel
theorem dX5_array_177 : decode cX5_array 177 = .ok (.lload_n 3, 1) := by decide +kernel
theorem dX5_array_178 : decode cX5_array 178 = .ok (.lreturn, 1) := by decide +kernel
theorem dX5_hour_0 : decode cX5_hour 0 = .ok (.iload_n 1, 1) := by decide +kernel
theorem dX5_hour_1 : decode cX5_hour 1 = .ok (.iconst 0, 1) := by decide +kernel
theorem dX5_hour_2 : decode cX5_hour 2 = .ok (.bipush 11, 2) := by decide +kernel
theorem dX5_hour_4 : decode cX5_hour 4 = .ok (.invokestatic 64, 3) := by decide +kernel
theorem dX5_hour_7 : decode cX5_hour 7 = .ok (.ifCond .ne 24, 3) := by decide +kernel
theorem dX5_hour_10 : decode cX5_hour 10 = .ok (.iload_n 2, 1) := by decide +kernel
theorem dX5_hour_11 : decode cX5_hour 11 = .ok (.iconst 0, 1) := by decide +kernel
theorem dX5_hour_12 : decode cX5_hour 12 = .ok (.iconst 1, 1) := by decide +kernel
theorem dX5_hour_13 : decode cX5_hour 13 = .ok (.invokestatic 64, 3) := by decide +kernel
theorem dX5_hour_16 : decode cX5_hour 16 = .ok (.ifCond .ne 15, 3) := by decide +kernel
theorem dX5_hour_19 : decode cX5_hour 19 = .ok (.iload_n 3, 1) := by decide +kernel
theorem dX5_hour_20 : decode cX5_hour 20 = .ok (.iconst 0, 1) := by decide +kernel
theorem dX5_hour_21 : decode cX5_hour 21 = .ok (.iload_n 2, 1) := by decide +kernel
theorem dX5_hour_22 : decode cX5_hour 22 = .ok (.invokestatic 204, 3) := by decide +kernel
theorem dX5_hour_25 : decode cX5_hour 25 = .ok (.invokestatic 64, 3) := by decide +kernel
theorem dX5_hour_28 : decode cX5_hour 28 = .ok (.ifCond .eq 7, 3) := by decide +kernel
theorem dX5_hour_31 : decode cX5_hour 31 = .ok (.ldc2_w 68, 3) := by decide +kernel
theorem dX5_hour_34 : decode cX5_hour 34 = .ok (.lreturn, 1) := by decide +kernel
theorem dX5_hour_35 : decode cX5_hour 35 = .ok (.aload_n 0, 1) := by decide +kernel
theorem dX5_hour_36 : decode cX5_hour 36 = .ok (.getfield 40, 3) := by decide +kernel
theorem dX5_hour_39 : decode cX5_hour 39 = .ok (.iload_n 2, 1) := by decide +kernel
theorem dX5_hour_40 : decode cX5_hour 40 = .ok (.invokevirtual 207, 3) := by decide +kernel
theorem dX5_hour_43 : decode cX5_hour 43 = .ok (.astore 4, 2) := by decide +kernel
theorem dX5_hour_45 : decode cX5_hour 45 = .ok (.aload 4, 2) := by decide +kernel
theorem dX5_hour_47 : decode cX5_hour 47 = .ok (.iload_n 1, 1) := by decide +kernel
theorem dX5_hour_48 : decode cX5_hour 48 = .ok (.iaload, 1) := by decide +kernel
theorem dX5_hour_49 : decode cX5_hour 49 = .ok (.istore 5, 2) := by decide +kernel
theorem dX5_hour_51 : decode cX5_hour 51 = .ok (.aload 4, 2) := by decide +kernel
theorem dX5_hour_53 : decode cX5_hour 53 = .ok (.iload_n 1, 1) := by decide +kernel
theorem dX5_hour_54 : decode cX5_hour 54 = .ok (.iload_n 3, 1) := by decide +kernel
theorem dX5_hour_55 : decode cX5_hour 55 = .ok (.iastore, 1) := by decide +kernel
theorem dX5_hour_56 : decode cX5_hour 56 = .ok (.iload 5, 2) := by decide +kernel
theorem dX5_hour_58 : decode cX5_hour 58 = .ok (.i2l, 1) := by decide +kernel
theorem dX5_hour_59 : decode cX5_hour 59 = .ok (.lreturn, 1) := by decide +kernel
theorem dX5_lay_0 : decode cX5_lay 0 = .ok (.iload_n 1, 1) := by decide +kernel
theorem dX5_lay_1 : decode cX5_lay 1 = .ok (.iconst 0, 1) := by decide +kernel
theorem dX5_lay_2 : decode cX5_lay 2 = .ok (.iconst 1, 1) := by decide +kernel
theorem dX5_lay_3 : decode cX5_lay 3 = .ok (.invokestatic 64, 3) := by decide +kernel
theorem dX5_lay_6 : decode cX5_lay 6 = .ok (.ifCond .ne 12, 3) := by decide +kernel
theorem dX5_lay_9 : decode cX5_lay 9 = .ok (.iload_n 2, 1) := by decide +kernel
theorem dX5_lay_10 : decode cX5_lay 10 = .ok (.iconst 0, 1) := by decide +kernel
theorem dX5_lay_11 : decode cX5_lay 11 = .ok (.iconst 1, 1) := by decide +kernel
theorem dX5_lay_12 : decode cX5_lay 12 = .ok (.invokestatic 64, 3) := by decide +kernel
theorem dX5_lay_15 : decode cX5_lay 15 = .ok (.ifCond .eq 7, 3) := by decide +kernel
theorem dX5_lay_18 : decode cX5_lay 18 = .ok (.ldc2_w 68, 3) := by decide +kernel
theorem dX5_lay_21 : decode cX5_lay 21 = .ok (.lreturn, 1) := by decide +kernel
theorem dX5_lay_22 : decode cX5_lay 22 = .ok (.aload_n 0, 1) := by decide +kernel
theorem dX5_lay_23 : decode cX5_lay 23 = .ok (.getfield 47, 3) := by decide +kernel
theorem dX5_lay_26 : decode cX5_lay 26 = .ok (.iload_n 2, 1) := by decide +kernel
theorem dX5_lay_27 : decode cX5_lay 27 = .ok (.aaload, 1) := by decide +kernel
