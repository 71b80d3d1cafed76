theorem dX6_init_0 : decode cX6_init 0 = .ok (.aload_n 0, 1) := by decide +kernel
theorem dX6_init_1 : decode cX6_init 1 = .ok (.invokespecial 1, 3) := by decide +kernel
theorem dX6_init_4 : decode cX6_init 4 = .ok (.aload_n 0, 1) := by decide +kernel
theorem dX6_init_5 : decode cX6_init 5 = .ok (.iconst 3, 1) := by decide +kernel
theorem dX6_init_6 : decode cX6_init 6 = .ok (.newarray .int, 2) := by decide +kernel
theorem dX6_init_8 : decode cX6_init 8 = .ok (.putfield 7, 3) := by decide +kernel
theorem dX6_init_11 : decode cX6_init 11 = .ok (.aload_n 0, 1) := by decide +kernel
theorem dX6_init_12 : decode cX6_init 12 = .ok (.iconst 3, 1) := by decide +kernel
theorem dX6_init_13 : decode cX6_init 13 = .ok (.putfield 13, 3) := by decide +kernel
theorem dX6_init_16 : decode cX6_init 16 = .ok (.aload_n 0, 1) := by decide +kernel
theorem dX6_init_17 : decode cX6_init 17 = .ok (.bipush 72, 2) := by decide +kernel
theorem dX6_init_19 : decode cX6_init 19 = .ok (.newarray .int, 2) := by decide +kernel
theorem dX6_init_21 : decode cX6_init 21 = .ok (.putfield 17, 3) := by decide +kernel
theorem dX6_init_24 : decode cX6_init 24 = .ok (.aload_n 0, 1) := by decide +kernel
theorem dX6_init_25 : decode cX6_init 25 = .ok (.bipush 72, 2) := by decide +kernel
theorem dX6_init_27 : decode cX6_init 27 = .ok (.newarray .int, 2) := by decide +kernel
theorem dX6_init_29 : decode cX6_init 29 = .ok (.putfield 20, 3) := by decide +kernel
theorem dX6_init_32 : decode cX6_init 32 = .ok (.aload_n 0, 1) := by decide +kernel
theorem dX6_init_33 : decode cX6_init 33 = .ok (.sipush 1000, 3) := by decide +kernel
theorem dX6_init_36 : decode cX6_init 36 = .ok (.putfield 23, 3) := by decide +kernel
theorem dX6_init_39 : decode cX6_init 39 = .ok (.aload_n 0, 1) := by decide +kernel
theorem dX6_init_40 : decode cX6_init 40 = .ok (.sipush 3000, 3) := by decide +kernel
theorem dX6_init_43 : decode cX6_init 43 = .ok (.putfield 26, 3) := by decide +kernel
theorem dX6_init_46 : decode cX6_init 46 = .ok (.aload_n 0, 1) := by decide +kernel
theorem dX6_init_47 : decode cX6_init 47 = .ok (.bipush 60, 2) := by decide +kernel
theorem dX6_init_49 : decode cX6_init 49 = .ok (.putfield 29, 3) := by decide +kernel
theorem dX6_init_52 : decode cX6_init 52 = .ok (.aload_n 0, 1) := by decide +kernel
theorem dX6_init_53 : decode cX6_init 53 = .ok (.bipush 7, 2) := by decide +kernel
theorem dX6_init_55 : decode cX6_init 55 = .ok (.newarray .int, 2) := by decide +kernel
theorem dX6_init_57 : decode cX6_init 57 = .ok (.putfield 32, 3) := by decide +kernel
theorem dX6_init_60 : decode cX6_init 60 = .ok (.aload_n 0, 1) := by decide +kernel
theorem dX6_init_61 : decode cX6_init 61 = .ok (.bipush 12, 2) := by decide +kernel
theorem dX6_init_63 : decode cX6_init 63 = .ok (.newarray .int, 2) := by decide +kernel
theorem dX6_init_65 : decode cX6_init 65 = .ok (.putfield 35, 3) := by decide +kernel
theorem dX6_init_68 : decode cX6_init 68 = .ok (.aload_n 0, 1) := by decide +kernel
theorem dX6_init_69 : decode cX6_init 69 = .ok (.bipush 12, 2) := by decide +kernel
theorem dX6_init_71 : decode cX6_init 71 = .ok (.newarray .int, 2) := by decide +kernel
theorem dX6_init_73 : decode cX6_init 73 = .ok (.putfield 38, 3) := by decide +kernel
theorem dX6_init_76 : decode cX6_init 76 = .ok (.aload_n 0, 1) := by decide +kernel
theorem dX6_init_77 : decode cX6_init 77 = .ok (.iconst 2, 1) := by decide +kernel
theorem dX6_init_78 : decode cX6_init 78 = .ok (.newarray .int, 2) := by decide +kernel
theorem dX6_init_80 : decode cX6_init 80 = .ok (.putfield 41, 3) := by decide +kernel
theorem dX6_init_83 : decode cX6_init 83 = .ok (.aload_n 0, 1) := by decide +kernel
theorem dX6_init_84 : decode cX6_init 84 = .ok (.bipush 48, 2) := by decide +kernel
theorem dX6_init_86 : decode cX6_init 86 = .ok (.newarray .int, 2) := by decide +kernel
theorem dX6_init_88 : decode cX6_init 88 = .ok (.putfield 44, 3) := by decide +kernel
theorem dX6_init_91 : decode cX6_init 91 = .ok (.aload_n 0, 1) := by decide +kernel
theorem dX6_init_92 : decode cX6_init 92 = .ok (.bipush 72, 2) := by decide +kernel
theorem dX6_init_94 : decode cX6_init 94 = .ok (.newarray .long, 2) := by decide +kernel
theorem dX6_init_96 : decode cX6_init 96 = .ok (.putfield 47, 3) := by decide +kernel
theorem dX6_init_99 : decode cX6_init 99 = .ok (.aload_n 0, 1) := by decide +kernel
theorem dX6_init_100 : decode cX6_init 100 = .ok (.bipush 72, 2) := by decide +kernel
theorem dX6_init_102 : decode cX6_init 102 = .ok (.newarray .long, 2) := by decide +kernel
theorem dX6_init_104 : decode cX6_init 104 = .ok (.putfield 51, 3) := by decide +kernel
theorem dX6_init_107 : decode cX6_init 107 = .ok (.aload_n 0, 1) := by decide +kernel
theorem dX6_init_108 : decode cX6_init 108 = .ok (.bipush 72, 2) := by decide +kernel
theorem dX6_init_110 : decode cX6_init 110 = .ok (.newarray .long, 2) := by decide +kernel
theorem dX6_init_112 : decode cX6_init 112 = .ok (.putfield 54, 3) := by decide +kernel
theorem dX6_init_115 : decode cX6_init 115 = .ok (.aload_n 0, 1) := by decide +kernel
theorem dX6_init_116 : decode cX6_init 116 = .ok (.bipush 72, 2) := by decide +kernel
theorem dX6_init_118 : decode cX6_init 118 = .ok (.newarray .long, 2) := by decide +kernel
theorem dX6_init_120 : decode cX6_init 120 = .ok (.putfield 57, 3) := by decide +kernel
theorem dX6_init_123 : decode cX6_init 123 = .ok (.aload_n 0, 1) := by decide +kernel
theorem dX6_init_124 : decode cX6_init 124 = .ok (.bipush 72, 2) := by decide +kernel
theorem dX6_init_126 : decode cX6_init 126 = .ok (.newarray .long, 2) := by decide +kernel
theorem dX6_init_128 : decode cX6_init 128 = .ok (.putfield 60, 3) := by decide +kernel
theorem dX6_init_131 : decode cX6_init 131 = .ok (.aload_n 0, 1) := by decide +kernel
theorem dX6_init_132 : decode cX6_init 132 = .ok (.iconst 3, 1) := by decide +kernel
theorem dX6_init_133 : decode cX6_init 133 = .ok (.newarray .int, 2) := by decide +kernel
theorem dX6_init_135 : decode cX6_init 135 = .ok (.putfield 63, 3) := by decide +kernel
theorem dX6_init_138 : decode cX6_init 138 = .ok (.aload_n 0, 1) := by decide +kernel
theorem dX6_init_139 : decode cX6_init 139 = .ok (.sipush 2613, 3) := by decide +kernel
theorem dX6_init_142 : decode cX6_init 142 = .ok (.newarray .int, 2) := by decide +kernel
theorem dX6_init_144 : decode cX6_init 144 = .ok (.putfield 66, 3) := by decide +kernel
theorem dX6_init_147 : decode cX6_init 147 = .ok (.aload_n 0, 1) := by decide +kernel
theorem dX6_init_148 : decode cX6_init 148 = .ok (.bipush 12, 2) := by decide +kernel
theorem dX6_init_150 : decode cX6_init 150 = .ok (.newarray .int, 2) := by decide +kernel
theorem dX6_init_152 : decode cX6_init 152 = .ok (.putfield 69, 3) := by decide +kernel
theorem dX6_init_155 : decode cX6_init 155 = .ok (.aload_n 0, 1) := by decide +kernel
theorem dX6_init_156 : decode cX6_init 156 = .ok (.bipush 24, 2) := by decide +kernel
theorem dX6_init_158 : decode cX6_init 158 = .ok (.newarray .int, 2) := by decide +kernel
theorem dX6_init_160 : decode cX6_init 160 = .ok (.putfield 72, 3) := by decide +kernel
theorem dX6_init_163 : decode cX6_init 163 = .ok (.aload_n 0, 1) := by decide +kernel
theorem dX6_init_164 : decode cX6_init 164 = .ok (.getfield 7, 3) := by decide +kernel
theorem dX6_init_167 : decode cX6_init 167 = .ok (.iconst 0, 1) := by decide +kernel
theorem dX6_init_168 : decode cX6_init 168 = .ok (.iconst 1, 1) := by decide +kernel
theorem dX6_init_169 : decode cX6_init 169 = .ok (.iastore, 1) := by decide +kernel
theorem dX6_init_170 : decode cX6_init 170 = .ok (.aload_n 0, 1) := by decide +kernel
theorem dX6_init_171 : decode cX6_init 171 = .ok (.getfield 32, 3) := by decide +kernel
theorem dX6_init_174 : decode cX6_init 174 = .ok (.iconst 1, 1) := by decide +kernel
theorem dX6_init_175 : decode cX6_init 175 = .ok (.sipush 9999, 3) := by decide +kernel
theorem dX6_init_178 : decode cX6_init 178 = .ok (.iastore, 1) := by decide +kernel
theorem dX6_init_179 : decode cX6_init 179 = .ok (.aload_n 0, 1) := by decide +kernel
theorem dX6_init_180 : decode cX6_init 180 = .ok (.getfield 32, 3) := by decide +kernel
theorem dX6_init_183 : decode cX6_init 183 = .ok (.iconst 3, 1) := by decide +kernel
theorem dX6_init_184 : decode cX6_init 184 = .ok (.bipush 100, 2) := by decide +kernel
theorem dX6_init_186 : decode cX6_init 186 = .ok (.iastore, 1) := by decide +kernel
theorem dX6_init_187 : decode cX6_init 187 = .ok (.aload_n 0, 1) := by decide +kernel
theorem dX6_init_188 : decode cX6_init 188 = .ok (.getfield 32, 3) := by decide +kernel
theorem dX6_init_191 : decode cX6_init 191 = .ok (.iconst 5, 1) := by decide +kernel
theorem dX6_init_192 : decode cX6_init 192 = .ok (.bipush 100, 2) := by decide +kernel
theorem dX6_init_194 : decode cX6_init 194 = .ok (.iastore, 1) := by decide +kernel
theorem dX6_init_195 : decode cX6_init 195 = .ok (.aload_n 0, 1) := by decide +kernel
theorem dX6_init_196 : decode cX6_init 196 = .ok (.getfield 32, 3) := by decide +kernel
theorem dX6_init_199 : decode cX6_init 199 = .ok (.bipush 6, 2) := by decide +kernel
theorem dX6_init_201 : decode cX6_init 201 = .ok (.bipush 10, 2) := by decide +kernel
theorem dX6_init_203 : decode cX6_init 203 = .ok (.iastore, 1) := by decide +kernel
theorem dX6_init_204 : decode cX6_init 204 = .ok (.aload_n 0, 1) := by decide +kernel
theorem dX6_init_205 : decode cX6_init 205 = .ok (.getfield 41, 3) := by decide +kernel
theorem dX6_init_208 : decode cX6_init 208 = .ok (.iconst 0, 1) := by decide +kernel
theorem dX6_init_209 : decode cX6_init 209 = .ok (.iconst (-1), 1) := by decide +kernel
theorem dX6_init_210 : decode cX6_init 210 = .ok (.iastore, 1) := by decide +kernel
theorem dX6_init_211 : decode cX6_init 211 = .ok (.aload_n 0, 1) := by decide +kernel
theorem dX6_init_212 : decode cX6_init 212 = .ok (.getfield 41, 3) := by decide +kernel
theorem dX6_init_215 : decode cX6_init 215 = .ok (.iconst 1, 1) := by decide +kernel
theorem dX6_init_216 : decode cX6_init 216 = .ok (.iconst (-1), 1) := by decide +kernel
theorem dX6_init_217 : decode cX6_init 217 = .ok (.iastore, 1) := by decide +kernel
theorem dX6_init_218 : decode cX6_init 218 = .ok (.return_, 1) := by decide +kernel
theorem dX6_isIn_0 : decode cX6_isIn 0 = .ok (.iload_n 0, 1) := by decide +kernel
theorem dX6_isIn_1 : decode cX6_isIn 1 = .ok (.iload_n 1, 1) := by decide +kernel
theorem dX6_isIn_2 : decode cX6_isIn 2 = .ok (.if_icmp .lt 12, 3) := by decide +kernel
theorem dX6_isIn_5 : decode cX6_isIn 5 = .ok (.iload_n 0, 1) := by decide +kernel
theorem dX6_isIn_6 : decode cX6_isIn 6 = .ok (.iload_n 2, 1) := by decide +kernel
theorem dX6_isIn_7 : decode cX6_isIn 7 = .ok (.if_icmp .gt 7, 3) := by decide +kernel
theorem dX6_isIn_10 : decode cX6_isIn 10 = .ok (.iconst 1, 1) := by decide +kernel
theorem dX6_isIn_11 : decode cX6_isIn 11 = .ok (.goto 4, 3) := by decide +kernel
theorem dX6_isIn_14 : decode cX6_isIn 14 = .ok (.iconst 0, 1) := by decide +kernel
theorem dX6_isIn_15 : decode cX6_isIn 15 = .ok (.ireturn, 1) := by decide +kernel
theorem dX6_stage_0 : decode cX6_stage 0 = .ok (.iload_n 1, 1) := by decide +kernel
theorem dX6_stage_1 : decode cX6_stage 1 = .ok (.iconst 0, 1) := by decide +kernel
theorem dX6_stage_2 : decode cX6_stage 2 = .ok (.iconst 2, 1) := by decide +kernel
theorem dX6_stage_3 : decode cX6_stage 3 = .ok (.invokestatic 75, 3) := by decide +kernel
theorem dX6_stage_6 : decode cX6_stage 6 = .ok (.ifCond .eq 20, 3) := by decide +kernel
theorem dX6_stage_9 : decode cX6_stage 9 = .ok (.iload_n 2, 1) := by decide +kernel
theorem dX6_stage_10 : decode cX6_stage 10 = .ok (.iload_n 1, 1) := by decide +kernel
theorem dX6_stage_11 : decode cX6_stage 11 = .ok (.ifCond .ne 7, 3) := by decide +kernel
theorem dX6_stage_14 : decode cX6_stage 14 = .ok (.iconst 1, 1) := by decide +kernel
theorem dX6_stage_15 : decode cX6_stage 15 = .ok (.goto 4, 3) := by decide +kernel
theorem dX6_stage_18 : decode cX6_stage 18 = .ok (.iconst 0, 1) := by decide +kernel
theorem dX6_stage_19 : decode cX6_stage 19 = .ok (.iconst 4, 1) := by decide +kernel
theorem dX6_stage_20 : decode cX6_stage 20 = .ok (.invokestatic 75, 3) := by decide +kernel
theorem dX6_stage_23 : decode cX6_stage 23 = .ok (.ifCond .ne 7, 3) := by decide +kernel
theorem dX6_stage_26 : decode cX6_stage 26 = .ok (.ldc2_w 79, 3) := by decide +kernel
theorem dX6_stage_29 : decode cX6_stage 29 = .ok (.lreturn, 1) := by decide +kernel
theorem dX6_stage_30 : decode cX6_stage 30 = .ok (.aload_n 0, 1) := by decide +kernel
theorem dX6_stage_31 : decode cX6_stage 31 = .ok (.getfield 7, 3) := by decide +kernel
theorem dX6_stage_34 : decode cX6_stage 34 = .ok (.iload_n 1, 1) := by decide +kernel
theorem dX6_stage_35 : decode cX6_stage 35 = .ok (.iaload, 1) := by decide +kernel
theorem dX6_stage_36 : decode cX6_stage 36 = .ok (.istore_n 3, 1) := by decide +kernel
theorem dX6_stage_37 : decode cX6_stage 37 = .ok (.aload_n 0, 1) := by decide +kernel
theorem dX6_stage_38 : decode cX6_stage 38 = .ok (.getfield 7, 3) := by decide +kernel
theorem dX6_stage_41 : decode cX6_stage 41 = .ok (.iload_n 1, 1) := by decide +kernel
theorem dX6_stage_42 : decode cX6_stage 42 = .ok (.iload_n 2, 1) := by decide +kernel
theorem dX6_stage_43 : decode cX6_stage 43 = .ok (.iastore, 1) := by decide +kernel
theorem dX6_stage_44 : decode cX6_stage 44 = .ok (.iload_n 3, 1) := by decide +kernel
theorem dX6_stage_45 : decode cX6_stage 45 = .ok (.i2l, 1) := by decide +kernel
theorem dX6_stage_46 : decode cX6_stage 46 = .ok (.lreturn, 1) := by decide +kernel
theorem dX6_length_0 : decode cX6_length 0 = .ok (.iload_n 1, 1) := by decide +kernel
theorem dX6_length_1 : decode cX6_length 1 = .ok (.iconst 1, 1) := by decide +kernel
theorem dX6_length_2 : decode cX6_length 2 = .ok (.bipush 6, 2) := by decide +kernel
theorem dX6_length_4 : decode cX6_length 4 = .ok (.invokestatic 75, 3) := by decide +kernel
theorem dX6_length_7 : decode cX6_length 7 = .ok (.ifCond .ne 7, 3) := by decide +kernel
theorem dX6_length_10 : decode cX6_length 10 = .ok (.ldc2_w 79, 3) := by decide +kernel
theorem dX6_length_13 : decode cX6_length 13 = .ok (.lreturn, 1) := by decide +kernel
theorem dX6_length_14 : decode cX6_length 14 = .ok (.aload_n 0, 1) := by decide +kernel
theorem dX6_length_15 : decode cX6_length 15 = .ok (.getfield 13, 3) := by decide +kernel
theorem dX6_length_18 : decode cX6_length 18 = .ok (.istore_n 2, 1) := by decide +kernel
theorem dX6_length_19 : decode cX6_length 19 = .ok (.aload_n 0, 1) := by decide +kernel
theorem dX6_length_20 : decode cX6_length 20 = .ok (.iload_n 1, 1) := by decide +kernel
theorem dX6_length_21 : decode cX6_length 21 = .ok (.putfield 13, 3) := by decide +kernel
theorem dX6_length_24 : decode cX6_length 24 = .ok (.iload_n 2, 1) := by decide +kernel
theorem dX6_length_25 : decode cX6_length 25 = .ok (.i2l, 1) := by decide +kernel
theorem dX6_length_26 : decode cX6_length 26 = .ok (.lreturn, 1) := by decide +kernel
theorem dX6_placeOf_0 : decode cX6_placeOf 0 = .ok (.iload_n 0, 1) := by decide +kernel
theorem dX6_placeOf_1 : decode cX6_placeOf 1 = .ok (.ifCond .lt 35, 3) := by decide +kernel
theorem dX6_placeOf_4 : decode cX6_placeOf 4 = .ok (.iload_n 0, 1) := by decide +kernel
theorem dX6_placeOf_5 : decode cX6_placeOf 5 = .ok (.bipush 100, 2) := by decide +kernel
theorem dX6_placeOf_7 : decode cX6_placeOf 7 = .ok (.idiv, 1) := by decide +kernel
theorem dX6_placeOf_8 : decode cX6_placeOf 8 = .ok (.iconst 3, 1) := by decide +kernel
theorem dX6_placeOf_9 : decode cX6_placeOf 9 = .ok (.if_icmp .ge 27, 3) := by decide +kernel
theorem dX6_placeOf_12 : decode cX6_placeOf 12 = .ok (.iload_n 0, 1) := by decide +kernel
theorem dX6_placeOf_13 : decode cX6_placeOf 13 = .ok (.bipush 10, 2) := by decide +kernel
theorem dX6_placeOf_15 : decode cX6_placeOf 15 = .ok (.idiv, 1) := by decide +kernel
theorem dX6_placeOf_16 : decode cX6_placeOf 16 = .ok (.bipush 10, 2) := by decide +kernel
theorem dX6_placeOf_18 : decode cX6_placeOf 18 = .ok (.irem, 1) := by decide +kernel
theorem dX6_placeOf_19 : decode cX6_placeOf 19 = .ok (.iconst 4, 1) := by decide +kernel
theorem dX6_placeOf_20 : decode cX6_placeOf 20 = .ok (.if_icmp .ge 16, 3) := by decide +kernel
theorem dX6_placeOf_23 : decode cX6_placeOf 23 = .ok (.iload_n 0, 1) := by decide +kernel
theorem dX6_placeOf_24 : decode cX6_placeOf 24 = .ok (.bipush 10, 2) := by decide +kernel
theorem dX6_placeOf_26 : decode cX6_placeOf 26 = .ok (.irem, 1) := by decide +kernel
theorem dX6_placeOf_27 : decode cX6_placeOf 27 = .ok (.bipush 6, 2) := by decide +kernel
theorem dX6_placeOf_29 : decode cX6_placeOf 29 = .ok (.if_icmp .ge 7, 3) := by decide +kernel
theorem dX6_placeOf_32 : decode cX6_placeOf 32 = .ok (.iconst 1, 1) := by decide +kernel
theorem dX6_placeOf_33 : decode cX6_placeOf 33 = .ok (.goto 4, 3) := by decide +kernel
theorem dX6_placeOf_36 : decode cX6_placeOf 36 = .ok (.iconst 0, 1) := by decide +kernel
theorem dX6_placeOf_37 : decode cX6_placeOf 37 = .ok (.istore_n 1, 1) := by decide +kernel
theorem dX6_placeOf_38 : decode cX6_placeOf 38 = .ok (.iload_n 1, 1) := by decide +kernel
theorem dX6_placeOf_39 : decode cX6_placeOf 39 = .ok (.ifCond .eq 29, 3) := by decide +kernel
theorem dX6_placeOf_42 : decode cX6_placeOf 42 = .ok (.bipush 24, 2) := by decide +kernel
theorem dX6_placeOf_44 : decode cX6_placeOf 44 = .ok (.iload_n 0, 1) := by decide +kernel
theorem dX6_placeOf_45 : decode cX6_placeOf 45 = .ok (.bipush 100, 2) := by decide +kernel
theorem dX6_placeOf_47 : decode cX6_placeOf 47 = .ok (.idiv, 1) := by decide +kernel
theorem dX6_placeOf_48 : decode cX6_placeOf 48 = .ok (.imul, 1) := by decide +kernel
theorem dX6_placeOf_49 : decode cX6_placeOf 49 = .ok (.bipush 6, 2) := by decide +kernel
theorem dX6_placeOf_51 : decode cX6_placeOf 51 = .ok (.iload_n 0, 1) := by decide +kernel
theorem dX6_placeOf_52 : decode cX6_placeOf 52 = .ok (.bipush 10, 2) := by decide +kernel
theorem dX6_placeOf_54 : decode cX6_placeOf 54 = .ok (.idiv, 1) := by decide +kernel
theorem dX6_placeOf_55 : decode cX6_placeOf 55 = .ok (.bipush 10, 2) := by decide +kernel
theorem dX6_placeOf_57 : decode cX6_placeOf 57 = .ok (.irem, 1) := by decide +kernel
theorem dX6_placeOf_58 : decode cX6_placeOf 58 = .ok (.imul, 1) := by decide +kernel
theorem dX6_placeOf_59 : decode cX6_placeOf 59 = .ok (.iadd, 1) := by decide +kernel
theorem dX6_placeOf_60 : decode cX6_placeOf 60 = .ok (.iload_n 0, 1) := by decide +kernel
theorem dX6_placeOf_61 : decode cX6_placeOf 61 = .ok (.bipush 10, 2) := by decide +kernel
theorem dX6_placeOf_63 : decode cX6_placeOf 63 = .ok (.irem, 1) := by decide +kernel
theorem dX6_placeOf_64 : decode cX6_placeOf 64 = .ok (.iadd, 1) := by decide +kernel
theorem dX6_placeOf_65 : decode cX6_placeOf 65 = .ok (.goto 4, 3) := by decide +kernel
theorem dX6_placeOf_68 : decode cX6_placeOf 68 = .ok (.iconst (-1), 1) := by decide +kernel
theorem dX6_placeOf_69 : decode cX6_placeOf 69 = .ok (.ireturn, 1) := by decide +kernel
theorem dX6_skinAt_0 : decode cX6_skinAt 0 = .ok (.bipush 100, 2) := by decide +kernel
theorem dX6_skinAt_2 : decode cX6_skinAt 2 = .ok (.iload_n 0, 1) := by decide +kernel
theorem dX6_skinAt_3 : decode cX6_skinAt 3 = .ok (.bipush 24, 2) := by decide +kernel
theorem dX6_skinAt_5 : decode cX6_skinAt 5 = .ok (.idiv, 1) := by decide +kernel
theorem dX6_skinAt_6 : decode cX6_skinAt 6 = .ok (.imul, 1) := by decide +kernel
theorem dX6_skinAt_7 : decode cX6_skinAt 7 = .ok (.bipush 10, 2) := by decide +kernel
theorem dX6_skinAt_9 : decode cX6_skinAt 9 = .ok (.iload_n 0, 1) := by decide +kernel
theorem dX6_skinAt_10 : decode cX6_skinAt 10 = .ok (.bipush 6, 2) := by decide +kernel
theorem dX6_skinAt_12 : decode cX6_skinAt 12 = .ok (.idiv, 1) := by decide +kernel
theorem dX6_skinAt_13 : decode cX6_skinAt 13 = .ok (.iconst 4, 1) := by decide +kernel
theorem dX6_skinAt_14 : decode cX6_skinAt 14 = .ok (.irem, 1) := by decide +kernel
theorem dX6_skinAt_15 : decode cX6_skinAt 15 = .ok (.imul, 1) := by decide +kernel
theorem dX6_skinAt_16 : decode cX6_skinAt 16 = .ok (.iadd, 1) := by decide +kernel
theorem dX6_skinAt_17 : decode cX6_skinAt 17 = .ok (.iload_n 0, 1) := by decide +kernel
theorem dX6_skinAt_18 : decode cX6_skinAt 18 = .ok (.bipush 6, 2) := by decide +kernel
theorem dX6_skinAt_20 : decode cX6_skinAt 20 = .ok (.irem, 1) := by decide +kernel
theorem dX6_skinAt_21 : decode cX6_skinAt 21 = .ok (.iadd, 1) := by decide +kernel
theorem dX6_skinAt_22 : decode cX6_skinAt 22 = .ok (.ireturn, 1) := by decide +kernel
theorem dX6_isStage_0 : decode cX6_isStage 0 = .ok (.iconst 1, 1) := by decide +kernel
theorem dX6_isStage_1 : decode cX6_isStage 1 = .ok (.istore_n 2, 1) := by decide +kernel
theorem dX6_isStage_2 : decode cX6_isStage 2 = .ok (.iconst 0, 1) := by decide +kernel
theorem dX6_isStage_3 : decode cX6_isStage 3 = .ok (.istore_n 3, 1) := by decide +kernel
theorem dX6_isStage_4 : decode cX6_isStage 4 = .ok (.iload_n 3, 1) := by decide +kernel
theorem dX6_isStage_5 : decode cX6_isStage 5 = .ok (.iload_n 1, 1) := by decide +kernel
theorem dX6_isStage_6 : decode cX6_isStage 6 = .ok (.if_icmp .gt 28, 3) := by decide +kernel
theorem dX6_isStage_9 : decode cX6_isStage 9 = .ok (.iload_n 2, 1) := by decide +kernel
theorem dX6_isStage_10 : decode cX6_isStage 10 = .ok (.ifCond .eq 16, 3) := by decide +kernel
theorem dX6_isStage_13 : decode cX6_isStage 13 = .ok (.aload_n 0, 1) := by decide +kernel
theorem dX6_isStage_14 : decode cX6_isStage 14 = .ok (.getfield 7, 3) := by decide +kernel
theorem dX6_isStage_17 : decode cX6_isStage 17 = .ok (.iload_n 3, 1) := by decide +kernel
theorem dX6_isStage_18 : decode cX6_isStage 18 = .ok (.iaload, 1) := by decide +kernel
theorem dX6_isStage_19 : decode cX6_isStage 19 = .ok (.ifCond .le 7, 3) := by decide +kernel
theorem dX6_isStage_22 : decode cX6_isStage 22 = .ok (.iconst 1, 1) := by decide +kernel
theorem dX6_isStage_23 : decode cX6_isStage 23 = .ok (.goto 4, 3) := by decide +kernel
theorem dX6_isStage_26 : decode cX6_isStage 26 = .ok (.iconst 0, 1) := by decide +kernel
theorem dX6_isStage_27 : decode cX6_isStage 27 = .ok (.istore_n 2, 1) := by decide +kernel
theorem dX6_isStage_28 : decode cX6_isStage 28 = .ok (.iinc 3 1, 3) := by decide +kernel
theorem dX6_isStage_31 : decode cX6_isStage 31 = .ok (.goto (-27), 3) := by decide +kernel
theorem dX6_isStage_34 : decode cX6_isStage 34 = .ok (.iload_n 2, 1) := by decide +kernel
theorem dX6_isStage_35 : decode cX6_isStage 35 = .ok (.ireturn, 1) := by decide +kernel
theorem dX6_isThere_0 : decode cX6_isThere 0 = .ok (.aload_n 0, 1) := by decide +kernel
theorem dX6_isThere_1 : decode cX6_isThere 1 = .ok (.iload_n 1, 1) := by decide +kernel
theorem dX6_isThere_2 : decode cX6_isThere 2 = .ok (.bipush 24, 2) := by decide +kernel
theorem dX6_isThere_4 : decode cX6_isThere 4 = .ok (.idiv, 1) := by decide +kernel
theorem dX6_isThere_5 : decode cX6_isThere 5 = .ok (.invokevirtual 81, 3) := by decide +kernel
theorem dX6_isThere_8 : decode cX6_isThere 8 = .ok (.ifCond .eq 36, 3) := by decide +kernel
theorem dX6_isThere_11 : decode cX6_isThere 11 = .ok (.iload_n 1, 1) := by decide +kernel
theorem dX6_isThere_12 : decode cX6_isThere 12 = .ok (.bipush 6, 2) := by decide +kernel
theorem dX6_isThere_14 : decode cX6_isThere 14 = .ok (.idiv, 1) := by decide +kernel
theorem dX6_isThere_15 : decode cX6_isThere 15 = .ok (.iconst 4, 1) := by decide +kernel
theorem dX6_isThere_16 : decode cX6_isThere 16 = .ok (.irem, 1) := by decide +kernel
theorem dX6_isThere_17 : decode cX6_isThere 17 = .ok (.aload_n 0, 1) := by decide +kernel
theorem dX6_isThere_18 : decode cX6_isThere 18 = .ok (.getfield 7, 3) := by decide +kernel
theorem dX6_isThere_21 : decode cX6_isThere 21 = .ok (.iload_n 1, 1) := by decide +kernel
theorem dX6_isThere_22 : decode cX6_isThere 22 = .ok (.bipush 24, 2) := by decide +kernel
theorem dX6_isThere_24 : decode cX6_isThere 24 = .ok (.idiv, 1) := by decide +kernel
theorem dX6_isThere_25 : decode cX6_isThere 25 = .ok (.iaload, 1) := by decide +kernel
theorem dX6_isThere_26 : decode cX6_isThere 26 = .ok (.if_icmp .ge 18, 3) := by decide +kernel
theorem dX6_isThere_29 : decode cX6_isThere 29 = .ok (.iload_n 1, 1) := by decide +kernel
theorem dX6_isThere_30 : decode cX6_isThere 30 = .ok (.bipush 6, 2) := by decide +kernel
theorem dX6_isThere_32 : decode cX6_isThere 32 = .ok (.irem, 1) := by decide +kernel
theorem dX6_isThere_33 : decode cX6_isThere 33 = .ok (.aload_n 0, 1) := by decide +kernel
theorem dX6_isThere_34 : decode cX6_isThere 34 = .ok (.getfield 13, 3) := by decide +kernel
theorem dX6_isThere_37 : decode cX6_isThere 37 = .ok (.if_icmp .ge 7, 3) := by decide +kernel
theorem dX6_isThere_40 : decode cX6_isThere 40 = .ok (.iconst 1, 1) := by decide +kernel
theorem dX6_isThere_41 : decode cX6_isThere 41 = .ok (.goto 4, 3) := by decide +kernel
theorem dX6_isThere_44 : decode cX6_isThere 44 = .ok (.iconst 0, 1) := by decide +kernel
theorem dX6_isThere_45 : decode cX6_isThere 45 = .ok (.ireturn, 1) := by decide +kernel
theorem dX6_fresh_0 : decode cX6_fresh 0 = .ok (.iload_n 1, 1) := by decide +kernel
theorem dX6_fresh_1 : decode cX6_fresh 1 = .ok (.invokestatic 85, 3) := by decide +kernel
theorem dX6_fresh_4 : decode cX6_fresh 4 = .ok (.istore_n 3, 1) := by decide +kernel
theorem dX6_fresh_5 : decode cX6_fresh 5 = .ok (.iload_n 3, 1) := by decide +kernel
theorem dX6_fresh_6 : decode cX6_fresh 6 = .ok (.ifCond .lt 12, 3) := by decide +kernel
theorem dX6_fresh_9 : decode cX6_fresh 9 = .ok (.iload_n 2, 1) := by decide +kernel
theorem dX6_fresh_10 : decode cX6_fresh 10 = .ok (.iconst 0, 1) := by decide +kernel
theorem dX6_fresh_11 : decode cX6_fresh 11 = .ok (.iconst 3, 1) := by decide +kernel
theorem dX6_fresh_12 : decode cX6_fresh 12 = .ok (.invokestatic 75, 3) := by decide +kernel
theorem dX6_fresh_15 : decode cX6_fresh 15 = .ok (.ifCond .ne 7, 3) := by decide +kernel
theorem dX6_fresh_18 : decode cX6_fresh 18 = .ok (.ldc2_w 79, 3) := by decide +kernel
theorem dX6_fresh_21 : decode cX6_fresh 21 = .ok (.lreturn, 1) := by decide +kernel
theorem dX6_fresh_22 : decode cX6_fresh 22 = .ok (.aload_n 0, 1) := by decide +kernel
theorem dX6_fresh_23 : decode cX6_fresh 23 = .ok (.getfield 20, 3) := by decide +kernel
theorem dX6_fresh_26 : decode cX6_fresh 26 = .ok (.iload_n 3, 1) := by decide +kernel
theorem dX6_fresh_27 : decode cX6_fresh 27 = .ok (.iaload, 1) := by decide +kernel
theorem dX6_fresh_28 : decode cX6_fresh 28 = .ok (.istore 4, 2) := by decide +kernel
theorem dX6_fresh_30 : decode cX6_fresh 30 = .ok (.aload_n 0, 1) := by decide +kernel
theorem dX6_fresh_31 : decode cX6_fresh 31 = .ok (.getfield 20, 3) := by decide +kernel
theorem dX6_fresh_34 : decode cX6_fresh 34 = .ok (.iload_n 3, 1) := by decide +kernel
theorem dX6_fresh_35 : decode cX6_fresh 35 = .ok (.iconst 0, 1) := by decide +kernel
theorem dX6_fresh_36 : decode cX6_fresh 36 = .ok (.iastore, 1) := by decide +kernel
theorem dX6_fresh_37 : decode cX6_fresh 37 = .ok (.aload_n 0, 1) := by decide +kernel
theorem dX6_fresh_38 : decode cX6_fresh 38 = .ok (.getfield 17, 3) := by decide +kernel
theorem dX6_fresh_41 : decode cX6_fresh 41 = .ok (.iload_n 3, 1) := by decide +kernel
theorem dX6_fresh_42 : decode cX6_fresh 42 = .ok (.iload_n 2, 1) := by decide +kernel
theorem dX6_fresh_43 : decode cX6_fresh 43 = .ok (.iastore, 1) := by decide +kernel
theorem dX6_fresh_44 : decode cX6_fresh 44 = .ok (.iload 4, 2) := by decide +kernel
theorem dX6_fresh_46 : decode cX6_fresh 46 = .ok (.i2l, 1) := by decide +kernel
theorem dX6_fresh_47 : decode cX6_fresh 47 = .ok (.lreturn, 1) := by decide +kernel
theorem dX6_pass_0 : decode cX6_pass 0 = .ok (.aload_n 0, 1) := by decide +kernel
theorem dX6_pass_1 : decode cX6_pass 1 = .ok (.getfield 17, 3) := by decide +kernel
theorem dX6_pass_4 : decode cX6_pass 4 = .ok (.iload_n 1, 1) := by decide +kernel
theorem dX6_pass_5 : decode cX6_pass 5 = .ok (.iaload, 1) := by decide +kernel
theorem dX6_pass_6 : decode cX6_pass 6 = .ok (.iconst 1, 1) := by decide +kernel
theorem dX6_pass_7 : decode cX6_pass 7 = .ok (.if_icmp .ne 8, 3) := by decide +kernel
theorem dX6_pass_10 : decode cX6_pass 10 = .ok (.bipush 30, 2) := by decide +kernel
theorem dX6_pass_12 : decode cX6_pass 12 = .ok (.goto 35, 3) := by decide +kernel
theorem dX6_pass_15 : decode cX6_pass 15 = .ok (.aload_n 0, 1) := by decide +kernel
theorem dX6_pass_16 : decode cX6_pass 16 = .ok (.getfield 17, 3) := by decide +kernel
theorem dX6_pass_19 : decode cX6_pass 19 = .ok (.iload_n 1, 1) := by decide +kernel
theorem dX6_pass_20 : decode cX6_pass 20 = .ok (.iaload, 1) := by decide +kernel
theorem dX6_pass_21 : decode cX6_pass 21 = .ok (.iconst 2, 1) := by decide +kernel
theorem dX6_pass_22 : decode cX6_pass 22 = .ok (.if_icmp .ne 8, 3) := by decide +kernel
theorem dX6_pass_25 : decode cX6_pass 25 = .ok (.bipush 60, 2) := by decide +kernel
theorem dX6_pass_27 : decode cX6_pass 27 = .ok (.goto 20, 3) := by decide +kernel
theorem dX6_pass_30 : decode cX6_pass 30 = .ok (.aload_n 0, 1) := by decide +kernel
theorem dX6_pass_31 : decode cX6_pass 31 = .ok (.getfield 17, 3) := by decide +kernel
theorem dX6_pass_34 : decode cX6_pass 34 = .ok (.iload_n 1, 1) := by decide +kernel
theorem dX6_pass_35 : decode cX6_pass 35 = .ok (.iaload, 1) := by decide +kernel
theorem dX6_pass_36 : decode cX6_pass 36 = .ok (.iconst 3, 1) := by decide +kernel
theorem dX6_pass_37 : decode cX6_pass 37 = .ok (.if_icmp .ne 8, 3) := by decide +kernel
theorem dX6_pass_40 : decode cX6_pass 40 = .ok (.bipush 20, 2) := by decide +kernel
theorem dX6_pass_42 : decode cX6_pass 42 = .ok (.goto 5, 3) := by decide +kernel
theorem dX6_pass_45 : decode cX6_pass 45 = .ok (.bipush 40, 2) := by decide +kernel
theorem dX6_pass_47 : decode cX6_pass 47 = .ok (.istore_n 2, 1) := by decide +kernel
theorem dX6_pass_48 : decode cX6_pass 48 = .ok (.iload_n 2, 1) := by decide +kernel
theorem dX6_pass_49 : decode cX6_pass 49 = .ok (.iload_n 2, 1) := by decide +kernel
theorem dX6_pass_50 : decode cX6_pass 50 = .ok (.aload_n 0, 1) := by decide +kernel
theorem dX6_pass_51 : decode cX6_pass 51 = .ok (.getfield 20, 3) := by decide +kernel
theorem dX6_pass_54 : decode cX6_pass 54 = .ok (.iload_n 1, 1) := by decide +kernel
theorem dX6_pass_55 : decode cX6_pass 55 = .ok (.iaload, 1) := by decide +kernel
theorem dX6_pass_56 : decode cX6_pass 56 = .ok (.imul, 1) := by decide +kernel
theorem dX6_pass_57 : decode cX6_pass 57 = .ok (.bipush 100, 2) := by decide +kernel
theorem dX6_pass_59 : decode cX6_pass 59 = .ok (.idiv, 1) := by decide +kernel
theorem dX6_pass_60 : decode cX6_pass 60 = .ok (.isub, 1) := by decide +kernel
theorem dX6_pass_61 : decode cX6_pass 61 = .ok (.ireturn, 1) := by decide +kernel
theorem dX6_leak_0 : decode cX6_leak 0 = .ok (.aload_n 0, 1) := by decide +kernel
theorem dX6_leak_1 : decode cX6_leak 1 = .ok (.getfield 17, 3) := by decide +kernel
theorem dX6_leak_4 : decode cX6_leak 4 = .ok (.iload_n 1, 1) := by decide +kernel
theorem dX6_leak_5 : decode cX6_leak 5 = .ok (.iaload, 1) := by decide +kernel
theorem dX6_leak_6 : decode cX6_leak 6 = .ok (.iconst 1, 1) := by decide +kernel
theorem dX6_leak_7 : decode cX6_leak 7 = .ok (.if_icmp .ne 7, 3) := by decide +kernel
theorem dX6_leak_10 : decode cX6_leak 10 = .ok (.iconst 5, 1) := by decide +kernel
theorem dX6_leak_11 : decode cX6_leak 11 = .ok (.goto 34, 3) := by decide +kernel
theorem dX6_leak_14 : decode cX6_leak 14 = .ok (.aload_n 0, 1) := by decide +kernel
theorem dX6_leak_15 : decode cX6_leak 15 = .ok (.getfield 17, 3) := by decide +kernel
theorem dX6_leak_18 : decode cX6_leak 18 = .ok (.iload_n 1, 1) := by decide +kernel
theorem dX6_leak_19 : decode cX6_leak 19 = .ok (.iaload, 1) := by decide +kernel
theorem dX6_leak_20 : decode cX6_leak 20 = .ok (.iconst 2, 1) := by decide +kernel
theorem dX6_leak_21 : decode cX6_leak 21 = .ok (.if_icmp .ne 8, 3) := by decide +kernel
theorem dX6_leak_24 : decode cX6_leak 24 = .ok (.bipush 25, 2) := by decide +kernel
theorem dX6_leak_26 : decode cX6_leak 26 = .ok (.goto 19, 3) := by decide +kernel
theorem dX6_leak_29 : decode cX6_leak 29 = .ok (.aload_n 0, 1) := by decide +kernel
theorem dX6_leak_30 : decode cX6_leak 30 = .ok (.getfield 17, 3) := by decide +kernel
theorem dX6_leak_33 : decode cX6_leak 33 = .ok (.iload_n 1, 1) := by decide +kernel
theorem dX6_leak_34 : decode cX6_leak 34 = .ok (.iaload, 1) := by decide +kernel
theorem dX6_leak_35 : decode cX6_leak 35 = .ok (.iconst 3, 1) := by decide +kernel
theorem dX6_leak_36 : decode cX6_leak 36 = .ok (.if_icmp .ne 7, 3) := by decide +kernel
theorem dX6_leak_39 : decode cX6_leak 39 = .ok (.iconst 2, 1) := by decide +kernel
theorem dX6_leak_40 : decode cX6_leak 40 = .ok (.goto 5, 3) := by decide +kernel
theorem dX6_leak_43 : decode cX6_leak 43 = .ok (.bipush 10, 2) := by decide +kernel
theorem dX6_leak_45 : decode cX6_leak 45 = .ok (.ireturn, 1) := by decide +kernel
theorem dX6_told_0 : decode cX6_told 0 = .ok (.iload_n 1, 1) := by decide +kernel
theorem dX6_told_1 : decode cX6_told 1 = .ok (.invokestatic 85, 3) := by decide +kernel
theorem dX6_told_4 : decode cX6_told 4 = .ok (.istore_n 3, 1) := by decide +kernel
theorem dX6_told_5 : decode cX6_told 5 = .ok (.iload_n 3, 1) := by decide +kernel
theorem dX6_told_6 : decode cX6_told 6 = .ok (.ifCond .lt 12, 3) := by decide +kernel
theorem dX6_told_9 : decode cX6_told 9 = .ok (.iload_n 2, 1) := by decide +kernel
theorem dX6_told_10 : decode cX6_told 10 = .ok (.iconst 0, 1) := by decide +kernel
theorem dX6_told_11 : decode cX6_told 11 = .ok (.iconst 3, 1) := by decide +kernel
theorem dX6_told_12 : decode cX6_told 12 = .ok (.invokestatic 75, 3) := by decide +kernel
theorem dX6_told_15 : decode cX6_told 15 = .ok (.ifCond .ne 7, 3) := by decide +kernel
theorem dX6_told_18 : decode cX6_told 18 = .ok (.ldc2_w 79, 3) := by decide +kernel
theorem dX6_told_21 : decode cX6_told 21 = .ok (.lreturn, 1) := by decide +kernel
theorem dX6_told_22 : decode cX6_told 22 = .ok (.iload_n 2, 1) := by decide +kernel
theorem dX6_told_23 : decode cX6_told 23 = .ok (.ifCond .ne 13, 3) := by decide +kernel
theorem dX6_told_26 : decode cX6_told 26 = .ok (.aload_n 0, 1) := by decide +kernel
theorem dX6_told_27 : decode cX6_told 27 = .ok (.getfield 17, 3) := by decide +kernel
theorem dX6_told_30 : decode cX6_told 30 = .ok (.iload_n 3, 1) := by decide +kernel
theorem dX6_told_31 : decode cX6_told 31 = .ok (.iaload, 1) := by decide +kernel
theorem dX6_told_32 : decode cX6_told 32 = .ok (.i2l, 1) := by decide +kernel
theorem dX6_told_33 : decode cX6_told 33 = .ok (.goto 38, 3) := by decide +kernel
theorem dX6_told_36 : decode cX6_told 36 = .ok (.iload_n 2, 1) := by decide +kernel
theorem dX6_told_37 : decode cX6_told 37 = .ok (.iconst 1, 1) := by decide +kernel
theorem dX6_told_38 : decode cX6_told 38 = .ok (.if_icmp .ne 13, 3) := by decide +kernel
theorem dX6_told_41 : decode cX6_told 41 = .ok (.aload_n 0, 1) := by decide +kernel
theorem dX6_told_42 : decode cX6_told 42 = .ok (.getfield 20, 3) := by decide +kernel
theorem dX6_told_45 : decode cX6_told 45 = .ok (.iload_n 3, 1) := by decide +kernel
theorem dX6_told_46 : decode cX6_told 46 = .ok (.iaload, 1) := by decide +kernel
theorem dX6_told_47 : decode cX6_told 47 = .ok (.i2l, 1) := by decide +kernel
theorem dX6_told_48 : decode cX6_told 48 = .ok (.goto 23, 3) := by decide +kernel
theorem dX6_told_51 : decode cX6_told 51 = .ok (.iload_n 2, 1) := by decide +kernel
theorem dX6_told_52 : decode cX6_told 52 = .ok (.iconst 2, 1) := by decide +kernel
theorem dX6_told_53 : decode cX6_told 53 = .ok (.if_icmp .ne 12, 3) := by decide +kernel
theorem dX6_told_56 : decode cX6_told 56 = .ok (.aload_n 0, 1) := by decide +kernel
theorem dX6_told_57 : decode cX6_told 57 = .ok (.iload_n 3, 1) := by decide +kernel
theorem dX6_told_58 : decode cX6_told 58 = .ok (.invokevirtual 89, 3) := by decide +kernel
theorem dX6_told_61 : decode cX6_told 61 = .ok (.i2l, 1) := by decide +kernel
theorem dX6_told_62 : decode cX6_told 62 = .ok (.goto 9, 3) := by decide +kernel
theorem dX6_told_65 : decode cX6_told 65 = .ok (.aload_n 0, 1) := by decide +kernel
theorem dX6_told_66 : decode cX6_told 66 = .ok (.iload_n 3, 1) := by decide +kernel
theorem dX6_told_67 : decode cX6_told 67 = .ok (.invokevirtual 92, 3) := by decide +kernel
theorem dX6_told_70 : decode cX6_told 70 = .ok (.i2l, 1) := by decide +kernel
theorem dX6_told_71 : decode cX6_told 71 = .ok (.lreturn, 1) := by decide +kernel
theorem dX6_isOf_0 : decode cX6_isOf 0 = .ok (.iload_n 1, 1) := by decide +kernel
theorem dX6_isOf_1 : decode cX6_isOf 1 = .ok (.invokestatic 85, 3) := by decide +kernel
theorem dX6_isOf_4 : decode cX6_isOf 4 = .ok (.istore_n 3, 1) := by decide +kernel
theorem dX6_isOf_5 : decode cX6_isOf 5 = .ok (.iload_n 3, 1) := by decide +kernel
theorem dX6_isOf_6 : decode cX6_isOf 6 = .ok (.ifCond .lt 12, 3) := by decide +kernel
theorem dX6_isOf_9 : decode cX6_isOf 9 = .ok (.iload_n 2, 1) := by decide +kernel
theorem dX6_isOf_10 : decode cX6_isOf 10 = .ok (.iconst 0, 1) := by decide +kernel
theorem dX6_isOf_11 : decode cX6_isOf 11 = .ok (.iconst 3, 1) := by decide +kernel
theorem dX6_isOf_12 : decode cX6_isOf 12 = .ok (.invokestatic 75, 3) := by decide +kernel
theorem dX6_isOf_15 : decode cX6_isOf 15 = .ok (.ifCond .ne 7, 3) := by decide +kernel
theorem dX6_isOf_18 : decode cX6_isOf 18 = .ok (.ldc2_w 79, 3) := by decide +kernel
theorem dX6_isOf_21 : decode cX6_isOf 21 = .ok (.lreturn, 1) := by decide +kernel
theorem dX6_isOf_22 : decode cX6_isOf 22 = .ok (.iload_n 2, 1) := by decide +kernel
theorem dX6_isOf_23 : decode cX6_isOf 23 = .ok (.ifCond .eq 28, 3) := by decide +kernel
theorem dX6_isOf_26 : decode cX6_isOf 26 = .ok (.aload_n 0, 1) := by decide +kernel
theorem dX6_isOf_27 : decode cX6_isOf 27 = .ok (.getfield 17, 3) := by decide +kernel
theorem dX6_isOf_30 : decode cX6_isOf 30 = .ok (.iload_n 3, 1) := by decide +kernel
theorem dX6_isOf_31 : decode cX6_isOf 31 = .ok (.iaload, 1) := by decide +kernel
theorem dX6_isOf_32 : decode cX6_isOf 32 = .ok (.iload_n 2, 1) := by decide +kernel
theorem dX6_isOf_33 : decode cX6_isOf 33 = .ok (.if_icmp .eq 18, 3) := by decide +kernel
theorem dX6_isOf_36 : decode cX6_isOf 36 = .ok (.iload_n 2, 1) := by decide +kernel
theorem dX6_isOf_37 : decode cX6_isOf 37 = .ok (.iconst 1, 1) := by decide +kernel
theorem dX6_isOf_38 : decode cX6_isOf 38 = .ok (.if_icmp .ne 17, 3) := by decide +kernel
theorem dX6_isOf_41 : decode cX6_isOf 41 = .ok (.aload_n 0, 1) := by decide +kernel
theorem dX6_isOf_42 : decode cX6_isOf 42 = .ok (.getfield 17, 3) := by decide +kernel
theorem dX6_isOf_45 : decode cX6_isOf 45 = .ok (.iload_n 3, 1) := by decide +kernel
theorem dX6_isOf_46 : decode cX6_isOf 46 = .ok (.iaload, 1) := by decide +kernel
theorem dX6_isOf_47 : decode cX6_isOf 47 = .ok (.iconst 3, 1) := by decide +kernel
theorem dX6_isOf_48 : decode cX6_isOf 48 = .ok (.if_icmp .ne 7, 3) := by decide +kernel
theorem dX6_isOf_51 : decode cX6_isOf 51 = .ok (.lconst 1, 1) := by decide +kernel
theorem dX6_isOf_52 : decode cX6_isOf 52 = .ok (.goto 4, 3) := by decide +kernel
theorem dX6_isOf_55 : decode cX6_isOf 55 = .ok (.lconst 0, 1) := by decide +kernel
theorem dX6_isOf_56 : decode cX6_isOf 56 = .ok (.lreturn, 1) := by decide +kernel
theorem dX6_feed_0 : decode cX6_feed 0 = .ok (.iload_n 1, 1) := by decide +kernel
theorem dX6_feed_1 : decode cX6_feed 1 = .ok (.iconst 0, 1) := by decide +kernel
theorem dX6_feed_2 : decode cX6_feed 2 = .ok (.sipush 20000, 3) := by decide +kernel
theorem dX6_feed_5 : decode cX6_feed 5 = .ok (.invokestatic 75, 3) := by decide +kernel
theorem dX6_feed_8 : decode cX6_feed 8 = .ok (.ifCond .eq 24, 3) := by decide +kernel
theorem dX6_feed_11 : decode cX6_feed 11 = .ok (.iload_n 2, 1) := by decide +kernel
theorem dX6_feed_12 : decode cX6_feed 12 = .ok (.iconst 0, 1) := by decide +kernel
theorem dX6_feed_13 : decode cX6_feed 13 = .ok (.ldc 95, 2) := by decide +kernel
theorem dX6_feed_15 : decode cX6_feed 15 = .ok (.invokestatic 75, 3) := by decide +kernel
theorem dX6_feed_18 : decode cX6_feed 18 = .ok (.ifCond .eq 14, 3) := by decide +kernel
theorem dX6_feed_21 : decode cX6_feed 21 = .ok (.iload_n 3, 1) := by decide +kernel
theorem dX6_feed_22 : decode cX6_feed 22 = .ok (.iconst 0, 1) := by decide +kernel
theorem dX6_feed_23 : decode cX6_feed 23 = .ok (.sipush 900, 3) := by decide +kernel
theorem dX6_feed_26 : decode cX6_feed 26 = .ok (.invokestatic 75, 3) := by decide +kernel
theorem dX6_feed_29 : decode cX6_feed 29 = .ok (.ifCond .ne 7, 3) := by decide +kernel
theorem dX6_feed_32 : decode cX6_feed 32 = .ok (.ldc2_w 79, 3) := by decide +kernel
theorem dX6_feed_35 : decode cX6_feed 35 = .ok (.lreturn, 1) := by decide +kernel
theorem dX6_feed_36 : decode cX6_feed 36 = .ok (.aload_n 0, 1) := by decide +kernel
theorem dX6_feed_37 : decode cX6_feed 37 = .ok (.iload_n 1, 1) := by decide +kernel
theorem dX6_feed_38 : decode cX6_feed 38 = .ok (.putfield 23, 3) := by decide +kernel
theorem dX6_feed_41 : decode cX6_feed 41 = .ok (.aload_n 0, 1) := by decide +kernel
theorem dX6_feed_42 : decode cX6_feed 42 = .ok (.iload_n 2, 1) := by decide +kernel
theorem dX6_feed_43 : decode cX6_feed 43 = .ok (.putfield 26, 3) := by decide +kernel
theorem dX6_feed_46 : decode cX6_feed 46 = .ok (.aload_n 0, 1) := by decide +kernel
theorem dX6_feed_47 : decode cX6_feed 47 = .ok (.iload_n 3, 1) := by decide +kernel
theorem dX6_feed_48 : decode cX6_feed 48 = .ok (.putfield 29, 3) := by decide +kernel
theorem dX6_feed_51 : decode cX6_feed 51 = .ok (.lconst 0, 1) := by decide +kernel
theorem dX6_feed_52 : decode cX6_feed 52 = .ok (.lreturn, 1) := by decide +kernel
theorem dX6_exchange_0 : decode cX6_exchange 0 = .ok (.aload_n 0, 1) := by decide +kernel
theorem dX6_exchange_1 : decode cX6_exchange 1 = .ok (.getfield 17, 3) := by decide +kernel
theorem dX6_exchange_4 : decode cX6_exchange 4 = .ok (.iload_n 1, 1) := by decide +kernel
theorem dX6_exchange_5 : decode cX6_exchange 5 = .ok (.iaload, 1) := by decide +kernel
theorem dX6_exchange_6 : decode cX6_exchange 6 = .ok (.istore_n 3, 1) := by decide +kernel
theorem dX6_exchange_7 : decode cX6_exchange 7 = .ok (.aload_n 0, 1) := by decide +kernel
theorem dX6_exchange_8 : decode cX6_exchange 8 = .ok (.getfield 20, 3) := by decide +kernel
theorem dX6_exchange_11 : decode cX6_exchange 11 = .ok (.iload_n 1, 1) := by decide +kernel
theorem dX6_exchange_12 : decode cX6_exchange 12 = .ok (.iaload, 1) := by decide +kernel
theorem dX6_exchange_13 : decode cX6_exchange 13 = .ok (.istore 4, 2) := by decide +kernel
theorem dX6_exchange_15 : decode cX6_exchange 15 = .ok (.aload_n 0, 1) := by decide +kernel
theorem dX6_exchange_16 : decode cX6_exchange 16 = .ok (.getfield 17, 3) := by decide +kernel
theorem dX6_exchange_19 : decode cX6_exchange 19 = .ok (.iload_n 1, 1) := by decide +kernel
theorem dX6_exchange_20 : decode cX6_exchange 20 = .ok (.aload_n 0, 1) := by decide +kernel
theorem dX6_exchange_21 : decode cX6_exchange 21 = .ok (.getfield 17, 3) := by decide +kernel
theorem dX6_exchange_24 : decode cX6_exchange 24 = .ok (.iload_n 2, 1) := by decide +kernel
theorem dX6_exchange_25 : decode cX6_exchange 25 = .ok (.iaload, 1) := by decide +kernel
theorem dX6_exchange_26 : decode cX6_exchange 26 = .ok (.iastore, 1) := by decide +kernel
theorem dX6_exchange_27 : decode cX6_exchange 27 = .ok (.aload_n 0, 1) := by decide +kernel
theorem dX6_exchange_28 : decode cX6_exchange 28 = .ok (.getfield 20, 3) := by decide +kernel
theorem dX6_exchange_31 : decode cX6_exchange 31 = .ok (.iload_n 1, 1) := by decide +kernel
theorem dX6_exchange_32 : decode cX6_exchange 32 = .ok (.aload_n 0, 1) := by decide +kernel
theorem dX6_exchange_33 : decode cX6_exchange 33 = .ok (.getfield 20, 3) := by decide +kernel
theorem dX6_exchange_36 : decode cX6_exchange 36 = .ok (.iload_n 2, 1) := by decide +kernel
theorem dX6_exchange_37 : decode cX6_exchange 37 = .ok (.iaload, 1) := by decide +kernel
theorem dX6_exchange_38 : decode cX6_exchange 38 = .ok (.iastore, 1) := by decide +kernel
theorem dX6_exchange_39 : decode cX6_exchange 39 = .ok (.aload_n 0, 1) := by decide +kernel
theorem dX6_exchange_40 : decode cX6_exchange 40 = .ok (.getfield 17, 3) := by decide +kernel
theorem dX6_exchange_43 : decode cX6_exchange 43 = .ok (.iload_n 2, 1) := by decide +kernel
theorem dX6_exchange_44 : decode cX6_exchange 44 = .ok (.iload_n 3, 1) := by decide +kernel
theorem dX6_exchange_45 : decode cX6_exchange 45 = .ok (.iastore, 1) := by decide +kernel
theorem dX6_exchange_46 : decode cX6_exchange 46 = .ok (.aload_n 0, 1) := by decide +kernel
theorem dX6_exchange_47 : decode cX6_exchange 47 = .ok (.getfield 20, 3) := by decide +kernel
theorem dX6_exchange_50 : decode cX6_exchange 50 = .ok (.iload_n 2, 1) := by decide +kernel
theorem dX6_exchange_51 : decode cX6_exchange 51 = .ok (.iload 4, 2) := by decide +kernel
theorem dX6_exchange_53 : decode cX6_exchange 53 = .ok (.iastore, 1) := by decide +kernel
theorem dX6_exchange_54 : decode cX6_exchange 54 = .ok (.return_, 1) := by decide +kernel
theorem dX6_change_0 : decode cX6_change 0 = .ok (.iload_n 1, 1) := by decide +kernel
theorem dX6_change_1 : decode cX6_change 1 = .ok (.invokestatic 85, 3) := by decide +kernel
theorem dX6_change_4 : decode cX6_change 4 = .ok (.istore_n 3, 1) := by decide +kernel
theorem dX6_change_5 : decode cX6_change 5 = .ok (.iload_n 2, 1) := by decide +kernel
theorem dX6_change_6 : decode cX6_change 6 = .ok (.invokestatic 85, 3) := by decide +kernel
theorem dX6_change_9 : decode cX6_change 9 = .ok (.istore 4, 2) := by decide +kernel
theorem dX6_change_11 : decode cX6_change 11 = .ok (.iload_n 3, 1) := by decide +kernel
theorem dX6_change_12 : decode cX6_change 12 = .ok (.ifCond .lt 14, 3) := by decide +kernel
theorem dX6_change_15 : decode cX6_change 15 = .ok (.iload 4, 2) := by decide +kernel
theorem dX6_change_17 : decode cX6_change 17 = .ok (.ifCond .lt 9, 3) := by decide +kernel
theorem dX6_change_20 : decode cX6_change 20 = .ok (.iload_n 3, 1) := by decide +kernel
theorem dX6_change_21 : decode cX6_change 21 = .ok (.iload 4, 2) := by decide +kernel
theorem dX6_change_23 : decode cX6_change 23 = .ok (.if_icmp .ne 7, 3) := by decide +kernel
theorem dX6_change_26 : decode cX6_change 26 = .ok (.ldc2_w 79, 3) := by decide +kernel
theorem dX6_change_29 : decode cX6_change 29 = .ok (.lreturn, 1) := by decide +kernel
theorem dX6_change_30 : decode cX6_change 30 = .ok (.aload_n 0, 1) := by decide +kernel
theorem dX6_change_31 : decode cX6_change 31 = .ok (.iload_n 3, 1) := by decide +kernel
theorem dX6_change_32 : decode cX6_change 32 = .ok (.iload 4, 2) := by decide +kernel
theorem dX6_change_34 : decode cX6_change 34 = .ok (.invokevirtual 96, 3) := by decide +kernel
theorem dX6_change_37 : decode cX6_change 37 = .ok (.lconst 0, 1) := by decide +kernel
theorem dX6_change_38 : decode cX6_change 38 = .ok (.lreturn, 1) := by decide +kernel
theorem dX6_saltOf_0 : decode cX6_saltOf 0 = .ok (.lload_n 0, 1) := by decide +kernel
theorem dX6_saltOf_1 : decode cX6_saltOf 1 = .ok (.lconst 0, 1) := by decide +kernel
theorem dX6_saltOf_2 : decode cX6_saltOf 2 = .ok (.lcmp, 1) := by decide +kernel
theorem dX6_saltOf_3 : decode cX6_saltOf 3 = .ok (.ifCond .ne 7, 3) := by decide +kernel
theorem dX6_saltOf_6 : decode cX6_saltOf 6 = .ok (.lconst 0, 1) := by decide +kernel
theorem dX6_saltOf_7 : decode cX6_saltOf 7 = .ok (.goto 6, 3) := by decide +kernel
theorem dX6_saltOf_10 : decode cX6_saltOf 10 = .ok (.lload_n 2, 1) := by decide +kernel
theorem dX6_saltOf_11 : decode cX6_saltOf 11 = .ok (.lload_n 0, 1) := by decide +kernel
theorem dX6_saltOf_12 : decode cX6_saltOf 12 = .ok (.ldiv, 1) := by decide +kernel
theorem dX6_saltOf_13 : decode cX6_saltOf 13 = .ok (.lreturn, 1) := by decide +kernel
theorem dX6_skin_0 : decode cX6_skin 0 = .ok (.lload_n 2, 1) := by decide +kernel
theorem dX6_skin_1 : decode cX6_skin 1 = .ok (.lload 4, 2) := by decide +kernel
theorem dX6_skin_3 : decode cX6_skin 3 = .ok (.invokestatic 100, 3) := by decide +kernel
theorem dX6_skin_6 : decode cX6_skin 6 = .ok (.lstore 8, 2) := by decide +kernel
theorem dX6_skin_8 : decode cX6_skin 8 = .ok (.lload 6, 2) := by decide +kernel
theorem dX6_skin_10 : decode cX6_skin 10 = .ok (.lload 8, 2) := by decide +kernel
theorem dX6_skin_12 : decode cX6_skin 12 = .ok (.ldc2_w 104, 3) := by decide +kernel
theorem dX6_skin_15 : decode cX6_skin 15 = .ok (.ldiv, 1) := by decide +kernel
theorem dX6_skin_16 : decode cX6_skin 16 = .ok (.lsub, 1) := by decide +kernel
theorem dX6_skin_17 : decode cX6_skin 17 = .ok (.lstore 10, 2) := by decide +kernel
theorem dX6_skin_19 : decode cX6_skin 19 = .ok (.lload 10, 2) := by decide +kernel
theorem dX6_skin_21 : decode cX6_skin 21 = .ok (.lconst 0, 1) := by decide +kernel
theorem dX6_skin_22 : decode cX6_skin 22 = .ok (.lcmp, 1) := by decide +kernel
theorem dX6_skin_23 : decode cX6_skin 23 = .ok (.ifCond .ge 7, 3) := by decide +kernel
theorem dX6_skin_26 : decode cX6_skin 26 = .ok (.lconst 0, 1) := by decide +kernel
theorem dX6_skin_27 : decode cX6_skin 27 = .ok (.goto 5, 3) := by decide +kernel
theorem dX6_skin_30 : decode cX6_skin 30 = .ok (.lload 10, 2) := by decide +kernel
theorem dX6_skin_32 : decode cX6_skin 32 = .ok (.lstore 10, 2) := by decide +kernel
theorem dX6_skin_34 : decode cX6_skin 34 = .ok (.lload 10, 2) := by decide +kernel
theorem dX6_skin_36 : decode cX6_skin 36 = .ok (.aload_n 0, 1) := by decide +kernel
theorem dX6_skin_37 : decode cX6_skin 37 = .ok (.iload_n 1, 1) := by decide +kernel
theorem dX6_skin_38 : decode cX6_skin 38 = .ok (.invokevirtual 89, 3) := by decide +kernel
theorem dX6_skin_41 : decode cX6_skin 41 = .ok (.i2l, 1) := by decide +kernel
theorem dX6_skin_42 : decode cX6_skin 42 = .ok (.lmul, 1) := by decide +kernel
theorem dX6_skin_43 : decode cX6_skin 43 = .ok (.ldc2_w 104, 3) := by decide +kernel
theorem dX6_skin_46 : decode cX6_skin 46 = .ok (.ldiv, 1) := by decide +kernel
theorem dX6_skin_47 : decode cX6_skin 47 = .ok (.lstore 12, 2) := by decide +kernel
theorem dX6_skin_49 : decode cX6_skin 49 = .ok (.lload 12, 2) := by decide +kernel
theorem dX6_skin_51 : decode cX6_skin 51 = .ok (.lload_n 2, 1) := by decide +kernel
theorem dX6_skin_52 : decode cX6_skin 52 = .ok (.lcmp, 1) := by decide +kernel
theorem dX6_skin_53 : decode cX6_skin 53 = .ok (.ifCond .le 7, 3) := by decide +kernel
theorem dX6_skin_56 : decode cX6_skin 56 = .ok (.lload_n 2, 1) := by decide +kernel
theorem dX6_skin_57 : decode cX6_skin 57 = .ok (.goto 5, 3) := by decide +kernel
theorem dX6_skin_60 : decode cX6_skin 60 = .ok (.lload 12, 2) := by decide +kernel
theorem dX6_skin_62 : decode cX6_skin 62 = .ok (.lstore 12, 2) := by decide +kernel
theorem dX6_skin_64 : decode cX6_skin 64 = .ok (.aload_n 0, 1) := by decide +kernel
theorem dX6_skin_65 : decode cX6_skin 65 = .ok (.getfield 47, 3) := by decide +kernel
theorem dX6_skin_68 : decode cX6_skin 68 = .ok (.iload_n 1, 1) := by decide +kernel
theorem dX6_skin_69 : decode cX6_skin 69 = .ok (.lload_n 2, 1) := by decide +kernel
theorem dX6_skin_70 : decode cX6_skin 70 = .ok (.lastore, 1) := by decide +kernel
theorem dX6_skin_71 : decode cX6_skin 71 = .ok (.aload_n 0, 1) := by decide +kernel
theorem dX6_skin_72 : decode cX6_skin 72 = .ok (.getfield 51, 3) := by decide +kernel
theorem dX6_skin_75 : decode cX6_skin 75 = .ok (.iload_n 1, 1) := by decide +kernel
theorem dX6_skin_76 : decode cX6_skin 76 = .ok (.lload 4, 2) := by decide +kernel
theorem dX6_skin_78 : decode cX6_skin 78 = .ok (.lastore, 1) := by decide +kernel
theorem dX6_skin_79 : decode cX6_skin 79 = .ok (.aload_n 0, 1) := by decide +kernel
theorem dX6_skin_80 : decode cX6_skin 80 = .ok (.getfield 54, 3) := by decide +kernel
theorem dX6_skin_83 : decode cX6_skin 83 = .ok (.iload_n 1, 1) := by decide +kernel
theorem dX6_skin_84 : decode cX6_skin 84 = .ok (.lload 6, 2) := by decide +kernel
theorem dX6_skin_86 : decode cX6_skin 86 = .ok (.lastore, 1) := by decide +kernel
theorem dX6_skin_87 : decode cX6_skin 87 = .ok (.aload_n 0, 1) := by decide +kernel
theorem dX6_skin_88 : decode cX6_skin 88 = .ok (.getfield 57, 3) := by decide +kernel
theorem dX6_skin_91 : decode cX6_skin 91 = .ok (.iload_n 1, 1) := by decide +kernel
theorem dX6_skin_92 : decode cX6_skin 92 = .ok (.lload 12, 2) := by decide +kernel
theorem dX6_skin_94 : decode cX6_skin 94 = .ok (.lastore, 1) := by decide +kernel
theorem dX6_skin_95 : decode cX6_skin 95 = .ok (.aload_n 0, 1) := by decide +kernel
theorem dX6_skin_96 : decode cX6_skin 96 = .ok (.getfield 60, 3) := by decide +kernel
theorem dX6_skin_99 : decode cX6_skin 99 = .ok (.iload_n 1, 1) := by decide +kernel
theorem dX6_skin_100 : decode cX6_skin 100 = .ok (.lload 12, 2) := by decide +kernel
theorem dX6_skin_102 : decode cX6_skin 102 = .ok (.lload 8, 2) := by decide +kernel
theorem dX6_skin_104 : decode cX6_skin 104 = .ok (.aload_n 0, 1) := by decide +kernel
theorem dX6_skin_105 : decode cX6_skin 105 = .ok (.iload_n 1, 1) := by decide +kernel
theorem dX6_skin_106 : decode cX6_skin 106 = .ok (.invokevirtual 92, 3) := by decide +kernel
theorem dX6_skin_109 : decode cX6_skin 109 = .ok (.i2l, 1) := by decide +kernel
theorem dX6_skin_110 : decode cX6_skin 110 = .ok (.lmul, 1) := by decide +kernel
theorem dX6_skin_111 : decode cX6_skin 111 = .ok (.ldc2_w 106, 3) := by decide +kernel
theorem dX6_skin_114 : decode cX6_skin 114 = .ok (.ldiv, 1) := by decide +kernel
theorem dX6_skin_115 : decode cX6_skin 115 = .ok (.lmul, 1) := by decide +kernel
theorem dX6_skin_116 : decode cX6_skin 116 = .ok (.lastore, 1) := by decide +kernel
theorem dX6_skin_117 : decode cX6_skin 117 = .ok (.aload_n 0, 1) := by decide +kernel
theorem dX6_skin_118 : decode cX6_skin 118 = .ok (.dup, 1) := by decide +kernel
theorem dX6_skin_119 : decode cX6_skin 119 = .ok (.getfield 108, 3) := by decide +kernel
theorem dX6_skin_122 : decode cX6_skin 122 = .ok (.lload 12, 2) := by decide +kernel
theorem dX6_skin_124 : decode cX6_skin 124 = .ok (.ladd, 1) := by decide +kernel
theorem dX6_skin_125 : decode cX6_skin 125 = .ok (.putfield 108, 3) := by decide +kernel
theorem dX6_skin_128 : decode cX6_skin 128 = .ok (.aload_n 0, 1) := by decide +kernel
theorem dX6_skin_129 : decode cX6_skin 129 = .ok (.dup, 1) := by decide +kernel
theorem dX6_skin_130 : decode cX6_skin 130 = .ok (.getfield 112, 3) := by decide +kernel
theorem dX6_skin_133 : decode cX6_skin 133 = .ok (.aload_n 0, 1) := by decide +kernel
theorem dX6_skin_134 : decode cX6_skin 134 = .ok (.getfield 60, 3) := by decide +kernel
theorem dX6_skin_137 : decode cX6_skin 137 = .ok (.iload_n 1, 1) := by decide +kernel
theorem dX6_skin_138 : decode cX6_skin 138 = .ok (.laload, 1) := by decide +kernel
theorem dX6_skin_139 : decode cX6_skin 139 = .ok (.ladd, 1) := by decide +kernel
theorem dX6_skin_140 : decode cX6_skin 140 = .ok (.putfield 112, 3) := by decide +kernel
theorem dX6_skin_143 : decode cX6_skin 143 = .ok (.return_, 1) := by decide +kernel
theorem dX6_vessel_0 : decode cX6_vessel 0 = .ok (.lload_n 3, 1) := by decide +kernel
theorem dX6_vessel_1 : decode cX6_vessel 1 = .ok (.lstore 9, 2) := by decide +kernel
theorem dX6_vessel_3 : decode cX6_vessel 3 = .ok (.lload 5, 2) := by decide +kernel
theorem dX6_vessel_5 : decode cX6_vessel 5 = .ok (.lstore 11, 2) := by decide +kernel
theorem dX6_vessel_7 : decode cX6_vessel 7 = .ok (.lload 7, 2) := by decide +kernel
theorem dX6_vessel_9 : decode cX6_vessel 9 = .ok (.lstore 13, 2) := by decide +kernel
theorem dX6_vessel_11 : decode cX6_vessel 11 = .ok (.iconst 0, 1) := by decide +kernel
theorem dX6_vessel_12 : decode cX6_vessel 12 = .ok (.istore 15, 2) := by decide +kernel
theorem dX6_vessel_14 : decode cX6_vessel 14 = .ok (.iload 15, 2) := by decide +kernel
theorem dX6_vessel_16 : decode cX6_vessel 16 = .ok (.aload_n 0, 1) := by decide +kernel
theorem dX6_vessel_17 : decode cX6_vessel 17 = .ok (.getfield 13, 3) := by decide +kernel
theorem dX6_vessel_20 : decode cX6_vessel 20 = .ok (.if_icmp .ge 80, 3) := by decide +kernel
theorem dX6_vessel_23 : decode cX6_vessel 23 = .ok (.bipush 24, 2) := by decide +kernel
theorem dX6_vessel_25 : decode cX6_vessel 25 = .ok (.iload_n 1, 1) := by decide +kernel
theorem dX6_vessel_26 : decode cX6_vessel 26 = .ok (.imul, 1) := by decide +kernel
theorem dX6_vessel_27 : decode cX6_vessel 27 = .ok (.bipush 6, 2) := by decide +kernel
theorem dX6_vessel_29 : decode cX6_vessel 29 = .ok (.iload_n 2, 1) := by decide +kernel
theorem dX6_vessel_30 : decode cX6_vessel 30 = .ok (.imul, 1) := by decide +kernel
theorem dX6_vessel_31 : decode cX6_vessel 31 = .ok (.iadd, 1) := by decide +kernel
theorem dX6_vessel_32 : decode cX6_vessel 32 = .ok (.iload 15, 2) := by decide +kernel
theorem dX6_vessel_34 : decode cX6_vessel 34 = .ok (.iadd, 1) := by decide +kernel
theorem dX6_vessel_35 : decode cX6_vessel 35 = .ok (.istore 16, 2) := by decide +kernel
theorem dX6_vessel_37 : decode cX6_vessel 37 = .ok (.aload_n 0, 1) := by decide +kernel
theorem dX6_vessel_38 : decode cX6_vessel 38 = .ok (.iload 16, 2) := by decide +kernel
theorem dX6_vessel_40 : decode cX6_vessel 40 = .ok (.lload 9, 2) := by decide +kernel
theorem dX6_vessel_42 : decode cX6_vessel 42 = .ok (.lload 11, 2) := by decide +kernel
theorem dX6_vessel_44 : decode cX6_vessel 44 = .ok (.lload 13, 2) := by decide +kernel
theorem dX6_vessel_46 : decode cX6_vessel 46 = .ok (.invokevirtual 115, 3) := by decide +kernel
theorem dX6_vessel_49 : decode cX6_vessel 49 = .ok (.lload 9, 2) := by decide +kernel
theorem dX6_vessel_51 : decode cX6_vessel 51 = .ok (.aload_n 0, 1) := by decide +kernel
theorem dX6_vessel_52 : decode cX6_vessel 52 = .ok (.getfield 57, 3) := by decide +kernel
theorem dX6_vessel_55 : decode cX6_vessel 55 = .ok (.iload 16, 2) := by decide +kernel
theorem dX6_vessel_57 : decode cX6_vessel 57 = .ok (.laload, 1) := by decide +kernel
theorem dX6_vessel_58 : decode cX6_vessel 58 = .ok (.lsub, 1) := by decide +kernel
theorem dX6_vessel_59 : decode cX6_vessel 59 = .ok (.lstore 9, 2) := by decide +kernel
theorem dX6_vessel_61 : decode cX6_vessel 61 = .ok (.lload 11, 2) := by decide +kernel
theorem dX6_vessel_63 : decode cX6_vessel 63 = .ok (.aload_n 0, 1) := by decide +kernel
theorem dX6_vessel_64 : decode cX6_vessel 64 = .ok (.getfield 60, 3) := by decide +kernel
theorem dX6_vessel_67 : decode cX6_vessel 67 = .ok (.iload 16, 2) := by decide +kernel
theorem dX6_vessel_69 : decode cX6_vessel 69 = .ok (.laload, 1) := by decide +kernel
theorem dX6_vessel_70 : decode cX6_vessel 70 = .ok (.lsub, 1) := by decide +kernel
theorem dX6_vessel_71 : decode cX6_vessel 71 = .ok (.lstore 11, 2) := by decide +kernel
theorem dX6_vessel_73 : decode cX6_vessel 73 = .ok (.lload 13, 2) := by decide +kernel
theorem dX6_vessel_75 : decode cX6_vessel 75 = .ok (.ldc2_w 119, 3) := by decide +kernel
theorem dX6_vessel_78 : decode cX6_vessel 78 = .ok (.lcmp, 1) := by decide +kernel
theorem dX6_vessel_79 : decode cX6_vessel 79 = .ok (.ifCond .ge 7, 3) := by decide +kernel
theorem dX6_vessel_82 : decode cX6_vessel 82 = .ok (.lconst 0, 1) := by decide +kernel
theorem dX6_vessel_83 : decode cX6_vessel 83 = .ok (.goto 9, 3) := by decide +kernel
theorem dX6_vessel_86 : decode cX6_vessel 86 = .ok (.lload 13, 2) := by decide +kernel
theorem dX6_vessel_88 : decode cX6_vessel 88 = .ok (.ldc2_w 119, 3) := by decide +kernel
theorem dX6_vessel_91 : decode cX6_vessel 91 = .ok (.lsub, 1) := by decide +kernel
theorem dX6_vessel_92 : decode cX6_vessel 92 = .ok (.lstore 13, 2) := by decide +kernel
theorem dX6_vessel_94 : decode cX6_vessel 94 = .ok (.iinc 15 1, 3) := by decide +kernel
theorem dX6_vessel_97 : decode cX6_vessel 97 = .ok (.goto (-83), 3) := by decide +kernel
theorem dX6_vessel_100 : decode cX6_vessel 100 = .ok (.aload_n 0, 1) := by decide +kernel
theorem dX6_vessel_101 : decode cX6_vessel 101 = .ok (.dup, 1) := by decide +kernel
theorem dX6_vessel_102 : decode cX6_vessel 102 = .ok (.getfield 121, 3) := by decide +kernel
theorem dX6_vessel_105 : decode cX6_vessel 105 = .ok (.lload 9, 2) := by decide +kernel
theorem dX6_vessel_107 : decode cX6_vessel 107 = .ok (.ladd, 1) := by decide +kernel
theorem dX6_vessel_108 : decode cX6_vessel 108 = .ok (.putfield 121, 3) := by decide +kernel
theorem dX6_vessel_111 : decode cX6_vessel 111 = .ok (.aload_n 0, 1) := by decide +kernel
theorem dX6_vessel_112 : decode cX6_vessel 112 = .ok (.dup, 1) := by decide +kernel
theorem dX6_vessel_113 : decode cX6_vessel 113 = .ok (.getfield 124, 3) := by decide +kernel
theorem dX6_vessel_116 : decode cX6_vessel 116 = .ok (.lload 11, 2) := by decide +kernel
theorem dX6_vessel_118 : decode cX6_vessel 118 = .ok (.ladd, 1) := by decide +kernel
theorem dX6_vessel_119 : decode cX6_vessel 119 = .ok (.putfield 124, 3) := by decide +kernel
theorem dX6_vessel_122 : decode cX6_vessel 122 = .ok (.return_, 1) := by decide +kernel
theorem dX6_flowAt_0 : decode cX6_flowAt 0 = .ok (.aload_n 0, 1) := by decide +kernel
theorem dX6_flowAt_1 : decode cX6_flowAt 1 = .ok (.lconst 0, 1) := by decide +kernel
theorem dX6_flowAt_2 : decode cX6_flowAt 2 = .ok (.putfield 108, 3) := by decide +kernel
theorem dX6_flowAt_5 : decode cX6_flowAt 5 = .ok (.aload_n 0, 1) := by decide +kernel
theorem dX6_flowAt_6 : decode cX6_flowAt 6 = .ok (.lconst 0, 1) := by decide +kernel
theorem dX6_flowAt_7 : decode cX6_flowAt 7 = .ok (.putfield 112, 3) := by decide +kernel
theorem dX6_flowAt_10 : decode cX6_flowAt 10 = .ok (.aload_n 0, 1) := by decide +kernel
theorem dX6_flowAt_11 : decode cX6_flowAt 11 = .ok (.aload_n 0, 1) := by decide +kernel
theorem dX6_flowAt_12 : decode cX6_flowAt 12 = .ok (.getfield 23, 3) := by decide +kernel
theorem dX6_flowAt_15 : decode cX6_flowAt 15 = .ok (.i2l, 1) := by decide +kernel
theorem dX6_flowAt_16 : decode cX6_flowAt 16 = .ok (.putfield 121, 3) := by decide +kernel
theorem dX6_flowAt_19 : decode cX6_flowAt 19 = .ok (.aload_n 0, 1) := by decide +kernel
theorem dX6_flowAt_20 : decode cX6_flowAt 20 = .ok (.aload_n 0, 1) := by decide +kernel
theorem dX6_flowAt_21 : decode cX6_flowAt 21 = .ok (.getfield 23, 3) := by decide +kernel
theorem dX6_flowAt_24 : decode cX6_flowAt 24 = .ok (.i2l, 1) := by decide +kernel
theorem dX6_flowAt_25 : decode cX6_flowAt 25 = .ok (.aload_n 0, 1) := by decide +kernel
theorem dX6_flowAt_26 : decode cX6_flowAt 26 = .ok (.getfield 26, 3) := by decide +kernel
theorem dX6_flowAt_29 : decode cX6_flowAt 29 = .ok (.i2l, 1) := by decide +kernel
theorem dX6_flowAt_30 : decode cX6_flowAt 30 = .ok (.lmul, 1) := by decide +kernel
theorem dX6_flowAt_31 : decode cX6_flowAt 31 = .ok (.putfield 124, 3) := by decide +kernel
theorem dX6_flowAt_34 : decode cX6_flowAt 34 = .ok (.aload_n 0, 1) := by decide +kernel
theorem dX6_flowAt_35 : decode cX6_flowAt 35 = .ok (.iload_n 1, 1) := by decide +kernel
theorem dX6_flowAt_36 : decode cX6_flowAt 36 = .ok (.i2l, 1) := by decide +kernel
theorem dX6_flowAt_37 : decode cX6_flowAt 37 = .ok (.putfield 127, 3) := by decide +kernel
theorem dX6_flowAt_40 : decode cX6_flowAt 40 = .ok (.iconst 0, 1) := by decide +kernel
theorem dX6_flowAt_41 : decode cX6_flowAt 41 = .ok (.istore_n 2, 1) := by decide +kernel
theorem dX6_flowAt_42 : decode cX6_flowAt 42 = .ok (.iload_n 2, 1) := by decide +kernel
theorem dX6_flowAt_43 : decode cX6_flowAt 43 = .ok (.iconst 3, 1) := by decide +kernel
theorem dX6_flowAt_44 : decode cX6_flowAt 44 = .ok (.if_icmp .ge 176, 3) := by decide +kernel
theorem dX6_flowAt_47 : decode cX6_flowAt 47 = .ok (.aload_n 0, 1) := by decide +kernel
theorem dX6_flowAt_48 : decode cX6_flowAt 48 = .ok (.iload_n 2, 1) := by decide +kernel
theorem dX6_flowAt_49 : decode cX6_flowAt 49 = .ok (.invokevirtual 81, 3) := by decide +kernel
theorem dX6_flowAt_52 : decode cX6_flowAt 52 = .ok (.ifCond .eq 168, 3) := by decide +kernel
theorem dX6_flowAt_55 : decode cX6_flowAt 55 = .ok (.aload_n 0, 1) := by decide +kernel
theorem dX6_flowAt_56 : decode cX6_flowAt 56 = .ok (.getfield 121, 3) := by decide +kernel
theorem dX6_flowAt_59 : decode cX6_flowAt 59 = .ok (.lstore_n 3, 1) := by decide +kernel
theorem dX6_flowAt_60 : decode cX6_flowAt 60 = .ok (.aload_n 0, 1) := by decide +kernel
theorem dX6_flowAt_61 : decode cX6_flowAt 61 = .ok (.getfield 124, 3) := by decide +kernel
theorem dX6_flowAt_64 : decode cX6_flowAt 64 = .ok (.lstore 5, 2) := by decide +kernel
theorem dX6_flowAt_66 : decode cX6_flowAt 66 = .ok (.aload_n 0, 1) := by decide +kernel
theorem dX6_flowAt_67 : decode cX6_flowAt 67 = .ok (.getfield 7, 3) := by decide +kernel
theorem dX6_flowAt_70 : decode cX6_flowAt 70 = .ok (.iload_n 2, 1) := by decide +kernel
theorem dX6_flowAt_71 : decode cX6_flowAt 71 = .ok (.iaload, 1) := by decide +kernel
theorem dX6_flowAt_72 : decode cX6_flowAt 72 = .ok (.i2l, 1) := by decide +kernel
theorem dX6_flowAt_73 : decode cX6_flowAt 73 = .ok (.lstore 7, 2) := by decide +kernel
theorem dX6_flowAt_75 : decode cX6_flowAt 75 = .ok (.lload_n 3, 1) := by decide +kernel
theorem dX6_flowAt_76 : decode cX6_flowAt 76 = .ok (.lload 5, 2) := by decide +kernel
theorem dX6_flowAt_78 : decode cX6_flowAt 78 = .ok (.invokestatic 100, 3) := by decide +kernel
