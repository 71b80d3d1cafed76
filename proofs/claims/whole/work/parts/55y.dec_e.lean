theorem dX6_flowAt_81 : decode cX6_flowAt 81 = .ok (.lstore 9, 2) := by decide +kernel
theorem dX6_flowAt_83 : decode cX6_flowAt 83 = .ok (.lload 5, 2) := by decide +kernel
theorem dX6_flowAt_85 : decode cX6_flowAt 85 = .ok (.lload_n 3, 1) := by decide +kernel
theorem dX6_flowAt_86 : decode cX6_flowAt 86 = .ok (.lload 9, 2) := by decide +kernel
theorem dX6_flowAt_88 : decode cX6_flowAt 88 = .ok (.lmul, 1) := by decide +kernel
theorem dX6_flowAt_89 : decode cX6_flowAt 89 = .ok (.lsub, 1) := by decide +kernel
theorem dX6_flowAt_90 : decode cX6_flowAt 90 = .ok (.lstore 11, 2) := by decide +kernel
theorem dX6_flowAt_92 : decode cX6_flowAt 92 = .ok (.aload_n 0, 1) := by decide +kernel
theorem dX6_flowAt_93 : decode cX6_flowAt 93 = .ok (.lconst 0, 1) := by decide +kernel
theorem dX6_flowAt_94 : decode cX6_flowAt 94 = .ok (.putfield 121, 3) := by decide +kernel
theorem dX6_flowAt_97 : decode cX6_flowAt 97 = .ok (.aload_n 0, 1) := by decide +kernel
theorem dX6_flowAt_98 : decode cX6_flowAt 98 = .ok (.lconst 0, 1) := by decide +kernel
theorem dX6_flowAt_99 : decode cX6_flowAt 99 = .ok (.putfield 124, 3) := by decide +kernel
theorem dX6_flowAt_102 : decode cX6_flowAt 102 = .ok (.iconst 0, 1) := by decide +kernel
theorem dX6_flowAt_103 : decode cX6_flowAt 103 = .ok (.istore 13, 2) := by decide +kernel
theorem dX6_flowAt_105 : decode cX6_flowAt 105 = .ok (.iload 13, 2) := by decide +kernel
theorem dX6_flowAt_107 : decode cX6_flowAt 107 = .ok (.aload_n 0, 1) := by decide +kernel
theorem dX6_flowAt_108 : decode cX6_flowAt 108 = .ok (.getfield 7, 3) := by decide +kernel
theorem dX6_flowAt_111 : decode cX6_flowAt 111 = .ok (.iload_n 2, 1) := by decide +kernel
theorem dX6_flowAt_112 : decode cX6_flowAt 112 = .ok (.iaload, 1) := by decide +kernel
theorem dX6_flowAt_113 : decode cX6_flowAt 113 = .ok (.if_icmp .ge 62, 3) := by decide +kernel
theorem dX6_flowAt_116 : decode cX6_flowAt 116 = .ok (.lload_n 3, 1) := by decide +kernel
theorem dX6_flowAt_117 : decode cX6_flowAt 117 = .ok (.lload 7, 2) := by decide +kernel
theorem dX6_flowAt_119 : decode cX6_flowAt 119 = .ok (.ldiv, 1) := by decide +kernel
theorem dX6_flowAt_120 : decode cX6_flowAt 120 = .ok (.iload 13, 2) := by decide +kernel
theorem dX6_flowAt_122 : decode cX6_flowAt 122 = .ok (.i2l, 1) := by decide +kernel
theorem dX6_flowAt_123 : decode cX6_flowAt 123 = .ok (.lload_n 3, 1) := by decide +kernel
theorem dX6_flowAt_124 : decode cX6_flowAt 124 = .ok (.lload 7, 2) := by decide +kernel
theorem dX6_flowAt_126 : decode cX6_flowAt 126 = .ok (.lrem, 1) := by decide +kernel
theorem dX6_flowAt_127 : decode cX6_flowAt 127 = .ok (.lcmp, 1) := by decide +kernel
theorem dX6_flowAt_128 : decode cX6_flowAt 128 = .ok (.ifCond .ge 7, 3) := by decide +kernel
theorem dX6_flowAt_131 : decode cX6_flowAt 131 = .ok (.lconst 1, 1) := by decide +kernel
theorem dX6_flowAt_132 : decode cX6_flowAt 132 = .ok (.goto 4, 3) := by decide +kernel
theorem dX6_flowAt_135 : decode cX6_flowAt 135 = .ok (.lconst 0, 1) := by decide +kernel
theorem dX6_flowAt_136 : decode cX6_flowAt 136 = .ok (.ladd, 1) := by decide +kernel
theorem dX6_flowAt_137 : decode cX6_flowAt 137 = .ok (.lstore 14, 2) := by decide +kernel
theorem dX6_flowAt_139 : decode cX6_flowAt 139 = .ok (.aload_n 0, 1) := by decide +kernel
theorem dX6_flowAt_140 : decode cX6_flowAt 140 = .ok (.iload_n 2, 1) := by decide +kernel
theorem dX6_flowAt_141 : decode cX6_flowAt 141 = .ok (.iload 13, 2) := by decide +kernel
theorem dX6_flowAt_143 : decode cX6_flowAt 143 = .ok (.lload 14, 2) := by decide +kernel
theorem dX6_flowAt_145 : decode cX6_flowAt 145 = .ok (.lload 14, 2) := by decide +kernel
theorem dX6_flowAt_147 : decode cX6_flowAt 147 = .ok (.lload 9, 2) := by decide +kernel
theorem dX6_flowAt_149 : decode cX6_flowAt 149 = .ok (.lmul, 1) := by decide +kernel
theorem dX6_flowAt_150 : decode cX6_flowAt 150 = .ok (.iload 13, 2) := by decide +kernel
theorem dX6_flowAt_152 : decode cX6_flowAt 152 = .ok (.ifCond .ne 8, 3) := by decide +kernel
theorem dX6_flowAt_155 : decode cX6_flowAt 155 = .ok (.lload 11, 2) := by decide +kernel
theorem dX6_flowAt_157 : decode cX6_flowAt 157 = .ok (.goto 4, 3) := by decide +kernel
theorem dX6_flowAt_160 : decode cX6_flowAt 160 = .ok (.lconst 0, 1) := by decide +kernel
theorem dX6_flowAt_161 : decode cX6_flowAt 161 = .ok (.ladd, 1) := by decide +kernel
theorem dX6_flowAt_162 : decode cX6_flowAt 162 = .ok (.aload_n 0, 1) := by decide +kernel
theorem dX6_flowAt_163 : decode cX6_flowAt 163 = .ok (.getfield 127, 3) := by decide +kernel
theorem dX6_flowAt_166 : decode cX6_flowAt 166 = .ok (.invokevirtual 130, 3) := by decide +kernel
theorem dX6_flowAt_169 : decode cX6_flowAt 169 = .ok (.iinc 13 1, 3) := by decide +kernel
theorem dX6_flowAt_172 : decode cX6_flowAt 172 = .ok (.goto (-67), 3) := by decide +kernel
theorem dX6_flowAt_175 : decode cX6_flowAt 175 = .ok (.aload_n 0, 1) := by decide +kernel
theorem dX6_flowAt_176 : decode cX6_flowAt 176 = .ok (.aload_n 0, 1) := by decide +kernel
theorem dX6_flowAt_177 : decode cX6_flowAt 177 = .ok (.getfield 127, 3) := by decide +kernel
theorem dX6_flowAt_180 : decode cX6_flowAt 180 = .ok (.ldc2_w 119, 3) := by decide +kernel
theorem dX6_flowAt_183 : decode cX6_flowAt 183 = .ok (.aload_n 0, 1) := by decide +kernel
theorem dX6_flowAt_184 : decode cX6_flowAt 184 = .ok (.getfield 13, 3) := by decide +kernel
theorem dX6_flowAt_187 : decode cX6_flowAt 187 = .ok (.i2l, 1) := by decide +kernel
theorem dX6_flowAt_188 : decode cX6_flowAt 188 = .ok (.lmul, 1) := by decide +kernel
theorem dX6_flowAt_189 : decode cX6_flowAt 189 = .ok (.lcmp, 1) := by decide +kernel
theorem dX6_flowAt_190 : decode cX6_flowAt 190 = .ok (.ifCond .ge 7, 3) := by decide +kernel
theorem dX6_flowAt_193 : decode cX6_flowAt 193 = .ok (.lconst 0, 1) := by decide +kernel
theorem dX6_flowAt_194 : decode cX6_flowAt 194 = .ok (.goto 17, 3) := by decide +kernel
theorem dX6_flowAt_197 : decode cX6_flowAt 197 = .ok (.aload_n 0, 1) := by decide +kernel
theorem dX6_flowAt_198 : decode cX6_flowAt 198 = .ok (.getfield 127, 3) := by decide +kernel
theorem dX6_flowAt_201 : decode cX6_flowAt 201 = .ok (.ldc2_w 119, 3) := by decide +kernel
theorem dX6_flowAt_204 : decode cX6_flowAt 204 = .ok (.aload_n 0, 1) := by decide +kernel
theorem dX6_flowAt_205 : decode cX6_flowAt 205 = .ok (.getfield 13, 3) := by decide +kernel
theorem dX6_flowAt_208 : decode cX6_flowAt 208 = .ok (.i2l, 1) := by decide +kernel
theorem dX6_flowAt_209 : decode cX6_flowAt 209 = .ok (.lmul, 1) := by decide +kernel
theorem dX6_flowAt_210 : decode cX6_flowAt 210 = .ok (.lsub, 1) := by decide +kernel
theorem dX6_flowAt_211 : decode cX6_flowAt 211 = .ok (.putfield 127, 3) := by decide +kernel
theorem dX6_flowAt_214 : decode cX6_flowAt 214 = .ok (.iinc 2 1, 3) := by decide +kernel
theorem dX6_flowAt_217 : decode cX6_flowAt 217 = .ok (.goto (-175), 3) := by decide +kernel
theorem dX6_flowAt_220 : decode cX6_flowAt 220 = .ok (.return_, 1) := by decide +kernel
theorem dX6_flowNow_0 : decode cX6_flowNow 0 = .ok (.aload_n 0, 1) := by decide +kernel
theorem dX6_flowNow_1 : decode cX6_flowNow 1 = .ok (.aload_n 0, 1) := by decide +kernel
theorem dX6_flowNow_2 : decode cX6_flowNow 2 = .ok (.getfield 29, 3) := by decide +kernel
theorem dX6_flowNow_5 : decode cX6_flowNow 5 = .ok (.invokevirtual 134, 3) := by decide +kernel
theorem dX6_flowNow_8 : decode cX6_flowNow 8 = .ok (.return_, 1) := by decide +kernel
theorem dX6_flow_0 : decode cX6_flow 0 = .ok (.iload_n 1, 1) := by decide +kernel
theorem dX6_flow_1 : decode cX6_flow 1 = .ok (.invokestatic 85, 3) := by decide +kernel
theorem dX6_flow_4 : decode cX6_flow 4 = .ok (.istore_n 3, 1) := by decide +kernel
theorem dX6_flow_5 : decode cX6_flow 5 = .ok (.iload_n 3, 1) := by decide +kernel
theorem dX6_flow_6 : decode cX6_flow 6 = .ok (.ifCond .lt 12, 3) := by decide +kernel
theorem dX6_flow_9 : decode cX6_flow 9 = .ok (.iload_n 2, 1) := by decide +kernel
theorem dX6_flow_10 : decode cX6_flow 10 = .ok (.iconst 0, 1) := by decide +kernel
theorem dX6_flow_11 : decode cX6_flow 11 = .ok (.iconst 4, 1) := by decide +kernel
theorem dX6_flow_12 : decode cX6_flow 12 = .ok (.invokestatic 75, 3) := by decide +kernel
theorem dX6_flow_15 : decode cX6_flow 15 = .ok (.ifCond .ne 7, 3) := by decide +kernel
theorem dX6_flow_18 : decode cX6_flow 18 = .ok (.ldc2_w 79, 3) := by decide +kernel
theorem dX6_flow_21 : decode cX6_flow 21 = .ok (.lreturn, 1) := by decide +kernel
theorem dX6_flow_22 : decode cX6_flow 22 = .ok (.aload_n 0, 1) := by decide +kernel
theorem dX6_flow_23 : decode cX6_flow 23 = .ok (.iload_n 3, 1) := by decide +kernel
theorem dX6_flow_24 : decode cX6_flow 24 = .ok (.invokevirtual 138, 3) := by decide +kernel
theorem dX6_flow_27 : decode cX6_flow 27 = .ok (.ifCond .ne 7, 3) := by decide +kernel
theorem dX6_flow_30 : decode cX6_flow 30 = .ok (.ldc2_w 141, 3) := by decide +kernel
theorem dX6_flow_33 : decode cX6_flow 33 = .ok (.lreturn, 1) := by decide +kernel
theorem dX6_flow_34 : decode cX6_flow 34 = .ok (.aload_n 0, 1) := by decide +kernel
theorem dX6_flow_35 : decode cX6_flow 35 = .ok (.invokevirtual 143, 3) := by decide +kernel
theorem dX6_flow_38 : decode cX6_flow 38 = .ok (.iload_n 2, 1) := by decide +kernel
theorem dX6_flow_39 : decode cX6_flow 39 = .ok (.tableswitch 57 0 3 #[29, 36, 43, 50], 29) := by decide +kernel
theorem dX6_flow_68 : decode cX6_flow 68 = .ok (.aload_n 0, 1) := by decide +kernel
theorem dX6_flow_69 : decode cX6_flow 69 = .ok (.getfield 47, 3) := by decide +kernel
theorem dX6_flow_72 : decode cX6_flow 72 = .ok (.iload_n 3, 1) := by decide +kernel
theorem dX6_flow_73 : decode cX6_flow 73 = .ok (.laload, 1) := by decide +kernel
theorem dX6_flow_74 : decode cX6_flow 74 = .ok (.lreturn, 1) := by decide +kernel
theorem dX6_flow_75 : decode cX6_flow 75 = .ok (.aload_n 0, 1) := by decide +kernel
theorem dX6_flow_76 : decode cX6_flow 76 = .ok (.getfield 51, 3) := by decide +kernel
theorem dX6_flow_79 : decode cX6_flow 79 = .ok (.iload_n 3, 1) := by decide +kernel
theorem dX6_flow_80 : decode cX6_flow 80 = .ok (.laload, 1) := by decide +kernel
theorem dX6_flow_81 : decode cX6_flow 81 = .ok (.lreturn, 1) := by decide +kernel
theorem dX6_flow_82 : decode cX6_flow 82 = .ok (.aload_n 0, 1) := by decide +kernel
theorem dX6_flow_83 : decode cX6_flow 83 = .ok (.getfield 54, 3) := by decide +kernel
theorem dX6_flow_86 : decode cX6_flow 86 = .ok (.iload_n 3, 1) := by decide +kernel
theorem dX6_flow_87 : decode cX6_flow 87 = .ok (.laload, 1) := by decide +kernel
theorem dX6_flow_88 : decode cX6_flow 88 = .ok (.lreturn, 1) := by decide +kernel
theorem dX6_flow_89 : decode cX6_flow 89 = .ok (.aload_n 0, 1) := by decide +kernel
theorem dX6_flow_90 : decode cX6_flow 90 = .ok (.getfield 57, 3) := by decide +kernel
theorem dX6_flow_93 : decode cX6_flow 93 = .ok (.iload_n 3, 1) := by decide +kernel
theorem dX6_flow_94 : decode cX6_flow 94 = .ok (.laload, 1) := by decide +kernel
theorem dX6_flow_95 : decode cX6_flow 95 = .ok (.lreturn, 1) := by decide +kernel
theorem dX6_flow_96 : decode cX6_flow 96 = .ok (.aload_n 0, 1) := by decide +kernel
theorem dX6_flow_97 : decode cX6_flow 97 = .ok (.getfield 60, 3) := by decide +kernel
theorem dX6_flow_100 : decode cX6_flow 100 = .ok (.iload_n 3, 1) := by decide +kernel
theorem dX6_flow_101 : decode cX6_flow 101 = .ok (.laload, 1) := by decide +kernel
theorem dX6_flow_102 : decode cX6_flow 102 = .ok (.lreturn, 1) := by decide +kernel
theorem dX6_sweet_0 : decode cX6_sweet 0 = .ok (.iload_n 1, 1) := by decide +kernel
theorem dX6_sweet_1 : decode cX6_sweet 1 = .ok (.iconst 0, 1) := by decide +kernel
theorem dX6_sweet_2 : decode cX6_sweet 2 = .ok (.iconst 2, 1) := by decide +kernel
theorem dX6_sweet_3 : decode cX6_sweet 3 = .ok (.invokestatic 75, 3) := by decide +kernel
theorem dX6_sweet_6 : decode cX6_sweet 6 = .ok (.ifCond .ne 7, 3) := by decide +kernel
theorem dX6_sweet_9 : decode cX6_sweet 9 = .ok (.ldc2_w 79, 3) := by decide +kernel
theorem dX6_sweet_12 : decode cX6_sweet 12 = .ok (.lreturn, 1) := by decide +kernel
theorem dX6_sweet_13 : decode cX6_sweet 13 = .ok (.aload_n 0, 1) := by decide +kernel
theorem dX6_sweet_14 : decode cX6_sweet 14 = .ok (.invokevirtual 143, 3) := by decide +kernel
theorem dX6_sweet_17 : decode cX6_sweet 17 = .ok (.iload_n 1, 1) := by decide +kernel
theorem dX6_sweet_18 : decode cX6_sweet 18 = .ok (.ifCond .ne 10, 3) := by decide +kernel
theorem dX6_sweet_21 : decode cX6_sweet 21 = .ok (.aload_n 0, 1) := by decide +kernel
theorem dX6_sweet_22 : decode cX6_sweet 22 = .ok (.getfield 108, 3) := by decide +kernel
theorem dX6_sweet_25 : decode cX6_sweet 25 = .ok (.goto 26, 3) := by decide +kernel
theorem dX6_sweet_28 : decode cX6_sweet 28 = .ok (.iload_n 1, 1) := by decide +kernel
theorem dX6_sweet_29 : decode cX6_sweet 29 = .ok (.iconst 1, 1) := by decide +kernel
theorem dX6_sweet_30 : decode cX6_sweet 30 = .ok (.if_icmp .ne 10, 3) := by decide +kernel
theorem dX6_sweet_33 : decode cX6_sweet 33 = .ok (.aload_n 0, 1) := by decide +kernel
theorem dX6_sweet_34 : decode cX6_sweet 34 = .ok (.getfield 112, 3) := by decide +kernel
theorem dX6_sweet_37 : decode cX6_sweet 37 = .ok (.goto 14, 3) := by decide +kernel
theorem dX6_sweet_40 : decode cX6_sweet 40 = .ok (.aload_n 0, 1) := by decide +kernel
theorem dX6_sweet_41 : decode cX6_sweet 41 = .ok (.getfield 108, 3) := by decide +kernel
theorem dX6_sweet_44 : decode cX6_sweet 44 = .ok (.aload_n 0, 1) := by decide +kernel
theorem dX6_sweet_45 : decode cX6_sweet 45 = .ok (.getfield 112, 3) := by decide +kernel
theorem dX6_sweet_48 : decode cX6_sweet 48 = .ok (.invokestatic 100, 3) := by decide +kernel
theorem dX6_sweet_51 : decode cX6_sweet 51 = .ok (.lreturn, 1) := by decide +kernel
theorem dX6_brine_0 : decode cX6_brine 0 = .ok (.iload_n 1, 1) := by decide +kernel
theorem dX6_brine_1 : decode cX6_brine 1 = .ok (.iconst 0, 1) := by decide +kernel
theorem dX6_brine_2 : decode cX6_brine 2 = .ok (.iconst 2, 1) := by decide +kernel
theorem dX6_brine_3 : decode cX6_brine 3 = .ok (.invokestatic 75, 3) := by decide +kernel
theorem dX6_brine_6 : decode cX6_brine 6 = .ok (.ifCond .ne 7, 3) := by decide +kernel
theorem dX6_brine_9 : decode cX6_brine 9 = .ok (.ldc2_w 79, 3) := by decide +kernel
theorem dX6_brine_12 : decode cX6_brine 12 = .ok (.lreturn, 1) := by decide +kernel
theorem dX6_brine_13 : decode cX6_brine 13 = .ok (.aload_n 0, 1) := by decide +kernel
theorem dX6_brine_14 : decode cX6_brine 14 = .ok (.invokevirtual 143, 3) := by decide +kernel
theorem dX6_brine_17 : decode cX6_brine 17 = .ok (.iload_n 1, 1) := by decide +kernel
theorem dX6_brine_18 : decode cX6_brine 18 = .ok (.ifCond .ne 10, 3) := by decide +kernel
theorem dX6_brine_21 : decode cX6_brine 21 = .ok (.aload_n 0, 1) := by decide +kernel
theorem dX6_brine_22 : decode cX6_brine 22 = .ok (.getfield 121, 3) := by decide +kernel
theorem dX6_brine_25 : decode cX6_brine 25 = .ok (.goto 19, 3) := by decide +kernel
theorem dX6_brine_28 : decode cX6_brine 28 = .ok (.iload_n 1, 1) := by decide +kernel
theorem dX6_brine_29 : decode cX6_brine 29 = .ok (.iconst 1, 1) := by decide +kernel
theorem dX6_brine_30 : decode cX6_brine 30 = .ok (.if_icmp .ne 10, 3) := by decide +kernel
theorem dX6_brine_33 : decode cX6_brine 33 = .ok (.aload_n 0, 1) := by decide +kernel
theorem dX6_brine_34 : decode cX6_brine 34 = .ok (.getfield 124, 3) := by decide +kernel
theorem dX6_brine_37 : decode cX6_brine 37 = .ok (.goto 7, 3) := by decide +kernel
theorem dX6_brine_40 : decode cX6_brine 40 = .ok (.aload_n 0, 1) := by decide +kernel
theorem dX6_brine_41 : decode cX6_brine 41 = .ok (.getfield 127, 3) := by decide +kernel
theorem dX6_brine_44 : decode cX6_brine 44 = .ok (.lreturn, 1) := by decide +kernel
theorem dX6_powerAt_0 : decode cX6_powerAt 0 = .ok (.iload_n 1, 1) := by decide +kernel
theorem dX6_powerAt_1 : decode cX6_powerAt 1 = .ok (.i2l, 1) := by decide +kernel
theorem dX6_powerAt_2 : decode cX6_powerAt 2 = .ok (.aload_n 0, 1) := by decide +kernel
theorem dX6_powerAt_3 : decode cX6_powerAt 3 = .ok (.getfield 23, 3) := by decide +kernel
theorem dX6_powerAt_6 : decode cX6_powerAt 6 = .ok (.i2l, 1) := by decide +kernel
theorem dX6_powerAt_7 : decode cX6_powerAt 7 = .ok (.lmul, 1) := by decide +kernel
theorem dX6_powerAt_8 : decode cX6_powerAt 8 = .ok (.ldc2_w 104, 3) := by decide +kernel
theorem dX6_powerAt_11 : decode cX6_powerAt 11 = .ok (.ldiv, 1) := by decide +kernel
theorem dX6_powerAt_12 : decode cX6_powerAt 12 = .ok (.aload_n 0, 1) := by decide +kernel
theorem dX6_powerAt_13 : decode cX6_powerAt 13 = .ok (.getfield 32, 3) := by decide +kernel
theorem dX6_powerAt_16 : decode cX6_powerAt 16 = .ok (.iconst 2, 1) := by decide +kernel
theorem dX6_powerAt_17 : decode cX6_powerAt 17 = .ok (.iaload, 1) := by decide +kernel
theorem dX6_powerAt_18 : decode cX6_powerAt 18 = .ok (.i2l, 1) := by decide +kernel
theorem dX6_powerAt_19 : decode cX6_powerAt 19 = .ok (.aload_n 0, 1) := by decide +kernel
theorem dX6_powerAt_20 : decode cX6_powerAt 20 = .ok (.getfield 127, 3) := by decide +kernel
theorem dX6_powerAt_23 : decode cX6_powerAt 23 = .ok (.aload_n 0, 1) := by decide +kernel
theorem dX6_powerAt_24 : decode cX6_powerAt 24 = .ok (.getfield 121, 3) := by decide +kernel
theorem dX6_powerAt_27 : decode cX6_powerAt 27 = .ok (.lmul, 1) := by decide +kernel
theorem dX6_powerAt_28 : decode cX6_powerAt 28 = .ok (.ldc2_w 104, 3) := by decide +kernel
theorem dX6_powerAt_31 : decode cX6_powerAt 31 = .ok (.ldiv, 1) := by decide +kernel
theorem dX6_powerAt_32 : decode cX6_powerAt 32 = .ok (.lmul, 1) := by decide +kernel
theorem dX6_powerAt_33 : decode cX6_powerAt 33 = .ok (.ldc2_w 104, 3) := by decide +kernel
theorem dX6_powerAt_36 : decode cX6_powerAt 36 = .ok (.ldiv, 1) := by decide +kernel
theorem dX6_powerAt_37 : decode cX6_powerAt 37 = .ok (.lsub, 1) := by decide +kernel
theorem dX6_powerAt_38 : decode cX6_powerAt 38 = .ok (.lreturn, 1) := by decide +kernel
theorem dX6_power_0 : decode cX6_power 0 = .ok (.aload_n 0, 1) := by decide +kernel
theorem dX6_power_1 : decode cX6_power 1 = .ok (.invokevirtual 143, 3) := by decide +kernel
theorem dX6_power_4 : decode cX6_power 4 = .ok (.aload_n 0, 1) := by decide +kernel
theorem dX6_power_5 : decode cX6_power 5 = .ok (.aload_n 0, 1) := by decide +kernel
theorem dX6_power_6 : decode cX6_power 6 = .ok (.getfield 29, 3) := by decide +kernel
theorem dX6_power_9 : decode cX6_power 9 = .ok (.invokevirtual 146, 3) := by decide +kernel
theorem dX6_power_12 : decode cX6_power 12 = .ok (.lreturn, 1) := by decide +kernel
theorem dX6_failing_0 : decode cX6_failing 0 = .ok (.iconst 0, 1) := by decide +kernel
theorem dX6_failing_1 : decode cX6_failing 1 = .ok (.istore_n 1, 1) := by decide +kernel
theorem dX6_failing_2 : decode cX6_failing 2 = .ok (.iload_n 1, 1) := by decide +kernel
theorem dX6_failing_3 : decode cX6_failing 3 = .ok (.bipush 72, 2) := by decide +kernel
theorem dX6_failing_5 : decode cX6_failing 5 = .ok (.if_icmp .ge 78, 3) := by decide +kernel
theorem dX6_failing_8 : decode cX6_failing 8 = .ok (.aload_n 0, 1) := by decide +kernel
theorem dX6_failing_9 : decode cX6_failing 9 = .ok (.iload_n 1, 1) := by decide +kernel
theorem dX6_failing_10 : decode cX6_failing 10 = .ok (.invokevirtual 138, 3) := by decide +kernel
theorem dX6_failing_13 : decode cX6_failing 13 = .ok (.ifCond .eq 64, 3) := by decide +kernel
theorem dX6_failing_16 : decode cX6_failing 16 = .ok (.aload_n 0, 1) := by decide +kernel
theorem dX6_failing_17 : decode cX6_failing 17 = .ok (.getfield 47, 3) := by decide +kernel
theorem dX6_failing_20 : decode cX6_failing 20 = .ok (.iload_n 1, 1) := by decide +kernel
theorem dX6_failing_21 : decode cX6_failing 21 = .ok (.laload, 1) := by decide +kernel
theorem dX6_failing_22 : decode cX6_failing 22 = .ok (.aload_n 0, 1) := by decide +kernel
theorem dX6_failing_23 : decode cX6_failing 23 = .ok (.getfield 57, 3) := by decide +kernel
theorem dX6_failing_26 : decode cX6_failing 26 = .ok (.iload_n 1, 1) := by decide +kernel
theorem dX6_failing_27 : decode cX6_failing 27 = .ok (.laload, 1) := by decide +kernel
theorem dX6_failing_28 : decode cX6_failing 28 = .ok (.lsub, 1) := by decide +kernel
theorem dX6_failing_29 : decode cX6_failing 29 = .ok (.aload_n 0, 1) := by decide +kernel
theorem dX6_failing_30 : decode cX6_failing 30 = .ok (.getfield 32, 3) := by decide +kernel
theorem dX6_failing_33 : decode cX6_failing 33 = .ok (.iconst 0, 1) := by decide +kernel
theorem dX6_failing_34 : decode cX6_failing 34 = .ok (.iaload, 1) := by decide +kernel
theorem dX6_failing_35 : decode cX6_failing 35 = .ok (.i2l, 1) := by decide +kernel
theorem dX6_failing_36 : decode cX6_failing 36 = .ok (.lcmp, 1) := by decide +kernel
theorem dX6_failing_37 : decode cX6_failing 37 = .ok (.ifCond .ge 13, 3) := by decide +kernel
theorem dX6_failing_40 : decode cX6_failing 40 = .ok (.bipush 10, 2) := by decide +kernel
theorem dX6_failing_42 : decode cX6_failing 42 = .ok (.iload_n 1, 1) := by decide +kernel
theorem dX6_failing_43 : decode cX6_failing 43 = .ok (.invokestatic 150, 3) := by decide +kernel
theorem dX6_failing_46 : decode cX6_failing 46 = .ok (.imul, 1) := by decide +kernel
theorem dX6_failing_47 : decode cX6_failing 47 = .ok (.iconst 1, 1) := by decide +kernel
theorem dX6_failing_48 : decode cX6_failing 48 = .ok (.iadd, 1) := by decide +kernel
theorem dX6_failing_49 : decode cX6_failing 49 = .ok (.ireturn, 1) := by decide +kernel
theorem dX6_failing_50 : decode cX6_failing 50 = .ok (.aload_n 0, 1) := by decide +kernel
theorem dX6_failing_51 : decode cX6_failing 51 = .ok (.getfield 57, 3) := by decide +kernel
theorem dX6_failing_54 : decode cX6_failing 54 = .ok (.iload_n 1, 1) := by decide +kernel
theorem dX6_failing_55 : decode cX6_failing 55 = .ok (.laload, 1) := by decide +kernel
theorem dX6_failing_56 : decode cX6_failing 56 = .ok (.aload_n 0, 1) := by decide +kernel
theorem dX6_failing_57 : decode cX6_failing 57 = .ok (.getfield 32, 3) := by decide +kernel
theorem dX6_failing_60 : decode cX6_failing 60 = .ok (.iconst 1, 1) := by decide +kernel
theorem dX6_failing_61 : decode cX6_failing 61 = .ok (.iaload, 1) := by decide +kernel
theorem dX6_failing_62 : decode cX6_failing 62 = .ok (.i2l, 1) := by decide +kernel
theorem dX6_failing_63 : decode cX6_failing 63 = .ok (.lcmp, 1) := by decide +kernel
theorem dX6_failing_64 : decode cX6_failing 64 = .ok (.ifCond .le 13, 3) := by decide +kernel
theorem dX6_failing_67 : decode cX6_failing 67 = .ok (.bipush 10, 2) := by decide +kernel
theorem dX6_failing_69 : decode cX6_failing 69 = .ok (.iload_n 1, 1) := by decide +kernel
theorem dX6_failing_70 : decode cX6_failing 70 = .ok (.invokestatic 150, 3) := by decide +kernel
theorem dX6_failing_73 : decode cX6_failing 73 = .ok (.imul, 1) := by decide +kernel
theorem dX6_failing_74 : decode cX6_failing 74 = .ok (.iconst 2, 1) := by decide +kernel
theorem dX6_failing_75 : decode cX6_failing 75 = .ok (.iadd, 1) := by decide +kernel
theorem dX6_failing_76 : decode cX6_failing 76 = .ok (.ireturn, 1) := by decide +kernel
theorem dX6_failing_77 : decode cX6_failing 77 = .ok (.iinc 1 1, 3) := by decide +kernel
theorem dX6_failing_80 : decode cX6_failing 80 = .ok (.goto (-78), 3) := by decide +kernel
theorem dX6_failing_83 : decode cX6_failing 83 = .ok (.iconst (-1), 1) := by decide +kernel
theorem dX6_failing_84 : decode cX6_failing 84 = .ok (.ireturn, 1) := by decide +kernel
theorem dX6_failure_0 : decode cX6_failure 0 = .ok (.aload_n 0, 1) := by decide +kernel
theorem dX6_failure_1 : decode cX6_failure 1 = .ok (.invokevirtual 143, 3) := by decide +kernel
theorem dX6_failure_4 : decode cX6_failure 4 = .ok (.aload_n 0, 1) := by decide +kernel
theorem dX6_failure_5 : decode cX6_failure 5 = .ok (.invokevirtual 153, 3) := by decide +kernel
theorem dX6_failure_8 : decode cX6_failure 8 = .ok (.istore_n 1, 1) := by decide +kernel
theorem dX6_failure_9 : decode cX6_failure 9 = .ok (.iload_n 1, 1) := by decide +kernel
theorem dX6_failure_10 : decode cX6_failure 10 = .ok (.ifCond .ge 9, 3) := by decide +kernel
theorem dX6_failure_13 : decode cX6_failure 13 = .ok (.ldc2_w 157, 3) := by decide +kernel
theorem dX6_failure_16 : decode cX6_failure 16 = .ok (.goto 5, 3) := by decide +kernel
theorem dX6_failure_19 : decode cX6_failure 19 = .ok (.iload_n 1, 1) := by decide +kernel
theorem dX6_failure_20 : decode cX6_failure 20 = .ok (.i2l, 1) := by decide +kernel
theorem dX6_failure_21 : decode cX6_failure 21 = .ok (.lreturn, 1) := by decide +kernel
theorem dX6_rule_0 : decode cX6_rule 0 = .ok (.iload_n 1, 1) := by decide +kernel
theorem dX6_rule_1 : decode cX6_rule 1 = .ok (.iconst 0, 1) := by decide +kernel
theorem dX6_rule_2 : decode cX6_rule 2 = .ok (.bipush 6, 2) := by decide +kernel
theorem dX6_rule_4 : decode cX6_rule 4 = .ok (.invokestatic 75, 3) := by decide +kernel
theorem dX6_rule_7 : decode cX6_rule 7 = .ok (.istore_n 3, 1) := by decide +kernel
theorem dX6_rule_8 : decode cX6_rule 8 = .ok (.iload_n 3, 1) := by decide +kernel
theorem dX6_rule_9 : decode cX6_rule 9 = .ok (.ifCond .eq 67, 3) := by decide +kernel
theorem dX6_rule_12 : decode cX6_rule 12 = .ok (.iload_n 1, 1) := by decide +kernel
theorem dX6_rule_13 : decode cX6_rule 13 = .ok (.iconst 2, 1) := by decide +kernel
theorem dX6_rule_14 : decode cX6_rule 14 = .ok (.if_icmp .ge 9, 3) := by decide +kernel
theorem dX6_rule_17 : decode cX6_rule 17 = .ok (.sipush 9999, 3) := by decide +kernel
theorem dX6_rule_20 : decode cX6_rule 20 = .ok (.goto 37, 3) := by decide +kernel
theorem dX6_rule_23 : decode cX6_rule 23 = .ok (.iload_n 1, 1) := by decide +kernel
theorem dX6_rule_24 : decode cX6_rule 24 = .ok (.iconst 2, 1) := by decide +kernel
theorem dX6_rule_25 : decode cX6_rule 25 = .ok (.if_icmp .ne 8, 3) := by decide +kernel
theorem dX6_rule_28 : decode cX6_rule 28 = .ok (.bipush 100, 2) := by decide +kernel
theorem dX6_rule_30 : decode cX6_rule 30 = .ok (.goto 27, 3) := by decide +kernel
theorem dX6_rule_33 : decode cX6_rule 33 = .ok (.iload_n 1, 1) := by decide +kernel
theorem dX6_rule_34 : decode cX6_rule 34 = .ok (.iconst 3, 1) := by decide +kernel
theorem dX6_rule_35 : decode cX6_rule 35 = .ok (.if_icmp .ne 9, 3) := by decide +kernel
theorem dX6_rule_38 : decode cX6_rule 38 = .ok (.sipush 1000, 3) := by decide +kernel
theorem dX6_rule_41 : decode cX6_rule 41 = .ok (.goto 16, 3) := by decide +kernel
theorem dX6_rule_44 : decode cX6_rule 44 = .ok (.iload_n 1, 1) := by decide +kernel
theorem dX6_rule_45 : decode cX6_rule 45 = .ok (.iconst 4, 1) := by decide +kernel
theorem dX6_rule_46 : decode cX6_rule 46 = .ok (.if_icmp .ne 8, 3) := by decide +kernel
theorem dX6_rule_49 : decode cX6_rule 49 = .ok (.bipush 30, 2) := by decide +kernel
theorem dX6_rule_51 : decode cX6_rule 51 = .ok (.goto 6, 3) := by decide +kernel
theorem dX6_rule_54 : decode cX6_rule 54 = .ok (.sipush 200, 3) := by decide +kernel
theorem dX6_rule_57 : decode cX6_rule 57 = .ok (.istore 4, 2) := by decide +kernel
theorem dX6_rule_59 : decode cX6_rule 59 = .ok (.iload_n 2, 1) := by decide +kernel
theorem dX6_rule_60 : decode cX6_rule 60 = .ok (.iload_n 1, 1) := by decide +kernel
theorem dX6_rule_61 : decode cX6_rule 61 = .ok (.iconst 3, 1) := by decide +kernel
theorem dX6_rule_62 : decode cX6_rule 62 = .ok (.if_icmp .ne 7, 3) := by decide +kernel
theorem dX6_rule_65 : decode cX6_rule 65 = .ok (.iconst 1, 1) := by decide +kernel
theorem dX6_rule_66 : decode cX6_rule 66 = .ok (.goto 4, 3) := by decide +kernel
theorem dX6_rule_69 : decode cX6_rule 69 = .ok (.iconst 0, 1) := by decide +kernel
theorem dX6_rule_70 : decode cX6_rule 70 = .ok (.iload 4, 2) := by decide +kernel
theorem dX6_rule_72 : decode cX6_rule 72 = .ok (.invokestatic 75, 3) := by decide +kernel
theorem dX6_rule_75 : decode cX6_rule 75 = .ok (.istore_n 3, 1) := by decide +kernel
theorem dX6_rule_76 : decode cX6_rule 76 = .ok (.iload_n 3, 1) := by decide +kernel
theorem dX6_rule_77 : decode cX6_rule 77 = .ok (.ifCond .ne 7, 3) := by decide +kernel
theorem dX6_rule_80 : decode cX6_rule 80 = .ok (.ldc2_w 79, 3) := by decide +kernel
theorem dX6_rule_83 : decode cX6_rule 83 = .ok (.lreturn, 1) := by decide +kernel
theorem dX6_rule_84 : decode cX6_rule 84 = .ok (.aload_n 0, 1) := by decide +kernel
theorem dX6_rule_85 : decode cX6_rule 85 = .ok (.getfield 32, 3) := by decide +kernel
theorem dX6_rule_88 : decode cX6_rule 88 = .ok (.iload_n 1, 1) := by decide +kernel
theorem dX6_rule_89 : decode cX6_rule 89 = .ok (.iaload, 1) := by decide +kernel
theorem dX6_rule_90 : decode cX6_rule 90 = .ok (.istore 4, 2) := by decide +kernel
theorem dX6_rule_92 : decode cX6_rule 92 = .ok (.aload_n 0, 1) := by decide +kernel
theorem dX6_rule_93 : decode cX6_rule 93 = .ok (.getfield 32, 3) := by decide +kernel
theorem dX6_rule_96 : decode cX6_rule 96 = .ok (.iload_n 1, 1) := by decide +kernel
theorem dX6_rule_97 : decode cX6_rule 97 = .ok (.iload_n 2, 1) := by decide +kernel
theorem dX6_rule_98 : decode cX6_rule 98 = .ok (.iastore, 1) := by decide +kernel
theorem dX6_rule_99 : decode cX6_rule 99 = .ok (.iload 4, 2) := by decide +kernel
theorem dX6_rule_101 : decode cX6_rule 101 = .ok (.i2l, 1) := by decide +kernel
theorem dX6_rule_102 : decode cX6_rule 102 = .ok (.lreturn, 1) := by decide +kernel
theorem dX6_day_0 : decode cX6_day 0 = .ok (.aload_n 0, 1) := by decide +kernel
theorem dX6_day_1 : decode cX6_day 1 = .ok (.invokevirtual 143, 3) := by decide +kernel
theorem dX6_day_4 : decode cX6_day 4 = .ok (.aload_n 0, 1) := by decide +kernel
theorem dX6_day_5 : decode cX6_day 5 = .ok (.dup, 1) := by decide +kernel
theorem dX6_day_6 : decode cX6_day 6 = .ok (.getfield 159, 3) := by decide +kernel
theorem dX6_day_9 : decode cX6_day 9 = .ok (.iconst 1, 1) := by decide +kernel
theorem dX6_day_10 : decode cX6_day 10 = .ok (.iadd, 1) := by decide +kernel
theorem dX6_day_11 : decode cX6_day 11 = .ok (.putfield 159, 3) := by decide +kernel
theorem dX6_day_14 : decode cX6_day 14 = .ok (.aload_n 0, 1) := by decide +kernel
theorem dX6_day_15 : decode cX6_day 15 = .ok (.getfield 32, 3) := by decide +kernel
theorem dX6_day_18 : decode cX6_day 18 = .ok (.iconst 4, 1) := by decide +kernel
theorem dX6_day_19 : decode cX6_day 19 = .ok (.iaload, 1) := by decide +kernel
theorem dX6_day_20 : decode cX6_day 20 = .ok (.ifCond .le 21, 3) := by decide +kernel
theorem dX6_day_23 : decode cX6_day 23 = .ok (.aload_n 0, 1) := by decide +kernel
theorem dX6_day_24 : decode cX6_day 24 = .ok (.getfield 159, 3) := by decide +kernel
theorem dX6_day_27 : decode cX6_day 27 = .ok (.aload_n 0, 1) := by decide +kernel
theorem dX6_day_28 : decode cX6_day 28 = .ok (.getfield 32, 3) := by decide +kernel
theorem dX6_day_31 : decode cX6_day 31 = .ok (.iconst 4, 1) := by decide +kernel
theorem dX6_day_32 : decode cX6_day 32 = .ok (.iaload, 1) := by decide +kernel
theorem dX6_day_33 : decode cX6_day 33 = .ok (.irem, 1) := by decide +kernel
theorem dX6_day_34 : decode cX6_day 34 = .ok (.ifCond .ne 7, 3) := by decide +kernel
theorem dX6_day_37 : decode cX6_day 37 = .ok (.iconst 1, 1) := by decide +kernel
theorem dX6_day_38 : decode cX6_day 38 = .ok (.goto 4, 3) := by decide +kernel
theorem dX6_day_41 : decode cX6_day 41 = .ok (.iconst 0, 1) := by decide +kernel
theorem dX6_day_42 : decode cX6_day 42 = .ok (.istore_n 1, 1) := by decide +kernel
theorem dX6_day_43 : decode cX6_day 43 = .ok (.iconst 0, 1) := by decide +kernel
theorem dX6_day_44 : decode cX6_day 44 = .ok (.istore_n 2, 1) := by decide +kernel
theorem dX6_day_45 : decode cX6_day 45 = .ok (.iload_n 2, 1) := by decide +kernel
theorem dX6_day_46 : decode cX6_day 46 = .ok (.bipush 72, 2) := by decide +kernel
theorem dX6_day_48 : decode cX6_day 48 = .ok (.if_icmp .ge 88, 3) := by decide +kernel
theorem dX6_day_51 : decode cX6_day 51 = .ok (.aload_n 0, 1) := by decide +kernel
theorem dX6_day_52 : decode cX6_day 52 = .ok (.iload_n 2, 1) := by decide +kernel
theorem dX6_day_53 : decode cX6_day 53 = .ok (.invokevirtual 138, 3) := by decide +kernel
theorem dX6_day_56 : decode cX6_day 56 = .ok (.ifCond .eq 74, 3) := by decide +kernel
theorem dX6_day_59 : decode cX6_day 59 = .ok (.aload_n 0, 1) := by decide +kernel
theorem dX6_day_60 : decode cX6_day 60 = .ok (.getfield 20, 3) := by decide +kernel
theorem dX6_day_63 : decode cX6_day 63 = .ok (.iload_n 2, 1) := by decide +kernel
theorem dX6_day_64 : decode cX6_day 64 = .ok (.iaload, 1) := by decide +kernel
theorem dX6_day_65 : decode cX6_day 65 = .ok (.i2l, 1) := by decide +kernel
theorem dX6_day_66 : decode cX6_day 66 = .ok (.aload_n 0, 1) := by decide +kernel
theorem dX6_day_67 : decode cX6_day 67 = .ok (.getfield 57, 3) := by decide +kernel
theorem dX6_day_70 : decode cX6_day 70 = .ok (.iload_n 2, 1) := by decide +kernel
theorem dX6_day_71 : decode cX6_day 71 = .ok (.laload, 1) := by decide +kernel
theorem dX6_day_72 : decode cX6_day 72 = .ok (.aload_n 0, 1) := by decide +kernel
theorem dX6_day_73 : decode cX6_day 73 = .ok (.getfield 32, 3) := by decide +kernel
theorem dX6_day_76 : decode cX6_day 76 = .ok (.iconst 3, 1) := by decide +kernel
theorem dX6_day_77 : decode cX6_day 77 = .ok (.iaload, 1) := by decide +kernel
theorem dX6_day_78 : decode cX6_day 78 = .ok (.i2l, 1) := by decide +kernel
theorem dX6_day_79 : decode cX6_day 79 = .ok (.ldiv, 1) := by decide +kernel
theorem dX6_day_80 : decode cX6_day 80 = .ok (.ladd, 1) := by decide +kernel
theorem dX6_day_81 : decode cX6_day 81 = .ok (.lstore_n 3, 1) := by decide +kernel
theorem dX6_day_82 : decode cX6_day 82 = .ok (.aload_n 0, 1) := by decide +kernel
theorem dX6_day_83 : decode cX6_day 83 = .ok (.getfield 20, 3) := by decide +kernel
theorem dX6_day_86 : decode cX6_day 86 = .ok (.iload_n 2, 1) := by decide +kernel
theorem dX6_day_87 : decode cX6_day 87 = .ok (.lload_n 3, 1) := by decide +kernel
theorem dX6_day_88 : decode cX6_day 88 = .ok (.ldc2_w 162, 3) := by decide +kernel
theorem dX6_day_91 : decode cX6_day 91 = .ok (.lcmp, 1) := by decide +kernel
theorem dX6_day_92 : decode cX6_day 92 = .ok (.ifCond .le 8, 3) := by decide +kernel
theorem dX6_day_95 : decode cX6_day 95 = .ok (.bipush 90, 2) := by decide +kernel
theorem dX6_day_97 : decode cX6_day 97 = .ok (.goto 5, 3) := by decide +kernel
theorem dX6_day_100 : decode cX6_day 100 = .ok (.lload_n 3, 1) := by decide +kernel
theorem dX6_day_101 : decode cX6_day 101 = .ok (.l2i, 1) := by decide +kernel
theorem dX6_day_102 : decode cX6_day 102 = .ok (.iastore, 1) := by decide +kernel
theorem dX6_day_103 : decode cX6_day 103 = .ok (.aload_n 0, 1) := by decide +kernel
theorem dX6_day_104 : decode cX6_day 104 = .ok (.getfield 20, 3) := by decide +kernel
theorem dX6_day_107 : decode cX6_day 107 = .ok (.iload_n 2, 1) := by decide +kernel
theorem dX6_day_108 : decode cX6_day 108 = .ok (.iload_n 1, 1) := by decide +kernel
theorem dX6_day_109 : decode cX6_day 109 = .ok (.ifCond .eq 14, 3) := by decide +kernel
theorem dX6_day_112 : decode cX6_day 112 = .ok (.aload_n 0, 1) := by decide +kernel
theorem dX6_day_113 : decode cX6_day 113 = .ok (.getfield 20, 3) := by decide +kernel
theorem dX6_day_116 : decode cX6_day 116 = .ok (.iload_n 2, 1) := by decide +kernel
theorem dX6_day_117 : decode cX6_day 117 = .ok (.iaload, 1) := by decide +kernel
theorem dX6_day_118 : decode cX6_day 118 = .ok (.iconst 2, 1) := by decide +kernel
theorem dX6_day_119 : decode cX6_day 119 = .ok (.idiv, 1) := by decide +kernel
theorem dX6_day_120 : decode cX6_day 120 = .ok (.goto 9, 3) := by decide +kernel
theorem dX6_day_123 : decode cX6_day 123 = .ok (.aload_n 0, 1) := by decide +kernel
theorem dX6_day_124 : decode cX6_day 124 = .ok (.getfield 20, 3) := by decide +kernel
theorem dX6_day_127 : decode cX6_day 127 = .ok (.iload_n 2, 1) := by decide +kernel
theorem dX6_day_128 : decode cX6_day 128 = .ok (.iaload, 1) := by decide +kernel
theorem dX6_day_129 : decode cX6_day 129 = .ok (.iastore, 1) := by decide +kernel
theorem dX6_day_130 : decode cX6_day 130 = .ok (.iinc 2 1, 3) := by decide +kernel
theorem dX6_day_133 : decode cX6_day 133 = .ok (.goto (-88), 3) := by decide +kernel
theorem dX6_day_136 : decode cX6_day 136 = .ok (.return_, 1) := by decide +kernel
theorem dX6_days_0 : decode cX6_days 0 = .ok (.iload_n 1, 1) := by decide +kernel
theorem dX6_days_1 : decode cX6_days 1 = .ok (.iconst 1, 1) := by decide +kernel
theorem dX6_days_2 : decode cX6_days 2 = .ok (.bipush 60, 2) := by decide +kernel
theorem dX6_days_4 : decode cX6_days 4 = .ok (.invokestatic 75, 3) := by decide +kernel
theorem dX6_days_7 : decode cX6_days 7 = .ok (.ifCond .eq 15, 3) := by decide +kernel
theorem dX6_days_10 : decode cX6_days 10 = .ok (.aload_n 0, 1) := by decide +kernel
theorem dX6_days_11 : decode cX6_days 11 = .ok (.getfield 159, 3) := by decide +kernel
theorem dX6_days_14 : decode cX6_days 14 = .ok (.iload_n 1, 1) := by decide +kernel
theorem dX6_days_15 : decode cX6_days 15 = .ok (.iadd, 1) := by decide +kernel
theorem dX6_days_16 : decode cX6_days 16 = .ok (.sipush 1000, 3) := by decide +kernel
theorem dX6_days_19 : decode cX6_days 19 = .ok (.if_icmp .le 7, 3) := by decide +kernel
theorem dX6_days_22 : decode cX6_days 22 = .ok (.ldc2_w 79, 3) := by decide +kernel
theorem dX6_days_25 : decode cX6_days 25 = .ok (.lreturn, 1) := by decide +kernel
theorem dX6_days_26 : decode cX6_days 26 = .ok (.iconst 0, 1) := by decide +kernel
theorem dX6_days_27 : decode cX6_days 27 = .ok (.istore_n 2, 1) := by decide +kernel
theorem dX6_days_28 : decode cX6_days 28 = .ok (.iload_n 2, 1) := by decide +kernel
theorem dX6_days_29 : decode cX6_days 29 = .ok (.iload_n 1, 1) := by decide +kernel
theorem dX6_days_30 : decode cX6_days 30 = .ok (.if_icmp .ge 13, 3) := by decide +kernel
theorem dX6_days_33 : decode cX6_days 33 = .ok (.aload_n 0, 1) := by decide +kernel
theorem dX6_days_34 : decode cX6_days 34 = .ok (.invokevirtual 164, 3) := by decide +kernel
theorem dX6_days_37 : decode cX6_days 37 = .ok (.iinc 2 1, 3) := by decide +kernel
theorem dX6_days_40 : decode cX6_days 40 = .ok (.goto (-12), 3) := by decide +kernel
theorem dX6_days_43 : decode cX6_days 43 = .ok (.aload_n 0, 1) := by decide +kernel
theorem dX6_days_44 : decode cX6_days 44 = .ok (.getfield 159, 3) := by decide +kernel
theorem dX6_days_47 : decode cX6_days 47 = .ok (.i2l, 1) := by decide +kernel
theorem dX6_days_48 : decode cX6_days 48 = .ok (.lreturn, 1) := by decide +kernel
theorem dX6_foul_0 : decode cX6_foul 0 = .ok (.iload_n 1, 1) := by decide +kernel
theorem dX6_foul_1 : decode cX6_foul 1 = .ok (.iconst 0, 1) := by decide +kernel
theorem dX6_foul_2 : decode cX6_foul 2 = .ok (.iconst 2, 1) := by decide +kernel
theorem dX6_foul_3 : decode cX6_foul 3 = .ok (.invokestatic 75, 3) := by decide +kernel
theorem dX6_foul_6 : decode cX6_foul 6 = .ok (.ifCond .ne 7, 3) := by decide +kernel
theorem dX6_foul_9 : decode cX6_foul 9 = .ok (.ldc2_w 79, 3) := by decide +kernel
theorem dX6_foul_12 : decode cX6_foul 12 = .ok (.lreturn, 1) := by decide +kernel
theorem dX6_foul_13 : decode cX6_foul 13 = .ok (.iconst 0, 1) := by decide +kernel
theorem dX6_foul_14 : decode cX6_foul 14 = .ok (.istore_n 2, 1) := by decide +kernel
theorem dX6_foul_15 : decode cX6_foul 15 = .ok (.iconst (-1), 1) := by decide +kernel
theorem dX6_foul_16 : decode cX6_foul 16 = .ok (.istore_n 3, 1) := by decide +kernel
theorem dX6_foul_17 : decode cX6_foul 17 = .ok (.iconst 0, 1) := by decide +kernel
theorem dX6_foul_18 : decode cX6_foul 18 = .ok (.istore 4, 2) := by decide +kernel
theorem dX6_foul_20 : decode cX6_foul 20 = .ok (.iload 4, 2) := by decide +kernel
theorem dX6_foul_22 : decode cX6_foul 22 = .ok (.bipush 72, 2) := by decide +kernel
theorem dX6_foul_24 : decode cX6_foul 24 = .ok (.if_icmp .ge 55, 3) := by decide +kernel
theorem dX6_foul_27 : decode cX6_foul 27 = .ok (.aload_n 0, 1) := by decide +kernel
theorem dX6_foul_28 : decode cX6_foul 28 = .ok (.iload 4, 2) := by decide +kernel
theorem dX6_foul_30 : decode cX6_foul 30 = .ok (.invokevirtual 138, 3) := by decide +kernel
theorem dX6_foul_33 : decode cX6_foul 33 = .ok (.ifCond .eq 40, 3) := by decide +kernel
theorem dX6_foul_36 : decode cX6_foul 36 = .ok (.iload_n 2, 1) := by decide +kernel
theorem dX6_foul_37 : decode cX6_foul 37 = .ok (.aload_n 0, 1) := by decide +kernel
theorem dX6_foul_38 : decode cX6_foul 38 = .ok (.getfield 20, 3) := by decide +kernel
theorem dX6_foul_41 : decode cX6_foul 41 = .ok (.iload 4, 2) := by decide +kernel
theorem dX6_foul_43 : decode cX6_foul 43 = .ok (.iaload, 1) := by decide +kernel
theorem dX6_foul_44 : decode cX6_foul 44 = .ok (.iadd, 1) := by decide +kernel
theorem dX6_foul_45 : decode cX6_foul 45 = .ok (.istore_n 2, 1) := by decide +kernel
theorem dX6_foul_46 : decode cX6_foul 46 = .ok (.iload_n 3, 1) := by decide +kernel
theorem dX6_foul_47 : decode cX6_foul 47 = .ok (.ifCond .lt 19, 3) := by decide +kernel
theorem dX6_foul_50 : decode cX6_foul 50 = .ok (.aload_n 0, 1) := by decide +kernel
theorem dX6_foul_51 : decode cX6_foul 51 = .ok (.getfield 20, 3) := by decide +kernel
theorem dX6_foul_54 : decode cX6_foul 54 = .ok (.iload 4, 2) := by decide +kernel
theorem dX6_foul_56 : decode cX6_foul 56 = .ok (.iaload, 1) := by decide +kernel
theorem dX6_foul_57 : decode cX6_foul 57 = .ok (.aload_n 0, 1) := by decide +kernel
theorem dX6_foul_58 : decode cX6_foul 58 = .ok (.getfield 20, 3) := by decide +kernel
theorem dX6_foul_61 : decode cX6_foul 61 = .ok (.iload_n 3, 1) := by decide +kernel
theorem dX6_foul_62 : decode cX6_foul 62 = .ok (.iaload, 1) := by decide +kernel
theorem dX6_foul_63 : decode cX6_foul 63 = .ok (.if_icmp .le 8, 3) := by decide +kernel
theorem dX6_foul_66 : decode cX6_foul 66 = .ok (.iload 4, 2) := by decide +kernel
theorem dX6_foul_68 : decode cX6_foul 68 = .ok (.goto 4, 3) := by decide +kernel
theorem dX6_foul_71 : decode cX6_foul 71 = .ok (.iload_n 3, 1) := by decide +kernel
theorem dX6_foul_72 : decode cX6_foul 72 = .ok (.istore_n 3, 1) := by decide +kernel
theorem dX6_foul_73 : decode cX6_foul 73 = .ok (.iinc 4 1, 3) := by decide +kernel
theorem dX6_foul_76 : decode cX6_foul 76 = .ok (.goto (-56), 3) := by decide +kernel
theorem dX6_foul_79 : decode cX6_foul 79 = .ok (.iload_n 1, 1) := by decide +kernel
theorem dX6_foul_80 : decode cX6_foul 80 = .ok (.ifCond .ne 8, 3) := by decide +kernel
theorem dX6_foul_83 : decode cX6_foul 83 = .ok (.iload_n 2, 1) := by decide +kernel
theorem dX6_foul_84 : decode cX6_foul 84 = .ok (.i2l, 1) := by decide +kernel
theorem dX6_foul_85 : decode cX6_foul 85 = .ok (.goto 23, 3) := by decide +kernel
theorem dX6_foul_88 : decode cX6_foul 88 = .ok (.iload_n 1, 1) := by decide +kernel
theorem dX6_foul_89 : decode cX6_foul 89 = .ok (.iconst 1, 1) := by decide +kernel
theorem dX6_foul_90 : decode cX6_foul 90 = .ok (.if_icmp .ne 13, 3) := by decide +kernel
theorem dX6_foul_93 : decode cX6_foul 93 = .ok (.aload_n 0, 1) := by decide +kernel
theorem dX6_foul_94 : decode cX6_foul 94 = .ok (.getfield 20, 3) := by decide +kernel
theorem dX6_foul_97 : decode cX6_foul 97 = .ok (.iload_n 3, 1) := by decide +kernel
theorem dX6_foul_98 : decode cX6_foul 98 = .ok (.iaload, 1) := by decide +kernel
theorem dX6_foul_99 : decode cX6_foul 99 = .ok (.i2l, 1) := by decide +kernel
theorem dX6_foul_100 : decode cX6_foul 100 = .ok (.goto 8, 3) := by decide +kernel
theorem dX6_foul_103 : decode cX6_foul 103 = .ok (.iload_n 3, 1) := by decide +kernel
theorem dX6_foul_104 : decode cX6_foul 104 = .ok (.invokestatic 150, 3) := by decide +kernel
theorem dX6_foul_107 : decode cX6_foul 107 = .ok (.i2l, 1) := by decide +kernel
theorem dX6_foul_108 : decode cX6_foul 108 = .ok (.lreturn, 1) := by decide +kernel
theorem dX6_swap_0 : decode cX6_swap 0 = .ok (.aload_n 0, 1) := by decide +kernel
theorem dX6_swap_1 : decode cX6_swap 1 = .ok (.invokevirtual 143, 3) := by decide +kernel
theorem dX6_swap_4 : decode cX6_swap 4 = .ok (.aload_n 0, 1) := by decide +kernel
theorem dX6_swap_5 : decode cX6_swap 5 = .ok (.getfield 108, 3) := by decide +kernel
theorem dX6_swap_8 : decode cX6_swap 8 = .ok (.lstore_n 1, 1) := by decide +kernel
theorem dX6_swap_9 : decode cX6_swap 9 = .ok (.ldc2_w 157, 3) := by decide +kernel
theorem dX6_swap_12 : decode cX6_swap 12 = .ok (.lstore_n 3, 1) := by decide +kernel
theorem dX6_swap_13 : decode cX6_swap 13 = .ok (.iconst 0, 1) := by decide +kernel
theorem dX6_swap_14 : decode cX6_swap 14 = .ok (.istore 5, 2) := by decide +kernel
theorem dX6_swap_16 : decode cX6_swap 16 = .ok (.iload 5, 2) := by decide +kernel
theorem dX6_swap_18 : decode cX6_swap 18 = .ok (.bipush 72, 2) := by decide +kernel
theorem dX6_swap_20 : decode cX6_swap 20 = .ok (.if_icmp .ge 98, 3) := by decide +kernel
theorem dX6_swap_23 : decode cX6_swap 23 = .ok (.iload 5, 2) := by decide +kernel
theorem dX6_swap_25 : decode cX6_swap 25 = .ok (.iconst 1, 1) := by decide +kernel
theorem dX6_swap_26 : decode cX6_swap 26 = .ok (.iadd, 1) := by decide +kernel
theorem dX6_swap_27 : decode cX6_swap 27 = .ok (.istore 6, 2) := by decide +kernel
theorem dX6_swap_29 : decode cX6_swap 29 = .ok (.iload 6, 2) := by decide +kernel
theorem dX6_swap_31 : decode cX6_swap 31 = .ok (.bipush 72, 2) := by decide +kernel
theorem dX6_swap_33 : decode cX6_swap 33 = .ok (.if_icmp .ge 79, 3) := by decide +kernel
theorem dX6_swap_36 : decode cX6_swap 36 = .ok (.aload_n 0, 1) := by decide +kernel
theorem dX6_swap_37 : decode cX6_swap 37 = .ok (.iload 5, 2) := by decide +kernel
theorem dX6_swap_39 : decode cX6_swap 39 = .ok (.invokevirtual 138, 3) := by decide +kernel
theorem dX6_swap_42 : decode cX6_swap 42 = .ok (.ifCond .eq 70, 3) := by decide +kernel
theorem dX6_swap_45 : decode cX6_swap 45 = .ok (.aload_n 0, 1) := by decide +kernel
theorem dX6_swap_46 : decode cX6_swap 46 = .ok (.iload 6, 2) := by decide +kernel
theorem dX6_swap_48 : decode cX6_swap 48 = .ok (.invokevirtual 138, 3) := by decide +kernel
theorem dX6_swap_51 : decode cX6_swap 51 = .ok (.ifCond .eq 55, 3) := by decide +kernel
theorem dX6_swap_54 : decode cX6_swap 54 = .ok (.aload_n 0, 1) := by decide +kernel
theorem dX6_swap_55 : decode cX6_swap 55 = .ok (.iload 5, 2) := by decide +kernel
theorem dX6_swap_57 : decode cX6_swap 57 = .ok (.iload 6, 2) := by decide +kernel
theorem dX6_swap_59 : decode cX6_swap 59 = .ok (.invokevirtual 96, 3) := by decide +kernel
theorem dX6_swap_62 : decode cX6_swap 62 = .ok (.aload_n 0, 1) := by decide +kernel
theorem dX6_swap_63 : decode cX6_swap 63 = .ok (.invokevirtual 143, 3) := by decide +kernel
theorem dX6_swap_66 : decode cX6_swap 66 = .ok (.aload_n 0, 1) := by decide +kernel
theorem dX6_swap_67 : decode cX6_swap 67 = .ok (.iload 5, 2) := by decide +kernel
theorem dX6_swap_69 : decode cX6_swap 69 = .ok (.iload 6, 2) := by decide +kernel
theorem dX6_swap_71 : decode cX6_swap 71 = .ok (.invokevirtual 96, 3) := by decide +kernel
theorem dX6_swap_74 : decode cX6_swap 74 = .ok (.aload_n 0, 1) := by decide +kernel
theorem dX6_swap_75 : decode cX6_swap 75 = .ok (.getfield 108, 3) := by decide +kernel
theorem dX6_swap_78 : decode cX6_swap 78 = .ok (.lload_n 1, 1) := by decide +kernel
theorem dX6_swap_79 : decode cX6_swap 79 = .ok (.lcmp, 1) := by decide +kernel
theorem dX6_swap_80 : decode cX6_swap 80 = .ok (.ifCond .le 26, 3) := by decide +kernel
theorem dX6_swap_83 : decode cX6_swap 83 = .ok (.aload_n 0, 1) := by decide +kernel
theorem dX6_swap_84 : decode cX6_swap 84 = .ok (.getfield 108, 3) := by decide +kernel
theorem dX6_swap_87 : decode cX6_swap 87 = .ok (.lstore_n 1, 1) := by decide +kernel
theorem dX6_swap_88 : decode cX6_swap 88 = .ok (.ldc2_w 106, 3) := by decide +kernel
theorem dX6_swap_91 : decode cX6_swap 91 = .ok (.iload 5, 2) := by decide +kernel
theorem dX6_swap_93 : decode cX6_swap 93 = .ok (.invokestatic 150, 3) := by decide +kernel
theorem dX6_swap_96 : decode cX6_swap 96 = .ok (.i2l, 1) := by decide +kernel
theorem dX6_swap_97 : decode cX6_swap 97 = .ok (.lmul, 1) := by decide +kernel
theorem dX6_swap_98 : decode cX6_swap 98 = .ok (.iload 6, 2) := by decide +kernel
theorem dX6_swap_100 : decode cX6_swap 100 = .ok (.invokestatic 150, 3) := by decide +kernel
theorem dX6_swap_103 : decode cX6_swap 103 = .ok (.i2l, 1) := by decide +kernel
theorem dX6_swap_104 : decode cX6_swap 104 = .ok (.ladd, 1) := by decide +kernel
theorem dX6_swap_105 : decode cX6_swap 105 = .ok (.lstore_n 3, 1) := by decide +kernel
theorem dX6_swap_106 : decode cX6_swap 106 = .ok (.iinc 6 1, 3) := by decide +kernel
theorem dX6_swap_109 : decode cX6_swap 109 = .ok (.goto (-80), 3) := by decide +kernel
theorem dX6_swap_112 : decode cX6_swap 112 = .ok (.iinc 5 1, 3) := by decide +kernel
theorem dX6_swap_115 : decode cX6_swap 115 = .ok (.goto (-99), 3) := by decide +kernel
theorem dX6_swap_118 : decode cX6_swap 118 = .ok (.lload_n 3, 1) := by decide +kernel
theorem dX6_swap_119 : decode cX6_swap 119 = .ok (.lreturn, 1) := by decide +kernel
theorem dX6_array_0 : decode cX6_array 0 = .ok (.iload_n 1, 1) := by decide +kernel
theorem dX6_array_1 : decode cX6_array 1 = .ok (.iconst 0, 1) := by decide +kernel
theorem dX6_array_2 : decode cX6_array 2 = .ok (.ldc 167, 2) := by decide +kernel
theorem dX6_array_4 : decode cX6_array 4 = .ok (.invokestatic 75, 3) := by decide +kernel
theorem dX6_array_7 : decode cX6_array 7 = .ok (.ifCond .eq 13, 3) := by decide +kernel
theorem dX6_array_10 : decode cX6_array 10 = .ok (.iload_n 2, 1) := by decide +kernel
theorem dX6_array_11 : decode cX6_array 11 = .ok (.iconst 0, 1) := by decide +kernel
theorem dX6_array_12 : decode cX6_array 12 = .ok (.ldc 95, 2) := by decide +kernel
theorem dX6_array_14 : decode cX6_array 14 = .ok (.invokestatic 75, 3) := by decide +kernel
theorem dX6_array_17 : decode cX6_array 17 = .ok (.ifCond .ne 7, 3) := by decide +kernel
theorem dX6_array_20 : decode cX6_array 20 = .ok (.ldc2_w 79, 3) := by decide +kernel
theorem dX6_array_23 : decode cX6_array 23 = .ok (.lreturn, 1) := by decide +kernel
theorem dX6_array_24 : decode cX6_array 24 = .ok (.iconst 0, 1) := by decide +kernel
theorem dX6_array_25 : decode cX6_array 25 = .ok (.istore_n 3, 1) := by decide +kernel
theorem dX6_array_26 : decode cX6_array 26 = .ok (.iload_n 3, 1) := by decide +kernel
theorem dX6_array_27 : decode cX6_array 27 = .ok (.iconst 3, 1) := by decide +kernel
theorem dX6_array_28 : decode cX6_array 28 = .ok (.if_icmp .ge 21, 3) := by decide +kernel
theorem dX6_array_31 : decode cX6_array 31 = .ok (.aload_n 0, 1) := by decide +kernel
theorem dX6_array_32 : decode cX6_array 32 = .ok (.getfield 63, 3) := by decide +kernel
theorem dX6_array_35 : decode cX6_array 35 = .ok (.iload_n 3, 1) := by decide +kernel
theorem dX6_array_36 : decode cX6_array 36 = .ok (.aload_n 0, 1) := by decide +kernel
theorem dX6_array_37 : decode cX6_array 37 = .ok (.getfield 7, 3) := by decide +kernel
theorem dX6_array_40 : decode cX6_array 40 = .ok (.iload_n 3, 1) := by decide +kernel
theorem dX6_array_41 : decode cX6_array 41 = .ok (.iaload, 1) := by decide +kernel
theorem dX6_array_42 : decode cX6_array 42 = .ok (.iastore, 1) := by decide +kernel
theorem dX6_array_43 : decode cX6_array 43 = .ok (.iinc 3 1, 3) := by decide +kernel
theorem dX6_array_46 : decode cX6_array 46 = .ok (.goto (-20), 3) := by decide +kernel
theorem dX6_array_49 : decode cX6_array 49 = .ok (.ldc2_w 141, 3) := by decide +kernel
theorem dX6_array_52 : decode cX6_array 52 = .ok (.lstore_n 3, 1) := by decide +kernel
theorem dX6_array_53 : decode cX6_array 53 = .ok (.lconst 0, 1) := by decide +kernel
theorem dX6_array_54 : decode cX6_array 54 = .ok (.lstore 5, 2) := by decide +kernel
theorem dX6_array_56 : decode cX6_array 56 = .ok (.bipush 100, 2) := by decide +kernel
theorem dX6_array_58 : decode cX6_array 58 = .ok (.istore 7, 2) := by decide +kernel
theorem dX6_array_60 : decode cX6_array 60 = .ok (.iload 7, 2) := by decide +kernel
theorem dX6_array_62 : decode cX6_array 62 = .ok (.sipush 900, 3) := by decide +kernel
theorem dX6_array_65 : decode cX6_array 65 = .ok (.if_icmp .gt 199, 3) := by decide +kernel
theorem dX6_array_68 : decode cX6_array 68 = .ok (.iconst 0, 1) := by decide +kernel
theorem dX6_array_69 : decode cX6_array 69 = .ok (.istore 8, 2) := by decide +kernel
theorem dX6_array_71 : decode cX6_array 71 = .ok (.iload 8, 2) := by decide +kernel
theorem dX6_array_73 : decode cX6_array 73 = .ok (.bipush 100, 2) := by decide +kernel
theorem dX6_array_75 : decode cX6_array 75 = .ok (.if_icmp .ge 183, 3) := by decide +kernel
theorem dX6_array_78 : decode cX6_array 78 = .ok (.aload_n 0, 1) := by decide +kernel
theorem dX6_array_79 : decode cX6_array 79 = .ok (.getfield 7, 3) := by decide +kernel
theorem dX6_array_82 : decode cX6_array 82 = .ok (.iconst 0, 1) := by decide +kernel
theorem dX6_array_83 : decode cX6_array 83 = .ok (.iconst 1, 1) := by decide +kernel
theorem dX6_array_84 : decode cX6_array 84 = .ok (.iload 8, 2) := by decide +kernel
theorem dX6_array_86 : decode cX6_array 86 = .ok (.bipush 25, 2) := by decide +kernel
theorem dX6_array_88 : decode cX6_array 88 = .ok (.idiv, 1) := by decide +kernel
theorem dX6_array_89 : decode cX6_array 89 = .ok (.iadd, 1) := by decide +kernel
theorem dX6_array_90 : decode cX6_array 90 = .ok (.iastore, 1) := by decide +kernel
theorem dX6_array_91 : decode cX6_array 91 = .ok (.aload_n 0, 1) := by decide +kernel
theorem dX6_array_92 : decode cX6_array 92 = .ok (.getfield 7, 3) := by decide +kernel
theorem dX6_array_95 : decode cX6_array 95 = .ok (.iconst 1, 1) := by decide +kernel
theorem dX6_array_96 : decode cX6_array 96 = .ok (.iload 8, 2) := by decide +kernel
theorem dX6_array_98 : decode cX6_array 98 = .ok (.iconst 5, 1) := by decide +kernel
theorem dX6_array_99 : decode cX6_array 99 = .ok (.idiv, 1) := by decide +kernel
theorem dX6_array_100 : decode cX6_array 100 = .ok (.iconst 5, 1) := by decide +kernel
theorem dX6_array_101 : decode cX6_array 101 = .ok (.irem, 1) := by decide +kernel
theorem dX6_array_102 : decode cX6_array 102 = .ok (.iastore, 1) := by decide +kernel
theorem dX6_array_103 : decode cX6_array 103 = .ok (.aload_n 0, 1) := by decide +kernel
theorem dX6_array_104 : decode cX6_array 104 = .ok (.getfield 7, 3) := by decide +kernel
theorem dX6_array_107 : decode cX6_array 107 = .ok (.iconst 2, 1) := by decide +kernel
theorem dX6_array_108 : decode cX6_array 108 = .ok (.iload 8, 2) := by decide +kernel
theorem dX6_array_110 : decode cX6_array 110 = .ok (.iconst 5, 1) := by decide +kernel
theorem dX6_array_111 : decode cX6_array 111 = .ok (.irem, 1) := by decide +kernel
theorem dX6_array_112 : decode cX6_array 112 = .ok (.iastore, 1) := by decide +kernel
theorem dX6_array_113 : decode cX6_array 113 = .ok (.aload_n 0, 1) := by decide +kernel
theorem dX6_array_114 : decode cX6_array 114 = .ok (.getfield 7, 3) := by decide +kernel
theorem dX6_array_117 : decode cX6_array 117 = .ok (.iconst 1, 1) := by decide +kernel
theorem dX6_array_118 : decode cX6_array 118 = .ok (.iaload, 1) := by decide +kernel
theorem dX6_array_119 : decode cX6_array 119 = .ok (.ifCond .ne 15, 3) := by decide +kernel
theorem dX6_array_122 : decode cX6_array 122 = .ok (.aload_n 0, 1) := by decide +kernel
theorem dX6_array_123 : decode cX6_array 123 = .ok (.getfield 7, 3) := by decide +kernel
theorem dX6_array_126 : decode cX6_array 126 = .ok (.iconst 2, 1) := by decide +kernel
theorem dX6_array_127 : decode cX6_array 127 = .ok (.iaload, 1) := by decide +kernel
theorem dX6_array_128 : decode cX6_array 128 = .ok (.ifCond .le 6, 3) := by decide +kernel
theorem dX6_array_131 : decode cX6_array 131 = .ok (.goto 121, 3) := by decide +kernel
theorem dX6_array_134 : decode cX6_array 134 = .ok (.aload_n 0, 1) := by decide +kernel
theorem dX6_array_135 : decode cX6_array 135 = .ok (.iload 7, 2) := by decide +kernel
theorem dX6_array_137 : decode cX6_array 137 = .ok (.invokevirtual 134, 3) := by decide +kernel
theorem dX6_array_140 : decode cX6_array 140 = .ok (.aload_n 0, 1) := by decide +kernel
theorem dX6_array_141 : decode cX6_array 141 = .ok (.invokevirtual 153, 3) := by decide +kernel
theorem dX6_array_144 : decode cX6_array 144 = .ok (.ifCond .ge 32, 3) := by decide +kernel
theorem dX6_array_147 : decode cX6_array 147 = .ok (.aload_n 0, 1) := by decide +kernel
theorem dX6_array_148 : decode cX6_array 148 = .ok (.getfield 108, 3) := by decide +kernel
theorem dX6_array_151 : decode cX6_array 151 = .ok (.iload_n 1, 1) := by decide +kernel
theorem dX6_array_152 : decode cX6_array 152 = .ok (.i2l, 1) := by decide +kernel
theorem dX6_array_153 : decode cX6_array 153 = .ok (.lcmp, 1) := by decide +kernel
theorem dX6_array_154 : decode cX6_array 154 = .ok (.ifCond .lt 22, 3) := by decide +kernel
theorem dX6_array_157 : decode cX6_array 157 = .ok (.aload_n 0, 1) := by decide +kernel
theorem dX6_array_158 : decode cX6_array 158 = .ok (.getfield 112, 3) := by decide +kernel
theorem dX6_array_161 : decode cX6_array 161 = .ok (.iload_n 2, 1) := by decide +kernel
theorem dX6_array_162 : decode cX6_array 162 = .ok (.i2l, 1) := by decide +kernel
theorem dX6_array_163 : decode cX6_array 163 = .ok (.aload_n 0, 1) := by decide +kernel
theorem dX6_array_164 : decode cX6_array 164 = .ok (.getfield 108, 3) := by decide +kernel
theorem dX6_array_167 : decode cX6_array 167 = .ok (.lmul, 1) := by decide +kernel
theorem dX6_array_168 : decode cX6_array 168 = .ok (.lcmp, 1) := by decide +kernel
theorem dX6_array_169 : decode cX6_array 169 = .ok (.ifCond .gt 7, 3) := by decide +kernel
theorem dX6_array_172 : decode cX6_array 172 = .ok (.iconst 1, 1) := by decide +kernel
theorem dX6_array_173 : decode cX6_array 173 = .ok (.goto 4, 3) := by decide +kernel
theorem dX6_array_176 : decode cX6_array 176 = .ok (.iconst 0, 1) := by decide +kernel
theorem dX6_array_177 : decode cX6_array 177 = .ok (.istore 9, 2) := by decide +kernel
theorem dX6_array_179 : decode cX6_array 179 = .ok (.iload 9, 2) := by decide +kernel
theorem dX6_array_181 : decode cX6_array 181 = .ok (.ifCond .eq 71, 3) := by decide +kernel
theorem dX6_array_184 : decode cX6_array 184 = .ok (.lload_n 3, 1) := by decide +kernel
theorem dX6_array_185 : decode cX6_array 185 = .ok (.ldc2_w 141, 3) := by decide +kernel
theorem dX6_array_188 : decode cX6_array 188 = .ok (.lcmp, 1) := by decide +kernel
theorem dX6_array_189 : decode cX6_array 189 = .ok (.ifCond .eq 15, 3) := by decide +kernel
theorem dX6_array_192 : decode cX6_array 192 = .ok (.aload_n 0, 1) := by decide +kernel
theorem dX6_array_193 : decode cX6_array 193 = .ok (.iload 7, 2) := by decide +kernel
theorem dX6_array_195 : decode cX6_array 195 = .ok (.invokevirtual 146, 3) := by decide +kernel
theorem dX6_array_198 : decode cX6_array 198 = .ok (.lload 5, 2) := by decide +kernel
theorem dX6_array_200 : decode cX6_array 200 = .ok (.lcmp, 1) := by decide +kernel
theorem dX6_array_201 : decode cX6_array 201 = .ok (.ifCond .ge 51, 3) := by decide +kernel
theorem dX6_array_204 : decode cX6_array 204 = .ok (.aload_n 0, 1) := by decide +kernel
theorem dX6_array_205 : decode cX6_array 205 = .ok (.iload 7, 2) := by decide +kernel
theorem dX6_array_207 : decode cX6_array 207 = .ok (.invokevirtual 146, 3) := by decide +kernel
theorem dX6_array_210 : decode cX6_array 210 = .ok (.lstore 5, 2) := by decide +kernel
theorem dX6_array_212 : decode cX6_array 212 = .ok (.ldc2_w 106, 3) := by decide +kernel
theorem dX6_array_215 : decode cX6_array 215 = .ok (.iload 7, 2) := by decide +kernel
theorem dX6_array_217 : decode cX6_array 217 = .ok (.i2l, 1) := by decide +kernel
theorem dX6_array_218 : decode cX6_array 218 = .ok (.lmul, 1) := by decide +kernel
theorem dX6_array_219 : decode cX6_array 219 = .ok (.ldc2_w 104, 3) := by decide +kernel
theorem dX6_array_222 : decode cX6_array 222 = .ok (.aload_n 0, 1) := by decide +kernel
theorem dX6_array_223 : decode cX6_array 223 = .ok (.getfield 7, 3) := by decide +kernel
theorem dX6_array_226 : decode cX6_array 226 = .ok (.iconst 0, 1) := by decide +kernel
theorem dX6_array_227 : decode cX6_array 227 = .ok (.iaload, 1) := by decide +kernel
theorem dX6_array_228 : decode cX6_array 228 = .ok (.i2l, 1) := by decide +kernel
theorem dX6_array_229 : decode cX6_array 229 = .ok (.lmul, 1) := by decide +kernel
theorem dX6_array_230 : decode cX6_array 230 = .ok (.ladd, 1) := by decide +kernel
theorem dX6_array_231 : decode cX6_array 231 = .ok (.ldc2_w 168, 3) := by decide +kernel
theorem dX6_array_234 : decode cX6_array 234 = .ok (.aload_n 0, 1) := by decide +kernel
theorem dX6_array_235 : decode cX6_array 235 = .ok (.getfield 7, 3) := by decide +kernel
theorem dX6_array_238 : decode cX6_array 238 = .ok (.iconst 1, 1) := by decide +kernel
theorem dX6_array_239 : decode cX6_array 239 = .ok (.iaload, 1) := by decide +kernel
theorem dX6_array_240 : decode cX6_array 240 = .ok (.i2l, 1) := by decide +kernel
theorem dX6_array_241 : decode cX6_array 241 = .ok (.lmul, 1) := by decide +kernel
theorem dX6_array_242 : decode cX6_array 242 = .ok (.ladd, 1) := by decide +kernel
theorem dX6_array_243 : decode cX6_array 243 = .ok (.aload_n 0, 1) := by decide +kernel
theorem dX6_array_244 : decode cX6_array 244 = .ok (.getfield 7, 3) := by decide +kernel
theorem dX6_array_247 : decode cX6_array 247 = .ok (.iconst 2, 1) := by decide +kernel
theorem dX6_array_248 : decode cX6_array 248 = .ok (.iaload, 1) := by decide +kernel
theorem dX6_array_249 : decode cX6_array 249 = .ok (.i2l, 1) := by decide +kernel
theorem dX6_array_250 : decode cX6_array 250 = .ok (.ladd, 1) := by decide +kernel
theorem dX6_array_251 : decode cX6_array 251 = .ok (.lstore_n 3, 1) := by decide +kernel
theorem dX6_array_252 : decode cX6_array 252 = .ok (.iinc 8 1, 3) := by decide +kernel
theorem dX6_array_255 : decode cX6_array 255 = .ok (.goto (-184), 3) := by decide +kernel
theorem dX6_array_258 : decode cX6_array 258 = .ok (.iinc 7 100, 3) := by decide +kernel
theorem dX6_array_261 : decode cX6_array 261 = .ok (.goto (-201), 3) := by decide +kernel
theorem dX6_array_264 : decode cX6_array 264 = .ok (.iconst 0, 1) := by decide +kernel
theorem dX6_array_265 : decode cX6_array 265 = .ok (.istore 7, 2) := by decide +kernel
theorem dX6_array_267 : decode cX6_array 267 = .ok (.iload 7, 2) := by decide +kernel
theorem dX6_array_269 : decode cX6_array 269 = .ok (.iconst 3, 1) := by decide +kernel
theorem dX6_array_270 : decode cX6_array 270 = .ok (.if_icmp .ge 23, 3) := by decide +kernel
theorem dX6_array_273 : decode cX6_array 273 = .ok (.aload_n 0, 1) := by decide +kernel
theorem dX6_array_274 : decode cX6_array 274 = .ok (.getfield 7, 3) := by decide +kernel
theorem dX6_array_277 : decode cX6_array 277 = .ok (.iload 7, 2) := by decide +kernel
theorem dX6_array_279 : decode cX6_array 279 = .ok (.aload_n 0, 1) := by decide +kernel
theorem dX6_array_280 : decode cX6_array 280 = .ok (.getfield 63, 3) := by decide +kernel
theorem dX6_array_283 : decode cX6_array 283 = .ok (.iload 7, 2) := by decide +kernel
theorem dX6_array_285 : decode cX6_array 285 = .ok (.iaload, 1) := by decide +kernel
theorem dX6_array_286 : decode cX6_array 286 = .ok (.iastore, 1) := by decide +kernel
theorem dX6_array_287 : decode cX6_array 287 = .ok (.iinc 7 1, 3) := by decide +kernel
theorem dX6_array_290 : decode cX6_array 290 = .ok (.goto (-23), 3) := by decide +kernel
theorem dX6_array_293 : decode cX6_array 293 = .ok (.lload_n 3, 1) := by decide +kernel
theorem dX6_array_294 : decode cX6_array 294 = .ok (.lreturn, 1) := by decide +kernel
theorem dX6_hour_0 : decode cX6_hour 0 = .ok (.iload_n 1, 1) := by decide +kernel
theorem dX6_hour_1 : decode cX6_hour 1 = .ok (.iconst 0, 1) := by decide +kernel
theorem dX6_hour_2 : decode cX6_hour 2 = .ok (.bipush 11, 2) := by decide +kernel
theorem dX6_hour_4 : decode cX6_hour 4 = .ok (.invokestatic 75, 3) := by decide +kernel
theorem dX6_hour_7 : decode cX6_hour 7 = .ok (.ifCond .eq 32, 3) := by decide +kernel
theorem dX6_hour_10 : decode cX6_hour 10 = .ok (.iload_n 2, 1) := by decide +kernel
theorem dX6_hour_11 : decode cX6_hour 11 = .ok (.iconst 0, 1) := by decide +kernel
theorem dX6_hour_12 : decode cX6_hour 12 = .ok (.iconst 1, 1) := by decide +kernel
theorem dX6_hour_13 : decode cX6_hour 13 = .ok (.invokestatic 75, 3) := by decide +kernel
theorem dX6_hour_16 : decode cX6_hour 16 = .ok (.ifCond .eq 23, 3) := by decide +kernel
theorem dX6_hour_19 : decode cX6_hour 19 = .ok (.iload_n 3, 1) := by decide +kernel
theorem dX6_hour_20 : decode cX6_hour 20 = .ok (.iconst 0, 1) := by decide +kernel
theorem dX6_hour_21 : decode cX6_hour 21 = .ok (.iload_n 2, 1) := by decide +kernel
theorem dX6_hour_22 : decode cX6_hour 22 = .ok (.ifCond .ne 8, 3) := by decide +kernel
theorem dX6_hour_25 : decode cX6_hour 25 = .ok (.bipush 99, 2) := by decide +kernel
theorem dX6_hour_27 : decode cX6_hour 27 = .ok (.goto 6, 3) := by decide +kernel
theorem dX6_hour_30 : decode cX6_hour 30 = .ok (.sipush 999, 3) := by decide +kernel
theorem dX6_hour_33 : decode cX6_hour 33 = .ok (.invokestatic 75, 3) := by decide +kernel
theorem dX6_hour_36 : decode cX6_hour 36 = .ok (.ifCond .ne 7, 3) := by decide +kernel
