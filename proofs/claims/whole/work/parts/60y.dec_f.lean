theorem dX6_hour_39 : decode cX6_hour 39 = .ok (.ldc2_w 79, 3) := by decide +kernel
theorem dX6_hour_42 : decode cX6_hour 42 = .ok (.lreturn, 1) := by decide +kernel
theorem dX6_hour_43 : decode cX6_hour 43 = .ok (.iload_n 2, 1) := by decide +kernel
theorem dX6_hour_44 : decode cX6_hour 44 = .ok (.ifCond .ne 12, 3) := by decide +kernel
theorem dX6_hour_47 : decode cX6_hour 47 = .ok (.aload_n 0, 1) := by decide +kernel
theorem dX6_hour_48 : decode cX6_hour 48 = .ok (.getfield 35, 3) := by decide +kernel
theorem dX6_hour_51 : decode cX6_hour 51 = .ok (.iload_n 1, 1) := by decide +kernel
theorem dX6_hour_52 : decode cX6_hour 52 = .ok (.iaload, 1) := by decide +kernel
theorem dX6_hour_53 : decode cX6_hour 53 = .ok (.goto 9, 3) := by decide +kernel
theorem dX6_hour_56 : decode cX6_hour 56 = .ok (.aload_n 0, 1) := by decide +kernel
theorem dX6_hour_57 : decode cX6_hour 57 = .ok (.getfield 38, 3) := by decide +kernel
theorem dX6_hour_60 : decode cX6_hour 60 = .ok (.iload_n 1, 1) := by decide +kernel
theorem dX6_hour_61 : decode cX6_hour 61 = .ok (.iaload, 1) := by decide +kernel
theorem dX6_hour_62 : decode cX6_hour 62 = .ok (.istore 4, 2) := by decide +kernel
theorem dX6_hour_64 : decode cX6_hour 64 = .ok (.iload_n 2, 1) := by decide +kernel
theorem dX6_hour_65 : decode cX6_hour 65 = .ok (.ifCond .ne 13, 3) := by decide +kernel
theorem dX6_hour_68 : decode cX6_hour 68 = .ok (.aload_n 0, 1) := by decide +kernel
theorem dX6_hour_69 : decode cX6_hour 69 = .ok (.getfield 35, 3) := by decide +kernel
theorem dX6_hour_72 : decode cX6_hour 72 = .ok (.iload_n 1, 1) := by decide +kernel
theorem dX6_hour_73 : decode cX6_hour 73 = .ok (.iload_n 3, 1) := by decide +kernel
theorem dX6_hour_74 : decode cX6_hour 74 = .ok (.iastore, 1) := by decide +kernel
theorem dX6_hour_75 : decode cX6_hour 75 = .ok (.goto 10, 3) := by decide +kernel
theorem dX6_hour_78 : decode cX6_hour 78 = .ok (.aload_n 0, 1) := by decide +kernel
theorem dX6_hour_79 : decode cX6_hour 79 = .ok (.getfield 38, 3) := by decide +kernel
theorem dX6_hour_82 : decode cX6_hour 82 = .ok (.iload_n 1, 1) := by decide +kernel
theorem dX6_hour_83 : decode cX6_hour 83 = .ok (.iload_n 3, 1) := by decide +kernel
theorem dX6_hour_84 : decode cX6_hour 84 = .ok (.iastore, 1) := by decide +kernel
theorem dX6_hour_85 : decode cX6_hour 85 = .ok (.iload 4, 2) := by decide +kernel
theorem dX6_hour_87 : decode cX6_hour 87 = .ok (.i2l, 1) := by decide +kernel
theorem dX6_hour_88 : decode cX6_hour 88 = .ok (.lreturn, 1) := by decide +kernel
theorem dX6_isSheet_0 : decode cX6_isSheet 0 = .ok (.iload_n 0, 1) := by decide +kernel
theorem dX6_isSheet_1 : decode cX6_isSheet 1 = .ok (.iconst 0, 1) := by decide +kernel
theorem dX6_isSheet_2 : decode cX6_isSheet 2 = .ok (.iconst 1, 1) := by decide +kernel
theorem dX6_isSheet_3 : decode cX6_isSheet 3 = .ok (.invokestatic 75, 3) := by decide +kernel
theorem dX6_isSheet_6 : decode cX6_isSheet 6 = .ok (.ireturn, 1) := by decide +kernel
theorem dX6_lay_0 : decode cX6_lay 0 = .ok (.iload_n 1, 1) := by decide +kernel
theorem dX6_lay_1 : decode cX6_lay 1 = .ok (.iconst 0, 1) := by decide +kernel
theorem dX6_lay_2 : decode cX6_lay 2 = .ok (.iconst 1, 1) := by decide +kernel
theorem dX6_lay_3 : decode cX6_lay 3 = .ok (.invokestatic 75, 3) := by decide +kernel
theorem dX6_lay_6 : decode cX6_lay 6 = .ok (.ifCond .eq 10, 3) := by decide +kernel
theorem dX6_lay_9 : decode cX6_lay 9 = .ok (.iload_n 2, 1) := by decide +kernel
theorem dX6_lay_10 : decode cX6_lay 10 = .ok (.invokestatic 170, 3) := by decide +kernel
theorem dX6_lay_13 : decode cX6_lay 13 = .ok (.ifCond .ne 7, 3) := by decide +kernel
theorem dX6_lay_16 : decode cX6_lay 16 = .ok (.ldc2_w 79, 3) := by decide +kernel
theorem dX6_lay_19 : decode cX6_lay 19 = .ok (.lreturn, 1) := by decide +kernel
theorem dX6_lay_20 : decode cX6_lay 20 = .ok (.aload_n 0, 1) := by decide +kernel
theorem dX6_lay_21 : decode cX6_lay 21 = .ok (.getfield 41, 3) := by decide +kernel
theorem dX6_lay_24 : decode cX6_lay 24 = .ok (.iload_n 2, 1) := by decide +kernel
theorem dX6_lay_25 : decode cX6_lay 25 = .ok (.iaload, 1) := by decide +kernel
theorem dX6_lay_26 : decode cX6_lay 26 = .ok (.ifCond .ge 7, 3) := by decide +kernel
theorem dX6_lay_29 : decode cX6_lay 29 = .ok (.ldc2_w 173, 3) := by decide +kernel
theorem dX6_lay_32 : decode cX6_lay 32 = .ok (.lreturn, 1) := by decide +kernel
theorem dX6_lay_33 : decode cX6_lay 33 = .ok (.iconst 0, 1) := by decide +kernel
theorem dX6_lay_34 : decode cX6_lay 34 = .ok (.istore_n 3, 1) := by decide +kernel
theorem dX6_lay_35 : decode cX6_lay 35 = .ok (.iload_n 3, 1) := by decide +kernel
theorem dX6_lay_36 : decode cX6_lay 36 = .ok (.bipush 12, 2) := by decide +kernel
theorem dX6_lay_38 : decode cX6_lay 38 = .ok (.if_icmp .ge 88, 3) := by decide +kernel
theorem dX6_lay_41 : decode cX6_lay 41 = .ok (.iload_n 3, 1) := by decide +kernel
theorem dX6_lay_42 : decode cX6_lay 42 = .ok (.aload_n 0, 1) := by decide +kernel
theorem dX6_lay_43 : decode cX6_lay 43 = .ok (.getfield 41, 3) := by decide +kernel
theorem dX6_lay_46 : decode cX6_lay 46 = .ok (.iload_n 2, 1) := by decide +kernel
theorem dX6_lay_47 : decode cX6_lay 47 = .ok (.iaload, 1) := by decide +kernel
theorem dX6_lay_48 : decode cX6_lay 48 = .ok (.if_icmp .ge 17, 3) := by decide +kernel
theorem dX6_lay_51 : decode cX6_lay 51 = .ok (.aload_n 0, 1) := by decide +kernel
theorem dX6_lay_52 : decode cX6_lay 52 = .ok (.getfield 44, 3) := by decide +kernel
theorem dX6_lay_55 : decode cX6_lay 55 = .ok (.bipush 24, 2) := by decide +kernel
theorem dX6_lay_57 : decode cX6_lay 57 = .ok (.iload_n 2, 1) := by decide +kernel
theorem dX6_lay_58 : decode cX6_lay 58 = .ok (.imul, 1) := by decide +kernel
theorem dX6_lay_59 : decode cX6_lay 59 = .ok (.iload_n 3, 1) := by decide +kernel
theorem dX6_lay_60 : decode cX6_lay 60 = .ok (.iadd, 1) := by decide +kernel
theorem dX6_lay_61 : decode cX6_lay 61 = .ok (.iaload, 1) := by decide +kernel
theorem dX6_lay_62 : decode cX6_lay 62 = .ok (.goto 4, 3) := by decide +kernel
theorem dX6_lay_65 : decode cX6_lay 65 = .ok (.iconst 0, 1) := by decide +kernel
theorem dX6_lay_66 : decode cX6_lay 66 = .ok (.istore 4, 2) := by decide +kernel
theorem dX6_lay_68 : decode cX6_lay 68 = .ok (.iload 4, 2) := by decide +kernel
theorem dX6_lay_70 : decode cX6_lay 70 = .ok (.iconst 0, 1) := by decide +kernel
theorem dX6_lay_71 : decode cX6_lay 71 = .ok (.iload_n 1, 1) := by decide +kernel
theorem dX6_lay_72 : decode cX6_lay 72 = .ok (.ifCond .ne 8, 3) := by decide +kernel
theorem dX6_lay_75 : decode cX6_lay 75 = .ok (.bipush 99, 2) := by decide +kernel
theorem dX6_lay_77 : decode cX6_lay 77 = .ok (.goto 6, 3) := by decide +kernel
theorem dX6_lay_80 : decode cX6_lay 80 = .ok (.sipush 999, 3) := by decide +kernel
theorem dX6_lay_83 : decode cX6_lay 83 = .ok (.invokestatic 75, 3) := by decide +kernel
theorem dX6_lay_86 : decode cX6_lay 86 = .ok (.ifCond .eq 8, 3) := by decide +kernel
theorem dX6_lay_89 : decode cX6_lay 89 = .ok (.iload 4, 2) := by decide +kernel
theorem dX6_lay_91 : decode cX6_lay 91 = .ok (.goto 4, 3) := by decide +kernel
theorem dX6_lay_94 : decode cX6_lay 94 = .ok (.iconst 0, 1) := by decide +kernel
theorem dX6_lay_95 : decode cX6_lay 95 = .ok (.istore 4, 2) := by decide +kernel
theorem dX6_lay_97 : decode cX6_lay 97 = .ok (.iload_n 1, 1) := by decide +kernel
theorem dX6_lay_98 : decode cX6_lay 98 = .ok (.ifCond .ne 14, 3) := by decide +kernel
theorem dX6_lay_101 : decode cX6_lay 101 = .ok (.aload_n 0, 1) := by decide +kernel
theorem dX6_lay_102 : decode cX6_lay 102 = .ok (.getfield 35, 3) := by decide +kernel
theorem dX6_lay_105 : decode cX6_lay 105 = .ok (.iload_n 3, 1) := by decide +kernel
theorem dX6_lay_106 : decode cX6_lay 106 = .ok (.iload 4, 2) := by decide +kernel
theorem dX6_lay_108 : decode cX6_lay 108 = .ok (.iastore, 1) := by decide +kernel
theorem dX6_lay_109 : decode cX6_lay 109 = .ok (.goto 11, 3) := by decide +kernel
theorem dX6_lay_112 : decode cX6_lay 112 = .ok (.aload_n 0, 1) := by decide +kernel
theorem dX6_lay_113 : decode cX6_lay 113 = .ok (.getfield 38, 3) := by decide +kernel
theorem dX6_lay_116 : decode cX6_lay 116 = .ok (.iload_n 3, 1) := by decide +kernel
theorem dX6_lay_117 : decode cX6_lay 117 = .ok (.iload 4, 2) := by decide +kernel
theorem dX6_lay_119 : decode cX6_lay 119 = .ok (.iastore, 1) := by decide +kernel
theorem dX6_lay_120 : decode cX6_lay 120 = .ok (.iinc 3 1, 3) := by decide +kernel
theorem dX6_lay_123 : decode cX6_lay 123 = .ok (.goto (-88), 3) := by decide +kernel
theorem dX6_lay_126 : decode cX6_lay 126 = .ok (.aload_n 0, 1) := by decide +kernel
theorem dX6_lay_127 : decode cX6_lay 127 = .ok (.getfield 41, 3) := by decide +kernel
theorem dX6_lay_130 : decode cX6_lay 130 = .ok (.iload_n 2, 1) := by decide +kernel
theorem dX6_lay_131 : decode cX6_lay 131 = .ok (.iaload, 1) := by decide +kernel
theorem dX6_lay_132 : decode cX6_lay 132 = .ok (.bipush 12, 2) := by decide +kernel
theorem dX6_lay_134 : decode cX6_lay 134 = .ok (.if_icmp .ge 13, 3) := by decide +kernel
theorem dX6_lay_137 : decode cX6_lay 137 = .ok (.aload_n 0, 1) := by decide +kernel
theorem dX6_lay_138 : decode cX6_lay 138 = .ok (.getfield 41, 3) := by decide +kernel
theorem dX6_lay_141 : decode cX6_lay 141 = .ok (.iload_n 2, 1) := by decide +kernel
theorem dX6_lay_142 : decode cX6_lay 142 = .ok (.iaload, 1) := by decide +kernel
theorem dX6_lay_143 : decode cX6_lay 143 = .ok (.i2l, 1) := by decide +kernel
theorem dX6_lay_144 : decode cX6_lay 144 = .ok (.goto 6, 3) := by decide +kernel
theorem dX6_lay_147 : decode cX6_lay 147 = .ok (.ldc2_w 175, 3) := by decide +kernel
theorem dX6_lay_150 : decode cX6_lay 150 = .ok (.lreturn, 1) := by decide +kernel
theorem dX6_behind_0 : decode cX6_behind 0 = .ok (.iload_n 2, 1) := by decide +kernel
theorem dX6_behind_1 : decode cX6_behind 1 = .ok (.iload_n 3, 1) := by decide +kernel
theorem dX6_behind_2 : decode cX6_behind 2 = .ok (.ifCond .eq 13, 3) := by decide +kernel
theorem dX6_behind_5 : decode cX6_behind 5 = .ok (.aload_n 0, 1) := by decide +kernel
theorem dX6_behind_6 : decode cX6_behind 6 = .ok (.getfield 32, 3) := by decide +kernel
theorem dX6_behind_9 : decode cX6_behind 9 = .ok (.bipush 6, 2) := by decide +kernel
theorem dX6_behind_11 : decode cX6_behind 11 = .ok (.iaload, 1) := by decide +kernel
theorem dX6_behind_12 : decode cX6_behind 12 = .ok (.goto 4, 3) := by decide +kernel
theorem dX6_behind_15 : decode cX6_behind 15 = .ok (.iconst 0, 1) := by decide +kernel
theorem dX6_behind_16 : decode cX6_behind 16 = .ok (.iadd, 1) := by decide +kernel
theorem dX6_behind_17 : decode cX6_behind 17 = .ok (.aload_n 0, 1) := by decide +kernel
theorem dX6_behind_18 : decode cX6_behind 18 = .ok (.getfield 38, 3) := by decide +kernel
theorem dX6_behind_21 : decode cX6_behind 21 = .ok (.iload_n 1, 1) := by decide +kernel
theorem dX6_behind_22 : decode cX6_behind 22 = .ok (.iaload, 1) := by decide +kernel
theorem dX6_behind_23 : decode cX6_behind 23 = .ok (.isub, 1) := by decide +kernel
theorem dX6_behind_24 : decode cX6_behind 24 = .ok (.istore 4, 2) := by decide +kernel
theorem dX6_behind_26 : decode cX6_behind 26 = .ok (.iload 4, 2) := by decide +kernel
theorem dX6_behind_28 : decode cX6_behind 28 = .ok (.ifCond .ge 7, 3) := by decide +kernel
theorem dX6_behind_31 : decode cX6_behind 31 = .ok (.iconst (-1), 1) := by decide +kernel
theorem dX6_behind_32 : decode cX6_behind 32 = .ok (.goto 25, 3) := by decide +kernel
theorem dX6_behind_35 : decode cX6_behind 35 = .ok (.iload 4, 2) := by decide +kernel
theorem dX6_behind_37 : decode cX6_behind 37 = .ok (.aload_n 0, 1) := by decide +kernel
theorem dX6_behind_38 : decode cX6_behind 38 = .ok (.getfield 32, 3) := by decide +kernel
theorem dX6_behind_41 : decode cX6_behind 41 = .ok (.iconst 5, 1) := by decide +kernel
theorem dX6_behind_42 : decode cX6_behind 42 = .ok (.iaload, 1) := by decide +kernel
theorem dX6_behind_43 : decode cX6_behind 43 = .ok (.if_icmp .le 12, 3) := by decide +kernel
theorem dX6_behind_46 : decode cX6_behind 46 = .ok (.aload_n 0, 1) := by decide +kernel
theorem dX6_behind_47 : decode cX6_behind 47 = .ok (.getfield 32, 3) := by decide +kernel
theorem dX6_behind_50 : decode cX6_behind 50 = .ok (.iconst 5, 1) := by decide +kernel
theorem dX6_behind_51 : decode cX6_behind 51 = .ok (.iaload, 1) := by decide +kernel
theorem dX6_behind_52 : decode cX6_behind 52 = .ok (.goto 5, 3) := by decide +kernel
theorem dX6_behind_55 : decode cX6_behind 55 = .ok (.iload 4, 2) := by decide +kernel
theorem dX6_behind_57 : decode cX6_behind 57 = .ok (.ireturn, 1) := by decide +kernel
theorem dX6_costFrom_0 : decode cX6_costFrom 0 = .ok (.aload_n 0, 1) := by decide +kernel
theorem dX6_costFrom_1 : decode cX6_costFrom 1 = .ok (.iload_n 1, 1) := by decide +kernel
theorem dX6_costFrom_2 : decode cX6_costFrom 2 = .ok (.iload_n 2, 1) := by decide +kernel
theorem dX6_costFrom_3 : decode cX6_costFrom 3 = .ok (.iload_n 3, 1) := by decide +kernel
theorem dX6_costFrom_4 : decode cX6_costFrom 4 = .ok (.invokevirtual 177, 3) := by decide +kernel
theorem dX6_costFrom_7 : decode cX6_costFrom 7 = .ok (.istore 4, 2) := by decide +kernel
theorem dX6_costFrom_9 : decode cX6_costFrom 9 = .ok (.iload 4, 2) := by decide +kernel
theorem dX6_costFrom_11 : decode cX6_costFrom 11 = .ok (.ifCond .lt 21, 3) := by decide +kernel
theorem dX6_costFrom_14 : decode cX6_costFrom 14 = .ok (.aload_n 0, 1) := by decide +kernel
theorem dX6_costFrom_15 : decode cX6_costFrom 15 = .ok (.getfield 66, 3) := by decide +kernel
theorem dX6_costFrom_18 : decode cX6_costFrom 18 = .ok (.sipush 201, 3) := by decide +kernel
theorem dX6_costFrom_21 : decode cX6_costFrom 21 = .ok (.iload_n 1, 1) := by decide +kernel
theorem dX6_costFrom_22 : decode cX6_costFrom 22 = .ok (.iconst 1, 1) := by decide +kernel
theorem dX6_costFrom_23 : decode cX6_costFrom 23 = .ok (.iadd, 1) := by decide +kernel
theorem dX6_costFrom_24 : decode cX6_costFrom 24 = .ok (.imul, 1) := by decide +kernel
theorem dX6_costFrom_25 : decode cX6_costFrom 25 = .ok (.iload 4, 2) := by decide +kernel
theorem dX6_costFrom_27 : decode cX6_costFrom 27 = .ok (.iadd, 1) := by decide +kernel
theorem dX6_costFrom_28 : decode cX6_costFrom 28 = .ok (.iaload, 1) := by decide +kernel
theorem dX6_costFrom_29 : decode cX6_costFrom 29 = .ok (.ifCond .ge 5, 3) := by decide +kernel
theorem dX6_costFrom_32 : decode cX6_costFrom 32 = .ok (.iconst (-1), 1) := by decide +kernel
theorem dX6_costFrom_33 : decode cX6_costFrom 33 = .ok (.ireturn, 1) := by decide +kernel
theorem dX6_costFrom_34 : decode cX6_costFrom 34 = .ok (.aload_n 0, 1) := by decide +kernel
theorem dX6_costFrom_35 : decode cX6_costFrom 35 = .ok (.getfield 66, 3) := by decide +kernel
theorem dX6_costFrom_38 : decode cX6_costFrom 38 = .ok (.sipush 201, 3) := by decide +kernel
theorem dX6_costFrom_41 : decode cX6_costFrom 41 = .ok (.iload_n 1, 1) := by decide +kernel
theorem dX6_costFrom_42 : decode cX6_costFrom 42 = .ok (.iconst 1, 1) := by decide +kernel
theorem dX6_costFrom_43 : decode cX6_costFrom 43 = .ok (.iadd, 1) := by decide +kernel
theorem dX6_costFrom_44 : decode cX6_costFrom 44 = .ok (.imul, 1) := by decide +kernel
theorem dX6_costFrom_45 : decode cX6_costFrom 45 = .ok (.iload 4, 2) := by decide +kernel
theorem dX6_costFrom_47 : decode cX6_costFrom 47 = .ok (.iadd, 1) := by decide +kernel
theorem dX6_costFrom_48 : decode cX6_costFrom 48 = .ok (.iaload, 1) := by decide +kernel
theorem dX6_costFrom_49 : decode cX6_costFrom 49 = .ok (.iload_n 3, 1) := by decide +kernel
theorem dX6_costFrom_50 : decode cX6_costFrom 50 = .ok (.ifCond .eq 12, 3) := by decide +kernel
theorem dX6_costFrom_53 : decode cX6_costFrom 53 = .ok (.aload_n 0, 1) := by decide +kernel
theorem dX6_costFrom_54 : decode cX6_costFrom 54 = .ok (.getfield 35, 3) := by decide +kernel
theorem dX6_costFrom_57 : decode cX6_costFrom 57 = .ok (.iload_n 1, 1) := by decide +kernel
theorem dX6_costFrom_58 : decode cX6_costFrom 58 = .ok (.iaload, 1) := by decide +kernel
theorem dX6_costFrom_59 : decode cX6_costFrom 59 = .ok (.goto 4, 3) := by decide +kernel
theorem dX6_costFrom_62 : decode cX6_costFrom 62 = .ok (.iconst 0, 1) := by decide +kernel
theorem dX6_costFrom_63 : decode cX6_costFrom 63 = .ok (.iadd, 1) := by decide +kernel
theorem dX6_costFrom_64 : decode cX6_costFrom 64 = .ok (.ireturn, 1) := by decide +kernel
theorem dX6_findPlan_0 : decode cX6_findPlan 0 = .ok (.iconst 0, 1) := by decide +kernel
theorem dX6_findPlan_1 : decode cX6_findPlan 1 = .ok (.istore_n 1, 1) := by decide +kernel
theorem dX6_findPlan_2 : decode cX6_findPlan 2 = .ok (.iload_n 1, 1) := by decide +kernel
theorem dX6_findPlan_3 : decode cX6_findPlan 3 = .ok (.sipush 200, 3) := by decide +kernel
theorem dX6_findPlan_6 : decode cX6_findPlan 6 = .ok (.if_icmp .gt 20, 3) := by decide +kernel
theorem dX6_findPlan_9 : decode cX6_findPlan 9 = .ok (.aload_n 0, 1) := by decide +kernel
theorem dX6_findPlan_10 : decode cX6_findPlan 10 = .ok (.getfield 66, 3) := by decide +kernel
theorem dX6_findPlan_13 : decode cX6_findPlan 13 = .ok (.sipush 2412, 3) := by decide +kernel
theorem dX6_findPlan_16 : decode cX6_findPlan 16 = .ok (.iload_n 1, 1) := by decide +kernel
theorem dX6_findPlan_17 : decode cX6_findPlan 17 = .ok (.iadd, 1) := by decide +kernel
theorem dX6_findPlan_18 : decode cX6_findPlan 18 = .ok (.iconst 0, 1) := by decide +kernel
theorem dX6_findPlan_19 : decode cX6_findPlan 19 = .ok (.iastore, 1) := by decide +kernel
theorem dX6_findPlan_20 : decode cX6_findPlan 20 = .ok (.iinc 1 1, 3) := by decide +kernel
theorem dX6_findPlan_23 : decode cX6_findPlan 23 = .ok (.goto (-21), 3) := by decide +kernel
theorem dX6_findPlan_26 : decode cX6_findPlan 26 = .ok (.bipush 11, 2) := by decide +kernel
theorem dX6_findPlan_28 : decode cX6_findPlan 28 = .ok (.istore_n 1, 1) := by decide +kernel
theorem dX6_findPlan_29 : decode cX6_findPlan 29 = .ok (.iload_n 1, 1) := by decide +kernel
theorem dX6_findPlan_30 : decode cX6_findPlan 30 = .ok (.ifCond .lt 77, 3) := by decide +kernel
theorem dX6_findPlan_33 : decode cX6_findPlan 33 = .ok (.iconst 0, 1) := by decide +kernel
theorem dX6_findPlan_34 : decode cX6_findPlan 34 = .ok (.istore_n 2, 1) := by decide +kernel
theorem dX6_findPlan_35 : decode cX6_findPlan 35 = .ok (.iload_n 2, 1) := by decide +kernel
theorem dX6_findPlan_36 : decode cX6_findPlan 36 = .ok (.aload_n 0, 1) := by decide +kernel
theorem dX6_findPlan_37 : decode cX6_findPlan 37 = .ok (.getfield 32, 3) := by decide +kernel
theorem dX6_findPlan_40 : decode cX6_findPlan 40 = .ok (.iconst 5, 1) := by decide +kernel
theorem dX6_findPlan_41 : decode cX6_findPlan 41 = .ok (.iaload, 1) := by decide +kernel
theorem dX6_findPlan_42 : decode cX6_findPlan 42 = .ok (.if_icmp .gt 59, 3) := by decide +kernel
theorem dX6_findPlan_45 : decode cX6_findPlan 45 = .ok (.aload_n 0, 1) := by decide +kernel
theorem dX6_findPlan_46 : decode cX6_findPlan 46 = .ok (.iload_n 1, 1) := by decide +kernel
theorem dX6_findPlan_47 : decode cX6_findPlan 47 = .ok (.iload_n 2, 1) := by decide +kernel
theorem dX6_findPlan_48 : decode cX6_findPlan 48 = .ok (.iconst 0, 1) := by decide +kernel
theorem dX6_findPlan_49 : decode cX6_findPlan 49 = .ok (.invokevirtual 181, 3) := by decide +kernel
theorem dX6_findPlan_52 : decode cX6_findPlan 52 = .ok (.istore_n 3, 1) := by decide +kernel
theorem dX6_findPlan_53 : decode cX6_findPlan 53 = .ok (.aload_n 0, 1) := by decide +kernel
theorem dX6_findPlan_54 : decode cX6_findPlan 54 = .ok (.iload_n 1, 1) := by decide +kernel
theorem dX6_findPlan_55 : decode cX6_findPlan 55 = .ok (.iload_n 2, 1) := by decide +kernel
theorem dX6_findPlan_56 : decode cX6_findPlan 56 = .ok (.iconst 1, 1) := by decide +kernel
theorem dX6_findPlan_57 : decode cX6_findPlan 57 = .ok (.invokevirtual 181, 3) := by decide +kernel
theorem dX6_findPlan_60 : decode cX6_findPlan 60 = .ok (.istore 4, 2) := by decide +kernel
theorem dX6_findPlan_62 : decode cX6_findPlan 62 = .ok (.aload_n 0, 1) := by decide +kernel
theorem dX6_findPlan_63 : decode cX6_findPlan 63 = .ok (.getfield 66, 3) := by decide +kernel
theorem dX6_findPlan_66 : decode cX6_findPlan 66 = .ok (.sipush 201, 3) := by decide +kernel
theorem dX6_findPlan_69 : decode cX6_findPlan 69 = .ok (.iload_n 1, 1) := by decide +kernel
theorem dX6_findPlan_70 : decode cX6_findPlan 70 = .ok (.imul, 1) := by decide +kernel
theorem dX6_findPlan_71 : decode cX6_findPlan 71 = .ok (.iload_n 2, 1) := by decide +kernel
theorem dX6_findPlan_72 : decode cX6_findPlan 72 = .ok (.iadd, 1) := by decide +kernel
theorem dX6_findPlan_73 : decode cX6_findPlan 73 = .ok (.iload_n 3, 1) := by decide +kernel
theorem dX6_findPlan_74 : decode cX6_findPlan 74 = .ok (.ifCond .lt 14, 3) := by decide +kernel
theorem dX6_findPlan_77 : decode cX6_findPlan 77 = .ok (.iload 4, 2) := by decide +kernel
theorem dX6_findPlan_79 : decode cX6_findPlan 79 = .ok (.ifCond .lt 14, 3) := by decide +kernel
theorem dX6_findPlan_82 : decode cX6_findPlan 82 = .ok (.iload 4, 2) := by decide +kernel
theorem dX6_findPlan_84 : decode cX6_findPlan 84 = .ok (.iload_n 3, 1) := by decide +kernel
theorem dX6_findPlan_85 : decode cX6_findPlan 85 = .ok (.if_icmp .ge 8, 3) := by decide +kernel
theorem dX6_findPlan_88 : decode cX6_findPlan 88 = .ok (.iload 4, 2) := by decide +kernel
theorem dX6_findPlan_90 : decode cX6_findPlan 90 = .ok (.goto 4, 3) := by decide +kernel
theorem dX6_findPlan_93 : decode cX6_findPlan 93 = .ok (.iload_n 3, 1) := by decide +kernel
theorem dX6_findPlan_94 : decode cX6_findPlan 94 = .ok (.iastore, 1) := by decide +kernel
theorem dX6_findPlan_95 : decode cX6_findPlan 95 = .ok (.iinc 2 1, 3) := by decide +kernel
theorem dX6_findPlan_98 : decode cX6_findPlan 98 = .ok (.goto (-63), 3) := by decide +kernel
theorem dX6_findPlan_101 : decode cX6_findPlan 101 = .ok (.iinc 1 (-1), 3) := by decide +kernel
theorem dX6_findPlan_104 : decode cX6_findPlan 104 = .ok (.goto (-75), 3) := by decide +kernel
theorem dX6_findPlan_107 : decode cX6_findPlan 107 = .ok (.return_, 1) := by decide +kernel
theorem dX6_isContent_0 : decode cX6_isContent 0 = .ok (.iload_n 1, 1) := by decide +kernel
theorem dX6_isContent_1 : decode cX6_isContent 1 = .ok (.iconst 0, 1) := by decide +kernel
theorem dX6_isContent_2 : decode cX6_isContent 2 = .ok (.aload_n 0, 1) := by decide +kernel
theorem dX6_isContent_3 : decode cX6_isContent 3 = .ok (.getfield 32, 3) := by decide +kernel
theorem dX6_isContent_6 : decode cX6_isContent 6 = .ok (.iconst 5, 1) := by decide +kernel
theorem dX6_isContent_7 : decode cX6_isContent 7 = .ok (.iaload, 1) := by decide +kernel
theorem dX6_isContent_8 : decode cX6_isContent 8 = .ok (.invokestatic 75, 3) := by decide +kernel
theorem dX6_isContent_11 : decode cX6_isContent 11 = .ok (.ireturn, 1) := by decide +kernel
theorem dX6_plan_0 : decode cX6_plan 0 = .ok (.aload_n 0, 1) := by decide +kernel
theorem dX6_plan_1 : decode cX6_plan 1 = .ok (.iload_n 1, 1) := by decide +kernel
theorem dX6_plan_2 : decode cX6_plan 2 = .ok (.invokevirtual 184, 3) := by decide +kernel
theorem dX6_plan_5 : decode cX6_plan 5 = .ok (.ifCond .ne 7, 3) := by decide +kernel
theorem dX6_plan_8 : decode cX6_plan 8 = .ok (.ldc2_w 79, 3) := by decide +kernel
theorem dX6_plan_11 : decode cX6_plan 11 = .ok (.lreturn, 1) := by decide +kernel
theorem dX6_plan_12 : decode cX6_plan 12 = .ok (.aload_n 0, 1) := by decide +kernel
theorem dX6_plan_13 : decode cX6_plan 13 = .ok (.invokevirtual 187, 3) := by decide +kernel
theorem dX6_plan_16 : decode cX6_plan 16 = .ok (.aload_n 0, 1) := by decide +kernel
theorem dX6_plan_17 : decode cX6_plan 17 = .ok (.getfield 66, 3) := by decide +kernel
theorem dX6_plan_20 : decode cX6_plan 20 = .ok (.iload_n 1, 1) := by decide +kernel
theorem dX6_plan_21 : decode cX6_plan 21 = .ok (.iaload, 1) := by decide +kernel
theorem dX6_plan_22 : decode cX6_plan 22 = .ok (.ifCond .ge 9, 3) := by decide +kernel
theorem dX6_plan_25 : decode cX6_plan 25 = .ok (.ldc2_w 141, 3) := by decide +kernel
theorem dX6_plan_28 : decode cX6_plan 28 = .ok (.goto 10, 3) := by decide +kernel
theorem dX6_plan_31 : decode cX6_plan 31 = .ok (.aload_n 0, 1) := by decide +kernel
theorem dX6_plan_32 : decode cX6_plan 32 = .ok (.getfield 66, 3) := by decide +kernel
theorem dX6_plan_35 : decode cX6_plan 35 = .ok (.iload_n 1, 1) := by decide +kernel
theorem dX6_plan_36 : decode cX6_plan 36 = .ok (.iaload, 1) := by decide +kernel
theorem dX6_plan_37 : decode cX6_plan 37 = .ok (.i2l, 1) := by decide +kernel
theorem dX6_plan_38 : decode cX6_plan 38 = .ok (.lreturn, 1) := by decide +kernel
theorem dX6_go_0 : decode cX6_go 0 = .ok (.iconst 0, 1) := by decide +kernel
theorem dX6_go_1 : decode cX6_go 1 = .ok (.istore_n 2, 1) := by decide +kernel
theorem dX6_go_2 : decode cX6_go 2 = .ok (.iload_n 1, 1) := by decide +kernel
theorem dX6_go_3 : decode cX6_go 3 = .ok (.istore_n 3, 1) := by decide +kernel
theorem dX6_go_4 : decode cX6_go 4 = .ok (.iconst 0, 1) := by decide +kernel
theorem dX6_go_5 : decode cX6_go 5 = .ok (.istore 4, 2) := by decide +kernel
theorem dX6_go_7 : decode cX6_go 7 = .ok (.iload 4, 2) := by decide +kernel
theorem dX6_go_9 : decode cX6_go 9 = .ok (.bipush 12, 2) := by decide +kernel
theorem dX6_go_11 : decode cX6_go 11 = .ok (.if_icmp .ge 74, 3) := by decide +kernel
theorem dX6_go_14 : decode cX6_go 14 = .ok (.aload_n 0, 1) := by decide +kernel
theorem dX6_go_15 : decode cX6_go 15 = .ok (.iload 4, 2) := by decide +kernel
theorem dX6_go_17 : decode cX6_go 17 = .ok (.iload_n 3, 1) := by decide +kernel
theorem dX6_go_18 : decode cX6_go 18 = .ok (.iconst 0, 1) := by decide +kernel
theorem dX6_go_19 : decode cX6_go 19 = .ok (.invokevirtual 181, 3) := by decide +kernel
theorem dX6_go_22 : decode cX6_go 22 = .ok (.aload_n 0, 1) := by decide +kernel
theorem dX6_go_23 : decode cX6_go 23 = .ok (.getfield 66, 3) := by decide +kernel
theorem dX6_go_26 : decode cX6_go 26 = .ok (.sipush 201, 3) := by decide +kernel
theorem dX6_go_29 : decode cX6_go 29 = .ok (.iload 4, 2) := by decide +kernel
theorem dX6_go_31 : decode cX6_go 31 = .ok (.imul, 1) := by decide +kernel
theorem dX6_go_32 : decode cX6_go 32 = .ok (.iload_n 3, 1) := by decide +kernel
theorem dX6_go_33 : decode cX6_go 33 = .ok (.iadd, 1) := by decide +kernel
theorem dX6_go_34 : decode cX6_go 34 = .ok (.iaload, 1) := by decide +kernel
theorem dX6_go_35 : decode cX6_go 35 = .ok (.if_icmp .eq 7, 3) := by decide +kernel
theorem dX6_go_38 : decode cX6_go 38 = .ok (.iconst 1, 1) := by decide +kernel
theorem dX6_go_39 : decode cX6_go 39 = .ok (.goto 4, 3) := by decide +kernel
theorem dX6_go_42 : decode cX6_go 42 = .ok (.iconst 0, 1) := by decide +kernel
theorem dX6_go_43 : decode cX6_go 43 = .ok (.istore 5, 2) := by decide +kernel
theorem dX6_go_45 : decode cX6_go 45 = .ok (.iload_n 2, 1) := by decide +kernel
theorem dX6_go_46 : decode cX6_go 46 = .ok (.iload 5, 2) := by decide +kernel
theorem dX6_go_48 : decode cX6_go 48 = .ok (.ifCond .eq 10, 3) := by decide +kernel
theorem dX6_go_51 : decode cX6_go 51 = .ok (.iconst 1, 1) := by decide +kernel
theorem dX6_go_52 : decode cX6_go 52 = .ok (.iload 4, 2) := by decide +kernel
theorem dX6_go_54 : decode cX6_go 54 = .ok (.ishl, 1) := by decide +kernel
theorem dX6_go_55 : decode cX6_go 55 = .ok (.goto 4, 3) := by decide +kernel
theorem dX6_go_58 : decode cX6_go 58 = .ok (.iconst 0, 1) := by decide +kernel
theorem dX6_go_59 : decode cX6_go 59 = .ok (.ior, 1) := by decide +kernel
theorem dX6_go_60 : decode cX6_go 60 = .ok (.istore_n 2, 1) := by decide +kernel
theorem dX6_go_61 : decode cX6_go 61 = .ok (.aload_n 0, 1) := by decide +kernel
theorem dX6_go_62 : decode cX6_go 62 = .ok (.iload 4, 2) := by decide +kernel
theorem dX6_go_64 : decode cX6_go 64 = .ok (.iload_n 3, 1) := by decide +kernel
theorem dX6_go_65 : decode cX6_go 65 = .ok (.iload 5, 2) := by decide +kernel
theorem dX6_go_67 : decode cX6_go 67 = .ok (.invokevirtual 177, 3) := by decide +kernel
theorem dX6_go_70 : decode cX6_go 70 = .ok (.istore_n 3, 1) := by decide +kernel
theorem dX6_go_71 : decode cX6_go 71 = .ok (.aload_n 0, 1) := by decide +kernel
theorem dX6_go_72 : decode cX6_go 72 = .ok (.getfield 69, 3) := by decide +kernel
theorem dX6_go_75 : decode cX6_go 75 = .ok (.iload 4, 2) := by decide +kernel
theorem dX6_go_77 : decode cX6_go 77 = .ok (.iload_n 3, 1) := by decide +kernel
theorem dX6_go_78 : decode cX6_go 78 = .ok (.iastore, 1) := by decide +kernel
theorem dX6_go_79 : decode cX6_go 79 = .ok (.iinc 4 1, 3) := by decide +kernel
theorem dX6_go_82 : decode cX6_go 82 = .ok (.goto (-75), 3) := by decide +kernel
theorem dX6_go_85 : decode cX6_go 85 = .ok (.iload_n 2, 1) := by decide +kernel
theorem dX6_go_86 : decode cX6_go 86 = .ok (.ireturn, 1) := by decide +kernel
theorem dX6_runs_0 : decode cX6_runs 0 = .ok (.aload_n 0, 1) := by decide +kernel
theorem dX6_runs_1 : decode cX6_runs 1 = .ok (.iload_n 1, 1) := by decide +kernel
theorem dX6_runs_2 : decode cX6_runs 2 = .ok (.invokevirtual 184, 3) := by decide +kernel
theorem dX6_runs_5 : decode cX6_runs 5 = .ok (.ifCond .ne 7, 3) := by decide +kernel
theorem dX6_runs_8 : decode cX6_runs 8 = .ok (.ldc2_w 79, 3) := by decide +kernel
theorem dX6_runs_11 : decode cX6_runs 11 = .ok (.lreturn, 1) := by decide +kernel
theorem dX6_runs_12 : decode cX6_runs 12 = .ok (.aload_n 0, 1) := by decide +kernel
theorem dX6_runs_13 : decode cX6_runs 13 = .ok (.invokevirtual 187, 3) := by decide +kernel
theorem dX6_runs_16 : decode cX6_runs 16 = .ok (.aload_n 0, 1) := by decide +kernel
theorem dX6_runs_17 : decode cX6_runs 17 = .ok (.getfield 66, 3) := by decide +kernel
theorem dX6_runs_20 : decode cX6_runs 20 = .ok (.iload_n 1, 1) := by decide +kernel
theorem dX6_runs_21 : decode cX6_runs 21 = .ok (.iaload, 1) := by decide +kernel
theorem dX6_runs_22 : decode cX6_runs 22 = .ok (.ifCond .ge 9, 3) := by decide +kernel
theorem dX6_runs_25 : decode cX6_runs 25 = .ok (.ldc2_w 141, 3) := by decide +kernel
theorem dX6_runs_28 : decode cX6_runs 28 = .ok (.goto 9, 3) := by decide +kernel
theorem dX6_runs_31 : decode cX6_runs 31 = .ok (.aload_n 0, 1) := by decide +kernel
theorem dX6_runs_32 : decode cX6_runs 32 = .ok (.iload_n 1, 1) := by decide +kernel
theorem dX6_runs_33 : decode cX6_runs 33 = .ok (.invokevirtual 190, 3) := by decide +kernel
theorem dX6_runs_36 : decode cX6_runs 36 = .ok (.i2l, 1) := by decide +kernel
theorem dX6_runs_37 : decode cX6_runs 37 = .ok (.lreturn, 1) := by decide +kernel
theorem dX6_tank_0 : decode cX6_tank 0 = .ok (.aload_n 0, 1) := by decide +kernel
theorem dX6_tank_1 : decode cX6_tank 1 = .ok (.iload_n 1, 1) := by decide +kernel
theorem dX6_tank_2 : decode cX6_tank 2 = .ok (.invokevirtual 184, 3) := by decide +kernel
theorem dX6_tank_5 : decode cX6_tank 5 = .ok (.ifCond .eq 13, 3) := by decide +kernel
theorem dX6_tank_8 : decode cX6_tank 8 = .ok (.iload_n 2, 1) := by decide +kernel
theorem dX6_tank_9 : decode cX6_tank 9 = .ok (.iconst 0, 1) := by decide +kernel
theorem dX6_tank_10 : decode cX6_tank 10 = .ok (.bipush 11, 2) := by decide +kernel
theorem dX6_tank_12 : decode cX6_tank 12 = .ok (.invokestatic 75, 3) := by decide +kernel
theorem dX6_tank_15 : decode cX6_tank 15 = .ok (.ifCond .ne 7, 3) := by decide +kernel
theorem dX6_tank_18 : decode cX6_tank 18 = .ok (.ldc2_w 79, 3) := by decide +kernel
theorem dX6_tank_21 : decode cX6_tank 21 = .ok (.lreturn, 1) := by decide +kernel
theorem dX6_tank_22 : decode cX6_tank 22 = .ok (.aload_n 0, 1) := by decide +kernel
theorem dX6_tank_23 : decode cX6_tank 23 = .ok (.invokevirtual 187, 3) := by decide +kernel
theorem dX6_tank_26 : decode cX6_tank 26 = .ok (.aload_n 0, 1) := by decide +kernel
theorem dX6_tank_27 : decode cX6_tank 27 = .ok (.getfield 66, 3) := by decide +kernel
theorem dX6_tank_30 : decode cX6_tank 30 = .ok (.iload_n 1, 1) := by decide +kernel
theorem dX6_tank_31 : decode cX6_tank 31 = .ok (.iaload, 1) := by decide +kernel
theorem dX6_tank_32 : decode cX6_tank 32 = .ok (.ifCond .ge 7, 3) := by decide +kernel
theorem dX6_tank_35 : decode cX6_tank 35 = .ok (.ldc2_w 141, 3) := by decide +kernel
theorem dX6_tank_38 : decode cX6_tank 38 = .ok (.lreturn, 1) := by decide +kernel
theorem dX6_tank_39 : decode cX6_tank 39 = .ok (.aload_n 0, 1) := by decide +kernel
theorem dX6_tank_40 : decode cX6_tank 40 = .ok (.iload_n 1, 1) := by decide +kernel
theorem dX6_tank_41 : decode cX6_tank 41 = .ok (.invokevirtual 190, 3) := by decide +kernel
theorem dX6_tank_44 : decode cX6_tank 44 = .ok (.istore_n 3, 1) := by decide +kernel
theorem dX6_tank_45 : decode cX6_tank 45 = .ok (.aload_n 0, 1) := by decide +kernel
theorem dX6_tank_46 : decode cX6_tank 46 = .ok (.getfield 69, 3) := by decide +kernel
theorem dX6_tank_49 : decode cX6_tank 49 = .ok (.iload_n 2, 1) := by decide +kernel
theorem dX6_tank_50 : decode cX6_tank 50 = .ok (.iaload, 1) := by decide +kernel
theorem dX6_tank_51 : decode cX6_tank 51 = .ok (.i2l, 1) := by decide +kernel
theorem dX6_tank_52 : decode cX6_tank 52 = .ok (.lreturn, 1) := by decide +kernel
theorem dX6_joint_0 : decode cX6_joint 0 = .ok (.iload_n 1, 1) := by decide +kernel
theorem dX6_joint_1 : decode cX6_joint 1 = .ok (.ifCond .lt 23, 3) := by decide +kernel
theorem dX6_joint_4 : decode cX6_joint 4 = .ok (.iload_n 1, 1) := by decide +kernel
theorem dX6_joint_5 : decode cX6_joint 5 = .ok (.bipush 10, 2) := by decide +kernel
theorem dX6_joint_7 : decode cX6_joint 7 = .ok (.idiv, 1) := by decide +kernel
theorem dX6_joint_8 : decode cX6_joint 8 = .ok (.iconst 3, 1) := by decide +kernel
theorem dX6_joint_9 : decode cX6_joint 9 = .ok (.if_icmp .ge 15, 3) := by decide +kernel
theorem dX6_joint_12 : decode cX6_joint 12 = .ok (.iload_n 1, 1) := by decide +kernel
theorem dX6_joint_13 : decode cX6_joint 13 = .ok (.bipush 10, 2) := by decide +kernel
theorem dX6_joint_15 : decode cX6_joint 15 = .ok (.irem, 1) := by decide +kernel
theorem dX6_joint_16 : decode cX6_joint 16 = .ok (.iconst 4, 1) := by decide +kernel
theorem dX6_joint_17 : decode cX6_joint 17 = .ok (.if_icmp .ge 7, 3) := by decide +kernel
theorem dX6_joint_20 : decode cX6_joint 20 = .ok (.iconst 1, 1) := by decide +kernel
theorem dX6_joint_21 : decode cX6_joint 21 = .ok (.goto 4, 3) := by decide +kernel
theorem dX6_joint_24 : decode cX6_joint 24 = .ok (.iconst 0, 1) := by decide +kernel
theorem dX6_joint_25 : decode cX6_joint 25 = .ok (.istore 4, 2) := by decide +kernel
theorem dX6_joint_27 : decode cX6_joint 27 = .ok (.iload 4, 2) := by decide +kernel
theorem dX6_joint_29 : decode cX6_joint 29 = .ok (.ifCond .eq 21, 3) := by decide +kernel
theorem dX6_joint_32 : decode cX6_joint 32 = .ok (.iload_n 2, 1) := by decide +kernel
theorem dX6_joint_33 : decode cX6_joint 33 = .ok (.invokestatic 170, 3) := by decide +kernel
theorem dX6_joint_36 : decode cX6_joint 36 = .ok (.ifCond .eq 14, 3) := by decide +kernel
theorem dX6_joint_39 : decode cX6_joint 39 = .ok (.iload_n 3, 1) := by decide +kernel
theorem dX6_joint_40 : decode cX6_joint 40 = .ok (.iconst 0, 1) := by decide +kernel
theorem dX6_joint_41 : decode cX6_joint 41 = .ok (.sipush 9999, 3) := by decide +kernel
theorem dX6_joint_44 : decode cX6_joint 44 = .ok (.invokestatic 75, 3) := by decide +kernel
theorem dX6_joint_47 : decode cX6_joint 47 = .ok (.ifCond .ne 7, 3) := by decide +kernel
theorem dX6_joint_50 : decode cX6_joint 50 = .ok (.ldc2_w 79, 3) := by decide +kernel
theorem dX6_joint_53 : decode cX6_joint 53 = .ok (.lreturn, 1) := by decide +kernel
theorem dX6_joint_54 : decode cX6_joint 54 = .ok (.bipush 24, 2) := by decide +kernel
theorem dX6_joint_56 : decode cX6_joint 56 = .ok (.iload_n 1, 1) := by decide +kernel
theorem dX6_joint_57 : decode cX6_joint 57 = .ok (.bipush 10, 2) := by decide +kernel
theorem dX6_joint_59 : decode cX6_joint 59 = .ok (.idiv, 1) := by decide +kernel
theorem dX6_joint_60 : decode cX6_joint 60 = .ok (.imul, 1) := by decide +kernel
theorem dX6_joint_61 : decode cX6_joint 61 = .ok (.bipush 6, 2) := by decide +kernel
theorem dX6_joint_63 : decode cX6_joint 63 = .ok (.iload_n 1, 1) := by decide +kernel
theorem dX6_joint_64 : decode cX6_joint 64 = .ok (.bipush 10, 2) := by decide +kernel
theorem dX6_joint_66 : decode cX6_joint 66 = .ok (.irem, 1) := by decide +kernel
theorem dX6_joint_67 : decode cX6_joint 67 = .ok (.imul, 1) := by decide +kernel
theorem dX6_joint_68 : decode cX6_joint 68 = .ok (.iadd, 1) := by decide +kernel
theorem dX6_joint_69 : decode cX6_joint 69 = .ok (.istore 5, 2) := by decide +kernel
theorem dX6_joint_71 : decode cX6_joint 71 = .ok (.aload_n 0, 1) := by decide +kernel
theorem dX6_joint_72 : decode cX6_joint 72 = .ok (.iload 5, 2) := by decide +kernel
theorem dX6_joint_74 : decode cX6_joint 74 = .ok (.invokevirtual 138, 3) := by decide +kernel
theorem dX6_joint_77 : decode cX6_joint 77 = .ok (.ifCond .ne 7, 3) := by decide +kernel
theorem dX6_joint_80 : decode cX6_joint 80 = .ok (.ldc2_w 141, 3) := by decide +kernel
theorem dX6_joint_83 : decode cX6_joint 83 = .ok (.lreturn, 1) := by decide +kernel
theorem dX6_joint_84 : decode cX6_joint 84 = .ok (.aload_n 0, 1) := by decide +kernel
theorem dX6_joint_85 : decode cX6_joint 85 = .ok (.getfield 41, 3) := by decide +kernel
theorem dX6_joint_88 : decode cX6_joint 88 = .ok (.iload_n 2, 1) := by decide +kernel
theorem dX6_joint_89 : decode cX6_joint 89 = .ok (.iaload, 1) := by decide +kernel
theorem dX6_joint_90 : decode cX6_joint 90 = .ok (.ifCond .ge 7, 3) := by decide +kernel
theorem dX6_joint_93 : decode cX6_joint 93 = .ok (.ldc2_w 173, 3) := by decide +kernel
theorem dX6_joint_96 : decode cX6_joint 96 = .ok (.lreturn, 1) := by decide +kernel
theorem dX6_joint_97 : decode cX6_joint 97 = .ok (.aload_n 0, 1) := by decide +kernel
theorem dX6_joint_98 : decode cX6_joint 98 = .ok (.invokevirtual 143, 3) := by decide +kernel
theorem dX6_joint_101 : decode cX6_joint 101 = .ok (.iconst 0, 1) := by decide +kernel
theorem dX6_joint_102 : decode cX6_joint 102 = .ok (.istore 6, 2) := by decide +kernel
theorem dX6_joint_104 : decode cX6_joint 104 = .ok (.iload 6, 2) := by decide +kernel
theorem dX6_joint_106 : decode cX6_joint 106 = .ok (.aload_n 0, 1) := by decide +kernel
theorem dX6_joint_107 : decode cX6_joint 107 = .ok (.getfield 13, 3) := by decide +kernel
theorem dX6_joint_110 : decode cX6_joint 110 = .ok (.if_icmp .ge 86, 3) := by decide +kernel
theorem dX6_joint_113 : decode cX6_joint 113 = .ok (.iload 6, 2) := by decide +kernel
theorem dX6_joint_115 : decode cX6_joint 115 = .ok (.aload_n 0, 1) := by decide +kernel
theorem dX6_joint_116 : decode cX6_joint 116 = .ok (.getfield 41, 3) := by decide +kernel
theorem dX6_joint_119 : decode cX6_joint 119 = .ok (.iload_n 2, 1) := by decide +kernel
theorem dX6_joint_120 : decode cX6_joint 120 = .ok (.iaload, 1) := by decide +kernel
theorem dX6_joint_121 : decode cX6_joint 121 = .ok (.if_icmp .ge 75, 3) := by decide +kernel
theorem dX6_joint_124 : decode cX6_joint 124 = .ok (.aload_n 0, 1) := by decide +kernel
theorem dX6_joint_125 : decode cX6_joint 125 = .ok (.getfield 47, 3) := by decide +kernel
theorem dX6_joint_128 : decode cX6_joint 128 = .ok (.iload 5, 2) := by decide +kernel
theorem dX6_joint_130 : decode cX6_joint 130 = .ok (.iload 6, 2) := by decide +kernel
theorem dX6_joint_132 : decode cX6_joint 132 = .ok (.iadd, 1) := by decide +kernel
theorem dX6_joint_133 : decode cX6_joint 133 = .ok (.laload, 1) := by decide +kernel
theorem dX6_joint_134 : decode cX6_joint 134 = .ok (.aload_n 0, 1) := by decide +kernel
theorem dX6_joint_135 : decode cX6_joint 135 = .ok (.getfield 51, 3) := by decide +kernel
theorem dX6_joint_138 : decode cX6_joint 138 = .ok (.iload 5, 2) := by decide +kernel
theorem dX6_joint_140 : decode cX6_joint 140 = .ok (.iload 6, 2) := by decide +kernel
theorem dX6_joint_142 : decode cX6_joint 142 = .ok (.iadd, 1) := by decide +kernel
theorem dX6_joint_143 : decode cX6_joint 143 = .ok (.laload, 1) := by decide +kernel
theorem dX6_joint_144 : decode cX6_joint 144 = .ok (.invokestatic 100, 3) := by decide +kernel
theorem dX6_joint_147 : decode cX6_joint 147 = .ok (.aload_n 0, 1) := by decide +kernel
theorem dX6_joint_148 : decode cX6_joint 148 = .ok (.iload 5, 2) := by decide +kernel
theorem dX6_joint_150 : decode cX6_joint 150 = .ok (.iload 6, 2) := by decide +kernel
theorem dX6_joint_152 : decode cX6_joint 152 = .ok (.iadd, 1) := by decide +kernel
theorem dX6_joint_153 : decode cX6_joint 153 = .ok (.invokevirtual 92, 3) := by decide +kernel
theorem dX6_joint_156 : decode cX6_joint 156 = .ok (.i2l, 1) := by decide +kernel
theorem dX6_joint_157 : decode cX6_joint 157 = .ok (.lmul, 1) := by decide +kernel
theorem dX6_joint_158 : decode cX6_joint 158 = .ok (.ldc2_w 106, 3) := by decide +kernel
theorem dX6_joint_161 : decode cX6_joint 161 = .ok (.ldiv, 1) := by decide +kernel
theorem dX6_joint_162 : decode cX6_joint 162 = .ok (.lstore 7, 2) := by decide +kernel
theorem dX6_joint_164 : decode cX6_joint 164 = .ok (.aload_n 0, 1) := by decide +kernel
theorem dX6_joint_165 : decode cX6_joint 165 = .ok (.getfield 44, 3) := by decide +kernel
theorem dX6_joint_168 : decode cX6_joint 168 = .ok (.bipush 24, 2) := by decide +kernel
theorem dX6_joint_170 : decode cX6_joint 170 = .ok (.iload_n 2, 1) := by decide +kernel
theorem dX6_joint_171 : decode cX6_joint 171 = .ok (.imul, 1) := by decide +kernel
theorem dX6_joint_172 : decode cX6_joint 172 = .ok (.iload 6, 2) := by decide +kernel
theorem dX6_joint_174 : decode cX6_joint 174 = .ok (.iadd, 1) := by decide +kernel
theorem dX6_joint_175 : decode cX6_joint 175 = .ok (.iaload, 1) := by decide +kernel
theorem dX6_joint_176 : decode cX6_joint 176 = .ok (.i2l, 1) := by decide +kernel
theorem dX6_joint_177 : decode cX6_joint 177 = .ok (.lload 7, 2) := by decide +kernel
theorem dX6_joint_179 : decode cX6_joint 179 = .ok (.lsub, 1) := by decide +kernel
theorem dX6_joint_180 : decode cX6_joint 180 = .ok (.iload_n 3, 1) := by decide +kernel
theorem dX6_joint_181 : decode cX6_joint 181 = .ok (.i2l, 1) := by decide +kernel
theorem dX6_joint_182 : decode cX6_joint 182 = .ok (.lcmp, 1) := by decide +kernel
theorem dX6_joint_183 : decode cX6_joint 183 = .ok (.ifCond .le 7, 3) := by decide +kernel
theorem dX6_joint_186 : decode cX6_joint 186 = .ok (.iload 6, 2) := by decide +kernel
theorem dX6_joint_188 : decode cX6_joint 188 = .ok (.i2l, 1) := by decide +kernel
theorem dX6_joint_189 : decode cX6_joint 189 = .ok (.lreturn, 1) := by decide +kernel
theorem dX6_joint_190 : decode cX6_joint 190 = .ok (.iinc 6 1, 3) := by decide +kernel
theorem dX6_joint_193 : decode cX6_joint 193 = .ok (.goto (-89), 3) := by decide +kernel
theorem dX6_joint_196 : decode cX6_joint 196 = .ok (.ldc2_w 157, 3) := by decide +kernel
theorem dX6_joint_199 : decode cX6_joint 199 = .ok (.lreturn, 1) := by decide +kernel
theorem dX6_sheet_0 : decode cX6_sheet 0 = .ok (.iload_n 1, 1) := by decide +kernel
theorem dX6_sheet_1 : decode cX6_sheet 1 = .ok (.invokestatic 170, 3) := by decide +kernel
theorem dX6_sheet_4 : decode cX6_sheet 4 = .ok (.ifCond .eq 9, 3) := by decide +kernel
theorem dX6_sheet_7 : decode cX6_sheet 7 = .ok (.iload_n 2, 1) := by decide +kernel
theorem dX6_sheet_8 : decode cX6_sheet 8 = .ok (.bipush 24, 2) := by decide +kernel
theorem dX6_sheet_10 : decode cX6_sheet 10 = .ok (.if_icmp .le 7, 3) := by decide +kernel
theorem dX6_sheet_13 : decode cX6_sheet 13 = .ok (.ldc2_w 79, 3) := by decide +kernel
theorem dX6_sheet_16 : decode cX6_sheet 16 = .ok (.lreturn, 1) := by decide +kernel
theorem dX6_sheet_17 : decode cX6_sheet 17 = .ok (.iload_n 2, 1) := by decide +kernel
theorem dX6_sheet_18 : decode cX6_sheet 18 = .ok (.ifCond .ge 7, 3) := by decide +kernel
theorem dX6_sheet_21 : decode cX6_sheet 21 = .ok (.ldc2_w 193, 3) := by decide +kernel
theorem dX6_sheet_24 : decode cX6_sheet 24 = .ok (.lreturn, 1) := by decide +kernel
theorem dX6_sheet_25 : decode cX6_sheet 25 = .ok (.aload_n 0, 1) := by decide +kernel
theorem dX6_sheet_26 : decode cX6_sheet 26 = .ok (.getfield 41, 3) := by decide +kernel
theorem dX6_sheet_29 : decode cX6_sheet 29 = .ok (.iload_n 1, 1) := by decide +kernel
theorem dX6_sheet_30 : decode cX6_sheet 30 = .ok (.iload_n 2, 1) := by decide +kernel
theorem dX6_sheet_31 : decode cX6_sheet 31 = .ok (.iastore, 1) := by decide +kernel
theorem dX6_sheet_32 : decode cX6_sheet 32 = .ok (.iconst 0, 1) := by decide +kernel
theorem dX6_sheet_33 : decode cX6_sheet 33 = .ok (.istore_n 3, 1) := by decide +kernel
theorem dX6_sheet_34 : decode cX6_sheet 34 = .ok (.iload_n 3, 1) := by decide +kernel
theorem dX6_sheet_35 : decode cX6_sheet 35 = .ok (.iload_n 2, 1) := by decide +kernel
theorem dX6_sheet_36 : decode cX6_sheet 36 = .ok (.if_icmp .ge 21, 3) := by decide +kernel
theorem dX6_sheet_39 : decode cX6_sheet 39 = .ok (.aload_n 0, 1) := by decide +kernel
theorem dX6_sheet_40 : decode cX6_sheet 40 = .ok (.getfield 44, 3) := by decide +kernel
theorem dX6_sheet_43 : decode cX6_sheet 43 = .ok (.bipush 24, 2) := by decide +kernel
theorem dX6_sheet_45 : decode cX6_sheet 45 = .ok (.iload_n 1, 1) := by decide +kernel
theorem dX6_sheet_46 : decode cX6_sheet 46 = .ok (.imul, 1) := by decide +kernel
theorem dX6_sheet_47 : decode cX6_sheet 47 = .ok (.iload_n 3, 1) := by decide +kernel
theorem dX6_sheet_48 : decode cX6_sheet 48 = .ok (.iadd, 1) := by decide +kernel
theorem dX6_sheet_49 : decode cX6_sheet 49 = .ok (.iconst 0, 1) := by decide +kernel
theorem dX6_sheet_50 : decode cX6_sheet 50 = .ok (.iastore, 1) := by decide +kernel
theorem dX6_sheet_51 : decode cX6_sheet 51 = .ok (.iinc 3 1, 3) := by decide +kernel
theorem dX6_sheet_54 : decode cX6_sheet 54 = .ok (.goto (-20), 3) := by decide +kernel
theorem dX6_sheet_57 : decode cX6_sheet 57 = .ok (.iload_n 2, 1) := by decide +kernel
theorem dX6_sheet_58 : decode cX6_sheet 58 = .ok (.i2l, 1) := by decide +kernel
theorem dX6_sheet_59 : decode cX6_sheet 59 = .ok (.lreturn, 1) := by decide +kernel
theorem dX6_mark_0 : decode cX6_mark 0 = .ok (.iload_n 1, 1) := by decide +kernel
theorem dX6_mark_1 : decode cX6_mark 1 = .ok (.invokestatic 170, 3) := by decide +kernel
theorem dX6_mark_4 : decode cX6_mark 4 = .ok (.ifCond .ne 7, 3) := by decide +kernel
theorem dX6_mark_7 : decode cX6_mark 7 = .ok (.ldc2_w 79, 3) := by decide +kernel
theorem dX6_mark_10 : decode cX6_mark 10 = .ok (.lreturn, 1) := by decide +kernel
theorem dX6_mark_11 : decode cX6_mark 11 = .ok (.aload_n 0, 1) := by decide +kernel
theorem dX6_mark_12 : decode cX6_mark 12 = .ok (.getfield 41, 3) := by decide +kernel
theorem dX6_mark_15 : decode cX6_mark 15 = .ok (.iload_n 1, 1) := by decide +kernel
theorem dX6_mark_16 : decode cX6_mark 16 = .ok (.iaload, 1) := by decide +kernel
theorem dX6_mark_17 : decode cX6_mark 17 = .ok (.ifCond .ge 7, 3) := by decide +kernel
theorem dX6_mark_20 : decode cX6_mark 20 = .ok (.ldc2_w 173, 3) := by decide +kernel
theorem dX6_mark_23 : decode cX6_mark 23 = .ok (.lreturn, 1) := by decide +kernel
theorem dX6_mark_24 : decode cX6_mark 24 = .ok (.iload_n 2, 1) := by decide +kernel
theorem dX6_mark_25 : decode cX6_mark 25 = .ok (.iconst 0, 1) := by decide +kernel
theorem dX6_mark_26 : decode cX6_mark 26 = .ok (.aload_n 0, 1) := by decide +kernel
theorem dX6_mark_27 : decode cX6_mark 27 = .ok (.getfield 41, 3) := by decide +kernel
theorem dX6_mark_30 : decode cX6_mark 30 = .ok (.iload_n 1, 1) := by decide +kernel
theorem dX6_mark_31 : decode cX6_mark 31 = .ok (.iaload, 1) := by decide +kernel
theorem dX6_mark_32 : decode cX6_mark 32 = .ok (.iconst 1, 1) := by decide +kernel
theorem dX6_mark_33 : decode cX6_mark 33 = .ok (.isub, 1) := by decide +kernel
theorem dX6_mark_34 : decode cX6_mark 34 = .ok (.invokestatic 75, 3) := by decide +kernel
theorem dX6_mark_37 : decode cX6_mark 37 = .ok (.ifCond .ne 7, 3) := by decide +kernel
theorem dX6_mark_40 : decode cX6_mark 40 = .ok (.ldc2_w 195, 3) := by decide +kernel
theorem dX6_mark_43 : decode cX6_mark 43 = .ok (.lreturn, 1) := by decide +kernel
theorem dX6_mark_44 : decode cX6_mark 44 = .ok (.aload_n 0, 1) := by decide +kernel
theorem dX6_mark_45 : decode cX6_mark 45 = .ok (.getfield 44, 3) := by decide +kernel
theorem dX6_mark_48 : decode cX6_mark 48 = .ok (.bipush 24, 2) := by decide +kernel
theorem dX6_mark_50 : decode cX6_mark 50 = .ok (.iload_n 1, 1) := by decide +kernel
theorem dX6_mark_51 : decode cX6_mark 51 = .ok (.imul, 1) := by decide +kernel
theorem dX6_mark_52 : decode cX6_mark 52 = .ok (.iload_n 2, 1) := by decide +kernel
theorem dX6_mark_53 : decode cX6_mark 53 = .ok (.iadd, 1) := by decide +kernel
theorem dX6_mark_54 : decode cX6_mark 54 = .ok (.iaload, 1) := by decide +kernel
theorem dX6_mark_55 : decode cX6_mark 55 = .ok (.istore 4, 2) := by decide +kernel
theorem dX6_mark_57 : decode cX6_mark 57 = .ok (.aload_n 0, 1) := by decide +kernel
theorem dX6_mark_58 : decode cX6_mark 58 = .ok (.getfield 44, 3) := by decide +kernel
theorem dX6_mark_61 : decode cX6_mark 61 = .ok (.bipush 24, 2) := by decide +kernel
theorem dX6_mark_63 : decode cX6_mark 63 = .ok (.iload_n 1, 1) := by decide +kernel
theorem dX6_mark_64 : decode cX6_mark 64 = .ok (.imul, 1) := by decide +kernel
theorem dX6_mark_65 : decode cX6_mark 65 = .ok (.iload_n 2, 1) := by decide +kernel
theorem dX6_mark_66 : decode cX6_mark 66 = .ok (.iadd, 1) := by decide +kernel
theorem dX6_mark_67 : decode cX6_mark 67 = .ok (.iload_n 3, 1) := by decide +kernel
theorem dX6_mark_68 : decode cX6_mark 68 = .ok (.i2s, 1) := by decide +kernel
theorem dX6_mark_69 : decode cX6_mark 69 = .ok (.iastore, 1) := by decide +kernel
theorem dX6_mark_70 : decode cX6_mark 70 = .ok (.iload 4, 2) := by decide +kernel
theorem dX6_mark_72 : decode cX6_mark 72 = .ok (.i2l, 1) := by decide +kernel
theorem dX6_mark_73 : decode cX6_mark 73 = .ok (.lreturn, 1) := by decide +kernel
theorem dX6_copy_0 : decode cX6_copy 0 = .ok (.iload_n 1, 1) := by decide +kernel
theorem dX6_copy_1 : decode cX6_copy 1 = .ok (.invokestatic 170, 3) := by decide +kernel
theorem dX6_copy_4 : decode cX6_copy 4 = .ok (.ifCond .eq 10, 3) := by decide +kernel
theorem dX6_copy_7 : decode cX6_copy 7 = .ok (.iload_n 3, 1) := by decide +kernel
theorem dX6_copy_8 : decode cX6_copy 8 = .ok (.invokestatic 170, 3) := by decide +kernel
theorem dX6_copy_11 : decode cX6_copy 11 = .ok (.ifCond .ne 7, 3) := by decide +kernel
theorem dX6_copy_14 : decode cX6_copy 14 = .ok (.ldc2_w 79, 3) := by decide +kernel
theorem dX6_copy_17 : decode cX6_copy 17 = .ok (.lreturn, 1) := by decide +kernel
theorem dX6_copy_18 : decode cX6_copy 18 = .ok (.aload_n 0, 1) := by decide +kernel
theorem dX6_copy_19 : decode cX6_copy 19 = .ok (.getfield 41, 3) := by decide +kernel
theorem dX6_copy_22 : decode cX6_copy 22 = .ok (.iload_n 1, 1) := by decide +kernel
theorem dX6_copy_23 : decode cX6_copy 23 = .ok (.iaload, 1) := by decide +kernel
theorem dX6_copy_24 : decode cX6_copy 24 = .ok (.ifCond .lt 12, 3) := by decide +kernel
theorem dX6_copy_27 : decode cX6_copy 27 = .ok (.aload_n 0, 1) := by decide +kernel
theorem dX6_copy_28 : decode cX6_copy 28 = .ok (.getfield 41, 3) := by decide +kernel
theorem dX6_copy_31 : decode cX6_copy 31 = .ok (.iload_n 3, 1) := by decide +kernel
theorem dX6_copy_32 : decode cX6_copy 32 = .ok (.iaload, 1) := by decide +kernel
theorem dX6_copy_33 : decode cX6_copy 33 = .ok (.ifCond .ge 7, 3) := by decide +kernel
theorem dX6_copy_36 : decode cX6_copy 36 = .ok (.ldc2_w 173, 3) := by decide +kernel
theorem dX6_copy_39 : decode cX6_copy 39 = .ok (.lreturn, 1) := by decide +kernel
theorem dX6_copy_40 : decode cX6_copy 40 = .ok (.iload_n 2, 1) := by decide +kernel
theorem dX6_copy_41 : decode cX6_copy 41 = .ok (.ifCond .lt 48, 3) := by decide +kernel
theorem dX6_copy_44 : decode cX6_copy 44 = .ok (.iload 4, 2) := by decide +kernel
theorem dX6_copy_46 : decode cX6_copy 46 = .ok (.ifCond .lt 43, 3) := by decide +kernel
theorem dX6_copy_49 : decode cX6_copy 49 = .ok (.iload 5, 2) := by decide +kernel
theorem dX6_copy_51 : decode cX6_copy 51 = .ok (.ifCond .lt 38, 3) := by decide +kernel
theorem dX6_copy_54 : decode cX6_copy 54 = .ok (.iload_n 2, 1) := by decide +kernel
theorem dX6_copy_55 : decode cX6_copy 55 = .ok (.i2l, 1) := by decide +kernel
theorem dX6_copy_56 : decode cX6_copy 56 = .ok (.iload 5, 2) := by decide +kernel
theorem dX6_copy_58 : decode cX6_copy 58 = .ok (.i2l, 1) := by decide +kernel
theorem dX6_copy_59 : decode cX6_copy 59 = .ok (.ladd, 1) := by decide +kernel
theorem dX6_copy_60 : decode cX6_copy 60 = .ok (.aload_n 0, 1) := by decide +kernel
theorem dX6_copy_61 : decode cX6_copy 61 = .ok (.getfield 41, 3) := by decide +kernel
theorem dX6_copy_64 : decode cX6_copy 64 = .ok (.iload_n 1, 1) := by decide +kernel
theorem dX6_copy_65 : decode cX6_copy 65 = .ok (.iaload, 1) := by decide +kernel
theorem dX6_copy_66 : decode cX6_copy 66 = .ok (.i2l, 1) := by decide +kernel
theorem dX6_copy_67 : decode cX6_copy 67 = .ok (.lcmp, 1) := by decide +kernel
theorem dX6_copy_68 : decode cX6_copy 68 = .ok (.ifCond .gt 21, 3) := by decide +kernel
theorem dX6_copy_71 : decode cX6_copy 71 = .ok (.iload 4, 2) := by decide +kernel
theorem dX6_copy_73 : decode cX6_copy 73 = .ok (.i2l, 1) := by decide +kernel
theorem dX6_copy_74 : decode cX6_copy 74 = .ok (.iload 5, 2) := by decide +kernel
theorem dX6_copy_76 : decode cX6_copy 76 = .ok (.i2l, 1) := by decide +kernel
theorem dX6_copy_77 : decode cX6_copy 77 = .ok (.ladd, 1) := by decide +kernel
theorem dX6_copy_78 : decode cX6_copy 78 = .ok (.aload_n 0, 1) := by decide +kernel
theorem dX6_copy_79 : decode cX6_copy 79 = .ok (.getfield 41, 3) := by decide +kernel
theorem dX6_copy_82 : decode cX6_copy 82 = .ok (.iload_n 3, 1) := by decide +kernel
theorem dX6_copy_83 : decode cX6_copy 83 = .ok (.iaload, 1) := by decide +kernel
theorem dX6_copy_84 : decode cX6_copy 84 = .ok (.i2l, 1) := by decide +kernel
theorem dX6_copy_85 : decode cX6_copy 85 = .ok (.lcmp, 1) := by decide +kernel
theorem dX6_copy_86 : decode cX6_copy 86 = .ok (.ifCond .le 7, 3) := by decide +kernel
theorem dX6_copy_89 : decode cX6_copy 89 = .ok (.ldc2_w 195, 3) := by decide +kernel
theorem dX6_copy_92 : decode cX6_copy 92 = .ok (.lreturn, 1) := by decide +kernel
theorem dX6_copy_93 : decode cX6_copy 93 = .ok (.iconst 0, 1) := by decide +kernel
theorem dX6_copy_94 : decode cX6_copy 94 = .ok (.istore 6, 2) := by decide +kernel
theorem dX6_copy_96 : decode cX6_copy 96 = .ok (.iload 6, 2) := by decide +kernel
theorem dX6_copy_98 : decode cX6_copy 98 = .ok (.iload 5, 2) := by decide +kernel
theorem dX6_copy_100 : decode cX6_copy 100 = .ok (.if_icmp .ge 30, 3) := by decide +kernel
theorem dX6_copy_103 : decode cX6_copy 103 = .ok (.aload_n 0, 1) := by decide +kernel
theorem dX6_copy_104 : decode cX6_copy 104 = .ok (.getfield 72, 3) := by decide +kernel
theorem dX6_copy_107 : decode cX6_copy 107 = .ok (.iload 6, 2) := by decide +kernel
theorem dX6_copy_109 : decode cX6_copy 109 = .ok (.aload_n 0, 1) := by decide +kernel
theorem dX6_copy_110 : decode cX6_copy 110 = .ok (.getfield 44, 3) := by decide +kernel
theorem dX6_copy_113 : decode cX6_copy 113 = .ok (.bipush 24, 2) := by decide +kernel
theorem dX6_copy_115 : decode cX6_copy 115 = .ok (.iload_n 1, 1) := by decide +kernel
theorem dX6_copy_116 : decode cX6_copy 116 = .ok (.imul, 1) := by decide +kernel
theorem dX6_copy_117 : decode cX6_copy 117 = .ok (.iload_n 2, 1) := by decide +kernel
theorem dX6_copy_118 : decode cX6_copy 118 = .ok (.iadd, 1) := by decide +kernel
theorem dX6_copy_119 : decode cX6_copy 119 = .ok (.iload 6, 2) := by decide +kernel
theorem dX6_copy_121 : decode cX6_copy 121 = .ok (.iadd, 1) := by decide +kernel
theorem dX6_copy_122 : decode cX6_copy 122 = .ok (.iaload, 1) := by decide +kernel
theorem dX6_copy_123 : decode cX6_copy 123 = .ok (.iastore, 1) := by decide +kernel
theorem dX6_copy_124 : decode cX6_copy 124 = .ok (.iinc 6 1, 3) := by decide +kernel
theorem dX6_copy_127 : decode cX6_copy 127 = .ok (.goto (-31), 3) := by decide +kernel
theorem dX6_copy_130 : decode cX6_copy 130 = .ok (.iconst 0, 1) := by decide +kernel
theorem dX6_copy_131 : decode cX6_copy 131 = .ok (.istore 6, 2) := by decide +kernel
theorem dX6_copy_133 : decode cX6_copy 133 = .ok (.iload 6, 2) := by decide +kernel
theorem dX6_copy_135 : decode cX6_copy 135 = .ok (.iload 5, 2) := by decide +kernel
theorem dX6_copy_137 : decode cX6_copy 137 = .ok (.if_icmp .ge 31, 3) := by decide +kernel
theorem dX6_copy_140 : decode cX6_copy 140 = .ok (.aload_n 0, 1) := by decide +kernel
theorem dX6_copy_141 : decode cX6_copy 141 = .ok (.getfield 44, 3) := by decide +kernel
theorem dX6_copy_144 : decode cX6_copy 144 = .ok (.bipush 24, 2) := by decide +kernel
theorem dX6_copy_146 : decode cX6_copy 146 = .ok (.iload_n 3, 1) := by decide +kernel
theorem dX6_copy_147 : decode cX6_copy 147 = .ok (.imul, 1) := by decide +kernel
theorem dX6_copy_148 : decode cX6_copy 148 = .ok (.iload 4, 2) := by decide +kernel
theorem dX6_copy_150 : decode cX6_copy 150 = .ok (.iadd, 1) := by decide +kernel
theorem dX6_copy_151 : decode cX6_copy 151 = .ok (.iload 6, 2) := by decide +kernel
theorem dX6_copy_153 : decode cX6_copy 153 = .ok (.iadd, 1) := by decide +kernel
theorem dX6_copy_154 : decode cX6_copy 154 = .ok (.aload_n 0, 1) := by decide +kernel
theorem dX6_copy_155 : decode cX6_copy 155 = .ok (.getfield 72, 3) := by decide +kernel
theorem dX6_copy_158 : decode cX6_copy 158 = .ok (.iload 6, 2) := by decide +kernel
theorem dX6_copy_160 : decode cX6_copy 160 = .ok (.iaload, 1) := by decide +kernel
theorem dX6_copy_161 : decode cX6_copy 161 = .ok (.iastore, 1) := by decide +kernel
theorem dX6_copy_162 : decode cX6_copy 162 = .ok (.iinc 6 1, 3) := by decide +kernel
theorem dX6_copy_165 : decode cX6_copy 165 = .ok (.goto (-32), 3) := by decide +kernel
theorem dX6_copy_168 : decode cX6_copy 168 = .ok (.iload 5, 2) := by decide +kernel
theorem dX6_copy_170 : decode cX6_copy 170 = .ok (.i2l, 1) := by decide +kernel
theorem dX6_copy_171 : decode cX6_copy 171 = .ok (.lreturn, 1) := by decide +kernel
theorem dX6_count_0 : decode cX6_count 0 = .ok (.iconst 0, 1) := by decide +kernel
theorem dX6_count_1 : decode cX6_count 1 = .ok (.istore_n 2, 1) := by decide +kernel
theorem dX6_count_2 : decode cX6_count 2 = .ok (.iload_n 1, 1) := by decide +kernel
theorem dX6_count_3 : decode cX6_count 3 = .ok (.tableswitch 111 0 3 #[29, 29, 74, 80], 29) := by decide +kernel
theorem dX6_count_32 : decode cX6_count 32 = .ok (.iconst 0, 1) := by decide +kernel
theorem dX6_count_33 : decode cX6_count 33 = .ok (.istore_n 3, 1) := by decide +kernel
theorem dX6_count_34 : decode cX6_count 34 = .ok (.iload_n 3, 1) := by decide +kernel
theorem dX6_count_35 : decode cX6_count 35 = .ok (.bipush 72, 2) := by decide +kernel
theorem dX6_count_37 : decode cX6_count 37 = .ok (.if_icmp .ge 37, 3) := by decide +kernel
theorem dX6_count_40 : decode cX6_count 40 = .ok (.iload_n 2, 1) := by decide +kernel
theorem dX6_count_41 : decode cX6_count 41 = .ok (.aload_n 0, 1) := by decide +kernel
theorem dX6_count_42 : decode cX6_count 42 = .ok (.iload_n 3, 1) := by decide +kernel
theorem dX6_count_43 : decode cX6_count 43 = .ok (.invokevirtual 138, 3) := by decide +kernel
theorem dX6_count_46 : decode cX6_count 46 = .ok (.ifCond .eq 19, 3) := by decide +kernel
theorem dX6_count_49 : decode cX6_count 49 = .ok (.iload_n 1, 1) := by decide +kernel
theorem dX6_count_50 : decode cX6_count 50 = .ok (.iconst 1, 1) := by decide +kernel
theorem dX6_count_51 : decode cX6_count 51 = .ok (.if_icmp .eq 10, 3) := by decide +kernel
theorem dX6_count_54 : decode cX6_count 54 = .ok (.iload_n 3, 1) := by decide +kernel
theorem dX6_count_55 : decode cX6_count 55 = .ok (.bipush 6, 2) := by decide +kernel
theorem dX6_count_57 : decode cX6_count 57 = .ok (.irem, 1) := by decide +kernel
theorem dX6_count_58 : decode cX6_count 58 = .ok (.ifCond .ne 7, 3) := by decide +kernel
theorem dX6_count_61 : decode cX6_count 61 = .ok (.iconst 1, 1) := by decide +kernel
theorem dX6_count_62 : decode cX6_count 62 = .ok (.goto 4, 3) := by decide +kernel
theorem dX6_count_65 : decode cX6_count 65 = .ok (.iconst 0, 1) := by decide +kernel
theorem dX6_count_66 : decode cX6_count 66 = .ok (.iadd, 1) := by decide +kernel
theorem dX6_count_67 : decode cX6_count 67 = .ok (.istore_n 2, 1) := by decide +kernel
theorem dX6_count_68 : decode cX6_count 68 = .ok (.iinc 3 1, 3) := by decide +kernel
theorem dX6_count_71 : decode cX6_count 71 = .ok (.goto (-37), 3) := by decide +kernel
theorem dX6_count_74 : decode cX6_count 74 = .ok (.iload_n 2, 1) := by decide +kernel
theorem dX6_count_75 : decode cX6_count 75 = .ok (.i2l, 1) := by decide +kernel
theorem dX6_count_76 : decode cX6_count 76 = .ok (.lreturn, 1) := by decide +kernel
theorem dX6_count_77 : decode cX6_count 77 = .ok (.aload_n 0, 1) := by decide +kernel
theorem dX6_count_78 : decode cX6_count 78 = .ok (.getfield 159, 3) := by decide +kernel
theorem dX6_count_81 : decode cX6_count 81 = .ok (.i2l, 1) := by decide +kernel
theorem dX6_count_82 : decode cX6_count 82 = .ok (.lreturn, 1) := by decide +kernel
theorem dX6_count_83 : decode cX6_count 83 = .ok (.aload_n 0, 1) := by decide +kernel
theorem dX6_count_84 : decode cX6_count 84 = .ok (.getfield 41, 3) := by decide +kernel
theorem dX6_count_87 : decode cX6_count 87 = .ok (.iconst 0, 1) := by decide +kernel
theorem dX6_count_88 : decode cX6_count 88 = .ok (.iaload, 1) := by decide +kernel
theorem dX6_count_89 : decode cX6_count 89 = .ok (.ifCond .ge 7, 3) := by decide +kernel
theorem dX6_count_92 : decode cX6_count 92 = .ok (.iconst 0, 1) := by decide +kernel
theorem dX6_count_93 : decode cX6_count 93 = .ok (.goto 4, 3) := by decide +kernel
theorem dX6_count_96 : decode cX6_count 96 = .ok (.iconst 1, 1) := by decide +kernel
theorem dX6_count_97 : decode cX6_count 97 = .ok (.aload_n 0, 1) := by decide +kernel
theorem dX6_count_98 : decode cX6_count 98 = .ok (.getfield 41, 3) := by decide +kernel
theorem dX6_count_101 : decode cX6_count 101 = .ok (.iconst 1, 1) := by decide +kernel
theorem dX6_count_102 : decode cX6_count 102 = .ok (.iaload, 1) := by decide +kernel
theorem dX6_count_103 : decode cX6_count 103 = .ok (.ifCond .ge 7, 3) := by decide +kernel
theorem dX6_count_106 : decode cX6_count 106 = .ok (.iconst 0, 1) := by decide +kernel
theorem dX6_count_107 : decode cX6_count 107 = .ok (.goto 4, 3) := by decide +kernel
theorem dX6_count_110 : decode cX6_count 110 = .ok (.iconst 1, 1) := by decide +kernel
theorem dX6_count_111 : decode cX6_count 111 = .ok (.iadd, 1) := by decide +kernel
theorem dX6_count_112 : decode cX6_count 112 = .ok (.i2l, 1) := by decide +kernel
theorem dX6_count_113 : decode cX6_count 113 = .ok (.lreturn, 1) := by decide +kernel
theorem dX6_count_114 : decode cX6_count 114 = .ok (.ldc2_w 79, 3) := by decide +kernel
theorem dX6_count_117 : decode cX6_count 117 = .ok (.lreturn, 1) := by decide +kernel
