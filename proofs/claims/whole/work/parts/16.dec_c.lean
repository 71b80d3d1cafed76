theorem dX5_lay_28 : decode cX5_lay 28 = .ok (.astore_n 3, 1) := by decide +kernel
theorem dX5_lay_29 : decode cX5_lay 29 = .ok (.aload_n 3, 1) := by decide +kernel
theorem dX5_lay_30 : decode cX5_lay 30 = .ok (.invokevirtual 211, 3) := by decide +kernel
theorem dX5_lay_33 : decode cX5_lay 33 = .ok (.ifCond .eq 7, 3) := by decide +kernel
theorem dX5_lay_36 : decode cX5_lay 36 = .ok (.ldc2_w 215, 3) := by decide +kernel
theorem dX5_lay_39 : decode cX5_lay 39 = .ok (.lreturn, 1) := by decide +kernel
theorem dX5_lay_40 : decode cX5_lay 40 = .ok (.aload_n 0, 1) := by decide +kernel
theorem dX5_lay_41 : decode cX5_lay 41 = .ok (.getfield 40, 3) := by decide +kernel
theorem dX5_lay_44 : decode cX5_lay 44 = .ok (.iload_n 1, 1) := by decide +kernel
theorem dX5_lay_45 : decode cX5_lay 45 = .ok (.invokevirtual 207, 3) := by decide +kernel
theorem dX5_lay_48 : decode cX5_lay 48 = .ok (.astore 4, 2) := by decide +kernel
theorem dX5_lay_50 : decode cX5_lay 50 = .ok (.iload_n 1, 1) := by decide +kernel
theorem dX5_lay_51 : decode cX5_lay 51 = .ok (.invokestatic 204, 3) := by decide +kernel
theorem dX5_lay_54 : decode cX5_lay 54 = .ok (.istore 5, 2) := by decide +kernel
theorem dX5_lay_56 : decode cX5_lay 56 = .ok (.iconst 0, 1) := by decide +kernel
theorem dX5_lay_57 : decode cX5_lay 57 = .ok (.istore 6, 2) := by decide +kernel
theorem dX5_lay_59 : decode cX5_lay 59 = .ok (.iload 6, 2) := by decide +kernel
theorem dX5_lay_61 : decode cX5_lay 61 = .ok (.bipush 12, 2) := by decide +kernel
theorem dX5_lay_63 : decode cX5_lay 63 = .ok (.if_icmp .ge 53, 3) := by decide +kernel
theorem dX5_lay_66 : decode cX5_lay 66 = .ok (.aload_n 3, 1) := by decide +kernel
theorem dX5_lay_67 : decode cX5_lay 67 = .ok (.iload 6, 2) := by decide +kernel
theorem dX5_lay_69 : decode cX5_lay 69 = .ok (.invokevirtual 217, 3) := by decide +kernel
theorem dX5_lay_72 : decode cX5_lay 72 = .ok (.ifCond .eq 13, 3) := by decide +kernel
theorem dX5_lay_75 : decode cX5_lay 75 = .ok (.aload_n 3, 1) := by decide +kernel
theorem dX5_lay_76 : decode cX5_lay 76 = .ok (.getfield 220, 3) := by decide +kernel
theorem dX5_lay_79 : decode cX5_lay 79 = .ok (.iload 6, 2) := by decide +kernel
theorem dX5_lay_81 : decode cX5_lay 81 = .ok (.saload, 1) := by decide +kernel
theorem dX5_lay_82 : decode cX5_lay 82 = .ok (.goto 4, 3) := by decide +kernel
theorem dX5_lay_85 : decode cX5_lay 85 = .ok (.iconst 0, 1) := by decide +kernel
theorem dX5_lay_86 : decode cX5_lay 86 = .ok (.istore 7, 2) := by decide +kernel
theorem dX5_lay_88 : decode cX5_lay 88 = .ok (.aload 4, 2) := by decide +kernel
theorem dX5_lay_90 : decode cX5_lay 90 = .ok (.iload 6, 2) := by decide +kernel
theorem dX5_lay_92 : decode cX5_lay 92 = .ok (.iload 7, 2) := by decide +kernel
theorem dX5_lay_94 : decode cX5_lay 94 = .ok (.iconst 0, 1) := by decide +kernel
theorem dX5_lay_95 : decode cX5_lay 95 = .ok (.iload 5, 2) := by decide +kernel
theorem dX5_lay_97 : decode cX5_lay 97 = .ok (.invokestatic 64, 3) := by decide +kernel
theorem dX5_lay_100 : decode cX5_lay 100 = .ok (.ifCond .eq 7, 3) := by decide +kernel
theorem dX5_lay_103 : decode cX5_lay 103 = .ok (.iconst 0, 1) := by decide +kernel
theorem dX5_lay_104 : decode cX5_lay 104 = .ok (.goto 5, 3) := by decide +kernel
theorem dX5_lay_107 : decode cX5_lay 107 = .ok (.iload 7, 2) := by decide +kernel
theorem dX5_lay_109 : decode cX5_lay 109 = .ok (.iastore, 1) := by decide +kernel
theorem dX5_lay_110 : decode cX5_lay 110 = .ok (.iinc 6 1, 3) := by decide +kernel
theorem dX5_lay_113 : decode cX5_lay 113 = .ok (.goto (-54), 3) := by decide +kernel
theorem dX5_lay_116 : decode cX5_lay 116 = .ok (.aload_n 3, 1) := by decide +kernel
theorem dX5_lay_117 : decode cX5_lay 117 = .ok (.getfield 224, 3) := by decide +kernel
theorem dX5_lay_120 : decode cX5_lay 120 = .ok (.bipush 12, 2) := by decide +kernel
theorem dX5_lay_122 : decode cX5_lay 122 = .ok (.invokestatic 227, 3) := by decide +kernel
theorem dX5_lay_125 : decode cX5_lay 125 = .ok (.i2l, 1) := by decide +kernel
theorem dX5_lay_126 : decode cX5_lay 126 = .ok (.lreturn, 1) := by decide +kernel
theorem dX5_plan_0 : decode cX5_plan 0 = .ok (.iload_n 1, 1) := by decide +kernel
theorem dX5_plan_1 : decode cX5_plan 1 = .ok (.iconst 0, 1) := by decide +kernel
theorem dX5_plan_2 : decode cX5_plan 2 = .ok (.aload_n 0, 1) := by decide +kernel
theorem dX5_plan_3 : decode cX5_plan 3 = .ok (.getfield 9, 3) := by decide +kernel
theorem dX5_plan_6 : decode cX5_plan 6 = .ok (.iconst 5, 1) := by decide +kernel
theorem dX5_plan_7 : decode cX5_plan 7 = .ok (.iaload, 1) := by decide +kernel
theorem dX5_plan_8 : decode cX5_plan 8 = .ok (.invokestatic 64, 3) := by decide +kernel
theorem dX5_plan_11 : decode cX5_plan 11 = .ok (.ifCond .eq 7, 3) := by decide +kernel
theorem dX5_plan_14 : decode cX5_plan 14 = .ok (.ldc2_w 68, 3) := by decide +kernel
theorem dX5_plan_17 : decode cX5_plan 17 = .ok (.lreturn, 1) := by decide +kernel
theorem dX5_plan_18 : decode cX5_plan 18 = .ok (.aload_n 0, 1) := by decide +kernel
theorem dX5_plan_19 : decode cX5_plan 19 = .ok (.getfield 40, 3) := by decide +kernel
theorem dX5_plan_22 : decode cX5_plan 22 = .ok (.iload_n 1, 1) := by decide +kernel
theorem dX5_plan_23 : decode cX5_plan 23 = .ok (.aload_n 0, 1) := by decide +kernel
theorem dX5_plan_24 : decode cX5_plan 24 = .ok (.getfield 9, 3) := by decide +kernel
theorem dX5_plan_27 : decode cX5_plan 27 = .ok (.iconst 5, 1) := by decide +kernel
theorem dX5_plan_28 : decode cX5_plan 28 = .ok (.iaload, 1) := by decide +kernel
theorem dX5_plan_29 : decode cX5_plan 29 = .ok (.aload_n 0, 1) := by decide +kernel
theorem dX5_plan_30 : decode cX5_plan 30 = .ok (.getfield 9, 3) := by decide +kernel
theorem dX5_plan_33 : decode cX5_plan 33 = .ok (.bipush 6, 2) := by decide +kernel
theorem dX5_plan_35 : decode cX5_plan 35 = .ok (.iaload, 1) := by decide +kernel
theorem dX5_plan_36 : decode cX5_plan 36 = .ok (.invokevirtual 232, 3) := by decide +kernel
theorem dX5_plan_39 : decode cX5_plan 39 = .ok (.istore_n 2, 1) := by decide +kernel
theorem dX5_plan_40 : decode cX5_plan 40 = .ok (.iload_n 2, 1) := by decide +kernel
theorem dX5_plan_41 : decode cX5_plan 41 = .ok (.invokestatic 236, 3) := by decide +kernel
theorem dX5_plan_44 : decode cX5_plan 44 = .ok (.ifCond .eq 11, 3) := by decide +kernel
theorem dX5_plan_47 : decode cX5_plan 47 = .ok (.iload_n 2, 1) := by decide +kernel
theorem dX5_plan_48 : decode cX5_plan 48 = .ok (.invokestatic 239, 3) := by decide +kernel
theorem dX5_plan_51 : decode cX5_plan 51 = .ok (.i2l, 1) := by decide +kernel
theorem dX5_plan_52 : decode cX5_plan 52 = .ok (.goto 6, 3) := by decide +kernel
theorem dX5_plan_55 : decode cX5_plan 55 = .ok (.ldc2_w 109, 3) := by decide +kernel
theorem dX5_plan_58 : decode cX5_plan 58 = .ok (.lreturn, 1) := by decide +kernel
theorem dX5_runs_0 : decode cX5_runs 0 = .ok (.iload_n 1, 1) := by decide +kernel
theorem dX5_runs_1 : decode cX5_runs 1 = .ok (.iconst 0, 1) := by decide +kernel
theorem dX5_runs_2 : decode cX5_runs 2 = .ok (.aload_n 0, 1) := by decide +kernel
theorem dX5_runs_3 : decode cX5_runs 3 = .ok (.getfield 9, 3) := by decide +kernel
theorem dX5_runs_6 : decode cX5_runs 6 = .ok (.iconst 5, 1) := by decide +kernel
theorem dX5_runs_7 : decode cX5_runs 7 = .ok (.iaload, 1) := by decide +kernel
theorem dX5_runs_8 : decode cX5_runs 8 = .ok (.invokestatic 64, 3) := by decide +kernel
theorem dX5_runs_11 : decode cX5_runs 11 = .ok (.ifCond .eq 7, 3) := by decide +kernel
theorem dX5_runs_14 : decode cX5_runs 14 = .ok (.ldc2_w 68, 3) := by decide +kernel
theorem dX5_runs_17 : decode cX5_runs 17 = .ok (.lreturn, 1) := by decide +kernel
theorem dX5_runs_18 : decode cX5_runs 18 = .ok (.aload_n 0, 1) := by decide +kernel
theorem dX5_runs_19 : decode cX5_runs 19 = .ok (.getfield 40, 3) := by decide +kernel
theorem dX5_runs_22 : decode cX5_runs 22 = .ok (.iload_n 1, 1) := by decide +kernel
theorem dX5_runs_23 : decode cX5_runs 23 = .ok (.aload_n 0, 1) := by decide +kernel
theorem dX5_runs_24 : decode cX5_runs 24 = .ok (.getfield 9, 3) := by decide +kernel
theorem dX5_runs_27 : decode cX5_runs 27 = .ok (.iconst 5, 1) := by decide +kernel
theorem dX5_runs_28 : decode cX5_runs 28 = .ok (.iaload, 1) := by decide +kernel
theorem dX5_runs_29 : decode cX5_runs 29 = .ok (.aload_n 0, 1) := by decide +kernel
theorem dX5_runs_30 : decode cX5_runs 30 = .ok (.getfield 9, 3) := by decide +kernel
theorem dX5_runs_33 : decode cX5_runs 33 = .ok (.bipush 6, 2) := by decide +kernel
theorem dX5_runs_35 : decode cX5_runs 35 = .ok (.iaload, 1) := by decide +kernel
theorem dX5_runs_36 : decode cX5_runs 36 = .ok (.invokevirtual 232, 3) := by decide +kernel
theorem dX5_runs_39 : decode cX5_runs 39 = .ok (.istore_n 2, 1) := by decide +kernel
theorem dX5_runs_40 : decode cX5_runs 40 = .ok (.iload_n 2, 1) := by decide +kernel
theorem dX5_runs_41 : decode cX5_runs 41 = .ok (.invokestatic 236, 3) := by decide +kernel
theorem dX5_runs_44 : decode cX5_runs 44 = .ok (.ifCond .eq 11, 3) := by decide +kernel
theorem dX5_runs_47 : decode cX5_runs 47 = .ok (.iload_n 2, 1) := by decide +kernel
theorem dX5_runs_48 : decode cX5_runs 48 = .ok (.invokestatic 242, 3) := by decide +kernel
theorem dX5_runs_51 : decode cX5_runs 51 = .ok (.i2l, 1) := by decide +kernel
theorem dX5_runs_52 : decode cX5_runs 52 = .ok (.goto 6, 3) := by decide +kernel
theorem dX5_runs_55 : decode cX5_runs 55 = .ok (.ldc2_w 109, 3) := by decide +kernel
theorem dX5_runs_58 : decode cX5_runs 58 = .ok (.lreturn, 1) := by decide +kernel
theorem dX5_tank_0 : decode cX5_tank 0 = .ok (.iload_n 1, 1) := by decide +kernel
theorem dX5_tank_1 : decode cX5_tank 1 = .ok (.iconst 0, 1) := by decide +kernel
theorem dX5_tank_2 : decode cX5_tank 2 = .ok (.aload_n 0, 1) := by decide +kernel
theorem dX5_tank_3 : decode cX5_tank 3 = .ok (.getfield 9, 3) := by decide +kernel
theorem dX5_tank_6 : decode cX5_tank 6 = .ok (.iconst 5, 1) := by decide +kernel
theorem dX5_tank_7 : decode cX5_tank 7 = .ok (.iaload, 1) := by decide +kernel
theorem dX5_tank_8 : decode cX5_tank 8 = .ok (.invokestatic 64, 3) := by decide +kernel
theorem dX5_tank_11 : decode cX5_tank 11 = .ok (.ifCond .ne 13, 3) := by decide +kernel
theorem dX5_tank_14 : decode cX5_tank 14 = .ok (.iload_n 2, 1) := by decide +kernel
theorem dX5_tank_15 : decode cX5_tank 15 = .ok (.iconst 0, 1) := by decide +kernel
theorem dX5_tank_16 : decode cX5_tank 16 = .ok (.bipush 11, 2) := by decide +kernel
theorem dX5_tank_18 : decode cX5_tank 18 = .ok (.invokestatic 64, 3) := by decide +kernel
theorem dX5_tank_21 : decode cX5_tank 21 = .ok (.ifCond .eq 7, 3) := by decide +kernel
theorem dX5_tank_24 : decode cX5_tank 24 = .ok (.ldc2_w 68, 3) := by decide +kernel
theorem dX5_tank_27 : decode cX5_tank 27 = .ok (.lreturn, 1) := by decide +kernel
theorem dX5_tank_28 : decode cX5_tank 28 = .ok (.aload_n 0, 1) := by decide +kernel
theorem dX5_tank_29 : decode cX5_tank 29 = .ok (.getfield 40, 3) := by decide +kernel
theorem dX5_tank_32 : decode cX5_tank 32 = .ok (.iload_n 1, 1) := by decide +kernel
theorem dX5_tank_33 : decode cX5_tank 33 = .ok (.aload_n 0, 1) := by decide +kernel
theorem dX5_tank_34 : decode cX5_tank 34 = .ok (.getfield 9, 3) := by decide +kernel
theorem dX5_tank_37 : decode cX5_tank 37 = .ok (.iconst 5, 1) := by decide +kernel
theorem dX5_tank_38 : decode cX5_tank 38 = .ok (.iaload, 1) := by decide +kernel
theorem dX5_tank_39 : decode cX5_tank 39 = .ok (.aload_n 0, 1) := by decide +kernel
theorem dX5_tank_40 : decode cX5_tank 40 = .ok (.getfield 9, 3) := by decide +kernel
theorem dX5_tank_43 : decode cX5_tank 43 = .ok (.bipush 6, 2) := by decide +kernel
theorem dX5_tank_45 : decode cX5_tank 45 = .ok (.iaload, 1) := by decide +kernel
theorem dX5_tank_46 : decode cX5_tank 46 = .ok (.invokevirtual 232, 3) := by decide +kernel
theorem dX5_tank_49 : decode cX5_tank 49 = .ok (.istore_n 3, 1) := by decide +kernel
theorem dX5_tank_50 : decode cX5_tank 50 = .ok (.iload_n 3, 1) := by decide +kernel
theorem dX5_tank_51 : decode cX5_tank 51 = .ok (.invokestatic 236, 3) := by decide +kernel
theorem dX5_tank_54 : decode cX5_tank 54 = .ok (.ifCond .ne 7, 3) := by decide +kernel
theorem dX5_tank_57 : decode cX5_tank 57 = .ok (.ldc2_w 109, 3) := by decide +kernel
theorem dX5_tank_60 : decode cX5_tank 60 = .ok (.lreturn, 1) := by decide +kernel
theorem dX5_tank_61 : decode cX5_tank 61 = .ok (.iload_n 1, 1) := by decide +kernel
theorem dX5_tank_62 : decode cX5_tank 62 = .ok (.istore 4, 2) := by decide +kernel
theorem dX5_tank_64 : decode cX5_tank 64 = .ok (.iconst 0, 1) := by decide +kernel
theorem dX5_tank_65 : decode cX5_tank 65 = .ok (.istore 5, 2) := by decide +kernel
theorem dX5_tank_67 : decode cX5_tank 67 = .ok (.iload 5, 2) := by decide +kernel
theorem dX5_tank_69 : decode cX5_tank 69 = .ok (.iload_n 2, 1) := by decide +kernel
theorem dX5_tank_70 : decode cX5_tank 70 = .ok (.if_icmp .gt 49, 3) := by decide +kernel
theorem dX5_tank_73 : decode cX5_tank 73 = .ok (.aload_n 0, 1) := by decide +kernel
theorem dX5_tank_74 : decode cX5_tank 74 = .ok (.getfield 40, 3) := by decide +kernel
theorem dX5_tank_77 : decode cX5_tank 77 = .ok (.iload 5, 2) := by decide +kernel
theorem dX5_tank_79 : decode cX5_tank 79 = .ok (.iload 4, 2) := by decide +kernel
theorem dX5_tank_81 : decode cX5_tank 81 = .ok (.iload_n 3, 1) := by decide +kernel
theorem dX5_tank_82 : decode cX5_tank 82 = .ok (.iload 5, 2) := by decide +kernel
theorem dX5_tank_84 : decode cX5_tank 84 = .ok (.invokestatic 245, 3) := by decide +kernel
theorem dX5_tank_87 : decode cX5_tank 87 = .ok (.ifCond .eq 13, 3) := by decide +kernel
theorem dX5_tank_90 : decode cX5_tank 90 = .ok (.aload_n 0, 1) := by decide +kernel
theorem dX5_tank_91 : decode cX5_tank 91 = .ok (.getfield 9, 3) := by decide +kernel
theorem dX5_tank_94 : decode cX5_tank 94 = .ok (.bipush 6, 2) := by decide +kernel
theorem dX5_tank_96 : decode cX5_tank 96 = .ok (.iaload, 1) := by decide +kernel
theorem dX5_tank_97 : decode cX5_tank 97 = .ok (.goto 4, 3) := by decide +kernel
theorem dX5_tank_100 : decode cX5_tank 100 = .ok (.iconst 0, 1) := by decide +kernel
theorem dX5_tank_101 : decode cX5_tank 101 = .ok (.iadd, 1) := by decide +kernel
theorem dX5_tank_102 : decode cX5_tank 102 = .ok (.aload_n 0, 1) := by decide +kernel
theorem dX5_tank_103 : decode cX5_tank 103 = .ok (.getfield 9, 3) := by decide +kernel
theorem dX5_tank_106 : decode cX5_tank 106 = .ok (.iconst 5, 1) := by decide +kernel
theorem dX5_tank_107 : decode cX5_tank 107 = .ok (.iaload, 1) := by decide +kernel
theorem dX5_tank_108 : decode cX5_tank 108 = .ok (.invokevirtual 248, 3) := by decide +kernel
theorem dX5_tank_111 : decode cX5_tank 111 = .ok (.istore 4, 2) := by decide +kernel
theorem dX5_tank_113 : decode cX5_tank 113 = .ok (.iinc 5 1, 3) := by decide +kernel
theorem dX5_tank_116 : decode cX5_tank 116 = .ok (.goto (-49), 3) := by decide +kernel
theorem dX5_tank_119 : decode cX5_tank 119 = .ok (.iload 4, 2) := by decide +kernel
theorem dX5_tank_121 : decode cX5_tank 121 = .ok (.i2l, 1) := by decide +kernel
theorem dX5_tank_122 : decode cX5_tank 122 = .ok (.lreturn, 1) := by decide +kernel
theorem dX5_joint_0 : decode cX5_joint 0 = .ok (.iload_n 1, 1) := by decide +kernel
theorem dX5_joint_1 : decode cX5_joint 1 = .ok (.iconst 0, 1) := by decide +kernel
theorem dX5_joint_2 : decode cX5_joint 2 = .ok (.bipush 30, 2) := by decide +kernel
theorem dX5_joint_4 : decode cX5_joint 4 = .ok (.invokestatic 64, 3) := by decide +kernel
theorem dX5_joint_7 : decode cX5_joint 7 = .ok (.ifCond .eq 7, 3) := by decide +kernel
theorem dX5_joint_10 : decode cX5_joint 10 = .ok (.iconst (-1), 1) := by decide +kernel
theorem dX5_joint_11 : decode cX5_joint 11 = .ok (.goto 10, 3) := by decide +kernel
theorem dX5_joint_14 : decode cX5_joint 14 = .ok (.bipush 10, 2) := by decide +kernel
theorem dX5_joint_16 : decode cX5_joint 16 = .ok (.iload_n 1, 1) := by decide +kernel
theorem dX5_joint_17 : decode cX5_joint 17 = .ok (.imul, 1) := by decide +kernel
theorem dX5_joint_18 : decode cX5_joint 18 = .ok (.invokestatic 76, 3) := by decide +kernel
theorem dX5_joint_21 : decode cX5_joint 21 = .ok (.istore 4, 2) := by decide +kernel
theorem dX5_joint_23 : decode cX5_joint 23 = .ok (.iload 4, 2) := by decide +kernel
theorem dX5_joint_25 : decode cX5_joint 25 = .ok (.ifCond .lt 23, 3) := by decide +kernel
theorem dX5_joint_28 : decode cX5_joint 28 = .ok (.iload_n 2, 1) := by decide +kernel
theorem dX5_joint_29 : decode cX5_joint 29 = .ok (.iconst 0, 1) := by decide +kernel
theorem dX5_joint_30 : decode cX5_joint 30 = .ok (.iconst 1, 1) := by decide +kernel
theorem dX5_joint_31 : decode cX5_joint 31 = .ok (.invokestatic 64, 3) := by decide +kernel
theorem dX5_joint_34 : decode cX5_joint 34 = .ok (.ifCond .ne 14, 3) := by decide +kernel
theorem dX5_joint_37 : decode cX5_joint 37 = .ok (.iload_n 3, 1) := by decide +kernel
theorem dX5_joint_38 : decode cX5_joint 38 = .ok (.iconst 0, 1) := by decide +kernel
theorem dX5_joint_39 : decode cX5_joint 39 = .ok (.sipush 9999, 3) := by decide +kernel
theorem dX5_joint_42 : decode cX5_joint 42 = .ok (.invokestatic 64, 3) := by decide +kernel
theorem dX5_joint_45 : decode cX5_joint 45 = .ok (.ifCond .eq 7, 3) := by decide +kernel
theorem dX5_joint_48 : decode cX5_joint 48 = .ok (.ldc2_w 68, 3) := by decide +kernel
theorem dX5_joint_51 : decode cX5_joint 51 = .ok (.lreturn, 1) := by decide +kernel
theorem dX5_joint_52 : decode cX5_joint 52 = .ok (.aload_n 0, 1) := by decide +kernel
theorem dX5_joint_53 : decode cX5_joint 53 = .ok (.getfield 16, 3) := by decide +kernel
theorem dX5_joint_56 : decode cX5_joint 56 = .ok (.iload 4, 2) := by decide +kernel
theorem dX5_joint_58 : decode cX5_joint 58 = .ok (.invokevirtual 105, 3) := by decide +kernel
theorem dX5_joint_61 : decode cX5_joint 61 = .ok (.ifCond .ne 7, 3) := by decide +kernel
theorem dX5_joint_64 : decode cX5_joint 64 = .ok (.ldc2_w 109, 3) := by decide +kernel
theorem dX5_joint_67 : decode cX5_joint 67 = .ok (.lreturn, 1) := by decide +kernel
theorem dX5_joint_68 : decode cX5_joint 68 = .ok (.aload_n 0, 1) := by decide +kernel
theorem dX5_joint_69 : decode cX5_joint 69 = .ok (.getfield 47, 3) := by decide +kernel
theorem dX5_joint_72 : decode cX5_joint 72 = .ok (.iload_n 2, 1) := by decide +kernel
theorem dX5_joint_73 : decode cX5_joint 73 = .ok (.aaload, 1) := by decide +kernel
theorem dX5_joint_74 : decode cX5_joint 74 = .ok (.astore 5, 2) := by decide +kernel
theorem dX5_joint_76 : decode cX5_joint 76 = .ok (.aload 5, 2) := by decide +kernel
theorem dX5_joint_78 : decode cX5_joint 78 = .ok (.invokevirtual 211, 3) := by decide +kernel
theorem dX5_joint_81 : decode cX5_joint 81 = .ok (.ifCond .eq 7, 3) := by decide +kernel
theorem dX5_joint_84 : decode cX5_joint 84 = .ok (.ldc2_w 215, 3) := by decide +kernel
theorem dX5_joint_87 : decode cX5_joint 87 = .ok (.lreturn, 1) := by decide +kernel
theorem dX5_joint_88 : decode cX5_joint 88 = .ok (.aload_n 0, 1) := by decide +kernel
theorem dX5_joint_89 : decode cX5_joint 89 = .ok (.invokevirtual 111, 3) := by decide +kernel
theorem dX5_joint_92 : decode cX5_joint 92 = .ok (.iconst 0, 1) := by decide +kernel
theorem dX5_joint_93 : decode cX5_joint 93 = .ok (.istore 6, 2) := by decide +kernel
theorem dX5_joint_95 : decode cX5_joint 95 = .ok (.iload 6, 2) := by decide +kernel
theorem dX5_joint_97 : decode cX5_joint 97 = .ok (.aload_n 0, 1) := by decide +kernel
theorem dX5_joint_98 : decode cX5_joint 98 = .ok (.getfield 16, 3) := by decide +kernel
theorem dX5_joint_101 : decode cX5_joint 101 = .ok (.getfield 73, 3) := by decide +kernel
theorem dX5_joint_104 : decode cX5_joint 104 = .ok (.if_icmp .ge 52, 3) := by decide +kernel
theorem dX5_joint_107 : decode cX5_joint 107 = .ok (.aload 5, 2) := by decide +kernel
theorem dX5_joint_109 : decode cX5_joint 109 = .ok (.iload 6, 2) := by decide +kernel
theorem dX5_joint_111 : decode cX5_joint 111 = .ok (.invokevirtual 217, 3) := by decide +kernel
theorem dX5_joint_114 : decode cX5_joint 114 = .ok (.ifCond .eq 42, 3) := by decide +kernel
theorem dX5_joint_117 : decode cX5_joint 117 = .ok (.aload 5, 2) := by decide +kernel
theorem dX5_joint_119 : decode cX5_joint 119 = .ok (.getfield 220, 3) := by decide +kernel
theorem dX5_joint_122 : decode cX5_joint 122 = .ok (.iload 6, 2) := by decide +kernel
theorem dX5_joint_124 : decode cX5_joint 124 = .ok (.saload, 1) := by decide +kernel
theorem dX5_joint_125 : decode cX5_joint 125 = .ok (.i2l, 1) := by decide +kernel
theorem dX5_joint_126 : decode cX5_joint 126 = .ok (.aload_n 0, 1) := by decide +kernel
theorem dX5_joint_127 : decode cX5_joint 127 = .ok (.getfield 33, 3) := by decide +kernel
theorem dX5_joint_130 : decode cX5_joint 130 = .ok (.getfield 251, 3) := by decide +kernel
theorem dX5_joint_133 : decode cX5_joint 133 = .ok (.iload 4, 2) := by decide +kernel
theorem dX5_joint_135 : decode cX5_joint 135 = .ok (.iload 6, 2) := by decide +kernel
theorem dX5_joint_137 : decode cX5_joint 137 = .ok (.iadd, 1) := by decide +kernel
theorem dX5_joint_138 : decode cX5_joint 138 = .ok (.laload, 1) := by decide +kernel
theorem dX5_joint_139 : decode cX5_joint 139 = .ok (.lsub, 1) := by decide +kernel
theorem dX5_joint_140 : decode cX5_joint 140 = .ok (.iload_n 3, 1) := by decide +kernel
theorem dX5_joint_141 : decode cX5_joint 141 = .ok (.i2l, 1) := by decide +kernel
theorem dX5_joint_142 : decode cX5_joint 142 = .ok (.lcmp, 1) := by decide +kernel
theorem dX5_joint_143 : decode cX5_joint 143 = .ok (.ifCond .le 7, 3) := by decide +kernel
theorem dX5_joint_146 : decode cX5_joint 146 = .ok (.iload 6, 2) := by decide +kernel
theorem dX5_joint_148 : decode cX5_joint 148 = .ok (.i2l, 1) := by decide +kernel
theorem dX5_joint_149 : decode cX5_joint 149 = .ok (.lreturn, 1) := by decide +kernel
theorem dX5_joint_150 : decode cX5_joint 150 = .ok (.iinc 6 1, 3) := by decide +kernel
theorem dX5_joint_153 : decode cX5_joint 153 = .ok (.goto (-58), 3) := by decide +kernel
theorem dX5_joint_156 : decode cX5_joint 156 = .ok (.ldc2_w 170, 3) := by decide +kernel
theorem dX5_joint_159 : decode cX5_joint 159 = .ok (.lreturn, 1) := by decide +kernel
theorem dX5_sheet_0 : decode cX5_sheet 0 = .ok (.iload_n 1, 1) := by decide +kernel
theorem dX5_sheet_1 : decode cX5_sheet 1 = .ok (.iconst 0, 1) := by decide +kernel
theorem dX5_sheet_2 : decode cX5_sheet 2 = .ok (.iconst 1, 1) := by decide +kernel
theorem dX5_sheet_3 : decode cX5_sheet 3 = .ok (.invokestatic 64, 3) := by decide +kernel
theorem dX5_sheet_6 : decode cX5_sheet 6 = .ok (.ifCond .ne 9, 3) := by decide +kernel
theorem dX5_sheet_9 : decode cX5_sheet 9 = .ok (.iload_n 2, 1) := by decide +kernel
theorem dX5_sheet_10 : decode cX5_sheet 10 = .ok (.bipush 24, 2) := by decide +kernel
theorem dX5_sheet_12 : decode cX5_sheet 12 = .ok (.if_icmp .le 7, 3) := by decide +kernel
theorem dX5_sheet_15 : decode cX5_sheet 15 = .ok (.ldc2_w 68, 3) := by decide +kernel
theorem dX5_sheet_18 : decode cX5_sheet 18 = .ok (.lreturn, 1) := by decide +kernel
theorem dX5_sheet_19 : decode cX5_sheet 19 = .ok (.iload_n 2, 1) := by decide +kernel
theorem dX5_sheet_20 : decode cX5_sheet 20 = .ok (.ifCond .ge 7, 3) := by decide +kernel
theorem dX5_sheet_23 : decode cX5_sheet 23 = .ok (.ldc2_w 254, 3) := by decide +kernel
theorem dX5_sheet_26 : decode cX5_sheet 26 = .ok (.lreturn, 1) := by decide +kernel
theorem dX5_sheet_27 : decode cX5_sheet 27 = .ok (.aload_n 0, 1) := by decide +kernel
theorem dX5_sheet_28 : decode cX5_sheet 28 = .ok (.getfield 47, 3) := by decide +kernel
theorem dX5_sheet_31 : decode cX5_sheet 31 = .ok (.iload_n 1, 1) := by decide +kernel
theorem dX5_sheet_32 : decode cX5_sheet 32 = .ok (.aaload, 1) := by decide +kernel
theorem dX5_sheet_33 : decode cX5_sheet 33 = .ok (.iload_n 2, 1) := by decide +kernel
theorem dX5_sheet_34 : decode cX5_sheet 34 = .ok (.invokevirtual 256, 3) := by decide +kernel
theorem dX5_sheet_37 : decode cX5_sheet 37 = .ok (.iload_n 2, 1) := by decide +kernel
theorem dX5_sheet_38 : decode cX5_sheet 38 = .ok (.i2l, 1) := by decide +kernel
theorem dX5_sheet_39 : decode cX5_sheet 39 = .ok (.lreturn, 1) := by decide +kernel
theorem dX5_mark_0 : decode cX5_mark 0 = .ok (.iload_n 1, 1) := by decide +kernel
theorem dX5_mark_1 : decode cX5_mark 1 = .ok (.iconst 0, 1) := by decide +kernel
theorem dX5_mark_2 : decode cX5_mark 2 = .ok (.iconst 1, 1) := by decide +kernel
theorem dX5_mark_3 : decode cX5_mark 3 = .ok (.invokestatic 64, 3) := by decide +kernel
theorem dX5_mark_6 : decode cX5_mark 6 = .ok (.ifCond .eq 7, 3) := by decide +kernel
theorem dX5_mark_9 : decode cX5_mark 9 = .ok (.ldc2_w 68, 3) := by decide +kernel
theorem dX5_mark_12 : decode cX5_mark 12 = .ok (.lreturn, 1) := by decide +kernel
theorem dX5_mark_13 : decode cX5_mark 13 = .ok (.aload_n 0, 1) := by decide +kernel
theorem dX5_mark_14 : decode cX5_mark 14 = .ok (.getfield 47, 3) := by decide +kernel
theorem dX5_mark_17 : decode cX5_mark 17 = .ok (.iload_n 1, 1) := by decide +kernel
theorem dX5_mark_18 : decode cX5_mark 18 = .ok (.aaload, 1) := by decide +kernel
theorem dX5_mark_19 : decode cX5_mark 19 = .ok (.invokevirtual 211, 3) := by decide +kernel
theorem dX5_mark_22 : decode cX5_mark 22 = .ok (.ifCond .eq 7, 3) := by decide +kernel
theorem dX5_mark_25 : decode cX5_mark 25 = .ok (.ldc2_w 215, 3) := by decide +kernel
theorem dX5_mark_28 : decode cX5_mark 28 = .ok (.lreturn, 1) := by decide +kernel
theorem dX5_mark_29 : decode cX5_mark 29 = .ok (.aload_n 0, 1) := by decide +kernel
theorem dX5_mark_30 : decode cX5_mark 30 = .ok (.getfield 47, 3) := by decide +kernel
theorem dX5_mark_33 : decode cX5_mark 33 = .ok (.iload_n 1, 1) := by decide +kernel
theorem dX5_mark_34 : decode cX5_mark 34 = .ok (.aaload, 1) := by decide +kernel
theorem dX5_mark_35 : decode cX5_mark 35 = .ok (.iload_n 2, 1) := by decide +kernel
theorem dX5_mark_36 : decode cX5_mark 36 = .ok (.invokevirtual 217, 3) := by decide +kernel
theorem dX5_mark_39 : decode cX5_mark 39 = .ok (.ifCond .ne 7, 3) := by decide +kernel
theorem dX5_mark_42 : decode cX5_mark 42 = .ok (.ldc2_w 260, 3) := by decide +kernel
theorem dX5_mark_45 : decode cX5_mark 45 = .ok (.lreturn, 1) := by decide +kernel
theorem dX5_mark_46 : decode cX5_mark 46 = .ok (.aload_n 0, 1) := by decide +kernel
theorem dX5_mark_47 : decode cX5_mark 47 = .ok (.getfield 47, 3) := by decide +kernel
theorem dX5_mark_50 : decode cX5_mark 50 = .ok (.iload_n 1, 1) := by decide +kernel
theorem dX5_mark_51 : decode cX5_mark 51 = .ok (.aaload, 1) := by decide +kernel
theorem dX5_mark_52 : decode cX5_mark 52 = .ok (.getfield 220, 3) := by decide +kernel
theorem dX5_mark_55 : decode cX5_mark 55 = .ok (.iload_n 2, 1) := by decide +kernel
theorem dX5_mark_56 : decode cX5_mark 56 = .ok (.saload, 1) := by decide +kernel
theorem dX5_mark_57 : decode cX5_mark 57 = .ok (.istore 4, 2) := by decide +kernel
theorem dX5_mark_59 : decode cX5_mark 59 = .ok (.aload_n 0, 1) := by decide +kernel
theorem dX5_mark_60 : decode cX5_mark 60 = .ok (.getfield 47, 3) := by decide +kernel
theorem dX5_mark_63 : decode cX5_mark 63 = .ok (.iload_n 1, 1) := by decide +kernel
theorem dX5_mark_64 : decode cX5_mark 64 = .ok (.aaload, 1) := by decide +kernel
theorem dX5_mark_65 : decode cX5_mark 65 = .ok (.getfield 220, 3) := by decide +kernel
theorem dX5_mark_68 : decode cX5_mark 68 = .ok (.iload_n 2, 1) := by decide +kernel
theorem dX5_mark_69 : decode cX5_mark 69 = .ok (.iload_n 3, 1) := by decide +kernel
theorem dX5_mark_70 : decode cX5_mark 70 = .ok (.i2s, 1) := by decide +kernel
theorem dX5_mark_71 : decode cX5_mark 71 = .ok (.sastore, 1) := by decide +kernel
theorem dX5_mark_72 : decode cX5_mark 72 = .ok (.iload 4, 2) := by decide +kernel
theorem dX5_mark_74 : decode cX5_mark 74 = .ok (.i2l, 1) := by decide +kernel
theorem dX5_mark_75 : decode cX5_mark 75 = .ok (.lreturn, 1) := by decide +kernel
theorem dX5_copy_0 : decode cX5_copy 0 = .ok (.iload_n 1, 1) := by decide +kernel
theorem dX5_copy_1 : decode cX5_copy 1 = .ok (.iconst 0, 1) := by decide +kernel
theorem dX5_copy_2 : decode cX5_copy 2 = .ok (.iconst 1, 1) := by decide +kernel
theorem dX5_copy_3 : decode cX5_copy 3 = .ok (.invokestatic 64, 3) := by decide +kernel
theorem dX5_copy_6 : decode cX5_copy 6 = .ok (.ifCond .ne 12, 3) := by decide +kernel
theorem dX5_copy_9 : decode cX5_copy 9 = .ok (.iload_n 3, 1) := by decide +kernel
theorem dX5_copy_10 : decode cX5_copy 10 = .ok (.iconst 0, 1) := by decide +kernel
theorem dX5_copy_11 : decode cX5_copy 11 = .ok (.iconst 1, 1) := by decide +kernel
theorem dX5_copy_12 : decode cX5_copy 12 = .ok (.invokestatic 64, 3) := by decide +kernel
theorem dX5_copy_15 : decode cX5_copy 15 = .ok (.ifCond .eq 7, 3) := by decide +kernel
theorem dX5_copy_18 : decode cX5_copy 18 = .ok (.ldc2_w 68, 3) := by decide +kernel
theorem dX5_copy_21 : decode cX5_copy 21 = .ok (.lreturn, 1) := by decide +kernel
theorem dX5_copy_22 : decode cX5_copy 22 = .ok (.aload_n 0, 1) := by decide +kernel
theorem dX5_copy_23 : decode cX5_copy 23 = .ok (.getfield 47, 3) := by decide +kernel
theorem dX5_copy_26 : decode cX5_copy 26 = .ok (.iload_n 1, 1) := by decide +kernel
theorem dX5_copy_27 : decode cX5_copy 27 = .ok (.aaload, 1) := by decide +kernel
theorem dX5_copy_28 : decode cX5_copy 28 = .ok (.invokevirtual 211, 3) := by decide +kernel
theorem dX5_copy_31 : decode cX5_copy 31 = .ok (.ifCond .ne 15, 3) := by decide +kernel
theorem dX5_copy_34 : decode cX5_copy 34 = .ok (.aload_n 0, 1) := by decide +kernel
theorem dX5_copy_35 : decode cX5_copy 35 = .ok (.getfield 47, 3) := by decide +kernel
theorem dX5_copy_38 : decode cX5_copy 38 = .ok (.iload_n 3, 1) := by decide +kernel
theorem dX5_copy_39 : decode cX5_copy 39 = .ok (.aaload, 1) := by decide +kernel
theorem dX5_copy_40 : decode cX5_copy 40 = .ok (.invokevirtual 211, 3) := by decide +kernel
theorem dX5_copy_43 : decode cX5_copy 43 = .ok (.ifCond .eq 7, 3) := by decide +kernel
theorem dX5_copy_46 : decode cX5_copy 46 = .ok (.ldc2_w 215, 3) := by decide +kernel
theorem dX5_copy_49 : decode cX5_copy 49 = .ok (.lreturn, 1) := by decide +kernel
theorem dX5_copy_50 : decode cX5_copy 50 = .ok (.aload_n 0, 1) := by decide +kernel
theorem dX5_copy_51 : decode cX5_copy 51 = .ok (.getfield 47, 3) := by decide +kernel
theorem dX5_copy_54 : decode cX5_copy 54 = .ok (.iload_n 1, 1) := by decide +kernel
theorem dX5_copy_55 : decode cX5_copy 55 = .ok (.aaload, 1) := by decide +kernel
theorem dX5_copy_56 : decode cX5_copy 56 = .ok (.iload_n 2, 1) := by decide +kernel
theorem dX5_copy_57 : decode cX5_copy 57 = .ok (.iload 5, 2) := by decide +kernel
theorem dX5_copy_59 : decode cX5_copy 59 = .ok (.invokevirtual 262, 3) := by decide +kernel
theorem dX5_copy_62 : decode cX5_copy 62 = .ok (.ifCond .eq 19, 3) := by decide +kernel
theorem dX5_copy_65 : decode cX5_copy 65 = .ok (.aload_n 0, 1) := by decide +kernel
theorem dX5_copy_66 : decode cX5_copy 66 = .ok (.getfield 47, 3) := by decide +kernel
theorem dX5_copy_69 : decode cX5_copy 69 = .ok (.iload_n 3, 1) := by decide +kernel
theorem dX5_copy_70 : decode cX5_copy 70 = .ok (.aaload, 1) := by decide +kernel
theorem dX5_copy_71 : decode cX5_copy 71 = .ok (.iload 4, 2) := by decide +kernel
theorem dX5_copy_73 : decode cX5_copy 73 = .ok (.iload 5, 2) := by decide +kernel
theorem dX5_copy_75 : decode cX5_copy 75 = .ok (.invokevirtual 262, 3) := by decide +kernel
theorem dX5_copy_78 : decode cX5_copy 78 = .ok (.ifCond .ne 7, 3) := by decide +kernel
theorem dX5_copy_81 : decode cX5_copy 81 = .ok (.ldc2_w 260, 3) := by decide +kernel
theorem dX5_copy_84 : decode cX5_copy 84 = .ok (.lreturn, 1) := by decide +kernel
theorem dX5_copy_85 : decode cX5_copy 85 = .ok (.aload_n 0, 1) := by decide +kernel
theorem dX5_copy_86 : decode cX5_copy 86 = .ok (.getfield 47, 3) := by decide +kernel
theorem dX5_copy_89 : decode cX5_copy 89 = .ok (.iload_n 1, 1) := by decide +kernel
theorem dX5_copy_90 : decode cX5_copy 90 = .ok (.aaload, 1) := by decide +kernel
theorem dX5_copy_91 : decode cX5_copy 91 = .ok (.getfield 220, 3) := by decide +kernel
theorem dX5_copy_94 : decode cX5_copy 94 = .ok (.iload_n 2, 1) := by decide +kernel
theorem dX5_copy_95 : decode cX5_copy 95 = .ok (.aload_n 0, 1) := by decide +kernel
theorem dX5_copy_96 : decode cX5_copy 96 = .ok (.getfield 47, 3) := by decide +kernel
theorem dX5_copy_99 : decode cX5_copy 99 = .ok (.iload_n 3, 1) := by decide +kernel
theorem dX5_copy_100 : decode cX5_copy 100 = .ok (.aaload, 1) := by decide +kernel
theorem dX5_copy_101 : decode cX5_copy 101 = .ok (.getfield 220, 3) := by decide +kernel
theorem dX5_copy_104 : decode cX5_copy 104 = .ok (.iload 4, 2) := by decide +kernel
theorem dX5_copy_106 : decode cX5_copy 106 = .ok (.iload 5, 2) := by decide +kernel
theorem dX5_copy_108 : decode cX5_copy 108 = .ok (.invokestatic 265, 3) := by decide +kernel
theorem dX5_copy_111 : decode cX5_copy 111 = .ok (.iload 5, 2) := by decide +kernel
theorem dX5_copy_113 : decode cX5_copy 113 = .ok (.i2l, 1) := by decide +kernel
theorem dX5_copy_114 : decode cX5_copy 114 = .ok (.lreturn, 1) := by decide +kernel
theorem dX5_count_0 : decode cX5_count 0 = .ok (.iload_n 1, 1) := by decide +kernel
theorem dX5_count_1 : decode cX5_count 1 = .ok (.tableswitch 101 0 3 #[31, 40, 58, 64], 31) := by decide +kernel
theorem dX5_count_32 : decode cX5_count 32 = .ok (.aload_n 0, 1) := by decide +kernel
theorem dX5_count_33 : decode cX5_count 33 = .ok (.getfield 16, 3) := by decide +kernel
theorem dX5_count_36 : decode cX5_count 36 = .ok (.invokevirtual 271, 3) := by decide +kernel
theorem dX5_count_39 : decode cX5_count 39 = .ok (.i2l, 1) := by decide +kernel
theorem dX5_count_40 : decode cX5_count 40 = .ok (.lreturn, 1) := by decide +kernel
theorem dX5_count_41 : decode cX5_count 41 = .ok (.aload_n 0, 1) := by decide +kernel
theorem dX5_count_42 : decode cX5_count 42 = .ok (.getfield 16, 3) := by decide +kernel
theorem dX5_count_45 : decode cX5_count 45 = .ok (.invokevirtual 271, 3) := by decide +kernel
theorem dX5_count_48 : decode cX5_count 48 = .ok (.i2l, 1) := by decide +kernel
theorem dX5_count_49 : decode cX5_count 49 = .ok (.aload_n 0, 1) := by decide +kernel
theorem dX5_count_50 : decode cX5_count 50 = .ok (.getfield 16, 3) := by decide +kernel
theorem dX5_count_53 : decode cX5_count 53 = .ok (.getfield 73, 3) := by decide +kernel
theorem dX5_count_56 : decode cX5_count 56 = .ok (.i2l, 1) := by decide +kernel
theorem dX5_count_57 : decode cX5_count 57 = .ok (.lmul, 1) := by decide +kernel
theorem dX5_count_58 : decode cX5_count 58 = .ok (.lreturn, 1) := by decide +kernel
theorem dX5_count_59 : decode cX5_count 59 = .ok (.aload_n 0, 1) := by decide +kernel
theorem dX5_count_60 : decode cX5_count 60 = .ok (.getfield 61, 3) := by decide +kernel
theorem dX5_count_63 : decode cX5_count 63 = .ok (.i2l, 1) := by decide +kernel
theorem dX5_count_64 : decode cX5_count 64 = .ok (.lreturn, 1) := by decide +kernel
theorem dX5_count_65 : decode cX5_count 65 = .ok (.aload_n 0, 1) := by decide +kernel
theorem dX5_count_66 : decode cX5_count 66 = .ok (.getfield 47, 3) := by decide +kernel
theorem dX5_count_69 : decode cX5_count 69 = .ok (.iconst 0, 1) := by decide +kernel
theorem dX5_count_70 : decode cX5_count 70 = .ok (.aaload, 1) := by decide +kernel
theorem dX5_count_71 : decode cX5_count 71 = .ok (.invokevirtual 211, 3) := by decide +kernel
theorem dX5_count_74 : decode cX5_count 74 = .ok (.ifCond .eq 7, 3) := by decide +kernel
theorem dX5_count_77 : decode cX5_count 77 = .ok (.iconst 0, 1) := by decide +kernel
theorem dX5_count_78 : decode cX5_count 78 = .ok (.goto 4, 3) := by decide +kernel
theorem dX5_count_81 : decode cX5_count 81 = .ok (.iconst 1, 1) := by decide +kernel
theorem dX5_count_82 : decode cX5_count 82 = .ok (.aload_n 0, 1) := by decide +kernel
theorem dX5_count_83 : decode cX5_count 83 = .ok (.getfield 47, 3) := by decide +kernel
theorem dX5_count_86 : decode cX5_count 86 = .ok (.iconst 1, 1) := by decide +kernel
theorem dX5_count_87 : decode cX5_count 87 = .ok (.aaload, 1) := by decide +kernel
theorem dX5_count_88 : decode cX5_count 88 = .ok (.invokevirtual 211, 3) := by decide +kernel
theorem dX5_count_91 : decode cX5_count 91 = .ok (.ifCond .eq 7, 3) := by decide +kernel
theorem dX5_count_94 : decode cX5_count 94 = .ok (.iconst 0, 1) := by decide +kernel
theorem dX5_count_95 : decode cX5_count 95 = .ok (.goto 4, 3) := by decide +kernel
theorem dX5_count_98 : decode cX5_count 98 = .ok (.iconst 1, 1) := by decide +kernel
theorem dX5_count_99 : decode cX5_count 99 = .ok (.iadd, 1) := by decide +kernel
theorem dX5_count_100 : decode cX5_count 100 = .ok (.i2l, 1) := by decide +kernel
theorem dX5_count_101 : decode cX5_count 101 = .ok (.lreturn, 1) := by decide +kernel
theorem dX5_count_102 : decode cX5_count 102 = .ok (.ldc2_w 68, 3) := by decide +kernel
theorem dX5_count_105 : decode cX5_count 105 = .ok (.lreturn, 1) := by decide +kernel
theorem dX5_outside_0 : decode cX5_outside 0 = .ok (.iload_n 0, 1) := by decide +kernel
theorem dX5_outside_1 : decode cX5_outside 1 = .ok (.iload_n 1, 1) := by decide +kernel
theorem dX5_outside_2 : decode cX5_outside 2 = .ok (.if_icmp .lt 8, 3) := by decide +kernel
theorem dX5_outside_5 : decode cX5_outside 5 = .ok (.iload_n 0, 1) := by decide +kernel
theorem dX5_outside_6 : decode cX5_outside 6 = .ok (.iload_n 2, 1) := by decide +kernel
theorem dX5_outside_7 : decode cX5_outside 7 = .ok (.if_icmp .le 7, 3) := by decide +kernel
theorem dX5_outside_10 : decode cX5_outside 10 = .ok (.iconst 1, 1) := by decide +kernel
theorem dX5_outside_11 : decode cX5_outside 11 = .ok (.goto 4, 3) := by decide +kernel
theorem dX5_outside_14 : decode cX5_outside 14 = .ok (.iconst 0, 1) := by decide +kernel
theorem dX5_outside_15 : decode cX5_outside 15 = .ok (.ireturn, 1) := by decide +kernel
theorem dX5_placeOf_0 : decode cX5_placeOf 0 = .ok (.iload_n 0, 1) := by decide +kernel
theorem dX5_placeOf_1 : decode cX5_placeOf 1 = .ok (.ifCond .ge 5, 3) := by decide +kernel
theorem dX5_placeOf_4 : decode cX5_placeOf 4 = .ok (.iconst (-1), 1) := by decide +kernel
theorem dX5_placeOf_5 : decode cX5_placeOf 5 = .ok (.ireturn, 1) := by decide +kernel
theorem dX5_placeOf_6 : decode cX5_placeOf 6 = .ok (.iload_n 0, 1) := by decide +kernel
theorem dX5_placeOf_7 : decode cX5_placeOf 7 = .ok (.bipush 100, 2) := by decide +kernel
theorem dX5_placeOf_9 : decode cX5_placeOf 9 = .ok (.idiv, 1) := by decide +kernel
theorem dX5_placeOf_10 : decode cX5_placeOf 10 = .ok (.istore_n 1, 1) := by decide +kernel
theorem dX5_placeOf_11 : decode cX5_placeOf 11 = .ok (.iload_n 0, 1) := by decide +kernel
theorem dX5_placeOf_12 : decode cX5_placeOf 12 = .ok (.bipush 10, 2) := by decide +kernel
theorem dX5_placeOf_14 : decode cX5_placeOf 14 = .ok (.idiv, 1) := by decide +kernel
theorem dX5_placeOf_15 : decode cX5_placeOf 15 = .ok (.bipush 10, 2) := by decide +kernel
theorem dX5_placeOf_17 : decode cX5_placeOf 17 = .ok (.irem, 1) := by decide +kernel
theorem dX5_placeOf_18 : decode cX5_placeOf 18 = .ok (.istore_n 2, 1) := by decide +kernel
theorem dX5_placeOf_19 : decode cX5_placeOf 19 = .ok (.iload_n 0, 1) := by decide +kernel
theorem dX5_placeOf_20 : decode cX5_placeOf 20 = .ok (.bipush 10, 2) := by decide +kernel
theorem dX5_placeOf_22 : decode cX5_placeOf 22 = .ok (.irem, 1) := by decide +kernel
theorem dX5_placeOf_23 : decode cX5_placeOf 23 = .ok (.istore_n 3, 1) := by decide +kernel
theorem dX5_placeOf_24 : decode cX5_placeOf 24 = .ok (.iload_n 1, 1) := by decide +kernel
theorem dX5_placeOf_25 : decode cX5_placeOf 25 = .ok (.iconst 3, 1) := by decide +kernel
theorem dX5_placeOf_26 : decode cX5_placeOf 26 = .ok (.if_icmp .ge 14, 3) := by decide +kernel
theorem dX5_placeOf_29 : decode cX5_placeOf 29 = .ok (.iload_n 2, 1) := by decide +kernel
theorem dX5_placeOf_30 : decode cX5_placeOf 30 = .ok (.iconst 4, 1) := by decide +kernel
theorem dX5_placeOf_31 : decode cX5_placeOf 31 = .ok (.if_icmp .ge 9, 3) := by decide +kernel
theorem dX5_placeOf_34 : decode cX5_placeOf 34 = .ok (.iload_n 3, 1) := by decide +kernel
theorem dX5_placeOf_35 : decode cX5_placeOf 35 = .ok (.bipush 6, 2) := by decide +kernel
theorem dX5_placeOf_37 : decode cX5_placeOf 37 = .ok (.if_icmp .lt 5, 3) := by decide +kernel
theorem dX5_placeOf_40 : decode cX5_placeOf 40 = .ok (.iconst (-1), 1) := by decide +kernel
theorem dX5_placeOf_41 : decode cX5_placeOf 41 = .ok (.ireturn, 1) := by decide +kernel
theorem dX5_placeOf_42 : decode cX5_placeOf 42 = .ok (.iload_n 1, 1) := by decide +kernel
theorem dX5_placeOf_43 : decode cX5_placeOf 43 = .ok (.bipush 24, 2) := by decide +kernel
theorem dX5_placeOf_45 : decode cX5_placeOf 45 = .ok (.imul, 1) := by decide +kernel
theorem dX5_placeOf_46 : decode cX5_placeOf 46 = .ok (.iload_n 2, 1) := by decide +kernel
theorem dX5_placeOf_47 : decode cX5_placeOf 47 = .ok (.bipush 6, 2) := by decide +kernel
theorem dX5_placeOf_49 : decode cX5_placeOf 49 = .ok (.imul, 1) := by decide +kernel
theorem dX5_placeOf_50 : decode cX5_placeOf 50 = .ok (.iadd, 1) := by decide +kernel
theorem dX5_placeOf_51 : decode cX5_placeOf 51 = .ok (.iload_n 3, 1) := by decide +kernel
theorem dX5_placeOf_52 : decode cX5_placeOf 52 = .ok (.iadd, 1) := by decide +kernel
theorem dX5_placeOf_53 : decode cX5_placeOf 53 = .ok (.ireturn, 1) := by decide +kernel
theorem dX5_numberOf_0 : decode cX5_numberOf 0 = .ok (.bipush 100, 2) := by decide +kernel
theorem dX5_numberOf_2 : decode cX5_numberOf 2 = .ok (.iload_n 0, 1) := by decide +kernel
theorem dX5_numberOf_3 : decode cX5_numberOf 3 = .ok (.bipush 24, 2) := by decide +kernel
theorem dX5_numberOf_5 : decode cX5_numberOf 5 = .ok (.idiv, 1) := by decide +kernel
theorem dX5_numberOf_6 : decode cX5_numberOf 6 = .ok (.imul, 1) := by decide +kernel
theorem dX5_numberOf_7 : decode cX5_numberOf 7 = .ok (.bipush 10, 2) := by decide +kernel
theorem dX5_numberOf_9 : decode cX5_numberOf 9 = .ok (.iload_n 0, 1) := by decide +kernel
theorem dX5_numberOf_10 : decode cX5_numberOf 10 = .ok (.bipush 24, 2) := by decide +kernel
theorem dX5_numberOf_12 : decode cX5_numberOf 12 = .ok (.irem, 1) := by decide +kernel
theorem dX5_numberOf_13 : decode cX5_numberOf 13 = .ok (.bipush 6, 2) := by decide +kernel
theorem dX5_numberOf_15 : decode cX5_numberOf 15 = .ok (.idiv, 1) := by decide +kernel
theorem dX5_numberOf_16 : decode cX5_numberOf 16 = .ok (.imul, 1) := by decide +kernel
theorem dX5_numberOf_17 : decode cX5_numberOf 17 = .ok (.iadd, 1) := by decide +kernel
theorem dX5_numberOf_18 : decode cX5_numberOf 18 = .ok (.iload_n 0, 1) := by decide +kernel
theorem dX5_numberOf_19 : decode cX5_numberOf 19 = .ok (.bipush 6, 2) := by decide +kernel
theorem dX5_numberOf_21 : decode cX5_numberOf 21 = .ok (.irem, 1) := by decide +kernel
theorem dX5_numberOf_22 : decode cX5_numberOf 22 = .ok (.iadd, 1) := by decide +kernel
theorem dX5_numberOf_23 : decode cX5_numberOf 23 = .ok (.ireturn, 1) := by decide +kernel
theorem dX5_letFlow_0 : decode cX5_letFlow 0 = .ok (.aload_n 0, 1) := by decide +kernel
theorem dX5_letFlow_1 : decode cX5_letFlow 1 = .ok (.getfield 33, 3) := by decide +kernel
theorem dX5_letFlow_4 : decode cX5_letFlow 4 = .ok (.aload_n 0, 1) := by decide +kernel
theorem dX5_letFlow_5 : decode cX5_letFlow 5 = .ok (.getfield 26, 3) := by decide +kernel
theorem dX5_letFlow_8 : decode cX5_letFlow 8 = .ok (.invokevirtual 182, 3) := by decide +kernel
theorem dX5_letFlow_11 : decode cX5_letFlow 11 = .ok (.aload_n 0, 1) := by decide +kernel
theorem dX5_letFlow_12 : decode cX5_letFlow 12 = .ok (.getfield 33, 3) := by decide +kernel
theorem dX5_letFlow_15 : decode cX5_letFlow 15 = .ok (.aload_n 0, 1) := by decide +kernel
theorem dX5_letFlow_16 : decode cX5_letFlow 16 = .ok (.getfield 16, 3) := by decide +kernel
theorem dX5_letFlow_19 : decode cX5_letFlow 19 = .ok (.aload_n 0, 1) := by decide +kernel
theorem dX5_letFlow_20 : decode cX5_letFlow 20 = .ok (.getfield 51, 3) := by decide +kernel
theorem dX5_letFlow_23 : decode cX5_letFlow 23 = .ok (.i2l, 1) := by decide +kernel
theorem dX5_letFlow_24 : decode cX5_letFlow 24 = .ok (.aload_n 0, 1) := by decide +kernel
theorem dX5_letFlow_25 : decode cX5_letFlow 25 = .ok (.getfield 55, 3) := by decide +kernel
theorem dX5_letFlow_28 : decode cX5_letFlow 28 = .ok (.i2l, 1) := by decide +kernel
theorem dX5_letFlow_29 : decode cX5_letFlow 29 = .ok (.aload_n 0, 1) := by decide +kernel
theorem dX5_letFlow_30 : decode cX5_letFlow 30 = .ok (.getfield 58, 3) := by decide +kernel
theorem dX5_letFlow_33 : decode cX5_letFlow 33 = .ok (.i2l, 1) := by decide +kernel
theorem dX5_letFlow_34 : decode cX5_letFlow 34 = .ok (.invokevirtual 193, 3) := by decide +kernel
theorem dX5_letFlow_37 : decode cX5_letFlow 37 = .ok (.return_, 1) := by decide +kernel
theorem dX5_powerAt_0 : decode cX5_powerAt 0 = .ok (.iload_n 1, 1) := by decide +kernel
theorem dX5_powerAt_1 : decode cX5_powerAt 1 = .ok (.i2l, 1) := by decide +kernel
theorem dX5_powerAt_2 : decode cX5_powerAt 2 = .ok (.aload_n 0, 1) := by decide +kernel
theorem dX5_powerAt_3 : decode cX5_powerAt 3 = .ok (.getfield 51, 3) := by decide +kernel
theorem dX5_powerAt_6 : decode cX5_powerAt 6 = .ok (.i2l, 1) := by decide +kernel
theorem dX5_powerAt_7 : decode cX5_powerAt 7 = .ok (.lmul, 1) := by decide +kernel
theorem dX5_powerAt_8 : decode cX5_powerAt 8 = .ok (.ldc2_w 274, 3) := by decide +kernel
theorem dX5_powerAt_11 : decode cX5_powerAt 11 = .ok (.ldiv, 1) := by decide +kernel
theorem dX5_powerAt_12 : decode cX5_powerAt 12 = .ok (.lstore_n 2, 1) := by decide +kernel
theorem dX5_powerAt_13 : decode cX5_powerAt 13 = .ok (.aload_n 0, 1) := by decide +kernel
theorem dX5_powerAt_14 : decode cX5_powerAt 14 = .ok (.getfield 33, 3) := by decide +kernel
theorem dX5_powerAt_17 : decode cX5_powerAt 17 = .ok (.getfield 147, 3) := by decide +kernel
theorem dX5_powerAt_20 : decode cX5_powerAt 20 = .ok (.aload_n 0, 1) := by decide +kernel
theorem dX5_powerAt_21 : decode cX5_powerAt 21 = .ok (.getfield 33, 3) := by decide +kernel
theorem dX5_powerAt_24 : decode cX5_powerAt 24 = .ok (.getfield 141, 3) := by decide +kernel
theorem dX5_powerAt_27 : decode cX5_powerAt 27 = .ok (.lmul, 1) := by decide +kernel
theorem dX5_powerAt_28 : decode cX5_powerAt 28 = .ok (.ldc2_w 274, 3) := by decide +kernel
theorem dX5_powerAt_31 : decode cX5_powerAt 31 = .ok (.ldiv, 1) := by decide +kernel
theorem dX5_powerAt_32 : decode cX5_powerAt 32 = .ok (.lstore 4, 2) := by decide +kernel
theorem dX5_powerAt_34 : decode cX5_powerAt 34 = .ok (.lload_n 2, 1) := by decide +kernel
theorem dX5_powerAt_35 : decode cX5_powerAt 35 = .ok (.aload_n 0, 1) := by decide +kernel
theorem dX5_powerAt_36 : decode cX5_powerAt 36 = .ok (.getfield 9, 3) := by decide +kernel
theorem dX5_powerAt_39 : decode cX5_powerAt 39 = .ok (.iconst 2, 1) := by decide +kernel
theorem dX5_powerAt_40 : decode cX5_powerAt 40 = .ok (.iaload, 1) := by decide +kernel
theorem dX5_powerAt_41 : decode cX5_powerAt 41 = .ok (.i2l, 1) := by decide +kernel
theorem dX5_powerAt_42 : decode cX5_powerAt 42 = .ok (.lload 4, 2) := by decide +kernel
theorem dX5_powerAt_44 : decode cX5_powerAt 44 = .ok (.lmul, 1) := by decide +kernel
theorem dX5_powerAt_45 : decode cX5_powerAt 45 = .ok (.ldc2_w 274, 3) := by decide +kernel
theorem dX5_powerAt_48 : decode cX5_powerAt 48 = .ok (.ldiv, 1) := by decide +kernel
theorem dX5_powerAt_49 : decode cX5_powerAt 49 = .ok (.lsub, 1) := by decide +kernel
theorem dX5_powerAt_50 : decode cX5_powerAt 50 = .ok (.lreturn, 1) := by decide +kernel
theorem dX5_suits_0 : decode cX5_suits 0 = .ok (.aload_n 0, 1) := by decide +kernel
theorem dX5_suits_1 : decode cX5_suits 1 = .ok (.getfield 33, 3) := by decide +kernel
theorem dX5_suits_4 : decode cX5_suits 4 = .ok (.getfield 130, 3) := by decide +kernel
theorem dX5_suits_7 : decode cX5_suits 7 = .ok (.iload_n 1, 1) := by decide +kernel
theorem dX5_suits_8 : decode cX5_suits 8 = .ok (.i2l, 1) := by decide +kernel
theorem dX5_suits_9 : decode cX5_suits 9 = .ok (.lcmp, 1) := by decide +kernel
theorem dX5_suits_10 : decode cX5_suits 10 = .ok (.ifCond .lt 58, 3) := by decide +kernel
theorem dX5_suits_13 : decode cX5_suits 13 = .ok (.aload_n 0, 1) := by decide +kernel
theorem dX5_suits_14 : decode cX5_suits 14 = .ok (.getfield 33, 3) := by decide +kernel
theorem dX5_suits_17 : decode cX5_suits 17 = .ok (.getfield 134, 3) := by decide +kernel
theorem dX5_suits_20 : decode cX5_suits 20 = .ok (.iload_n 2, 1) := by decide +kernel
theorem dX5_suits_21 : decode cX5_suits 21 = .ok (.i2l, 1) := by decide +kernel
theorem dX5_suits_22 : decode cX5_suits 22 = .ok (.aload_n 0, 1) := by decide +kernel
theorem dX5_suits_23 : decode cX5_suits 23 = .ok (.getfield 33, 3) := by decide +kernel
theorem dX5_suits_26 : decode cX5_suits 26 = .ok (.getfield 130, 3) := by decide +kernel
theorem dX5_suits_29 : decode cX5_suits 29 = .ok (.lmul, 1) := by decide +kernel
theorem dX5_suits_30 : decode cX5_suits 30 = .ok (.lcmp, 1) := by decide +kernel
theorem dX5_suits_31 : decode cX5_suits 31 = .ok (.ifCond .gt 37, 3) := by decide +kernel
theorem dX5_suits_34 : decode cX5_suits 34 = .ok (.aload_n 0, 1) := by decide +kernel
theorem dX5_suits_35 : decode cX5_suits 35 = .ok (.getfield 33, 3) := by decide +kernel
theorem dX5_suits_38 : decode cX5_suits 38 = .ok (.aload_n 0, 1) := by decide +kernel
theorem dX5_suits_39 : decode cX5_suits 39 = .ok (.getfield 20, 3) := by decide +kernel
theorem dX5_suits_42 : decode cX5_suits 42 = .ok (.aload_n 0, 1) := by decide +kernel
theorem dX5_suits_43 : decode cX5_suits 43 = .ok (.getfield 9, 3) := by decide +kernel
theorem dX5_suits_46 : decode cX5_suits 46 = .ok (.iconst 0, 1) := by decide +kernel
theorem dX5_suits_47 : decode cX5_suits 47 = .ok (.iaload, 1) := by decide +kernel
theorem dX5_suits_48 : decode cX5_suits 48 = .ok (.aload_n 0, 1) := by decide +kernel
theorem dX5_suits_49 : decode cX5_suits 49 = .ok (.getfield 9, 3) := by decide +kernel
theorem dX5_suits_52 : decode cX5_suits 52 = .ok (.iconst 1, 1) := by decide +kernel
theorem dX5_suits_53 : decode cX5_suits 53 = .ok (.iaload, 1) := by decide +kernel
theorem dX5_suits_54 : decode cX5_suits 54 = .ok (.invokevirtual 154, 3) := by decide +kernel
theorem dX5_suits_57 : decode cX5_suits 57 = .ok (.ldc2_w 170, 3) := by decide +kernel
theorem dX5_suits_60 : decode cX5_suits 60 = .ok (.lcmp, 1) := by decide +kernel
theorem dX5_suits_61 : decode cX5_suits 61 = .ok (.ifCond .ne 7, 3) := by decide +kernel
theorem dX5_suits_64 : decode cX5_suits 64 = .ok (.iconst 1, 1) := by decide +kernel
theorem dX5_suits_65 : decode cX5_suits 65 = .ok (.goto 4, 3) := by decide +kernel
theorem dX5_suits_68 : decode cX5_suits 68 = .ok (.iconst 0, 1) := by decide +kernel
theorem dX5_suits_69 : decode cX5_suits 69 = .ok (.ireturn, 1) := by decide +kernel
theorem dX5_passDay_0 : decode cX5_passDay 0 = .ok (.aload_n 0, 1) := by decide +kernel
theorem dX5_passDay_1 : decode cX5_passDay 1 = .ok (.invokevirtual 111, 3) := by decide +kernel
theorem dX5_passDay_4 : decode cX5_passDay 4 = .ok (.aload_n 0, 1) := by decide +kernel
theorem dX5_passDay_5 : decode cX5_passDay 5 = .ok (.dup, 1) := by decide +kernel
theorem dX5_passDay_6 : decode cX5_passDay 6 = .ok (.getfield 61, 3) := by decide +kernel
theorem dX5_passDay_9 : decode cX5_passDay 9 = .ok (.iconst 1, 1) := by decide +kernel
theorem dX5_passDay_10 : decode cX5_passDay 10 = .ok (.iadd, 1) := by decide +kernel
theorem dX5_passDay_11 : decode cX5_passDay 11 = .ok (.putfield 61, 3) := by decide +kernel
theorem dX5_passDay_14 : decode cX5_passDay 14 = .ok (.iconst 1, 1) := by decide +kernel
theorem dX5_passDay_15 : decode cX5_passDay 15 = .ok (.aload_n 0, 1) := by decide +kernel
theorem dX5_passDay_16 : decode cX5_passDay 16 = .ok (.getfield 9, 3) := by decide +kernel
theorem dX5_passDay_19 : decode cX5_passDay 19 = .ok (.iconst 3, 1) := by decide +kernel
theorem dX5_passDay_20 : decode cX5_passDay 20 = .ok (.iaload, 1) := by decide +kernel
theorem dX5_passDay_21 : decode cX5_passDay 21 = .ok (.invokestatic 276, 3) := by decide +kernel
theorem dX5_passDay_24 : decode cX5_passDay 24 = .ok (.istore_n 1, 1) := by decide +kernel
theorem dX5_passDay_25 : decode cX5_passDay 25 = .ok (.aload_n 0, 1) := by decide +kernel
theorem dX5_passDay_26 : decode cX5_passDay 26 = .ok (.getfield 9, 3) := by decide +kernel
theorem dX5_passDay_29 : decode cX5_passDay 29 = .ok (.iconst 4, 1) := by decide +kernel
theorem dX5_passDay_30 : decode cX5_passDay 30 = .ok (.iaload, 1) := by decide +kernel
theorem dX5_passDay_31 : decode cX5_passDay 31 = .ok (.istore_n 2, 1) := by decide +kernel
theorem dX5_passDay_32 : decode cX5_passDay 32 = .ok (.iload_n 2, 1) := by decide +kernel
theorem dX5_passDay_33 : decode cX5_passDay 33 = .ok (.ifCond .le 16, 3) := by decide +kernel
theorem dX5_passDay_36 : decode cX5_passDay 36 = .ok (.aload_n 0, 1) := by decide +kernel
theorem dX5_passDay_37 : decode cX5_passDay 37 = .ok (.getfield 61, 3) := by decide +kernel
theorem dX5_passDay_40 : decode cX5_passDay 40 = .ok (.iload_n 2, 1) := by decide +kernel
theorem dX5_passDay_41 : decode cX5_passDay 41 = .ok (.irem, 1) := by decide +kernel
theorem dX5_passDay_42 : decode cX5_passDay 42 = .ok (.ifCond .ne 7, 3) := by decide +kernel
theorem dX5_passDay_45 : decode cX5_passDay 45 = .ok (.iconst 1, 1) := by decide +kernel
theorem dX5_passDay_46 : decode cX5_passDay 46 = .ok (.goto 4, 3) := by decide +kernel
theorem dX5_passDay_49 : decode cX5_passDay 49 = .ok (.iconst 0, 1) := by decide +kernel
theorem dX5_passDay_50 : decode cX5_passDay 50 = .ok (.istore_n 3, 1) := by decide +kernel
theorem dX5_passDay_51 : decode cX5_passDay 51 = .ok (.iconst 0, 1) := by decide +kernel
theorem dX5_passDay_52 : decode cX5_passDay 52 = .ok (.istore 4, 2) := by decide +kernel
theorem dX5_passDay_54 : decode cX5_passDay 54 = .ok (.iload 4, 2) := by decide +kernel
theorem dX5_passDay_56 : decode cX5_passDay 56 = .ok (.bipush 72, 2) := by decide +kernel
theorem dX5_passDay_58 : decode cX5_passDay 58 = .ok (.if_icmp .ge 56, 3) := by decide +kernel
theorem dX5_passDay_61 : decode cX5_passDay 61 = .ok (.aload_n 0, 1) := by decide +kernel
theorem dX5_passDay_62 : decode cX5_passDay 62 = .ok (.getfield 16, 3) := by decide +kernel
theorem dX5_passDay_65 : decode cX5_passDay 65 = .ok (.iload 4, 2) := by decide +kernel
theorem dX5_passDay_67 : decode cX5_passDay 67 = .ok (.invokevirtual 105, 3) := by decide +kernel
theorem dX5_passDay_70 : decode cX5_passDay 70 = .ok (.ifCond .eq 38, 3) := by decide +kernel
theorem dX5_passDay_73 : decode cX5_passDay 73 = .ok (.aload_n 0, 1) := by decide +kernel
theorem dX5_passDay_74 : decode cX5_passDay 74 = .ok (.getfield 26, 3) := by decide +kernel
theorem dX5_passDay_77 : decode cX5_passDay 77 = .ok (.iload 4, 2) := by decide +kernel
theorem dX5_passDay_79 : decode cX5_passDay 79 = .ok (.aload_n 0, 1) := by decide +kernel
theorem dX5_passDay_80 : decode cX5_passDay 80 = .ok (.getfield 33, 3) := by decide +kernel
theorem dX5_passDay_83 : decode cX5_passDay 83 = .ok (.getfield 124, 3) := by decide +kernel
theorem dX5_passDay_86 : decode cX5_passDay 86 = .ok (.iload 4, 2) := by decide +kernel
theorem dX5_passDay_88 : decode cX5_passDay 88 = .ok (.laload, 1) := by decide +kernel
theorem dX5_passDay_89 : decode cX5_passDay 89 = .ok (.iload_n 1, 1) := by decide +kernel
theorem dX5_passDay_90 : decode cX5_passDay 90 = .ok (.i2l, 1) := by decide +kernel
theorem dX5_passDay_91 : decode cX5_passDay 91 = .ok (.ldiv, 1) := by decide +kernel
theorem dX5_passDay_92 : decode cX5_passDay 92 = .ok (.invokevirtual 279, 3) := by decide +kernel
theorem dX5_passDay_95 : decode cX5_passDay 95 = .ok (.iload_n 3, 1) := by decide +kernel
theorem dX5_passDay_96 : decode cX5_passDay 96 = .ok (.ifCond .eq 12, 3) := by decide +kernel
theorem dX5_passDay_99 : decode cX5_passDay 99 = .ok (.aload_n 0, 1) := by decide +kernel
theorem dX5_passDay_100 : decode cX5_passDay 100 = .ok (.getfield 26, 3) := by decide +kernel
theorem dX5_passDay_103 : decode cX5_passDay 103 = .ok (.iload 4, 2) := by decide +kernel
theorem dX5_passDay_105 : decode cX5_passDay 105 = .ok (.invokevirtual 283, 3) := by decide +kernel
theorem dX5_passDay_108 : decode cX5_passDay 108 = .ok (.iinc 4 1, 3) := by decide +kernel
theorem dX5_passDay_111 : decode cX5_passDay 111 = .ok (.goto (-57), 3) := by decide +kernel
theorem dX5_passDay_114 : decode cX5_passDay 114 = .ok (.return_, 1) := by decide +kernel
theorem dX5_isPair_0 : decode cX5_isPair 0 = .ok (.aload_n 0, 1) := by decide +kernel
theorem dX5_isPair_1 : decode cX5_isPair 1 = .ok (.getfield 16, 3) := by decide +kernel
theorem dX5_isPair_4 : decode cX5_isPair 4 = .ok (.iload_n 1, 1) := by decide +kernel
theorem dX5_isPair_5 : decode cX5_isPair 5 = .ok (.invokevirtual 105, 3) := by decide +kernel
theorem dX5_isPair_8 : decode cX5_isPair 8 = .ok (.ifCond .eq 30, 3) := by decide +kernel
theorem dX5_isPair_11 : decode cX5_isPair 11 = .ok (.aload_n 0, 1) := by decide +kernel
theorem dX5_isPair_12 : decode cX5_isPair 12 = .ok (.getfield 16, 3) := by decide +kernel
theorem dX5_isPair_15 : decode cX5_isPair 15 = .ok (.iload_n 2, 1) := by decide +kernel
theorem dX5_isPair_16 : decode cX5_isPair 16 = .ok (.invokevirtual 105, 3) := by decide +kernel
theorem dX5_isPair_19 : decode cX5_isPair 19 = .ok (.ifCond .eq 19, 3) := by decide +kernel
theorem dX5_isPair_22 : decode cX5_isPair 22 = .ok (.aload_n 0, 1) := by decide +kernel
theorem dX5_isPair_23 : decode cX5_isPair 23 = .ok (.getfield 33, 3) := by decide +kernel
theorem dX5_isPair_26 : decode cX5_isPair 26 = .ok (.iload_n 1, 1) := by decide +kernel
theorem dX5_isPair_27 : decode cX5_isPair 27 = .ok (.iload_n 2, 1) := by decide +kernel
theorem dX5_isPair_28 : decode cX5_isPair 28 = .ok (.invokevirtual 286, 3) := by decide +kernel
theorem dX5_isPair_31 : decode cX5_isPair 31 = .ok (.ifCond .ne 7, 3) := by decide +kernel
theorem dX5_isPair_34 : decode cX5_isPair 34 = .ok (.iconst 1, 1) := by decide +kernel
theorem dX5_isPair_35 : decode cX5_isPair 35 = .ok (.goto 4, 3) := by decide +kernel
theorem dX5_isPair_38 : decode cX5_isPair 38 = .ok (.iconst 0, 1) := by decide +kernel
theorem dX5_isPair_39 : decode cX5_isPair 39 = .ok (.ireturn, 1) := by decide +kernel
theorem dX5_sweetWaterIfChanged_0 : decode cX5_sweetWaterIfChanged 0 = .ok (.aload_n 0, 1) := by decide +kernel
theorem dX5_sweetWaterIfChanged_1 : decode cX5_sweetWaterIfChanged 1 = .ok (.getfield 33, 3) := by decide +kernel
theorem dX5_sweetWaterIfChanged_4 : decode cX5_sweetWaterIfChanged 4 = .ok (.iload_n 1, 1) := by decide +kernel
theorem dX5_sweetWaterIfChanged_5 : decode cX5_sweetWaterIfChanged 5 = .ok (.iload_n 2, 1) := by decide +kernel
theorem dX5_sweetWaterIfChanged_6 : decode cX5_sweetWaterIfChanged 6 = .ok (.invokevirtual 289, 3) := by decide +kernel
theorem dX5_sweetWaterIfChanged_9 : decode cX5_sweetWaterIfChanged 9 = .ok (.aload_n 0, 1) := by decide +kernel
theorem dX5_sweetWaterIfChanged_10 : decode cX5_sweetWaterIfChanged 10 = .ok (.getfield 33, 3) := by decide +kernel
theorem dX5_sweetWaterIfChanged_13 : decode cX5_sweetWaterIfChanged 13 = .ok (.aload_n 0, 1) := by decide +kernel
theorem dX5_sweetWaterIfChanged_14 : decode cX5_sweetWaterIfChanged 14 = .ok (.getfield 16, 3) := by decide +kernel
theorem dX5_sweetWaterIfChanged_17 : decode cX5_sweetWaterIfChanged 17 = .ok (.aload_n 0, 1) := by decide +kernel
theorem dX5_sweetWaterIfChanged_18 : decode cX5_sweetWaterIfChanged 18 = .ok (.getfield 51, 3) := by decide +kernel
theorem dX5_sweetWaterIfChanged_21 : decode cX5_sweetWaterIfChanged 21 = .ok (.i2l, 1) := by decide +kernel
theorem dX5_sweetWaterIfChanged_22 : decode cX5_sweetWaterIfChanged 22 = .ok (.aload_n 0, 1) := by decide +kernel
theorem dX5_sweetWaterIfChanged_23 : decode cX5_sweetWaterIfChanged 23 = .ok (.getfield 55, 3) := by decide +kernel
theorem dX5_sweetWaterIfChanged_26 : decode cX5_sweetWaterIfChanged 26 = .ok (.i2l, 1) := by decide +kernel
theorem dX5_sweetWaterIfChanged_27 : decode cX5_sweetWaterIfChanged 27 = .ok (.aload_n 0, 1) := by decide +kernel
theorem dX5_sweetWaterIfChanged_28 : decode cX5_sweetWaterIfChanged 28 = .ok (.getfield 58, 3) := by decide +kernel
theorem dX5_sweetWaterIfChanged_31 : decode cX5_sweetWaterIfChanged 31 = .ok (.i2l, 1) := by decide +kernel
theorem dX5_sweetWaterIfChanged_32 : decode cX5_sweetWaterIfChanged 32 = .ok (.invokevirtual 193, 3) := by decide +kernel
theorem dX5_sweetWaterIfChanged_35 : decode cX5_sweetWaterIfChanged 35 = .ok (.aload_n 0, 1) := by decide +kernel
theorem dX5_sweetWaterIfChanged_36 : decode cX5_sweetWaterIfChanged 36 = .ok (.getfield 33, 3) := by decide +kernel
theorem dX5_sweetWaterIfChanged_39 : decode cX5_sweetWaterIfChanged 39 = .ok (.iload_n 1, 1) := by decide +kernel
theorem dX5_sweetWaterIfChanged_40 : decode cX5_sweetWaterIfChanged 40 = .ok (.iload_n 2, 1) := by decide +kernel
theorem dX5_sweetWaterIfChanged_41 : decode cX5_sweetWaterIfChanged 41 = .ok (.invokevirtual 289, 3) := by decide +kernel
theorem dX5_sweetWaterIfChanged_44 : decode cX5_sweetWaterIfChanged 44 = .ok (.aload_n 0, 1) := by decide +kernel
theorem dX5_sweetWaterIfChanged_45 : decode cX5_sweetWaterIfChanged 45 = .ok (.getfield 33, 3) := by decide +kernel
theorem dX5_sweetWaterIfChanged_48 : decode cX5_sweetWaterIfChanged 48 = .ok (.getfield 130, 3) := by decide +kernel
theorem dX5_sweetWaterIfChanged_51 : decode cX5_sweetWaterIfChanged 51 = .ok (.lreturn, 1) := by decide +kernel
