theorem dX0_init_0 : decode cX0_init 0 = .ok (.aload_n 0, 1) := by decide +kernel
theorem dX0_init_1 : decode cX0_init 1 = .ok (.invokespecial 3, 3) := by decide +kernel
theorem dX0_init_4 : decode cX0_init 4 = .ok (.aload_n 0, 1) := by decide +kernel
theorem dX0_init_5 : decode cX0_init 5 = .ok (.bipush 72, 2) := by decide +kernel
theorem dX0_init_7 : decode cX0_init 7 = .ok (.newarray .int, 2) := by decide +kernel
theorem dX0_init_9 : decode cX0_init 9 = .ok (.putfield 9, 3) := by decide +kernel
theorem dX0_init_12 : decode cX0_init 12 = .ok (.aload_n 0, 1) := by decide +kernel
theorem dX0_init_13 : decode cX0_init 13 = .ok (.bipush 72, 2) := by decide +kernel
theorem dX0_init_15 : decode cX0_init 15 = .ok (.newarray .int, 2) := by decide +kernel
theorem dX0_init_17 : decode cX0_init 17 = .ok (.putfield 15, 3) := by decide +kernel
theorem dX0_init_20 : decode cX0_init 20 = .ok (.aload_n 0, 1) := by decide +kernel
theorem dX0_init_21 : decode cX0_init 21 = .ok (.bipush 72, 2) := by decide +kernel
theorem dX0_init_23 : decode cX0_init 23 = .ok (.newarray .long, 2) := by decide +kernel
theorem dX0_init_25 : decode cX0_init 25 = .ok (.putfield 18, 3) := by decide +kernel
theorem dX0_init_28 : decode cX0_init 28 = .ok (.aload_n 0, 1) := by decide +kernel
theorem dX0_init_29 : decode cX0_init 29 = .ok (.bipush 72, 2) := by decide +kernel
theorem dX0_init_31 : decode cX0_init 31 = .ok (.newarray .long, 2) := by decide +kernel
theorem dX0_init_33 : decode cX0_init 33 = .ok (.putfield 22, 3) := by decide +kernel
theorem dX0_init_36 : decode cX0_init 36 = .ok (.aload_n 0, 1) := by decide +kernel
theorem dX0_init_37 : decode cX0_init 37 = .ok (.bipush 72, 2) := by decide +kernel
theorem dX0_init_39 : decode cX0_init 39 = .ok (.newarray .long, 2) := by decide +kernel
theorem dX0_init_41 : decode cX0_init 41 = .ok (.putfield 25, 3) := by decide +kernel
theorem dX0_init_44 : decode cX0_init 44 = .ok (.aload_n 0, 1) := by decide +kernel
theorem dX0_init_45 : decode cX0_init 45 = .ok (.bipush 72, 2) := by decide +kernel
theorem dX0_init_47 : decode cX0_init 47 = .ok (.newarray .long, 2) := by decide +kernel
theorem dX0_init_49 : decode cX0_init 49 = .ok (.putfield 28, 3) := by decide +kernel
theorem dX0_init_52 : decode cX0_init 52 = .ok (.aload_n 0, 1) := by decide +kernel
theorem dX0_init_53 : decode cX0_init 53 = .ok (.bipush 72, 2) := by decide +kernel
theorem dX0_init_55 : decode cX0_init 55 = .ok (.newarray .long, 2) := by decide +kernel
theorem dX0_init_57 : decode cX0_init 57 = .ok (.putfield 31, 3) := by decide +kernel
theorem dX0_init_60 : decode cX0_init 60 = .ok (.aload_n 0, 1) := by decide +kernel
theorem dX0_init_61 : decode cX0_init 61 = .ok (.bipush 72, 2) := by decide +kernel
theorem dX0_init_63 : decode cX0_init 63 = .ok (.newarray .long, 2) := by decide +kernel
theorem dX0_init_65 : decode cX0_init 65 = .ok (.putfield 34, 3) := by decide +kernel
theorem dX0_init_68 : decode cX0_init 68 = .ok (.aload_n 0, 1) := by decide +kernel
theorem dX0_init_69 : decode cX0_init 69 = .ok (.lconst 0, 1) := by decide +kernel
theorem dX0_init_70 : decode cX0_init 70 = .ok (.putfield 37, 3) := by decide +kernel
theorem dX0_init_73 : decode cX0_init 73 = .ok (.aload_n 0, 1) := by decide +kernel
theorem dX0_init_74 : decode cX0_init 74 = .ok (.lconst 0, 1) := by decide +kernel
theorem dX0_init_75 : decode cX0_init 75 = .ok (.putfield 41, 3) := by decide +kernel
theorem dX0_init_78 : decode cX0_init 78 = .ok (.aload_n 0, 1) := by decide +kernel
theorem dX0_init_79 : decode cX0_init 79 = .ok (.lconst 0, 1) := by decide +kernel
theorem dX0_init_80 : decode cX0_init 80 = .ok (.putfield 44, 3) := by decide +kernel
theorem dX0_init_83 : decode cX0_init 83 = .ok (.aload_n 0, 1) := by decide +kernel
theorem dX0_init_84 : decode cX0_init 84 = .ok (.lconst 0, 1) := by decide +kernel
theorem dX0_init_85 : decode cX0_init 85 = .ok (.putfield 47, 3) := by decide +kernel
theorem dX0_init_88 : decode cX0_init 88 = .ok (.aload_n 0, 1) := by decide +kernel
theorem dX0_init_89 : decode cX0_init 89 = .ok (.lconst 0, 1) := by decide +kernel
theorem dX0_init_90 : decode cX0_init 90 = .ok (.putfield 50, 3) := by decide +kernel
theorem dX0_init_93 : decode cX0_init 93 = .ok (.return_, 1) := by decide +kernel
theorem dX0_saltOf_0 : decode cX0_saltOf 0 = .ok (.lload_n 0, 1) := by decide +kernel
theorem dX0_saltOf_1 : decode cX0_saltOf 1 = .ok (.lconst 0, 1) := by decide +kernel
theorem dX0_saltOf_2 : decode cX0_saltOf 2 = .ok (.lcmp, 1) := by decide +kernel
theorem dX0_saltOf_3 : decode cX0_saltOf 3 = .ok (.ifCond .ne 7, 3) := by decide +kernel
theorem dX0_saltOf_6 : decode cX0_saltOf 6 = .ok (.lconst 0, 1) := by decide +kernel
theorem dX0_saltOf_7 : decode cX0_saltOf 7 = .ok (.goto 6, 3) := by decide +kernel
theorem dX0_saltOf_10 : decode cX0_saltOf 10 = .ok (.lload_n 2, 1) := by decide +kernel
theorem dX0_saltOf_11 : decode cX0_saltOf 11 = .ok (.lload_n 0, 1) := by decide +kernel
theorem dX0_saltOf_12 : decode cX0_saltOf 12 = .ok (.ldiv, 1) := by decide +kernel
theorem dX0_saltOf_13 : decode cX0_saltOf 13 = .ok (.lreturn, 1) := by decide +kernel
theorem dX0_take_0 : decode cX0_take 0 = .ok (.iconst 0, 1) := by decide +kernel
theorem dX0_take_1 : decode cX0_take 1 = .ok (.istore_n 2, 1) := by decide +kernel
theorem dX0_take_2 : decode cX0_take 2 = .ok (.iload_n 2, 1) := by decide +kernel
theorem dX0_take_3 : decode cX0_take 3 = .ok (.bipush 72, 2) := by decide +kernel
theorem dX0_take_5 : decode cX0_take 5 = .ok (.if_icmp .ge 31, 3) := by decide +kernel
theorem dX0_take_8 : decode cX0_take 8 = .ok (.aload_n 0, 1) := by decide +kernel
theorem dX0_take_9 : decode cX0_take 9 = .ok (.getfield 9, 3) := by decide +kernel
theorem dX0_take_12 : decode cX0_take 12 = .ok (.iload_n 2, 1) := by decide +kernel
theorem dX0_take_13 : decode cX0_take 13 = .ok (.aload_n 1, 1) := by decide +kernel
theorem dX0_take_14 : decode cX0_take 14 = .ok (.iload_n 2, 1) := by decide +kernel
theorem dX0_take_15 : decode cX0_take 15 = .ok (.invokevirtual 53, 3) := by decide +kernel
theorem dX0_take_18 : decode cX0_take 18 = .ok (.iastore, 1) := by decide +kernel
theorem dX0_take_19 : decode cX0_take 19 = .ok (.aload_n 0, 1) := by decide +kernel
theorem dX0_take_20 : decode cX0_take 20 = .ok (.getfield 15, 3) := by decide +kernel
theorem dX0_take_23 : decode cX0_take 23 = .ok (.iload_n 2, 1) := by decide +kernel
theorem dX0_take_24 : decode cX0_take 24 = .ok (.aload_n 1, 1) := by decide +kernel
theorem dX0_take_25 : decode cX0_take 25 = .ok (.iload_n 2, 1) := by decide +kernel
theorem dX0_take_26 : decode cX0_take 26 = .ok (.invokevirtual 59, 3) := by decide +kernel
theorem dX0_take_29 : decode cX0_take 29 = .ok (.iastore, 1) := by decide +kernel
theorem dX0_take_30 : decode cX0_take 30 = .ok (.iinc 2 1, 3) := by decide +kernel
theorem dX0_take_33 : decode cX0_take 33 = .ok (.goto (-31), 3) := by decide +kernel
theorem dX0_take_36 : decode cX0_take 36 = .ok (.return_, 1) := by decide +kernel
theorem dX0_areAlike_0 : decode cX0_areAlike 0 = .ok (.aload_n 0, 1) := by decide +kernel
theorem dX0_areAlike_1 : decode cX0_areAlike 1 = .ok (.getfield 9, 3) := by decide +kernel
theorem dX0_areAlike_4 : decode cX0_areAlike 4 = .ok (.iload_n 1, 1) := by decide +kernel
theorem dX0_areAlike_5 : decode cX0_areAlike 5 = .ok (.iaload, 1) := by decide +kernel
theorem dX0_areAlike_6 : decode cX0_areAlike 6 = .ok (.aload_n 0, 1) := by decide +kernel
theorem dX0_areAlike_7 : decode cX0_areAlike 7 = .ok (.getfield 9, 3) := by decide +kernel
theorem dX0_areAlike_10 : decode cX0_areAlike 10 = .ok (.iload_n 2, 1) := by decide +kernel
theorem dX0_areAlike_11 : decode cX0_areAlike 11 = .ok (.iaload, 1) := by decide +kernel
theorem dX0_areAlike_12 : decode cX0_areAlike 12 = .ok (.if_icmp .ne 22, 3) := by decide +kernel
theorem dX0_areAlike_15 : decode cX0_areAlike 15 = .ok (.aload_n 0, 1) := by decide +kernel
theorem dX0_areAlike_16 : decode cX0_areAlike 16 = .ok (.getfield 15, 3) := by decide +kernel
theorem dX0_areAlike_19 : decode cX0_areAlike 19 = .ok (.iload_n 1, 1) := by decide +kernel
theorem dX0_areAlike_20 : decode cX0_areAlike 20 = .ok (.iaload, 1) := by decide +kernel
theorem dX0_areAlike_21 : decode cX0_areAlike 21 = .ok (.aload_n 0, 1) := by decide +kernel
theorem dX0_areAlike_22 : decode cX0_areAlike 22 = .ok (.getfield 15, 3) := by decide +kernel
theorem dX0_areAlike_25 : decode cX0_areAlike 25 = .ok (.iload_n 2, 1) := by decide +kernel
theorem dX0_areAlike_26 : decode cX0_areAlike 26 = .ok (.iaload, 1) := by decide +kernel
theorem dX0_areAlike_27 : decode cX0_areAlike 27 = .ok (.if_icmp .ne 7, 3) := by decide +kernel
theorem dX0_areAlike_30 : decode cX0_areAlike 30 = .ok (.iconst 1, 1) := by decide +kernel
theorem dX0_areAlike_31 : decode cX0_areAlike 31 = .ok (.goto 4, 3) := by decide +kernel
theorem dX0_areAlike_34 : decode cX0_areAlike 34 = .ok (.iconst 0, 1) := by decide +kernel
theorem dX0_areAlike_35 : decode cX0_areAlike 35 = .ok (.ireturn, 1) := by decide +kernel
theorem dX0_exchange_0 : decode cX0_exchange 0 = .ok (.aload_n 0, 1) := by decide +kernel
theorem dX0_exchange_1 : decode cX0_exchange 1 = .ok (.getfield 9, 3) := by decide +kernel
theorem dX0_exchange_4 : decode cX0_exchange 4 = .ok (.iload_n 1, 1) := by decide +kernel
theorem dX0_exchange_5 : decode cX0_exchange 5 = .ok (.iaload, 1) := by decide +kernel
theorem dX0_exchange_6 : decode cX0_exchange 6 = .ok (.istore_n 3, 1) := by decide +kernel
theorem dX0_exchange_7 : decode cX0_exchange 7 = .ok (.aload_n 0, 1) := by decide +kernel
theorem dX0_exchange_8 : decode cX0_exchange 8 = .ok (.getfield 15, 3) := by decide +kernel
theorem dX0_exchange_11 : decode cX0_exchange 11 = .ok (.iload_n 1, 1) := by decide +kernel
theorem dX0_exchange_12 : decode cX0_exchange 12 = .ok (.iaload, 1) := by decide +kernel
theorem dX0_exchange_13 : decode cX0_exchange 13 = .ok (.istore 4, 2) := by decide +kernel
theorem dX0_exchange_15 : decode cX0_exchange 15 = .ok (.aload_n 0, 1) := by decide +kernel
theorem dX0_exchange_16 : decode cX0_exchange 16 = .ok (.getfield 9, 3) := by decide +kernel
theorem dX0_exchange_19 : decode cX0_exchange 19 = .ok (.iload_n 1, 1) := by decide +kernel
theorem dX0_exchange_20 : decode cX0_exchange 20 = .ok (.aload_n 0, 1) := by decide +kernel
theorem dX0_exchange_21 : decode cX0_exchange 21 = .ok (.getfield 9, 3) := by decide +kernel
theorem dX0_exchange_24 : decode cX0_exchange 24 = .ok (.iload_n 2, 1) := by decide +kernel
theorem dX0_exchange_25 : decode cX0_exchange 25 = .ok (.iaload, 1) := by decide +kernel
theorem dX0_exchange_26 : decode cX0_exchange 26 = .ok (.iastore, 1) := by decide +kernel
theorem dX0_exchange_27 : decode cX0_exchange 27 = .ok (.aload_n 0, 1) := by decide +kernel
theorem dX0_exchange_28 : decode cX0_exchange 28 = .ok (.getfield 15, 3) := by decide +kernel
theorem dX0_exchange_31 : decode cX0_exchange 31 = .ok (.iload_n 1, 1) := by decide +kernel
theorem dX0_exchange_32 : decode cX0_exchange 32 = .ok (.aload_n 0, 1) := by decide +kernel
theorem dX0_exchange_33 : decode cX0_exchange 33 = .ok (.getfield 15, 3) := by decide +kernel
theorem dX0_exchange_36 : decode cX0_exchange 36 = .ok (.iload_n 2, 1) := by decide +kernel
theorem dX0_exchange_37 : decode cX0_exchange 37 = .ok (.iaload, 1) := by decide +kernel
theorem dX0_exchange_38 : decode cX0_exchange 38 = .ok (.iastore, 1) := by decide +kernel
theorem dX0_exchange_39 : decode cX0_exchange 39 = .ok (.aload_n 0, 1) := by decide +kernel
theorem dX0_exchange_40 : decode cX0_exchange 40 = .ok (.getfield 9, 3) := by decide +kernel
theorem dX0_exchange_43 : decode cX0_exchange 43 = .ok (.iload_n 2, 1) := by decide +kernel
theorem dX0_exchange_44 : decode cX0_exchange 44 = .ok (.iload_n 3, 1) := by decide +kernel
theorem dX0_exchange_45 : decode cX0_exchange 45 = .ok (.iastore, 1) := by decide +kernel
theorem dX0_exchange_46 : decode cX0_exchange 46 = .ok (.aload_n 0, 1) := by decide +kernel
theorem dX0_exchange_47 : decode cX0_exchange 47 = .ok (.getfield 15, 3) := by decide +kernel
theorem dX0_exchange_50 : decode cX0_exchange 50 = .ok (.iload_n 2, 1) := by decide +kernel
theorem dX0_exchange_51 : decode cX0_exchange 51 = .ok (.iload 4, 2) := by decide +kernel
theorem dX0_exchange_53 : decode cX0_exchange 53 = .ok (.iastore, 1) := by decide +kernel
theorem dX0_exchange_54 : decode cX0_exchange 54 = .ok (.return_, 1) := by decide +kernel
theorem dX0_run_0 : decode cX0_run 0 = .ok (.aload_n 0, 1) := by decide +kernel
theorem dX0_run_1 : decode cX0_run 1 = .ok (.lload_n 2, 1) := by decide +kernel
theorem dX0_run_2 : decode cX0_run 2 = .ok (.putfield 37, 3) := by decide +kernel
theorem dX0_run_5 : decode cX0_run 5 = .ok (.aload_n 0, 1) := by decide +kernel
theorem dX0_run_6 : decode cX0_run 6 = .ok (.lload_n 2, 1) := by decide +kernel
theorem dX0_run_7 : decode cX0_run 7 = .ok (.lload 4, 2) := by decide +kernel
theorem dX0_run_9 : decode cX0_run 9 = .ok (.lmul, 1) := by decide +kernel
theorem dX0_run_10 : decode cX0_run 10 = .ok (.putfield 41, 3) := by decide +kernel
theorem dX0_run_13 : decode cX0_run 13 = .ok (.aload_n 0, 1) := by decide +kernel
theorem dX0_run_14 : decode cX0_run 14 = .ok (.lload 6, 2) := by decide +kernel
theorem dX0_run_16 : decode cX0_run 16 = .ok (.putfield 44, 3) := by decide +kernel
theorem dX0_run_19 : decode cX0_run 19 = .ok (.iconst 0, 1) := by decide +kernel
theorem dX0_run_20 : decode cX0_run 20 = .ok (.istore 8, 2) := by decide +kernel
theorem dX0_run_22 : decode cX0_run 22 = .ok (.iload 8, 2) := by decide +kernel
theorem dX0_run_24 : decode cX0_run 24 = .ok (.iconst 3, 1) := by decide +kernel
theorem dX0_run_25 : decode cX0_run 25 = .ok (.if_icmp .ge 25, 3) := by decide +kernel
theorem dX0_run_28 : decode cX0_run 28 = .ok (.aload_n 0, 1) := by decide +kernel
theorem dX0_run_29 : decode cX0_run 29 = .ok (.iload 8, 2) := by decide +kernel
theorem dX0_run_31 : decode cX0_run 31 = .ok (.aload_n 1, 1) := by decide +kernel
theorem dX0_run_32 : decode cX0_run 32 = .ok (.iload 8, 2) := by decide +kernel
theorem dX0_run_34 : decode cX0_run 34 = .ok (.invokevirtual 62, 3) := by decide +kernel
theorem dX0_run_37 : decode cX0_run 37 = .ok (.aload_n 1, 1) := by decide +kernel
theorem dX0_run_38 : decode cX0_run 38 = .ok (.getfield 67, 3) := by decide +kernel
theorem dX0_run_41 : decode cX0_run 41 = .ok (.invokevirtual 71, 3) := by decide +kernel
theorem dX0_run_44 : decode cX0_run 44 = .ok (.iinc 8 1, 3) := by decide +kernel
theorem dX0_run_47 : decode cX0_run 47 = .ok (.goto (-25), 3) := by decide +kernel
theorem dX0_run_50 : decode cX0_run 50 = .ok (.aload_n 0, 1) := by decide +kernel
theorem dX0_run_51 : decode cX0_run 51 = .ok (.lload_n 2, 1) := by decide +kernel
theorem dX0_run_52 : decode cX0_run 52 = .ok (.aload_n 0, 1) := by decide +kernel
theorem dX0_run_53 : decode cX0_run 53 = .ok (.getfield 37, 3) := by decide +kernel
theorem dX0_run_56 : decode cX0_run 56 = .ok (.lsub, 1) := by decide +kernel
theorem dX0_run_57 : decode cX0_run 57 = .ok (.putfield 47, 3) := by decide +kernel
theorem dX0_run_60 : decode cX0_run 60 = .ok (.aload_n 0, 1) := by decide +kernel
theorem dX0_run_61 : decode cX0_run 61 = .ok (.lload_n 2, 1) := by decide +kernel
theorem dX0_run_62 : decode cX0_run 62 = .ok (.lload 4, 2) := by decide +kernel
theorem dX0_run_64 : decode cX0_run 64 = .ok (.lmul, 1) := by decide +kernel
theorem dX0_run_65 : decode cX0_run 65 = .ok (.aload_n 0, 1) := by decide +kernel
theorem dX0_run_66 : decode cX0_run 66 = .ok (.getfield 41, 3) := by decide +kernel
theorem dX0_run_69 : decode cX0_run 69 = .ok (.lsub, 1) := by decide +kernel
theorem dX0_run_70 : decode cX0_run 70 = .ok (.putfield 50, 3) := by decide +kernel
theorem dX0_run_73 : decode cX0_run 73 = .ok (.return_, 1) := by decide +kernel
theorem dX0_runStage_0 : decode cX0_runStage 0 = .ok (.iload_n 2, 1) := by decide +kernel
theorem dX0_runStage_1 : decode cX0_runStage 1 = .ok (.iconst 1, 1) := by decide +kernel
theorem dX0_runStage_2 : decode cX0_runStage 2 = .ok (.if_icmp .ge 4, 3) := by decide +kernel
theorem dX0_runStage_5 : decode cX0_runStage 5 = .ok (.return_, 1) := by decide +kernel
theorem dX0_runStage_6 : decode cX0_runStage 6 = .ok (.aload_n 0, 1) := by decide +kernel
theorem dX0_runStage_7 : decode cX0_runStage 7 = .ok (.getfield 37, 3) := by decide +kernel
theorem dX0_runStage_10 : decode cX0_runStage 10 = .ok (.iload_n 2, 1) := by decide +kernel
theorem dX0_runStage_11 : decode cX0_runStage 11 = .ok (.i2l, 1) := by decide +kernel
theorem dX0_runStage_12 : decode cX0_runStage 12 = .ok (.ldiv, 1) := by decide +kernel
theorem dX0_runStage_13 : decode cX0_runStage 13 = .ok (.lstore 4, 2) := by decide +kernel
theorem dX0_runStage_15 : decode cX0_runStage 15 = .ok (.aload_n 0, 1) := by decide +kernel
theorem dX0_runStage_16 : decode cX0_runStage 16 = .ok (.getfield 37, 3) := by decide +kernel
theorem dX0_runStage_19 : decode cX0_runStage 19 = .ok (.iload_n 2, 1) := by decide +kernel
theorem dX0_runStage_20 : decode cX0_runStage 20 = .ok (.i2l, 1) := by decide +kernel
theorem dX0_runStage_21 : decode cX0_runStage 21 = .ok (.lrem, 1) := by decide +kernel
theorem dX0_runStage_22 : decode cX0_runStage 22 = .ok (.lstore 6, 2) := by decide +kernel
theorem dX0_runStage_24 : decode cX0_runStage 24 = .ok (.aload_n 0, 1) := by decide +kernel
theorem dX0_runStage_25 : decode cX0_runStage 25 = .ok (.getfield 37, 3) := by decide +kernel
theorem dX0_runStage_28 : decode cX0_runStage 28 = .ok (.aload_n 0, 1) := by decide +kernel
theorem dX0_runStage_29 : decode cX0_runStage 29 = .ok (.getfield 41, 3) := by decide +kernel
theorem dX0_runStage_32 : decode cX0_runStage 32 = .ok (.invokestatic 75, 3) := by decide +kernel
theorem dX0_runStage_35 : decode cX0_runStage 35 = .ok (.lstore 8, 2) := by decide +kernel
theorem dX0_runStage_37 : decode cX0_runStage 37 = .ok (.aload_n 0, 1) := by decide +kernel
theorem dX0_runStage_38 : decode cX0_runStage 38 = .ok (.getfield 41, 3) := by decide +kernel
theorem dX0_runStage_41 : decode cX0_runStage 41 = .ok (.aload_n 0, 1) := by decide +kernel
theorem dX0_runStage_42 : decode cX0_runStage 42 = .ok (.getfield 37, 3) := by decide +kernel
theorem dX0_runStage_45 : decode cX0_runStage 45 = .ok (.lload 8, 2) := by decide +kernel
theorem dX0_runStage_47 : decode cX0_runStage 47 = .ok (.lmul, 1) := by decide +kernel
theorem dX0_runStage_48 : decode cX0_runStage 48 = .ok (.lsub, 1) := by decide +kernel
theorem dX0_runStage_49 : decode cX0_runStage 49 = .ok (.lstore 10, 2) := by decide +kernel
theorem dX0_runStage_51 : decode cX0_runStage 51 = .ok (.aload_n 0, 1) := by decide +kernel
theorem dX0_runStage_52 : decode cX0_runStage 52 = .ok (.lconst 0, 1) := by decide +kernel
theorem dX0_runStage_53 : decode cX0_runStage 53 = .ok (.putfield 37, 3) := by decide +kernel
theorem dX0_runStage_56 : decode cX0_runStage 56 = .ok (.aload_n 0, 1) := by decide +kernel
theorem dX0_runStage_57 : decode cX0_runStage 57 = .ok (.lconst 0, 1) := by decide +kernel
theorem dX0_runStage_58 : decode cX0_runStage 58 = .ok (.putfield 41, 3) := by decide +kernel
theorem dX0_runStage_61 : decode cX0_runStage 61 = .ok (.iconst 0, 1) := by decide +kernel
theorem dX0_runStage_62 : decode cX0_runStage 62 = .ok (.istore 12, 2) := by decide +kernel
theorem dX0_runStage_64 : decode cX0_runStage 64 = .ok (.iload 12, 2) := by decide +kernel
theorem dX0_runStage_66 : decode cX0_runStage 66 = .ok (.iload_n 2, 1) := by decide +kernel
theorem dX0_runStage_67 : decode cX0_runStage 67 = .ok (.if_icmp .ge 71, 3) := by decide +kernel
theorem dX0_runStage_70 : decode cX0_runStage 70 = .ok (.iload 12, 2) := by decide +kernel
theorem dX0_runStage_72 : decode cX0_runStage 72 = .ok (.i2l, 1) := by decide +kernel
theorem dX0_runStage_73 : decode cX0_runStage 73 = .ok (.lload 6, 2) := by decide +kernel
theorem dX0_runStage_75 : decode cX0_runStage 75 = .ok (.lcmp, 1) := by decide +kernel
theorem dX0_runStage_76 : decode cX0_runStage 76 = .ok (.ifCond .ge 10, 3) := by decide +kernel
theorem dX0_runStage_79 : decode cX0_runStage 79 = .ok (.lload 4, 2) := by decide +kernel
theorem dX0_runStage_81 : decode cX0_runStage 81 = .ok (.lconst 1, 1) := by decide +kernel
theorem dX0_runStage_82 : decode cX0_runStage 82 = .ok (.ladd, 1) := by decide +kernel
theorem dX0_runStage_83 : decode cX0_runStage 83 = .ok (.goto 5, 3) := by decide +kernel
theorem dX0_runStage_86 : decode cX0_runStage 86 = .ok (.lload 4, 2) := by decide +kernel
theorem dX0_runStage_88 : decode cX0_runStage 88 = .ok (.lstore 13, 2) := by decide +kernel
theorem dX0_runStage_90 : decode cX0_runStage 90 = .ok (.iload 12, 2) := by decide +kernel
theorem dX0_runStage_92 : decode cX0_runStage 92 = .ok (.ifCond .ne 14, 3) := by decide +kernel
theorem dX0_runStage_95 : decode cX0_runStage 95 = .ok (.lload 13, 2) := by decide +kernel
theorem dX0_runStage_97 : decode cX0_runStage 97 = .ok (.lload 8, 2) := by decide +kernel
theorem dX0_runStage_99 : decode cX0_runStage 99 = .ok (.lmul, 1) := by decide +kernel
theorem dX0_runStage_100 : decode cX0_runStage 100 = .ok (.lload 10, 2) := by decide +kernel
theorem dX0_runStage_102 : decode cX0_runStage 102 = .ok (.ladd, 1) := by decide +kernel
theorem dX0_runStage_103 : decode cX0_runStage 103 = .ok (.goto 8, 3) := by decide +kernel
theorem dX0_runStage_106 : decode cX0_runStage 106 = .ok (.lload 13, 2) := by decide +kernel
theorem dX0_runStage_108 : decode cX0_runStage 108 = .ok (.lload 8, 2) := by decide +kernel
theorem dX0_runStage_110 : decode cX0_runStage 110 = .ok (.lmul, 1) := by decide +kernel
theorem dX0_runStage_111 : decode cX0_runStage 111 = .ok (.lstore 15, 2) := by decide +kernel
theorem dX0_runStage_113 : decode cX0_runStage 113 = .ok (.aload_n 0, 1) := by decide +kernel
theorem dX0_runStage_114 : decode cX0_runStage 114 = .ok (.iload_n 1, 1) := by decide +kernel
theorem dX0_runStage_115 : decode cX0_runStage 115 = .ok (.bipush 24, 2) := by decide +kernel
theorem dX0_runStage_117 : decode cX0_runStage 117 = .ok (.imul, 1) := by decide +kernel
theorem dX0_runStage_118 : decode cX0_runStage 118 = .ok (.iload 12, 2) := by decide +kernel
theorem dX0_runStage_120 : decode cX0_runStage 120 = .ok (.bipush 6, 2) := by decide +kernel
theorem dX0_runStage_122 : decode cX0_runStage 122 = .ok (.imul, 1) := by decide +kernel
theorem dX0_runStage_123 : decode cX0_runStage 123 = .ok (.iadd, 1) := by decide +kernel
theorem dX0_runStage_124 : decode cX0_runStage 124 = .ok (.iload_n 3, 1) := by decide +kernel
theorem dX0_runStage_125 : decode cX0_runStage 125 = .ok (.lload 13, 2) := by decide +kernel
theorem dX0_runStage_127 : decode cX0_runStage 127 = .ok (.lload 15, 2) := by decide +kernel
theorem dX0_runStage_129 : decode cX0_runStage 129 = .ok (.invokevirtual 79, 3) := by decide +kernel
theorem dX0_runStage_132 : decode cX0_runStage 132 = .ok (.iinc 12 1, 3) := by decide +kernel
theorem dX0_runStage_135 : decode cX0_runStage 135 = .ok (.goto (-71), 3) := by decide +kernel
theorem dX0_runStage_138 : decode cX0_runStage 138 = .ok (.aload_n 0, 1) := by decide +kernel
theorem dX0_runStage_139 : decode cX0_runStage 139 = .ok (.lconst 0, 1) := by decide +kernel
theorem dX0_runStage_140 : decode cX0_runStage 140 = .ok (.aload_n 0, 1) := by decide +kernel
theorem dX0_runStage_141 : decode cX0_runStage 141 = .ok (.getfield 44, 3) := by decide +kernel
theorem dX0_runStage_144 : decode cX0_runStage 144 = .ok (.iconst 2, 1) := by decide +kernel
theorem dX0_runStage_145 : decode cX0_runStage 145 = .ok (.iload_n 3, 1) := by decide +kernel
theorem dX0_runStage_146 : decode cX0_runStage 146 = .ok (.imul, 1) := by decide +kernel
theorem dX0_runStage_147 : decode cX0_runStage 147 = .ok (.i2l, 1) := by decide +kernel
theorem dX0_runStage_148 : decode cX0_runStage 148 = .ok (.lsub, 1) := by decide +kernel
theorem dX0_runStage_149 : decode cX0_runStage 149 = .ok (.invokestatic 83, 3) := by decide +kernel
theorem dX0_runStage_152 : decode cX0_runStage 152 = .ok (.putfield 44, 3) := by decide +kernel
theorem dX0_runStage_155 : decode cX0_runStage 155 = .ok (.return_, 1) := by decide +kernel
theorem dX0_runVessel_0 : decode cX0_runVessel 0 = .ok (.lload_n 3, 1) := by decide +kernel
theorem dX0_runVessel_1 : decode cX0_runVessel 1 = .ok (.lstore 7, 2) := by decide +kernel
theorem dX0_runVessel_3 : decode cX0_runVessel 3 = .ok (.lload 5, 2) := by decide +kernel
theorem dX0_runVessel_5 : decode cX0_runVessel 5 = .ok (.lstore 9, 2) := by decide +kernel
theorem dX0_runVessel_7 : decode cX0_runVessel 7 = .ok (.aload_n 0, 1) := by decide +kernel
theorem dX0_runVessel_8 : decode cX0_runVessel 8 = .ok (.getfield 44, 3) := by decide +kernel
theorem dX0_runVessel_11 : decode cX0_runVessel 11 = .ok (.lstore 11, 2) := by decide +kernel
theorem dX0_runVessel_13 : decode cX0_runVessel 13 = .ok (.iload_n 1, 1) := by decide +kernel
theorem dX0_runVessel_14 : decode cX0_runVessel 14 = .ok (.istore 13, 2) := by decide +kernel
theorem dX0_runVessel_16 : decode cX0_runVessel 16 = .ok (.iload 13, 2) := by decide +kernel
theorem dX0_runVessel_18 : decode cX0_runVessel 18 = .ok (.iload_n 1, 1) := by decide +kernel
theorem dX0_runVessel_19 : decode cX0_runVessel 19 = .ok (.iload_n 2, 1) := by decide +kernel
theorem dX0_runVessel_20 : decode cX0_runVessel 20 = .ok (.iadd, 1) := by decide +kernel
theorem dX0_runVessel_21 : decode cX0_runVessel 21 = .ok (.if_icmp .ge 174, 3) := by decide +kernel
theorem dX0_runVessel_24 : decode cX0_runVessel 24 = .ok (.iload 13, 2) := by decide +kernel
theorem dX0_runVessel_26 : decode cX0_runVessel 26 = .ok (.bipush 72, 2) := by decide +kernel
theorem dX0_runVessel_28 : decode cX0_runVessel 28 = .ok (.if_icmp .ge 167, 3) := by decide +kernel
theorem dX0_runVessel_31 : decode cX0_runVessel 31 = .ok (.aload_n 0, 1) := by decide +kernel
theorem dX0_runVessel_32 : decode cX0_runVessel 32 = .ok (.getfield 18, 3) := by decide +kernel
theorem dX0_runVessel_35 : decode cX0_runVessel 35 = .ok (.iload 13, 2) := by decide +kernel
theorem dX0_runVessel_37 : decode cX0_runVessel 37 = .ok (.lload 7, 2) := by decide +kernel
theorem dX0_runVessel_39 : decode cX0_runVessel 39 = .ok (.lastore, 1) := by decide +kernel
theorem dX0_runVessel_40 : decode cX0_runVessel 40 = .ok (.aload_n 0, 1) := by decide +kernel
theorem dX0_runVessel_41 : decode cX0_runVessel 41 = .ok (.getfield 22, 3) := by decide +kernel
theorem dX0_runVessel_44 : decode cX0_runVessel 44 = .ok (.iload 13, 2) := by decide +kernel
theorem dX0_runVessel_46 : decode cX0_runVessel 46 = .ok (.lload 9, 2) := by decide +kernel
theorem dX0_runVessel_48 : decode cX0_runVessel 48 = .ok (.lastore, 1) := by decide +kernel
theorem dX0_runVessel_49 : decode cX0_runVessel 49 = .ok (.aload_n 0, 1) := by decide +kernel
theorem dX0_runVessel_50 : decode cX0_runVessel 50 = .ok (.getfield 25, 3) := by decide +kernel
theorem dX0_runVessel_53 : decode cX0_runVessel 53 = .ok (.iload 13, 2) := by decide +kernel
theorem dX0_runVessel_55 : decode cX0_runVessel 55 = .ok (.lload 11, 2) := by decide +kernel
theorem dX0_runVessel_57 : decode cX0_runVessel 57 = .ok (.lastore, 1) := by decide +kernel
theorem dX0_runVessel_58 : decode cX0_runVessel 58 = .ok (.lload 7, 2) := by decide +kernel
theorem dX0_runVessel_60 : decode cX0_runVessel 60 = .ok (.lload 9, 2) := by decide +kernel
theorem dX0_runVessel_62 : decode cX0_runVessel 62 = .ok (.invokestatic 75, 3) := by decide +kernel
theorem dX0_runVessel_65 : decode cX0_runVessel 65 = .ok (.lstore 14, 2) := by decide +kernel
theorem dX0_runVessel_67 : decode cX0_runVessel 67 = .ok (.lconst 0, 1) := by decide +kernel
theorem dX0_runVessel_68 : decode cX0_runVessel 68 = .ok (.lload 11, 2) := by decide +kernel
theorem dX0_runVessel_70 : decode cX0_runVessel 70 = .ok (.lload 14, 2) := by decide +kernel
theorem dX0_runVessel_72 : decode cX0_runVessel 72 = .ok (.ldc2_w 88, 3) := by decide +kernel
theorem dX0_runVessel_75 : decode cX0_runVessel 75 = .ok (.ldiv, 1) := by decide +kernel
theorem dX0_runVessel_76 : decode cX0_runVessel 76 = .ok (.lsub, 1) := by decide +kernel
theorem dX0_runVessel_77 : decode cX0_runVessel 77 = .ok (.invokestatic 83, 3) := by decide +kernel
theorem dX0_runVessel_80 : decode cX0_runVessel 80 = .ok (.lstore 16, 2) := by decide +kernel
theorem dX0_runVessel_82 : decode cX0_runVessel 82 = .ok (.aload_n 0, 1) := by decide +kernel
theorem dX0_runVessel_83 : decode cX0_runVessel 83 = .ok (.getfield 28, 3) := by decide +kernel
theorem dX0_runVessel_86 : decode cX0_runVessel 86 = .ok (.iload 13, 2) := by decide +kernel
theorem dX0_runVessel_88 : decode cX0_runVessel 88 = .ok (.lload 7, 2) := by decide +kernel
theorem dX0_runVessel_90 : decode cX0_runVessel 90 = .ok (.lload 16, 2) := by decide +kernel
theorem dX0_runVessel_92 : decode cX0_runVessel 92 = .ok (.aload_n 0, 1) := by decide +kernel
theorem dX0_runVessel_93 : decode cX0_runVessel 93 = .ok (.getfield 9, 3) := by decide +kernel
theorem dX0_runVessel_96 : decode cX0_runVessel 96 = .ok (.iload 13, 2) := by decide +kernel
theorem dX0_runVessel_98 : decode cX0_runVessel 98 = .ok (.iaload, 1) := by decide +kernel
theorem dX0_runVessel_99 : decode cX0_runVessel 99 = .ok (.i2l, 1) := by decide +kernel
theorem dX0_runVessel_100 : decode cX0_runVessel 100 = .ok (.lmul, 1) := by decide +kernel
theorem dX0_runVessel_101 : decode cX0_runVessel 101 = .ok (.ldc2_w 88, 3) := by decide +kernel
theorem dX0_runVessel_104 : decode cX0_runVessel 104 = .ok (.ldiv, 1) := by decide +kernel
theorem dX0_runVessel_105 : decode cX0_runVessel 105 = .ok (.invokestatic 90, 3) := by decide +kernel
theorem dX0_runVessel_108 : decode cX0_runVessel 108 = .ok (.lastore, 1) := by decide +kernel
theorem dX0_runVessel_109 : decode cX0_runVessel 109 = .ok (.aload_n 0, 1) := by decide +kernel
theorem dX0_runVessel_110 : decode cX0_runVessel 110 = .ok (.getfield 31, 3) := by decide +kernel
theorem dX0_runVessel_113 : decode cX0_runVessel 113 = .ok (.iload 13, 2) := by decide +kernel
theorem dX0_runVessel_115 : decode cX0_runVessel 115 = .ok (.lload 14, 2) := by decide +kernel
theorem dX0_runVessel_117 : decode cX0_runVessel 117 = .ok (.aload_n 0, 1) := by decide +kernel
theorem dX0_runVessel_118 : decode cX0_runVessel 118 = .ok (.getfield 15, 3) := by decide +kernel
theorem dX0_runVessel_121 : decode cX0_runVessel 121 = .ok (.iload 13, 2) := by decide +kernel
theorem dX0_runVessel_123 : decode cX0_runVessel 123 = .ok (.iaload, 1) := by decide +kernel
theorem dX0_runVessel_124 : decode cX0_runVessel 124 = .ok (.i2l, 1) := by decide +kernel
theorem dX0_runVessel_125 : decode cX0_runVessel 125 = .ok (.lmul, 1) := by decide +kernel
theorem dX0_runVessel_126 : decode cX0_runVessel 126 = .ok (.ldc2_w 93, 3) := by decide +kernel
theorem dX0_runVessel_129 : decode cX0_runVessel 129 = .ok (.ldiv, 1) := by decide +kernel
theorem dX0_runVessel_130 : decode cX0_runVessel 130 = .ok (.lastore, 1) := by decide +kernel
theorem dX0_runVessel_131 : decode cX0_runVessel 131 = .ok (.aload_n 0, 1) := by decide +kernel
theorem dX0_runVessel_132 : decode cX0_runVessel 132 = .ok (.getfield 34, 3) := by decide +kernel
theorem dX0_runVessel_135 : decode cX0_runVessel 135 = .ok (.iload 13, 2) := by decide +kernel
theorem dX0_runVessel_137 : decode cX0_runVessel 137 = .ok (.aload_n 0, 1) := by decide +kernel
theorem dX0_runVessel_138 : decode cX0_runVessel 138 = .ok (.getfield 28, 3) := by decide +kernel
theorem dX0_runVessel_141 : decode cX0_runVessel 141 = .ok (.iload 13, 2) := by decide +kernel
theorem dX0_runVessel_143 : decode cX0_runVessel 143 = .ok (.laload, 1) := by decide +kernel
theorem dX0_runVessel_144 : decode cX0_runVessel 144 = .ok (.aload_n 0, 1) := by decide +kernel
theorem dX0_runVessel_145 : decode cX0_runVessel 145 = .ok (.getfield 31, 3) := by decide +kernel
theorem dX0_runVessel_148 : decode cX0_runVessel 148 = .ok (.iload 13, 2) := by decide +kernel
theorem dX0_runVessel_150 : decode cX0_runVessel 150 = .ok (.laload, 1) := by decide +kernel
theorem dX0_runVessel_151 : decode cX0_runVessel 151 = .ok (.lmul, 1) := by decide +kernel
theorem dX0_runVessel_152 : decode cX0_runVessel 152 = .ok (.lastore, 1) := by decide +kernel
theorem dX0_runVessel_153 : decode cX0_runVessel 153 = .ok (.lload 7, 2) := by decide +kernel
theorem dX0_runVessel_155 : decode cX0_runVessel 155 = .ok (.aload_n 0, 1) := by decide +kernel
theorem dX0_runVessel_156 : decode cX0_runVessel 156 = .ok (.getfield 28, 3) := by decide +kernel
theorem dX0_runVessel_159 : decode cX0_runVessel 159 = .ok (.iload 13, 2) := by decide +kernel
theorem dX0_runVessel_161 : decode cX0_runVessel 161 = .ok (.laload, 1) := by decide +kernel
theorem dX0_runVessel_162 : decode cX0_runVessel 162 = .ok (.lsub, 1) := by decide +kernel
theorem dX0_runVessel_163 : decode cX0_runVessel 163 = .ok (.lstore 7, 2) := by decide +kernel
theorem dX0_runVessel_165 : decode cX0_runVessel 165 = .ok (.lload 9, 2) := by decide +kernel
theorem dX0_runVessel_167 : decode cX0_runVessel 167 = .ok (.aload_n 0, 1) := by decide +kernel
theorem dX0_runVessel_168 : decode cX0_runVessel 168 = .ok (.getfield 34, 3) := by decide +kernel
theorem dX0_runVessel_171 : decode cX0_runVessel 171 = .ok (.iload 13, 2) := by decide +kernel
theorem dX0_runVessel_173 : decode cX0_runVessel 173 = .ok (.laload, 1) := by decide +kernel
theorem dX0_runVessel_174 : decode cX0_runVessel 174 = .ok (.lsub, 1) := by decide +kernel
theorem dX0_runVessel_175 : decode cX0_runVessel 175 = .ok (.lstore 9, 2) := by decide +kernel
theorem dX0_runVessel_177 : decode cX0_runVessel 177 = .ok (.lconst 0, 1) := by decide +kernel
theorem dX0_runVessel_178 : decode cX0_runVessel 178 = .ok (.lload 11, 2) := by decide +kernel
theorem dX0_runVessel_180 : decode cX0_runVessel 180 = .ok (.ldc2_w 95, 3) := by decide +kernel
theorem dX0_runVessel_183 : decode cX0_runVessel 183 = .ok (.lsub, 1) := by decide +kernel
theorem dX0_runVessel_184 : decode cX0_runVessel 184 = .ok (.invokestatic 83, 3) := by decide +kernel
theorem dX0_runVessel_187 : decode cX0_runVessel 187 = .ok (.lstore 11, 2) := by decide +kernel
theorem dX0_runVessel_189 : decode cX0_runVessel 189 = .ok (.iinc 13 1, 3) := by decide +kernel
theorem dX0_runVessel_192 : decode cX0_runVessel 192 = .ok (.goto (-176), 3) := by decide +kernel
theorem dX0_runVessel_195 : decode cX0_runVessel 195 = .ok (.aload_n 0, 1) := by decide +kernel
theorem dX0_runVessel_196 : decode cX0_runVessel 196 = .ok (.dup, 1) := by decide +kernel
theorem dX0_runVessel_197 : decode cX0_runVessel 197 = .ok (.getfield 37, 3) := by decide +kernel
theorem dX0_runVessel_200 : decode cX0_runVessel 200 = .ok (.lload 7, 2) := by decide +kernel
theorem dX0_runVessel_202 : decode cX0_runVessel 202 = .ok (.ladd, 1) := by decide +kernel
theorem dX0_runVessel_203 : decode cX0_runVessel 203 = .ok (.putfield 37, 3) := by decide +kernel
theorem dX0_runVessel_206 : decode cX0_runVessel 206 = .ok (.aload_n 0, 1) := by decide +kernel
theorem dX0_runVessel_207 : decode cX0_runVessel 207 = .ok (.dup, 1) := by decide +kernel
theorem dX0_runVessel_208 : decode cX0_runVessel 208 = .ok (.getfield 41, 3) := by decide +kernel
theorem dX0_runVessel_211 : decode cX0_runVessel 211 = .ok (.lload 9, 2) := by decide +kernel
theorem dX0_runVessel_213 : decode cX0_runVessel 213 = .ok (.ladd, 1) := by decide +kernel
theorem dX0_runVessel_214 : decode cX0_runVessel 214 = .ok (.putfield 41, 3) := by decide +kernel
theorem dX0_runVessel_217 : decode cX0_runVessel 217 = .ok (.return_, 1) := by decide +kernel
theorem dX0_firstFailure_0 : decode cX0_firstFailure 0 = .ok (.iconst 0, 1) := by decide +kernel
theorem dX0_firstFailure_1 : decode cX0_firstFailure 1 = .ok (.istore 4, 2) := by decide +kernel
theorem dX0_firstFailure_3 : decode cX0_firstFailure 3 = .ok (.iload 4, 2) := by decide +kernel
theorem dX0_firstFailure_5 : decode cX0_firstFailure 5 = .ok (.bipush 72, 2) := by decide +kernel
theorem dX0_firstFailure_7 : decode cX0_firstFailure 7 = .ok (.if_icmp .ge 80, 3) := by decide +kernel
theorem dX0_firstFailure_10 : decode cX0_firstFailure 10 = .ok (.aload_n 1, 1) := by decide +kernel
theorem dX0_firstFailure_11 : decode cX0_firstFailure 11 = .ok (.iload 4, 2) := by decide +kernel
theorem dX0_firstFailure_13 : decode cX0_firstFailure 13 = .ok (.invokevirtual 97, 3) := by decide +kernel
theorem dX0_firstFailure_16 : decode cX0_firstFailure 16 = .ok (.ifCond .eq 65, 3) := by decide +kernel
theorem dX0_firstFailure_19 : decode cX0_firstFailure 19 = .ok (.aload_n 0, 1) := by decide +kernel
theorem dX0_firstFailure_20 : decode cX0_firstFailure 20 = .ok (.getfield 18, 3) := by decide +kernel
theorem dX0_firstFailure_23 : decode cX0_firstFailure 23 = .ok (.iload 4, 2) := by decide +kernel
theorem dX0_firstFailure_25 : decode cX0_firstFailure 25 = .ok (.laload, 1) := by decide +kernel
theorem dX0_firstFailure_26 : decode cX0_firstFailure 26 = .ok (.aload_n 0, 1) := by decide +kernel
theorem dX0_firstFailure_27 : decode cX0_firstFailure 27 = .ok (.getfield 28, 3) := by decide +kernel
theorem dX0_firstFailure_30 : decode cX0_firstFailure 30 = .ok (.iload 4, 2) := by decide +kernel
theorem dX0_firstFailure_32 : decode cX0_firstFailure 32 = .ok (.laload, 1) := by decide +kernel
theorem dX0_firstFailure_33 : decode cX0_firstFailure 33 = .ok (.lsub, 1) := by decide +kernel
theorem dX0_firstFailure_34 : decode cX0_firstFailure 34 = .ok (.iload_n 2, 1) := by decide +kernel
theorem dX0_firstFailure_35 : decode cX0_firstFailure 35 = .ok (.i2l, 1) := by decide +kernel
theorem dX0_firstFailure_36 : decode cX0_firstFailure 36 = .ok (.lcmp, 1) := by decide +kernel
theorem dX0_firstFailure_37 : decode cX0_firstFailure 37 = .ok (.ifCond .ge 16, 3) := by decide +kernel
theorem dX0_firstFailure_40 : decode cX0_firstFailure 40 = .ok (.ldc2_w 101, 3) := by decide +kernel
theorem dX0_firstFailure_43 : decode cX0_firstFailure 43 = .ok (.iload 4, 2) := by decide +kernel
theorem dX0_firstFailure_45 : decode cX0_firstFailure 45 = .ok (.invokestatic 103, 3) := by decide +kernel
theorem dX0_firstFailure_48 : decode cX0_firstFailure 48 = .ok (.i2l, 1) := by decide +kernel
theorem dX0_firstFailure_49 : decode cX0_firstFailure 49 = .ok (.lmul, 1) := by decide +kernel
theorem dX0_firstFailure_50 : decode cX0_firstFailure 50 = .ok (.lconst 1, 1) := by decide +kernel
theorem dX0_firstFailure_51 : decode cX0_firstFailure 51 = .ok (.ladd, 1) := by decide +kernel
theorem dX0_firstFailure_52 : decode cX0_firstFailure 52 = .ok (.lreturn, 1) := by decide +kernel
theorem dX0_firstFailure_53 : decode cX0_firstFailure 53 = .ok (.aload_n 0, 1) := by decide +kernel
theorem dX0_firstFailure_54 : decode cX0_firstFailure 54 = .ok (.getfield 28, 3) := by decide +kernel
theorem dX0_firstFailure_57 : decode cX0_firstFailure 57 = .ok (.iload 4, 2) := by decide +kernel
theorem dX0_firstFailure_59 : decode cX0_firstFailure 59 = .ok (.laload, 1) := by decide +kernel
theorem dX0_firstFailure_60 : decode cX0_firstFailure 60 = .ok (.iload_n 3, 1) := by decide +kernel
theorem dX0_firstFailure_61 : decode cX0_firstFailure 61 = .ok (.i2l, 1) := by decide +kernel
theorem dX0_firstFailure_62 : decode cX0_firstFailure 62 = .ok (.lcmp, 1) := by decide +kernel
theorem dX0_firstFailure_63 : decode cX0_firstFailure 63 = .ok (.ifCond .le 18, 3) := by decide +kernel
theorem dX0_firstFailure_66 : decode cX0_firstFailure 66 = .ok (.ldc2_w 101, 3) := by decide +kernel
theorem dX0_firstFailure_69 : decode cX0_firstFailure 69 = .ok (.iload 4, 2) := by decide +kernel
theorem dX0_firstFailure_71 : decode cX0_firstFailure 71 = .ok (.invokestatic 103, 3) := by decide +kernel
theorem dX0_firstFailure_74 : decode cX0_firstFailure 74 = .ok (.i2l, 1) := by decide +kernel
theorem dX0_firstFailure_75 : decode cX0_firstFailure 75 = .ok (.lmul, 1) := by decide +kernel
theorem dX0_firstFailure_76 : decode cX0_firstFailure 76 = .ok (.ldc2_w 95, 3) := by decide +kernel
theorem dX0_firstFailure_79 : decode cX0_firstFailure 79 = .ok (.ladd, 1) := by decide +kernel
theorem dX0_firstFailure_80 : decode cX0_firstFailure 80 = .ok (.lreturn, 1) := by decide +kernel
theorem dX0_firstFailure_81 : decode cX0_firstFailure 81 = .ok (.iinc 4 1, 3) := by decide +kernel
theorem dX0_firstFailure_84 : decode cX0_firstFailure 84 = .ok (.goto (-81), 3) := by decide +kernel
theorem dX0_firstFailure_87 : decode cX0_firstFailure 87 = .ok (.ldc2_w 106, 3) := by decide +kernel
theorem dX0_firstFailure_90 : decode cX0_firstFailure 90 = .ok (.lreturn, 1) := by decide +kernel
theorem dX1_init_0 : decode cX1_init 0 = .ok (.aload_n 0, 1) := by decide +kernel
theorem dX1_init_1 : decode cX1_init 1 = .ok (.invokespecial 1, 3) := by decide +kernel
theorem dX1_init_4 : decode cX1_init 4 = .ok (.aload_n 0, 1) := by decide +kernel
theorem dX1_init_5 : decode cX1_init 5 = .ok (.bipush 12, 2) := by decide +kernel
theorem dX1_init_7 : decode cX1_init 7 = .ok (.newarray .int, 2) := by decide +kernel
theorem dX1_init_9 : decode cX1_init 9 = .ok (.putfield 9, 3) := by decide +kernel
theorem dX1_init_12 : decode cX1_init 12 = .ok (.aload_n 0, 1) := by decide +kernel
theorem dX1_init_13 : decode cX1_init 13 = .ok (.bipush 12, 2) := by decide +kernel
theorem dX1_init_15 : decode cX1_init 15 = .ok (.newarray .int, 2) := by decide +kernel
theorem dX1_init_17 : decode cX1_init 17 = .ok (.putfield 13, 3) := by decide +kernel
theorem dX1_init_20 : decode cX1_init 20 = .ok (.aload_n 0, 1) := by decide +kernel
theorem dX1_init_21 : decode cX1_init 21 = .ok (.sipush 201, 3) := by decide +kernel
theorem dX1_init_24 : decode cX1_init 24 = .ok (.newarray .int, 2) := by decide +kernel
theorem dX1_init_26 : decode cX1_init 26 = .ok (.putfield 16, 3) := by decide +kernel
theorem dX1_init_29 : decode cX1_init 29 = .ok (.aload_n 0, 1) := by decide +kernel
theorem dX1_init_30 : decode cX1_init 30 = .ok (.sipush 201, 3) := by decide +kernel
theorem dX1_init_33 : decode cX1_init 33 = .ok (.newarray .int, 2) := by decide +kernel
theorem dX1_init_35 : decode cX1_init 35 = .ok (.putfield 19, 3) := by decide +kernel
theorem dX1_init_38 : decode cX1_init 38 = .ok (.return_, 1) := by decide +kernel
theorem dX1_mostOf_0 : decode cX1_mostOf 0 = .ok (.iload_n 0, 1) := by decide +kernel
theorem dX1_mostOf_1 : decode cX1_mostOf 1 = .ok (.ifCond .ne 8, 3) := by decide +kernel
theorem dX1_mostOf_4 : decode cX1_mostOf 4 = .ok (.bipush 99, 2) := by decide +kernel
theorem dX1_mostOf_6 : decode cX1_mostOf 6 = .ok (.goto 6, 3) := by decide +kernel
theorem dX1_mostOf_9 : decode cX1_mostOf 9 = .ok (.sipush 999, 3) := by decide +kernel
theorem dX1_mostOf_12 : decode cX1_mostOf 12 = .ok (.ireturn, 1) := by decide +kernel
theorem dX1_rowOf_0 : decode cX1_rowOf 0 = .ok (.iload_n 1, 1) := by decide +kernel
theorem dX1_rowOf_1 : decode cX1_rowOf 1 = .ok (.ifCond .ne 10, 3) := by decide +kernel
theorem dX1_rowOf_4 : decode cX1_rowOf 4 = .ok (.aload_n 0, 1) := by decide +kernel
theorem dX1_rowOf_5 : decode cX1_rowOf 5 = .ok (.getfield 9, 3) := by decide +kernel
theorem dX1_rowOf_8 : decode cX1_rowOf 8 = .ok (.goto 7, 3) := by decide +kernel
theorem dX1_rowOf_11 : decode cX1_rowOf 11 = .ok (.aload_n 0, 1) := by decide +kernel
theorem dX1_rowOf_12 : decode cX1_rowOf 12 = .ok (.getfield 13, 3) := by decide +kernel
theorem dX1_rowOf_15 : decode cX1_rowOf 15 = .ok (.areturn, 1) := by decide +kernel
theorem dX1_isPlan_0 : decode cX1_isPlan 0 = .ok (.iload_n 0, 1) := by decide +kernel
theorem dX1_isPlan_1 : decode cX1_isPlan 1 = .ok (.ldc 22, 2) := by decide +kernel
theorem dX1_isPlan_3 : decode cX1_isPlan 3 = .ok (.if_icmp .ge 7, 3) := by decide +kernel
theorem dX1_isPlan_6 : decode cX1_isPlan 6 = .ok (.iconst 1, 1) := by decide +kernel
theorem dX1_isPlan_7 : decode cX1_isPlan 7 = .ok (.goto 4, 3) := by decide +kernel
theorem dX1_isPlan_10 : decode cX1_isPlan 10 = .ok (.iconst 0, 1) := by decide +kernel
theorem dX1_isPlan_11 : decode cX1_isPlan 11 = .ok (.ireturn, 1) := by decide +kernel
theorem dX1_costOf_0 : decode cX1_costOf 0 = .ok (.iload_n 0, 1) := by decide +kernel
theorem dX1_costOf_1 : decode cX1_costOf 1 = .ok (.bipush 12, 2) := by decide +kernel
theorem dX1_costOf_3 : decode cX1_costOf 3 = .ok (.ishr, 1) := by decide +kernel
theorem dX1_costOf_4 : decode cX1_costOf 4 = .ok (.ireturn, 1) := by decide +kernel
theorem dX1_runsAt_0 : decode cX1_runsAt 0 = .ok (.iload_n 0, 1) := by decide +kernel
theorem dX1_runsAt_1 : decode cX1_runsAt 1 = .ok (.bipush 11, 2) := by decide +kernel
theorem dX1_runsAt_3 : decode cX1_runsAt 3 = .ok (.iload_n 1, 1) := by decide +kernel
theorem dX1_runsAt_4 : decode cX1_runsAt 4 = .ok (.isub, 1) := by decide +kernel
theorem dX1_runsAt_5 : decode cX1_runsAt 5 = .ok (.ishr, 1) := by decide +kernel
theorem dX1_runsAt_6 : decode cX1_runsAt 6 = .ok (.iconst 1, 1) := by decide +kernel
theorem dX1_runsAt_7 : decode cX1_runsAt 7 = .ok (.iand, 1) := by decide +kernel
theorem dX1_runsAt_8 : decode cX1_runsAt 8 = .ok (.iconst 1, 1) := by decide +kernel
theorem dX1_runsAt_9 : decode cX1_runsAt 9 = .ok (.if_icmp .ne 7, 3) := by decide +kernel
theorem dX1_runsAt_12 : decode cX1_runsAt 12 = .ok (.iconst 1, 1) := by decide +kernel
theorem dX1_runsAt_13 : decode cX1_runsAt 13 = .ok (.goto 4, 3) := by decide +kernel
theorem dX1_runsAt_16 : decode cX1_runsAt 16 = .ok (.iconst 0, 1) := by decide +kernel
theorem dX1_runsAt_17 : decode cX1_runsAt 17 = .ok (.ireturn, 1) := by decide +kernel
theorem dX1_bitsOf_0 : decode cX1_bitsOf 0 = .ok (.iconst 0, 1) := by decide +kernel
theorem dX1_bitsOf_1 : decode cX1_bitsOf 1 = .ok (.istore_n 1, 1) := by decide +kernel
theorem dX1_bitsOf_2 : decode cX1_bitsOf 2 = .ok (.iconst 0, 1) := by decide +kernel
theorem dX1_bitsOf_3 : decode cX1_bitsOf 3 = .ok (.istore_n 2, 1) := by decide +kernel
theorem dX1_bitsOf_4 : decode cX1_bitsOf 4 = .ok (.iload_n 2, 1) := by decide +kernel
theorem dX1_bitsOf_5 : decode cX1_bitsOf 5 = .ok (.bipush 12, 2) := by decide +kernel
theorem dX1_bitsOf_7 : decode cX1_bitsOf 7 = .ok (.if_icmp .ge 27, 3) := by decide +kernel
theorem dX1_bitsOf_10 : decode cX1_bitsOf 10 = .ok (.iload_n 1, 1) := by decide +kernel
theorem dX1_bitsOf_11 : decode cX1_bitsOf 11 = .ok (.iload_n 0, 1) := by decide +kernel
theorem dX1_bitsOf_12 : decode cX1_bitsOf 12 = .ok (.iload_n 2, 1) := by decide +kernel
theorem dX1_bitsOf_13 : decode cX1_bitsOf 13 = .ok (.invokestatic 23, 3) := by decide +kernel
theorem dX1_bitsOf_16 : decode cX1_bitsOf 16 = .ok (.ifCond .eq 9, 3) := by decide +kernel
theorem dX1_bitsOf_19 : decode cX1_bitsOf 19 = .ok (.iconst 1, 1) := by decide +kernel
theorem dX1_bitsOf_20 : decode cX1_bitsOf 20 = .ok (.iload_n 2, 1) := by decide +kernel
theorem dX1_bitsOf_21 : decode cX1_bitsOf 21 = .ok (.ishl, 1) := by decide +kernel
theorem dX1_bitsOf_22 : decode cX1_bitsOf 22 = .ok (.goto 4, 3) := by decide +kernel
theorem dX1_bitsOf_25 : decode cX1_bitsOf 25 = .ok (.iconst 0, 1) := by decide +kernel
theorem dX1_bitsOf_26 : decode cX1_bitsOf 26 = .ok (.ior, 1) := by decide +kernel
theorem dX1_bitsOf_27 : decode cX1_bitsOf 27 = .ok (.istore_n 1, 1) := by decide +kernel
theorem dX1_bitsOf_28 : decode cX1_bitsOf 28 = .ok (.iinc 2 1, 3) := by decide +kernel
theorem dX1_bitsOf_31 : decode cX1_bitsOf 31 = .ok (.goto (-27), 3) := by decide +kernel
theorem dX1_bitsOf_34 : decode cX1_bitsOf 34 = .ok (.iload_n 1, 1) := by decide +kernel
theorem dX1_bitsOf_35 : decode cX1_bitsOf 35 = .ok (.ireturn, 1) := by decide +kernel
theorem dX1_behind_0 : decode cX1_behind 0 = .ok (.iload_n 3, 1) := by decide +kernel
theorem dX1_behind_1 : decode cX1_behind 1 = .ok (.iload_n 2, 1) := by decide +kernel
theorem dX1_behind_2 : decode cX1_behind 2 = .ok (.aload_n 0, 1) := by decide +kernel
theorem dX1_behind_3 : decode cX1_behind 3 = .ok (.getfield 13, 3) := by decide +kernel
theorem dX1_behind_6 : decode cX1_behind 6 = .ok (.iload_n 1, 1) := by decide +kernel
theorem dX1_behind_7 : decode cX1_behind 7 = .ok (.iaload, 1) := by decide +kernel
theorem dX1_behind_8 : decode cX1_behind 8 = .ok (.isub, 1) := by decide +kernel
theorem dX1_behind_9 : decode cX1_behind 9 = .ok (.invokestatic 27, 3) := by decide +kernel
theorem dX1_behind_12 : decode cX1_behind 12 = .ok (.ireturn, 1) := by decide +kernel
theorem dX1_best_0 : decode cX1_best 0 = .ok (.aload_n 0, 1) := by decide +kernel
theorem dX1_best_1 : decode cX1_best 1 = .ok (.getfield 19, 3) := by decide +kernel
theorem dX1_best_4 : decode cX1_best 4 = .ok (.iconst 0, 1) := by decide +kernel
theorem dX1_best_5 : decode cX1_best 5 = .ok (.invokestatic 33, 3) := by decide +kernel
theorem dX1_best_8 : decode cX1_best 8 = .ok (.bipush 11, 2) := by decide +kernel
theorem dX1_best_10 : decode cX1_best 10 = .ok (.istore 4, 2) := by decide +kernel
theorem dX1_best_12 : decode cX1_best 12 = .ok (.iload 4, 2) := by decide +kernel
theorem dX1_best_14 : decode cX1_best 14 = .ok (.ifCond .lt 122, 3) := by decide +kernel
theorem dX1_best_17 : decode cX1_best 17 = .ok (.aload_n 0, 1) := by decide +kernel
theorem dX1_best_18 : decode cX1_best 18 = .ok (.getfield 9, 3) := by decide +kernel
theorem dX1_best_21 : decode cX1_best 21 = .ok (.iload 4, 2) := by decide +kernel
theorem dX1_best_23 : decode cX1_best 23 = .ok (.iaload, 1) := by decide +kernel
theorem dX1_best_24 : decode cX1_best 24 = .ok (.bipush 12, 2) := by decide +kernel
theorem dX1_best_26 : decode cX1_best 26 = .ok (.ishl, 1) := by decide +kernel
theorem dX1_best_27 : decode cX1_best 27 = .ok (.iconst 1, 1) := by decide +kernel
theorem dX1_best_28 : decode cX1_best 28 = .ok (.bipush 11, 2) := by decide +kernel
theorem dX1_best_30 : decode cX1_best 30 = .ok (.iload 4, 2) := by decide +kernel
theorem dX1_best_32 : decode cX1_best 32 = .ok (.isub, 1) := by decide +kernel
theorem dX1_best_33 : decode cX1_best 33 = .ok (.ishl, 1) := by decide +kernel
theorem dX1_best_34 : decode cX1_best 34 = .ok (.iadd, 1) := by decide +kernel
theorem dX1_best_35 : decode cX1_best 35 = .ok (.istore 5, 2) := by decide +kernel
theorem dX1_best_37 : decode cX1_best 37 = .ok (.iconst 0, 1) := by decide +kernel
theorem dX1_best_38 : decode cX1_best 38 = .ok (.istore 6, 2) := by decide +kernel
theorem dX1_best_40 : decode cX1_best 40 = .ok (.iload 6, 2) := by decide +kernel
theorem dX1_best_42 : decode cX1_best 42 = .ok (.iload_n 2, 1) := by decide +kernel
theorem dX1_best_43 : decode cX1_best 43 = .ok (.if_icmp .gt 71, 3) := by decide +kernel
theorem dX1_best_46 : decode cX1_best 46 = .ok (.iload 6, 2) := by decide +kernel
theorem dX1_best_48 : decode cX1_best 48 = .ok (.sipush 200, 3) := by decide +kernel
theorem dX1_best_51 : decode cX1_best 51 = .ok (.if_icmp .gt 63, 3) := by decide +kernel
theorem dX1_best_54 : decode cX1_best 54 = .ok (.aload_n 0, 1) := by decide +kernel
theorem dX1_best_55 : decode cX1_best 55 = .ok (.aload_n 0, 1) := by decide +kernel
theorem dX1_best_56 : decode cX1_best 56 = .ok (.iload 4, 2) := by decide +kernel
theorem dX1_best_58 : decode cX1_best 58 = .ok (.iload 6, 2) := by decide +kernel
theorem dX1_best_60 : decode cX1_best 60 = .ok (.iload_n 2, 1) := by decide +kernel
theorem dX1_best_61 : decode cX1_best 61 = .ok (.invokevirtual 39, 3) := by decide +kernel
theorem dX1_best_64 : decode cX1_best 64 = .ok (.invokevirtual 43, 3) := by decide +kernel
theorem dX1_best_67 : decode cX1_best 67 = .ok (.istore 7, 2) := by decide +kernel
theorem dX1_best_69 : decode cX1_best 69 = .ok (.aload_n 0, 1) := by decide +kernel
theorem dX1_best_70 : decode cX1_best 70 = .ok (.aload_n 0, 1) := by decide +kernel
theorem dX1_best_71 : decode cX1_best 71 = .ok (.iload 4, 2) := by decide +kernel
theorem dX1_best_73 : decode cX1_best 73 = .ok (.iload 6, 2) := by decide +kernel
theorem dX1_best_75 : decode cX1_best 75 = .ok (.iload_n 3, 1) := by decide +kernel
theorem dX1_best_76 : decode cX1_best 76 = .ok (.iadd, 1) := by decide +kernel
theorem dX1_best_77 : decode cX1_best 77 = .ok (.iload_n 2, 1) := by decide +kernel
theorem dX1_best_78 : decode cX1_best 78 = .ok (.invokevirtual 39, 3) := by decide +kernel
theorem dX1_best_81 : decode cX1_best 81 = .ok (.invokevirtual 43, 3) := by decide +kernel
theorem dX1_best_84 : decode cX1_best 84 = .ok (.iload 5, 2) := by decide +kernel
theorem dX1_best_86 : decode cX1_best 86 = .ok (.iadd, 1) := by decide +kernel
theorem dX1_best_87 : decode cX1_best 87 = .ok (.istore 8, 2) := by decide +kernel
theorem dX1_best_89 : decode cX1_best 89 = .ok (.aload_n 0, 1) := by decide +kernel
theorem dX1_best_90 : decode cX1_best 90 = .ok (.getfield 16, 3) := by decide +kernel
theorem dX1_best_93 : decode cX1_best 93 = .ok (.iload 6, 2) := by decide +kernel
theorem dX1_best_95 : decode cX1_best 95 = .ok (.ldc 22, 2) := by decide +kernel
theorem dX1_best_97 : decode cX1_best 97 = .ok (.iload 7, 2) := by decide +kernel
theorem dX1_best_99 : decode cX1_best 99 = .ok (.iload 8, 2) := by decide +kernel
theorem dX1_best_101 : decode cX1_best 101 = .ok (.invokestatic 27, 3) := by decide +kernel
theorem dX1_best_104 : decode cX1_best 104 = .ok (.invokestatic 27, 3) := by decide +kernel
theorem dX1_best_107 : decode cX1_best 107 = .ok (.iastore, 1) := by decide +kernel
theorem dX1_best_108 : decode cX1_best 108 = .ok (.iinc 6 1, 3) := by decide +kernel
theorem dX1_best_111 : decode cX1_best 111 = .ok (.goto (-71), 3) := by decide +kernel
theorem dX1_best_114 : decode cX1_best 114 = .ok (.aload_n 0, 1) := by decide +kernel
theorem dX1_best_115 : decode cX1_best 115 = .ok (.getfield 16, 3) := by decide +kernel
theorem dX1_best_118 : decode cX1_best 118 = .ok (.iconst 0, 1) := by decide +kernel
theorem dX1_best_119 : decode cX1_best 119 = .ok (.aload_n 0, 1) := by decide +kernel
theorem dX1_best_120 : decode cX1_best 120 = .ok (.getfield 19, 3) := by decide +kernel
theorem dX1_best_123 : decode cX1_best 123 = .ok (.iconst 0, 1) := by decide +kernel
theorem dX1_best_124 : decode cX1_best 124 = .ok (.sipush 201, 3) := by decide +kernel
theorem dX1_best_127 : decode cX1_best 127 = .ok (.invokestatic 47, 3) := by decide +kernel
theorem dX1_best_130 : decode cX1_best 130 = .ok (.iinc 4 (-1), 3) := by decide +kernel
theorem dX1_best_133 : decode cX1_best 133 = .ok (.goto (-121), 3) := by decide +kernel
theorem dX1_best_136 : decode cX1_best 136 = .ok (.aload_n 0, 1) := by decide +kernel
theorem dX1_best_137 : decode cX1_best 137 = .ok (.iload_n 1, 1) := by decide +kernel
theorem dX1_best_138 : decode cX1_best 138 = .ok (.invokevirtual 43, 3) := by decide +kernel
theorem dX1_best_141 : decode cX1_best 141 = .ok (.ireturn, 1) := by decide +kernel
theorem dX1_laterAt_0 : decode cX1_laterAt 0 = .ok (.iload_n 1, 1) := by decide +kernel
theorem dX1_laterAt_1 : decode cX1_laterAt 1 = .ok (.ifCond .lt 10, 3) := by decide +kernel
theorem dX1_laterAt_4 : decode cX1_laterAt 4 = .ok (.iload_n 1, 1) := by decide +kernel
theorem dX1_laterAt_5 : decode cX1_laterAt 5 = .ok (.sipush 200, 3) := by decide +kernel
theorem dX1_laterAt_8 : decode cX1_laterAt 8 = .ok (.if_icmp .le 8, 3) := by decide +kernel
theorem dX1_laterAt_11 : decode cX1_laterAt 11 = .ok (.ldc 22, 2) := by decide +kernel
theorem dX1_laterAt_13 : decode cX1_laterAt 13 = .ok (.goto 9, 3) := by decide +kernel
theorem dX1_laterAt_16 : decode cX1_laterAt 16 = .ok (.aload_n 0, 1) := by decide +kernel
theorem dX1_laterAt_17 : decode cX1_laterAt 17 = .ok (.getfield 19, 3) := by decide +kernel
theorem dX1_laterAt_20 : decode cX1_laterAt 20 = .ok (.iload_n 1, 1) := by decide +kernel
theorem dX1_laterAt_21 : decode cX1_laterAt 21 = .ok (.iaload, 1) := by decide +kernel
theorem dX1_laterAt_22 : decode cX1_laterAt 22 = .ok (.ireturn, 1) := by decide +kernel
theorem dX2_init_0 : decode cX2_init 0 = .ok (.aload_n 0, 1) := by decide +kernel
theorem dX2_init_1 : decode cX2_init 1 = .ok (.invokespecial 5, 3) := by decide +kernel
theorem dX2_init_4 : decode cX2_init 4 = .ok (.aload_n 0, 1) := by decide +kernel
theorem dX2_init_5 : decode cX2_init 5 = .ok (.iconst 3, 1) := by decide +kernel
theorem dX2_init_6 : decode cX2_init 6 = .ok (.newarray .int, 2) := by decide +kernel
theorem dX2_init_8 : decode cX2_init 8 = .ok (.dup, 1) := by decide +kernel
theorem dX2_init_9 : decode cX2_init 9 = .ok (.iconst 0, 1) := by decide +kernel
theorem dX2_init_10 : decode cX2_init 10 = .ok (.iconst 1, 1) := by decide +kernel
theorem dX2_init_11 : decode cX2_init 11 = .ok (.iastore, 1) := by decide +kernel
theorem dX2_init_12 : decode cX2_init 12 = .ok (.dup, 1) := by decide +kernel
theorem dX2_init_13 : decode cX2_init 13 = .ok (.iconst 1, 1) := by decide +kernel
theorem dX2_init_14 : decode cX2_init 14 = .ok (.iconst 0, 1) := by decide +kernel
theorem dX2_init_15 : decode cX2_init 15 = .ok (.iastore, 1) := by decide +kernel
theorem dX2_init_16 : decode cX2_init 16 = .ok (.dup, 1) := by decide +kernel
theorem dX2_init_17 : decode cX2_init 17 = .ok (.iconst 2, 1) := by decide +kernel
theorem dX2_init_18 : decode cX2_init 18 = .ok (.iconst 0, 1) := by decide +kernel
theorem dX2_init_19 : decode cX2_init 19 = .ok (.iastore, 1) := by decide +kernel
theorem dX2_init_20 : decode cX2_init 20 = .ok (.putfield 11, 3) := by decide +kernel
theorem dX2_init_23 : decode cX2_init 23 = .ok (.aload_n 0, 1) := by decide +kernel
theorem dX2_init_24 : decode cX2_init 24 = .ok (.iconst 3, 1) := by decide +kernel
theorem dX2_init_25 : decode cX2_init 25 = .ok (.putfield 15, 3) := by decide +kernel
theorem dX2_init_28 : decode cX2_init 28 = .ok (.return_, 1) := by decide +kernel
theorem dX2_vesselsIn_0 : decode cX2_vesselsIn 0 = .ok (.iconst 0, 1) := by decide +kernel
theorem dX2_vesselsIn_1 : decode cX2_vesselsIn 1 = .ok (.istore_n 2, 1) := by decide +kernel
theorem dX2_vesselsIn_2 : decode cX2_vesselsIn 2 = .ok (.iload_n 2, 1) := by decide +kernel
theorem dX2_vesselsIn_3 : decode cX2_vesselsIn 3 = .ok (.iload_n 1, 1) := by decide +kernel
theorem dX2_vesselsIn_4 : decode cX2_vesselsIn 4 = .ok (.if_icmp .ge 25, 3) := by decide +kernel
theorem dX2_vesselsIn_7 : decode cX2_vesselsIn 7 = .ok (.iload_n 2, 1) := by decide +kernel
theorem dX2_vesselsIn_8 : decode cX2_vesselsIn 8 = .ok (.iconst 3, 1) := by decide +kernel
theorem dX2_vesselsIn_9 : decode cX2_vesselsIn 9 = .ok (.if_icmp .ge 20, 3) := by decide +kernel
theorem dX2_vesselsIn_12 : decode cX2_vesselsIn 12 = .ok (.aload_n 0, 1) := by decide +kernel
theorem dX2_vesselsIn_13 : decode cX2_vesselsIn 13 = .ok (.getfield 11, 3) := by decide +kernel
theorem dX2_vesselsIn_16 : decode cX2_vesselsIn 16 = .ok (.iload_n 2, 1) := by decide +kernel
theorem dX2_vesselsIn_17 : decode cX2_vesselsIn 17 = .ok (.iaload, 1) := by decide +kernel
theorem dX2_vesselsIn_18 : decode cX2_vesselsIn 18 = .ok (.ifCond .ne 5, 3) := by decide +kernel
theorem dX2_vesselsIn_21 : decode cX2_vesselsIn 21 = .ok (.iconst 0, 1) := by decide +kernel
theorem dX2_vesselsIn_22 : decode cX2_vesselsIn 22 = .ok (.ireturn, 1) := by decide +kernel
theorem dX2_vesselsIn_23 : decode cX2_vesselsIn 23 = .ok (.iinc 2 1, 3) := by decide +kernel
theorem dX2_vesselsIn_26 : decode cX2_vesselsIn 26 = .ok (.goto (-24), 3) := by decide +kernel
theorem dX2_vesselsIn_29 : decode cX2_vesselsIn 29 = .ok (.iload_n 1, 1) := by decide +kernel
theorem dX2_vesselsIn_30 : decode cX2_vesselsIn 30 = .ok (.ifCond .lt 8, 3) := by decide +kernel
theorem dX2_vesselsIn_33 : decode cX2_vesselsIn 33 = .ok (.iload_n 1, 1) := by decide +kernel
theorem dX2_vesselsIn_34 : decode cX2_vesselsIn 34 = .ok (.iconst 3, 1) := by decide +kernel
theorem dX2_vesselsIn_35 : decode cX2_vesselsIn 35 = .ok (.if_icmp .lt 7, 3) := by decide +kernel
theorem dX2_vesselsIn_38 : decode cX2_vesselsIn 38 = .ok (.iconst 0, 1) := by decide +kernel
theorem dX2_vesselsIn_39 : decode cX2_vesselsIn 39 = .ok (.goto 9, 3) := by decide +kernel
theorem dX2_vesselsIn_42 : decode cX2_vesselsIn 42 = .ok (.aload_n 0, 1) := by decide +kernel
theorem dX2_vesselsIn_43 : decode cX2_vesselsIn 43 = .ok (.getfield 11, 3) := by decide +kernel
theorem dX2_vesselsIn_46 : decode cX2_vesselsIn 46 = .ok (.iload_n 1, 1) := by decide +kernel
theorem dX2_vesselsIn_47 : decode cX2_vesselsIn 47 = .ok (.iaload, 1) := by decide +kernel
theorem dX2_vesselsIn_48 : decode cX2_vesselsIn 48 = .ok (.ireturn, 1) := by decide +kernel
theorem dX2_standing_0 : decode cX2_standing 0 = .ok (.iconst 0, 1) := by decide +kernel
theorem dX2_standing_1 : decode cX2_standing 1 = .ok (.istore_n 1, 1) := by decide +kernel
theorem dX2_standing_2 : decode cX2_standing 2 = .ok (.iconst 0, 1) := by decide +kernel
theorem dX2_standing_3 : decode cX2_standing 3 = .ok (.istore_n 2, 1) := by decide +kernel
theorem dX2_standing_4 : decode cX2_standing 4 = .ok (.iload_n 2, 1) := by decide +kernel
theorem dX2_standing_5 : decode cX2_standing 5 = .ok (.iconst 3, 1) := by decide +kernel
theorem dX2_standing_6 : decode cX2_standing 6 = .ok (.if_icmp .ge 17, 3) := by decide +kernel
theorem dX2_standing_9 : decode cX2_standing 9 = .ok (.iload_n 1, 1) := by decide +kernel
theorem dX2_standing_10 : decode cX2_standing 10 = .ok (.aload_n 0, 1) := by decide +kernel
theorem dX2_standing_11 : decode cX2_standing 11 = .ok (.iload_n 2, 1) := by decide +kernel
theorem dX2_standing_12 : decode cX2_standing 12 = .ok (.invokevirtual 19, 3) := by decide +kernel
theorem dX2_standing_15 : decode cX2_standing 15 = .ok (.iadd, 1) := by decide +kernel
theorem dX2_standing_16 : decode cX2_standing 16 = .ok (.istore_n 1, 1) := by decide +kernel
theorem dX2_standing_17 : decode cX2_standing 17 = .ok (.iinc 2 1, 3) := by decide +kernel
theorem dX2_standing_20 : decode cX2_standing 20 = .ok (.goto (-16), 3) := by decide +kernel
theorem dX2_standing_23 : decode cX2_standing 23 = .ok (.iload_n 1, 1) := by decide +kernel
theorem dX2_standing_24 : decode cX2_standing 24 = .ok (.ireturn, 1) := by decide +kernel
theorem dX2_holdsSkin_0 : decode cX2_holdsSkin 0 = .ok (.iload_n 1, 1) := by decide +kernel
theorem dX2_holdsSkin_1 : decode cX2_holdsSkin 1 = .ok (.bipush 6, 2) := by decide +kernel
theorem dX2_holdsSkin_3 : decode cX2_holdsSkin 3 = .ok (.irem, 1) := by decide +kernel
theorem dX2_holdsSkin_4 : decode cX2_holdsSkin 4 = .ok (.aload_n 0, 1) := by decide +kernel
theorem dX2_holdsSkin_5 : decode cX2_holdsSkin 5 = .ok (.getfield 15, 3) := by decide +kernel
theorem dX2_holdsSkin_8 : decode cX2_holdsSkin 8 = .ok (.if_icmp .ge 25, 3) := by decide +kernel
theorem dX2_holdsSkin_11 : decode cX2_holdsSkin 11 = .ok (.iload_n 1, 1) := by decide +kernel
theorem dX2_holdsSkin_12 : decode cX2_holdsSkin 12 = .ok (.bipush 24, 2) := by decide +kernel
theorem dX2_holdsSkin_14 : decode cX2_holdsSkin 14 = .ok (.irem, 1) := by decide +kernel
theorem dX2_holdsSkin_15 : decode cX2_holdsSkin 15 = .ok (.bipush 6, 2) := by decide +kernel
theorem dX2_holdsSkin_17 : decode cX2_holdsSkin 17 = .ok (.idiv, 1) := by decide +kernel
theorem dX2_holdsSkin_18 : decode cX2_holdsSkin 18 = .ok (.aload_n 0, 1) := by decide +kernel
theorem dX2_holdsSkin_19 : decode cX2_holdsSkin 19 = .ok (.iload_n 1, 1) := by decide +kernel
theorem dX2_holdsSkin_20 : decode cX2_holdsSkin 20 = .ok (.bipush 24, 2) := by decide +kernel
theorem dX2_holdsSkin_22 : decode cX2_holdsSkin 22 = .ok (.idiv, 1) := by decide +kernel
theorem dX2_holdsSkin_23 : decode cX2_holdsSkin 23 = .ok (.invokevirtual 19, 3) := by decide +kernel
theorem dX2_holdsSkin_26 : decode cX2_holdsSkin 26 = .ok (.if_icmp .ge 7, 3) := by decide +kernel
theorem dX2_holdsSkin_29 : decode cX2_holdsSkin 29 = .ok (.iconst 1, 1) := by decide +kernel
theorem dX2_holdsSkin_30 : decode cX2_holdsSkin 30 = .ok (.goto 4, 3) := by decide +kernel
theorem dX2_holdsSkin_33 : decode cX2_holdsSkin 33 = .ok (.iconst 0, 1) := by decide +kernel
theorem dX2_holdsSkin_34 : decode cX2_holdsSkin 34 = .ok (.ireturn, 1) := by decide +kernel
theorem dX2_become_0 : decode cX2_become 0 = .ok (.aload_n 0, 1) := by decide +kernel
theorem dX2_become_1 : decode cX2_become 1 = .ok (.getfield 11, 3) := by decide +kernel
theorem dX2_become_4 : decode cX2_become 4 = .ok (.iconst 0, 1) := by decide +kernel
theorem dX2_become_5 : decode cX2_become 5 = .ok (.iconst 1, 1) := by decide +kernel
theorem dX2_become_6 : decode cX2_become 6 = .ok (.iload_n 1, 1) := by decide +kernel
theorem dX2_become_7 : decode cX2_become 7 = .ok (.bipush 25, 2) := by decide +kernel
theorem dX2_become_9 : decode cX2_become 9 = .ok (.idiv, 1) := by decide +kernel
theorem dX2_become_10 : decode cX2_become 10 = .ok (.iadd, 1) := by decide +kernel
theorem dX2_become_11 : decode cX2_become 11 = .ok (.iastore, 1) := by decide +kernel
theorem dX2_become_12 : decode cX2_become 12 = .ok (.aload_n 0, 1) := by decide +kernel
theorem dX2_become_13 : decode cX2_become 13 = .ok (.getfield 11, 3) := by decide +kernel
theorem dX2_become_16 : decode cX2_become 16 = .ok (.iconst 1, 1) := by decide +kernel
theorem dX2_become_17 : decode cX2_become 17 = .ok (.iload_n 1, 1) := by decide +kernel
theorem dX2_become_18 : decode cX2_become 18 = .ok (.iconst 5, 1) := by decide +kernel
theorem dX2_become_19 : decode cX2_become 19 = .ok (.idiv, 1) := by decide +kernel
theorem dX2_become_20 : decode cX2_become 20 = .ok (.iconst 5, 1) := by decide +kernel
theorem dX2_become_21 : decode cX2_become 21 = .ok (.irem, 1) := by decide +kernel
theorem dX2_become_22 : decode cX2_become 22 = .ok (.iastore, 1) := by decide +kernel
theorem dX2_become_23 : decode cX2_become 23 = .ok (.aload_n 0, 1) := by decide +kernel
theorem dX2_become_24 : decode cX2_become 24 = .ok (.getfield 11, 3) := by decide +kernel
theorem dX2_become_27 : decode cX2_become 27 = .ok (.iconst 2, 1) := by decide +kernel
theorem dX2_become_28 : decode cX2_become 28 = .ok (.iload_n 1, 1) := by decide +kernel
theorem dX2_become_29 : decode cX2_become 29 = .ok (.iconst 5, 1) := by decide +kernel
theorem dX2_become_30 : decode cX2_become 30 = .ok (.irem, 1) := by decide +kernel
theorem dX2_become_31 : decode cX2_become 31 = .ok (.iastore, 1) := by decide +kernel
theorem dX2_become_32 : decode cX2_become 32 = .ok (.aload_n 0, 1) := by decide +kernel
theorem dX2_become_33 : decode cX2_become 33 = .ok (.getfield 11, 3) := by decide +kernel
theorem dX2_become_36 : decode cX2_become 36 = .ok (.iconst 1, 1) := by decide +kernel
theorem dX2_become_37 : decode cX2_become 37 = .ok (.iaload, 1) := by decide +kernel
theorem dX2_become_38 : decode cX2_become 38 = .ok (.ifCond .gt 12, 3) := by decide +kernel
theorem dX2_become_41 : decode cX2_become 41 = .ok (.aload_n 0, 1) := by decide +kernel
theorem dX2_become_42 : decode cX2_become 42 = .ok (.getfield 11, 3) := by decide +kernel
theorem dX2_become_45 : decode cX2_become 45 = .ok (.iconst 2, 1) := by decide +kernel
theorem dX2_become_46 : decode cX2_become 46 = .ok (.iaload, 1) := by decide +kernel
theorem dX2_become_47 : decode cX2_become 47 = .ok (.ifCond .ne 7, 3) := by decide +kernel
theorem dX2_become_50 : decode cX2_become 50 = .ok (.iconst 1, 1) := by decide +kernel
theorem dX2_become_51 : decode cX2_become 51 = .ok (.goto 4, 3) := by decide +kernel
theorem dX2_become_54 : decode cX2_become 54 = .ok (.iconst 0, 1) := by decide +kernel
theorem dX2_become_55 : decode cX2_become 55 = .ok (.ireturn, 1) := by decide +kernel
theorem dX2_digits_0 : decode cX2_digits 0 = .ok (.bipush 100, 2) := by decide +kernel
theorem dX2_digits_2 : decode cX2_digits 2 = .ok (.aload_n 0, 1) := by decide +kernel
theorem dX2_digits_3 : decode cX2_digits 3 = .ok (.getfield 11, 3) := by decide +kernel
theorem dX2_digits_6 : decode cX2_digits 6 = .ok (.iconst 0, 1) := by decide +kernel
theorem dX2_digits_7 : decode cX2_digits 7 = .ok (.iaload, 1) := by decide +kernel
theorem dX2_digits_8 : decode cX2_digits 8 = .ok (.imul, 1) := by decide +kernel
theorem dX2_digits_9 : decode cX2_digits 9 = .ok (.bipush 10, 2) := by decide +kernel
theorem dX2_digits_11 : decode cX2_digits 11 = .ok (.aload_n 0, 1) := by decide +kernel
theorem dX2_digits_12 : decode cX2_digits 12 = .ok (.getfield 11, 3) := by decide +kernel
theorem dX2_digits_15 : decode cX2_digits 15 = .ok (.iconst 1, 1) := by decide +kernel
theorem dX2_digits_16 : decode cX2_digits 16 = .ok (.iaload, 1) := by decide +kernel
theorem dX2_digits_17 : decode cX2_digits 17 = .ok (.imul, 1) := by decide +kernel
theorem dX2_digits_18 : decode cX2_digits 18 = .ok (.iadd, 1) := by decide +kernel
theorem dX2_digits_19 : decode cX2_digits 19 = .ok (.aload_n 0, 1) := by decide +kernel
theorem dX2_digits_20 : decode cX2_digits 20 = .ok (.getfield 11, 3) := by decide +kernel
theorem dX2_digits_23 : decode cX2_digits 23 = .ok (.iconst 2, 1) := by decide +kernel
theorem dX2_digits_24 : decode cX2_digits 24 = .ok (.iaload, 1) := by decide +kernel
theorem dX2_digits_25 : decode cX2_digits 25 = .ok (.iadd, 1) := by decide +kernel
theorem dX2_digits_26 : decode cX2_digits 26 = .ok (.ireturn, 1) := by decide +kernel
theorem dX3_init_0 : decode cX3_init 0 = .ok (.aload_n 0, 1) := by decide +kernel
theorem dX3_init_1 : decode cX3_init 1 = .ok (.invokespecial 1, 3) := by decide +kernel
theorem dX3_init_4 : decode cX3_init 4 = .ok (.aload_n 0, 1) := by decide +kernel
theorem dX3_init_5 : decode cX3_init 5 = .ok (.bipush 24, 2) := by decide +kernel
theorem dX3_init_7 : decode cX3_init 7 = .ok (.newarray .short, 2) := by decide +kernel
theorem dX3_init_9 : decode cX3_init 9 = .ok (.putfield 9, 3) := by decide +kernel
theorem dX3_init_12 : decode cX3_init 12 = .ok (.aload_n 0, 1) := by decide +kernel
theorem dX3_init_13 : decode cX3_init 13 = .ok (.iconst (-1), 1) := by decide +kernel
theorem dX3_init_14 : decode cX3_init 14 = .ok (.putfield 13, 3) := by decide +kernel
theorem dX3_init_17 : decode cX3_init 17 = .ok (.return_, 1) := by decide +kernel
theorem dX3_isMissing_0 : decode cX3_isMissing 0 = .ok (.aload_n 0, 1) := by decide +kernel
theorem dX3_isMissing_1 : decode cX3_isMissing 1 = .ok (.getfield 13, 3) := by decide +kernel
theorem dX3_isMissing_4 : decode cX3_isMissing 4 = .ok (.iconst (-1), 1) := by decide +kernel
theorem dX3_isMissing_5 : decode cX3_isMissing 5 = .ok (.if_icmp .ne 7, 3) := by decide +kernel
theorem dX3_isMissing_8 : decode cX3_isMissing 8 = .ok (.iconst 1, 1) := by decide +kernel
theorem dX3_isMissing_9 : decode cX3_isMissing 9 = .ok (.goto 4, 3) := by decide +kernel
theorem dX3_isMissing_12 : decode cX3_isMissing 12 = .ok (.iconst 0, 1) := by decide +kernel
theorem dX3_isMissing_13 : decode cX3_isMissing 13 = .ok (.ireturn, 1) := by decide +kernel
theorem dX3_begin_0 : decode cX3_begin 0 = .ok (.aload_n 0, 1) := by decide +kernel
theorem dX3_begin_1 : decode cX3_begin 1 = .ok (.getfield 9, 3) := by decide +kernel
theorem dX3_begin_4 : decode cX3_begin 4 = .ok (.iconst 0, 1) := by decide +kernel
theorem dX3_begin_5 : decode cX3_begin 5 = .ok (.invokestatic 17, 3) := by decide +kernel
theorem dX3_begin_8 : decode cX3_begin 8 = .ok (.aload_n 0, 1) := by decide +kernel
theorem dX3_begin_9 : decode cX3_begin 9 = .ok (.iload_n 1, 1) := by decide +kernel
theorem dX3_begin_10 : decode cX3_begin 10 = .ok (.putfield 13, 3) := by decide +kernel
theorem dX3_begin_13 : decode cX3_begin 13 = .ok (.return_, 1) := by decide +kernel
theorem dX3_has_0 : decode cX3_has 0 = .ok (.iload_n 1, 1) := by decide +kernel
theorem dX3_has_1 : decode cX3_has 1 = .ok (.ifCond .lt 15, 3) := by decide +kernel
theorem dX3_has_4 : decode cX3_has 4 = .ok (.iload_n 1, 1) := by decide +kernel
theorem dX3_has_5 : decode cX3_has 5 = .ok (.aload_n 0, 1) := by decide +kernel
theorem dX3_has_6 : decode cX3_has 6 = .ok (.getfield 13, 3) := by decide +kernel
theorem dX3_has_9 : decode cX3_has 9 = .ok (.if_icmp .ge 7, 3) := by decide +kernel
theorem dX3_has_12 : decode cX3_has 12 = .ok (.iconst 1, 1) := by decide +kernel
theorem dX3_has_13 : decode cX3_has 13 = .ok (.goto 4, 3) := by decide +kernel
theorem dX3_has_16 : decode cX3_has 16 = .ok (.iconst 0, 1) := by decide +kernel
theorem dX3_has_17 : decode cX3_has 17 = .ok (.ireturn, 1) := by decide +kernel
theorem dX3_hasRun_0 : decode cX3_hasRun 0 = .ok (.iload_n 1, 1) := by decide +kernel
theorem dX3_hasRun_1 : decode cX3_hasRun 1 = .ok (.ifCond .lt 21, 3) := by decide +kernel
theorem dX3_hasRun_4 : decode cX3_hasRun 4 = .ok (.iload_n 2, 1) := by decide +kernel
theorem dX3_hasRun_5 : decode cX3_hasRun 5 = .ok (.ifCond .lt 17, 3) := by decide +kernel
theorem dX3_hasRun_8 : decode cX3_hasRun 8 = .ok (.iload_n 1, 1) := by decide +kernel
theorem dX3_hasRun_9 : decode cX3_hasRun 9 = .ok (.aload_n 0, 1) := by decide +kernel
theorem dX3_hasRun_10 : decode cX3_hasRun 10 = .ok (.getfield 13, 3) := by decide +kernel
theorem dX3_hasRun_13 : decode cX3_hasRun 13 = .ok (.iload_n 2, 1) := by decide +kernel
theorem dX3_hasRun_14 : decode cX3_hasRun 14 = .ok (.isub, 1) := by decide +kernel
theorem dX3_hasRun_15 : decode cX3_hasRun 15 = .ok (.if_icmp .gt 7, 3) := by decide +kernel
theorem dX3_hasRun_18 : decode cX3_hasRun 18 = .ok (.iconst 1, 1) := by decide +kernel
theorem dX3_hasRun_19 : decode cX3_hasRun 19 = .ok (.goto 4, 3) := by decide +kernel
theorem dX3_hasRun_22 : decode cX3_hasRun 22 = .ok (.iconst 0, 1) := by decide +kernel
theorem dX3_hasRun_23 : decode cX3_hasRun 23 = .ok (.ireturn, 1) := by decide +kernel
theorem dX4_init_0 : decode cX4_init 0 = .ok (.aload_n 0, 1) := by decide +kernel
theorem dX4_init_1 : decode cX4_init 1 = .ok (.invokespecial 3, 3) := by decide +kernel
theorem dX4_init_4 : decode cX4_init 4 = .ok (.aload_n 0, 1) := by decide +kernel
theorem dX4_init_5 : decode cX4_init 5 = .ok (.bipush 72, 2) := by decide +kernel
theorem dX4_init_7 : decode cX4_init 7 = .ok (.newarray .int, 2) := by decide +kernel
theorem dX4_init_9 : decode cX4_init 9 = .ok (.putfield 9, 3) := by decide +kernel
theorem dX4_init_12 : decode cX4_init 12 = .ok (.aload_n 0, 1) := by decide +kernel
theorem dX4_init_13 : decode cX4_init 13 = .ok (.bipush 72, 2) := by decide +kernel
theorem dX4_init_15 : decode cX4_init 15 = .ok (.newarray .int, 2) := by decide +kernel
theorem dX4_init_17 : decode cX4_init 17 = .ok (.putfield 15, 3) := by decide +kernel
theorem dX4_init_20 : decode cX4_init 20 = .ok (.return_, 1) := by decide +kernel
theorem dX4_passAt_0 : decode cX4_passAt 0 = .ok (.getstatic 18, 3) := by decide +kernel
theorem dX4_passAt_3 : decode cX4_passAt 3 = .ok (.aload_n 0, 1) := by decide +kernel
theorem dX4_passAt_4 : decode cX4_passAt 4 = .ok (.getfield 9, 3) := by decide +kernel
theorem dX4_passAt_7 : decode cX4_passAt 7 = .ok (.iload_n 1, 1) := by decide +kernel
theorem dX4_passAt_8 : decode cX4_passAt 8 = .ok (.iaload, 1) := by decide +kernel
theorem dX4_passAt_9 : decode cX4_passAt 9 = .ok (.iaload, 1) := by decide +kernel
theorem dX4_passAt_10 : decode cX4_passAt 10 = .ok (.istore_n 2, 1) := by decide +kernel
theorem dX4_passAt_11 : decode cX4_passAt 11 = .ok (.iload_n 2, 1) := by decide +kernel
theorem dX4_passAt_12 : decode cX4_passAt 12 = .ok (.iload_n 2, 1) := by decide +kernel
theorem dX4_passAt_13 : decode cX4_passAt 13 = .ok (.aload_n 0, 1) := by decide +kernel
theorem dX4_passAt_14 : decode cX4_passAt 14 = .ok (.getfield 15, 3) := by decide +kernel
theorem dX4_passAt_17 : decode cX4_passAt 17 = .ok (.iload_n 1, 1) := by decide +kernel
theorem dX4_passAt_18 : decode cX4_passAt 18 = .ok (.iaload, 1) := by decide +kernel
theorem dX4_passAt_19 : decode cX4_passAt 19 = .ok (.imul, 1) := by decide +kernel
theorem dX4_passAt_20 : decode cX4_passAt 20 = .ok (.bipush 100, 2) := by decide +kernel
theorem dX4_passAt_22 : decode cX4_passAt 22 = .ok (.idiv, 1) := by decide +kernel
theorem dX4_passAt_23 : decode cX4_passAt 23 = .ok (.isub, 1) := by decide +kernel
theorem dX4_passAt_24 : decode cX4_passAt 24 = .ok (.ireturn, 1) := by decide +kernel
theorem dX4_leakAt_0 : decode cX4_leakAt 0 = .ok (.getstatic 21, 3) := by decide +kernel
theorem dX4_leakAt_3 : decode cX4_leakAt 3 = .ok (.aload_n 0, 1) := by decide +kernel
theorem dX4_leakAt_4 : decode cX4_leakAt 4 = .ok (.getfield 9, 3) := by decide +kernel
theorem dX4_leakAt_7 : decode cX4_leakAt 7 = .ok (.iload_n 1, 1) := by decide +kernel
theorem dX4_leakAt_8 : decode cX4_leakAt 8 = .ok (.iaload, 1) := by decide +kernel
theorem dX4_leakAt_9 : decode cX4_leakAt 9 = .ok (.iaload, 1) := by decide +kernel
theorem dX4_leakAt_10 : decode cX4_leakAt 10 = .ok (.ireturn, 1) := by decide +kernel
theorem dX4_isUnder_0 : decode cX4_isUnder 0 = .ok (.aload_n 0, 1) := by decide +kernel
theorem dX4_isUnder_1 : decode cX4_isUnder 1 = .ok (.getfield 9, 3) := by decide +kernel
theorem dX4_isUnder_4 : decode cX4_isUnder 4 = .ok (.iload_n 1, 1) := by decide +kernel
theorem dX4_isUnder_5 : decode cX4_isUnder 5 = .ok (.iaload, 1) := by decide +kernel
theorem dX4_isUnder_6 : decode cX4_isUnder 6 = .ok (.istore_n 3, 1) := by decide +kernel
theorem dX4_isUnder_7 : decode cX4_isUnder 7 = .ok (.iload_n 2, 1) := by decide +kernel
theorem dX4_isUnder_8 : decode cX4_isUnder 8 = .ok (.ifCond .eq 17, 3) := by decide +kernel
theorem dX4_isUnder_11 : decode cX4_isUnder 11 = .ok (.iload_n 2, 1) := by decide +kernel
theorem dX4_isUnder_12 : decode cX4_isUnder 12 = .ok (.iload_n 3, 1) := by decide +kernel
theorem dX4_isUnder_13 : decode cX4_isUnder 13 = .ok (.if_icmp .eq 12, 3) := by decide +kernel
theorem dX4_isUnder_16 : decode cX4_isUnder 16 = .ok (.iload_n 2, 1) := by decide +kernel
theorem dX4_isUnder_17 : decode cX4_isUnder 17 = .ok (.getstatic 24, 3) := by decide +kernel
theorem dX4_isUnder_20 : decode cX4_isUnder 20 = .ok (.iload_n 3, 1) := by decide +kernel
theorem dX4_isUnder_21 : decode cX4_isUnder 21 = .ok (.iaload, 1) := by decide +kernel
theorem dX4_isUnder_22 : decode cX4_isUnder 22 = .ok (.if_icmp .ne 7, 3) := by decide +kernel
theorem dX4_isUnder_25 : decode cX4_isUnder 25 = .ok (.iconst 1, 1) := by decide +kernel
theorem dX4_isUnder_26 : decode cX4_isUnder 26 = .ok (.goto 4, 3) := by decide +kernel
theorem dX4_isUnder_29 : decode cX4_isUnder 29 = .ok (.iconst 0, 1) := by decide +kernel
theorem dX4_isUnder_30 : decode cX4_isUnder 30 = .ok (.ireturn, 1) := by decide +kernel
theorem dX4_renew_0 : decode cX4_renew 0 = .ok (.aload_n 0, 1) := by decide +kernel
theorem dX4_renew_1 : decode cX4_renew 1 = .ok (.getfield 15, 3) := by decide +kernel
theorem dX4_renew_4 : decode cX4_renew 4 = .ok (.iload_n 1, 1) := by decide +kernel
theorem dX4_renew_5 : decode cX4_renew 5 = .ok (.iaload, 1) := by decide +kernel
theorem dX4_renew_6 : decode cX4_renew 6 = .ok (.istore_n 3, 1) := by decide +kernel
theorem dX4_renew_7 : decode cX4_renew 7 = .ok (.aload_n 0, 1) := by decide +kernel
theorem dX4_renew_8 : decode cX4_renew 8 = .ok (.getfield 9, 3) := by decide +kernel
theorem dX4_renew_11 : decode cX4_renew 11 = .ok (.iload_n 1, 1) := by decide +kernel
theorem dX4_renew_12 : decode cX4_renew 12 = .ok (.iload_n 2, 1) := by decide +kernel
theorem dX4_renew_13 : decode cX4_renew 13 = .ok (.iastore, 1) := by decide +kernel
theorem dX4_renew_14 : decode cX4_renew 14 = .ok (.aload_n 0, 1) := by decide +kernel
theorem dX4_renew_15 : decode cX4_renew 15 = .ok (.getfield 15, 3) := by decide +kernel
theorem dX4_renew_18 : decode cX4_renew 18 = .ok (.iload_n 1, 1) := by decide +kernel
theorem dX4_renew_19 : decode cX4_renew 19 = .ok (.iconst 0, 1) := by decide +kernel
theorem dX4_renew_20 : decode cX4_renew 20 = .ok (.iastore, 1) := by decide +kernel
theorem dX4_renew_21 : decode cX4_renew 21 = .ok (.iload_n 3, 1) := by decide +kernel
theorem dX4_renew_22 : decode cX4_renew 22 = .ok (.ireturn, 1) := by decide +kernel
theorem dX4_exchange_0 : decode cX4_exchange 0 = .ok (.aload_n 0, 1) := by decide +kernel
theorem dX4_exchange_1 : decode cX4_exchange 1 = .ok (.getfield 9, 3) := by decide +kernel
theorem dX4_exchange_4 : decode cX4_exchange 4 = .ok (.iload_n 1, 1) := by decide +kernel
theorem dX4_exchange_5 : decode cX4_exchange 5 = .ok (.iaload, 1) := by decide +kernel
theorem dX4_exchange_6 : decode cX4_exchange 6 = .ok (.istore_n 3, 1) := by decide +kernel
theorem dX4_exchange_7 : decode cX4_exchange 7 = .ok (.aload_n 0, 1) := by decide +kernel
theorem dX4_exchange_8 : decode cX4_exchange 8 = .ok (.getfield 15, 3) := by decide +kernel
theorem dX4_exchange_11 : decode cX4_exchange 11 = .ok (.iload_n 1, 1) := by decide +kernel
theorem dX4_exchange_12 : decode cX4_exchange 12 = .ok (.iaload, 1) := by decide +kernel
theorem dX4_exchange_13 : decode cX4_exchange 13 = .ok (.istore 4, 2) := by decide +kernel
theorem dX4_exchange_15 : decode cX4_exchange 15 = .ok (.aload_n 0, 1) := by decide +kernel
theorem dX4_exchange_16 : decode cX4_exchange 16 = .ok (.getfield 9, 3) := by decide +kernel
theorem dX4_exchange_19 : decode cX4_exchange 19 = .ok (.iload_n 1, 1) := by decide +kernel
theorem dX4_exchange_20 : decode cX4_exchange 20 = .ok (.aload_n 0, 1) := by decide +kernel
theorem dX4_exchange_21 : decode cX4_exchange 21 = .ok (.getfield 9, 3) := by decide +kernel
theorem dX4_exchange_24 : decode cX4_exchange 24 = .ok (.iload_n 2, 1) := by decide +kernel
theorem dX4_exchange_25 : decode cX4_exchange 25 = .ok (.iaload, 1) := by decide +kernel
theorem dX4_exchange_26 : decode cX4_exchange 26 = .ok (.iastore, 1) := by decide +kernel
theorem dX4_exchange_27 : decode cX4_exchange 27 = .ok (.aload_n 0, 1) := by decide +kernel
theorem dX4_exchange_28 : decode cX4_exchange 28 = .ok (.getfield 15, 3) := by decide +kernel
theorem dX4_exchange_31 : decode cX4_exchange 31 = .ok (.iload_n 1, 1) := by decide +kernel
theorem dX4_exchange_32 : decode cX4_exchange 32 = .ok (.aload_n 0, 1) := by decide +kernel
theorem dX4_exchange_33 : decode cX4_exchange 33 = .ok (.getfield 15, 3) := by decide +kernel
theorem dX4_exchange_36 : decode cX4_exchange 36 = .ok (.iload_n 2, 1) := by decide +kernel
theorem dX4_exchange_37 : decode cX4_exchange 37 = .ok (.iaload, 1) := by decide +kernel
theorem dX4_exchange_38 : decode cX4_exchange 38 = .ok (.iastore, 1) := by decide +kernel
theorem dX4_exchange_39 : decode cX4_exchange 39 = .ok (.aload_n 0, 1) := by decide +kernel
theorem dX4_exchange_40 : decode cX4_exchange 40 = .ok (.getfield 9, 3) := by decide +kernel
theorem dX4_exchange_43 : decode cX4_exchange 43 = .ok (.iload_n 2, 1) := by decide +kernel
theorem dX4_exchange_44 : decode cX4_exchange 44 = .ok (.iload_n 3, 1) := by decide +kernel
theorem dX4_exchange_45 : decode cX4_exchange 45 = .ok (.iastore, 1) := by decide +kernel
theorem dX4_exchange_46 : decode cX4_exchange 46 = .ok (.aload_n 0, 1) := by decide +kernel
theorem dX4_exchange_47 : decode cX4_exchange 47 = .ok (.getfield 15, 3) := by decide +kernel
theorem dX4_exchange_50 : decode cX4_exchange 50 = .ok (.iload_n 2, 1) := by decide +kernel
theorem dX4_exchange_51 : decode cX4_exchange 51 = .ok (.iload 4, 2) := by decide +kernel
theorem dX4_exchange_53 : decode cX4_exchange 53 = .ok (.iastore, 1) := by decide +kernel
theorem dX4_exchange_54 : decode cX4_exchange 54 = .ok (.return_, 1) := by decide +kernel
theorem dX4_soil_0 : decode cX4_soil 0 = .ok (.aload_n 0, 1) := by decide +kernel
theorem dX4_soil_1 : decode cX4_soil 1 = .ok (.getfield 15, 3) := by decide +kernel
theorem dX4_soil_4 : decode cX4_soil 4 = .ok (.iload_n 1, 1) := by decide +kernel
theorem dX4_soil_5 : decode cX4_soil 5 = .ok (.ldc2_w 27, 3) := by decide +kernel
theorem dX4_soil_8 : decode cX4_soil 8 = .ok (.aload_n 0, 1) := by decide +kernel
theorem dX4_soil_9 : decode cX4_soil 9 = .ok (.getfield 15, 3) := by decide +kernel
theorem dX4_soil_12 : decode cX4_soil 12 = .ok (.iload_n 1, 1) := by decide +kernel
theorem dX4_soil_13 : decode cX4_soil 13 = .ok (.iaload, 1) := by decide +kernel
theorem dX4_soil_14 : decode cX4_soil 14 = .ok (.i2l, 1) := by decide +kernel
theorem dX4_soil_15 : decode cX4_soil 15 = .ok (.lload_n 2, 1) := by decide +kernel
theorem dX4_soil_16 : decode cX4_soil 16 = .ok (.ladd, 1) := by decide +kernel
theorem dX4_soil_17 : decode cX4_soil 17 = .ok (.invokestatic 29, 3) := by decide +kernel
theorem dX4_soil_20 : decode cX4_soil 20 = .ok (.l2i, 1) := by decide +kernel
theorem dX4_soil_21 : decode cX4_soil 21 = .ok (.iastore, 1) := by decide +kernel
theorem dX4_soil_22 : decode cX4_soil 22 = .ok (.return_, 1) := by decide +kernel
theorem dX4_wash_0 : decode cX4_wash 0 = .ok (.aload_n 0, 1) := by decide +kernel
theorem dX4_wash_1 : decode cX4_wash 1 = .ok (.getfield 15, 3) := by decide +kernel
theorem dX4_wash_4 : decode cX4_wash 4 = .ok (.iload_n 1, 1) := by decide +kernel
theorem dX4_wash_5 : decode cX4_wash 5 = .ok (.dup2, 1) := by decide +kernel
theorem dX4_wash_6 : decode cX4_wash 6 = .ok (.iaload, 1) := by decide +kernel
theorem dX4_wash_7 : decode cX4_wash 7 = .ok (.iconst 2, 1) := by decide +kernel
theorem dX4_wash_8 : decode cX4_wash 8 = .ok (.idiv, 1) := by decide +kernel
theorem dX4_wash_9 : decode cX4_wash 9 = .ok (.iastore, 1) := by decide +kernel
theorem dX4_wash_10 : decode cX4_wash 10 = .ok (.return_, 1) := by decide +kernel
theorem dJ9_max_7cf53_0 : decode cJ9_max_7cf53 0 = .ok (.iload_n 0, 1) := by decide +kernel
theorem dJ9_max_7cf53_1 : decode cJ9_max_7cf53 1 = .ok (.iload_n 1, 1) := by decide +kernel
theorem dJ9_max_7cf53_2 : decode cJ9_max_7cf53 2 = .ok (.if_icmp .lt 7, 3) := by decide +kernel
theorem dJ9_max_7cf53_5 : decode cJ9_max_7cf53 5 = .ok (.iload_n 0, 1) := by decide +kernel
theorem dJ9_max_7cf53_6 : decode cJ9_max_7cf53 6 = .ok (.goto 4, 3) := by decide +kernel
theorem dJ9_max_7cf53_9 : decode cJ9_max_7cf53 9 = .ok (.iload_n 1, 1) := by decide +kernel
theorem dJ9_max_7cf53_10 : decode cJ9_max_7cf53 10 = .ok (.ireturn, 1) := by decide +kernel
theorem dJ9_max_f86c9_0 : decode cJ9_max_f86c9 0 = .ok (.lload_n 0, 1) := by decide +kernel
theorem dJ9_max_f86c9_1 : decode cJ9_max_f86c9 1 = .ok (.lload_n 2, 1) := by decide +kernel
theorem dJ9_max_f86c9_2 : decode cJ9_max_f86c9 2 = .ok (.lcmp, 1) := by decide +kernel
theorem dJ9_max_f86c9_3 : decode cJ9_max_f86c9 3 = .ok (.ifCond .lt 7, 3) := by decide +kernel
theorem dJ9_max_f86c9_6 : decode cJ9_max_f86c9 6 = .ok (.lload_n 0, 1) := by decide +kernel
theorem dJ9_max_f86c9_7 : decode cJ9_max_f86c9 7 = .ok (.goto 4, 3) := by decide +kernel
theorem dJ9_max_f86c9_10 : decode cJ9_max_f86c9 10 = .ok (.lload_n 2, 1) := by decide +kernel
theorem dJ9_max_f86c9_11 : decode cJ9_max_f86c9 11 = .ok (.lreturn, 1) := by decide +kernel
theorem dJ9_min_7cf53_0 : decode cJ9_min_7cf53 0 = .ok (.iload_n 0, 1) := by decide +kernel
theorem dJ9_min_7cf53_1 : decode cJ9_min_7cf53 1 = .ok (.iload_n 1, 1) := by decide +kernel
theorem dJ9_min_7cf53_2 : decode cJ9_min_7cf53 2 = .ok (.if_icmp .gt 7, 3) := by decide +kernel
theorem dJ9_min_7cf53_5 : decode cJ9_min_7cf53 5 = .ok (.iload_n 0, 1) := by decide +kernel
theorem dJ9_min_7cf53_6 : decode cJ9_min_7cf53 6 = .ok (.goto 4, 3) := by decide +kernel
theorem dJ9_min_7cf53_9 : decode cJ9_min_7cf53 9 = .ok (.iload_n 1, 1) := by decide +kernel
theorem dJ9_min_7cf53_10 : decode cJ9_min_7cf53 10 = .ok (.ireturn, 1) := by decide +kernel
theorem dJ9_min_f86c9_0 : decode cJ9_min_f86c9 0 = .ok (.lload_n 0, 1) := by decide +kernel
theorem dJ9_min_f86c9_1 : decode cJ9_min_f86c9 1 = .ok (.lload_n 2, 1) := by decide +kernel
theorem dJ9_min_f86c9_2 : decode cJ9_min_f86c9 2 = .ok (.lcmp, 1) := by decide +kernel
theorem dJ9_min_f86c9_3 : decode cJ9_min_f86c9 3 = .ok (.ifCond .gt 7, 3) := by decide +kernel
theorem dJ9_min_f86c9_6 : decode cJ9_min_f86c9 6 = .ok (.lload_n 0, 1) := by decide +kernel
theorem dJ9_min_f86c9_7 : decode cJ9_min_f86c9 7 = .ok (.goto 4, 3) := by decide +kernel
theorem dJ9_min_f86c9_10 : decode cJ9_min_f86c9 10 = .ok (.lload_n 2, 1) := by decide +kernel
theorem dJ9_min_f86c9_11 : decode cJ9_min_f86c9 11 = .ok (.lreturn, 1) := by decide +kernel
theorem dJ7_fill_53178_0 : decode cJ7_fill_53178 0 = .ok (.iconst 0, 1) := by decide +kernel
theorem dJ7_fill_53178_1 : decode cJ7_fill_53178 1 = .ok (.istore_n 2, 1) := by decide +kernel
theorem dJ7_fill_53178_2 : decode cJ7_fill_53178 2 = .ok (.aload_n 0, 1) := by decide +kernel
theorem dJ7_fill_53178_3 : decode cJ7_fill_53178 3 = .ok (.arraylength, 1) := by decide +kernel
theorem dJ7_fill_53178_4 : decode cJ7_fill_53178 4 = .ok (.istore_n 3, 1) := by decide +kernel
theorem dJ7_fill_53178_5 : decode cJ7_fill_53178 5 = .ok (.iload_n 2, 1) := by decide +kernel
theorem dJ7_fill_53178_6 : decode cJ7_fill_53178 6 = .ok (.iload_n 3, 1) := by decide +kernel
theorem dJ7_fill_53178_7 : decode cJ7_fill_53178 7 = .ok (.if_icmp .ge 13, 3) := by decide +kernel
theorem dJ7_fill_53178_10 : decode cJ7_fill_53178 10 = .ok (.aload_n 0, 1) := by decide +kernel
theorem dJ7_fill_53178_11 : decode cJ7_fill_53178 11 = .ok (.iload_n 2, 1) := by decide +kernel
theorem dJ7_fill_53178_12 : decode cJ7_fill_53178 12 = .ok (.iload_n 1, 1) := by decide +kernel
theorem dJ7_fill_53178_13 : decode cJ7_fill_53178 13 = .ok (.iastore, 1) := by decide +kernel
theorem dJ7_fill_53178_14 : decode cJ7_fill_53178 14 = .ok (.iinc 2 1, 3) := by decide +kernel
theorem dJ7_fill_53178_17 : decode cJ7_fill_53178 17 = .ok (.goto (-12), 3) := by decide +kernel
theorem dJ7_fill_53178_20 : decode cJ7_fill_53178 20 = .ok (.return_, 1) := by decide +kernel
theorem dJ7_fill_fb410_0 : decode cJ7_fill_fb410 0 = .ok (.iconst 0, 1) := by decide +kernel
theorem dJ7_fill_fb410_1 : decode cJ7_fill_fb410 1 = .ok (.istore_n 2, 1) := by decide +kernel
theorem dJ7_fill_fb410_2 : decode cJ7_fill_fb410 2 = .ok (.aload_n 0, 1) := by decide +kernel
theorem dJ7_fill_fb410_3 : decode cJ7_fill_fb410 3 = .ok (.arraylength, 1) := by decide +kernel
theorem dJ7_fill_fb410_4 : decode cJ7_fill_fb410 4 = .ok (.istore_n 3, 1) := by decide +kernel
theorem dJ7_fill_fb410_5 : decode cJ7_fill_fb410 5 = .ok (.iload_n 2, 1) := by decide +kernel
theorem dJ7_fill_fb410_6 : decode cJ7_fill_fb410 6 = .ok (.iload_n 3, 1) := by decide +kernel
theorem dJ7_fill_fb410_7 : decode cJ7_fill_fb410 7 = .ok (.if_icmp .ge 13, 3) := by decide +kernel
theorem dJ7_fill_fb410_10 : decode cJ7_fill_fb410 10 = .ok (.aload_n 0, 1) := by decide +kernel
theorem dJ7_fill_fb410_11 : decode cJ7_fill_fb410 11 = .ok (.iload_n 2, 1) := by decide +kernel
theorem dJ7_fill_fb410_12 : decode cJ7_fill_fb410 12 = .ok (.iload_n 1, 1) := by decide +kernel
theorem dJ7_fill_fb410_13 : decode cJ7_fill_fb410 13 = .ok (.sastore, 1) := by decide +kernel
theorem dJ7_fill_fb410_14 : decode cJ7_fill_fb410 14 = .ok (.iinc 2 1, 3) := by decide +kernel
theorem dJ7_fill_fb410_17 : decode cJ7_fill_fb410 17 = .ok (.goto (-12), 3) := by decide +kernel
theorem dJ7_fill_fb410_20 : decode cJ7_fill_fb410 20 = .ok (.return_, 1) := by decide +kernel
