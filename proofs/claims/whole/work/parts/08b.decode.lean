theorem d_T_init_0 : decode c_T_init 0 = .ok (.aload_n 0, 1) := by decide +kernel
theorem d_T_init_1 : decode c_T_init 1 = .ok (.invokespecial 1, 3) := by decide +kernel
theorem d_T_init_4 : decode c_T_init 4 = .ok (.aload_n 0, 1) := by decide +kernel
theorem d_T_init_5 : decode c_T_init 5 = .ok (.bipush 10, 2) := by decide +kernel
theorem d_T_init_7 : decode c_T_init 7 = .ok (.anewarray 9, 3) := by decide +kernel
theorem d_T_init_10 : decode c_T_init 10 = .ok (.putfield 11, 3) := by decide +kernel
theorem d_T_init_13 : decode c_T_init 13 = .ok (.aload_n 0, 1) := by decide +kernel
theorem d_T_init_14 : decode c_T_init 14 = .ok (.bipush 16, 2) := by decide +kernel
theorem d_T_init_16 : decode c_T_init 16 = .ok (.anewarray 15, 3) := by decide +kernel
theorem d_T_init_19 : decode c_T_init 19 = .ok (.putfield 17, 3) := by decide +kernel
theorem d_T_init_22 : decode c_T_init 22 = .ok (.aload_n 0, 1) := by decide +kernel
theorem d_T_init_23 : decode c_T_init 23 = .ok (.new 21, 3) := by decide +kernel
theorem d_T_init_26 : decode c_T_init 26 = .ok (.dup, 1) := by decide +kernel
theorem d_T_init_27 : decode c_T_init 27 = .ok (.invokespecial 23, 3) := by decide +kernel
theorem d_T_init_30 : decode c_T_init 30 = .ok (.putfield 24, 3) := by decide +kernel
theorem d_T_init_33 : decode c_T_init 33 = .ok (.aload_n 0, 1) := by decide +kernel
theorem d_T_init_34 : decode c_T_init 34 = .ok (.iconst 0, 1) := by decide +kernel
theorem d_T_init_35 : decode c_T_init 35 = .ok (.putfield 28, 3) := by decide +kernel
theorem d_T_init_38 : decode c_T_init 38 = .ok (.aload_n 0, 1) := by decide +kernel
theorem d_T_init_39 : decode c_T_init 39 = .ok (.iconst 0, 1) := by decide +kernel
theorem d_T_init_40 : decode c_T_init 40 = .ok (.putfield 32, 3) := by decide +kernel
theorem d_T_init_43 : decode c_T_init 43 = .ok (.aload_n 0, 1) := by decide +kernel
theorem d_T_init_44 : decode c_T_init 44 = .ok (.iconst 0, 1) := by decide +kernel
theorem d_T_init_45 : decode c_T_init 45 = .ok (.putfield 35, 3) := by decide +kernel
theorem d_T_init_48 : decode c_T_init 48 = .ok (.return_, 1) := by decide +kernel
theorem d_T_settle_0 : decode c_T_settle 0 = .ok (.iconst 0, 1) := by decide +kernel
theorem d_T_settle_1 : decode c_T_settle 1 = .ok (.istore_n 1, 1) := by decide +kernel
theorem d_T_settle_2 : decode c_T_settle 2 = .ok (.aload_n 0, 1) := by decide +kernel
theorem d_T_settle_3 : decode c_T_settle 3 = .ok (.invokevirtual 119, 3) := by decide +kernel
theorem d_T_settle_6 : decode c_T_settle 6 = .ok (.pop, 1) := by decide +kernel
theorem d_T_settle_7 : decode c_T_settle 7 = .ok (.iinc 1 1, 3) := by decide +kernel
theorem d_T_settle_10 : decode c_T_settle 10 = .ok (.aload_n 0, 1) := by decide +kernel
theorem d_T_settle_11 : decode c_T_settle 11 = .ok (.getfield 35, 3) := by decide +kernel
theorem d_T_settle_14 : decode c_T_settle 14 = .ok (.ifCond .eq 9, 3) := by decide +kernel
theorem d_T_settle_17 : decode c_T_settle 17 = .ok (.iload_n 1, 1) := by decide +kernel
theorem d_T_settle_18 : decode c_T_settle 18 = .ok (.bipush 60, 2) := by decide +kernel
theorem d_T_settle_20 : decode c_T_settle 20 = .ok (.if_icmp .lt (-18), 3) := by decide +kernel
theorem d_T_settle_23 : decode c_T_settle 23 = .ok (.iload_n 1, 1) := by decide +kernel
theorem d_T_settle_24 : decode c_T_settle 24 = .ok (.ireturn, 1) := by decide +kernel
theorem d_T_playRound_0 : decode c_T_playRound 0 = .ok (.aload_n 0, 1) := by decide +kernel
theorem d_T_playRound_1 : decode c_T_playRound 1 = .ok (.iconst 0, 1) := by decide +kernel
theorem d_T_playRound_2 : decode c_T_playRound 2 = .ok (.putfield 35, 3) := by decide +kernel
theorem d_T_playRound_5 : decode c_T_playRound 5 = .ok (.iconst 0, 1) := by decide +kernel
theorem d_T_playRound_6 : decode c_T_playRound 6 = .ok (.istore_n 1, 1) := by decide +kernel
theorem d_T_playRound_7 : decode c_T_playRound 7 = .ok (.iconst 0, 1) := by decide +kernel
theorem d_T_playRound_8 : decode c_T_playRound 8 = .ok (.istore_n 2, 1) := by decide +kernel
theorem d_T_playRound_9 : decode c_T_playRound 9 = .ok (.iload_n 2, 1) := by decide +kernel
theorem d_T_playRound_10 : decode c_T_playRound 10 = .ok (.aload_n 0, 1) := by decide +kernel
theorem d_T_playRound_11 : decode c_T_playRound 11 = .ok (.getfield 28, 3) := by decide +kernel
theorem d_T_playRound_14 : decode c_T_playRound 14 = .ok (.if_icmp .ge 22, 3) := by decide +kernel
theorem d_T_playRound_17 : decode c_T_playRound 17 = .ok (.iload_n 1, 1) := by decide +kernel
theorem d_T_playRound_18 : decode c_T_playRound 18 = .ok (.aload_n 0, 1) := by decide +kernel
theorem d_T_playRound_19 : decode c_T_playRound 19 = .ok (.aload_n 0, 1) := by decide +kernel
theorem d_T_playRound_20 : decode c_T_playRound 20 = .ok (.getfield 11, 3) := by decide +kernel
theorem d_T_playRound_23 : decode c_T_playRound 23 = .ok (.iload_n 2, 1) := by decide +kernel
theorem d_T_playRound_24 : decode c_T_playRound 24 = .ok (.aaload, 1) := by decide +kernel
theorem d_T_playRound_25 : decode c_T_playRound 25 = .ok (.invokevirtual 181, 3) := by decide +kernel
theorem d_T_playRound_28 : decode c_T_playRound 28 = .ok (.iadd, 1) := by decide +kernel
theorem d_T_playRound_29 : decode c_T_playRound 29 = .ok (.istore_n 1, 1) := by decide +kernel
theorem d_T_playRound_30 : decode c_T_playRound 30 = .ok (.iinc 2 1, 3) := by decide +kernel
theorem d_T_playRound_33 : decode c_T_playRound 33 = .ok (.goto (-24), 3) := by decide +kernel
theorem d_T_playRound_36 : decode c_T_playRound 36 = .ok (.iconst 0, 1) := by decide +kernel
theorem d_T_playRound_37 : decode c_T_playRound 37 = .ok (.istore_n 2, 1) := by decide +kernel
theorem d_T_playRound_38 : decode c_T_playRound 38 = .ok (.iload_n 2, 1) := by decide +kernel
theorem d_T_playRound_39 : decode c_T_playRound 39 = .ok (.aload_n 0, 1) := by decide +kernel
theorem d_T_playRound_40 : decode c_T_playRound 40 = .ok (.getfield 28, 3) := by decide +kernel
theorem d_T_playRound_43 : decode c_T_playRound 43 = .ok (.if_icmp .ge 26, 3) := by decide +kernel
theorem d_T_playRound_46 : decode c_T_playRound 46 = .ok (.aload_n 0, 1) := by decide +kernel
theorem d_T_playRound_47 : decode c_T_playRound 47 = .ok (.getfield 11, 3) := by decide +kernel
theorem d_T_playRound_50 : decode c_T_playRound 50 = .ok (.iload_n 2, 1) := by decide +kernel
theorem d_T_playRound_51 : decode c_T_playRound 51 = .ok (.aaload, 1) := by decide +kernel
theorem d_T_playRound_52 : decode c_T_playRound 52 = .ok (.invokevirtual 74, 3) := by decide +kernel
theorem d_T_playRound_55 : decode c_T_playRound 55 = .ok (.ifCond .eq 8, 3) := by decide +kernel
theorem d_T_playRound_58 : decode c_T_playRound 58 = .ok (.aload_n 0, 1) := by decide +kernel
theorem d_T_playRound_59 : decode c_T_playRound 59 = .ok (.iconst 1, 1) := by decide +kernel
theorem d_T_playRound_60 : decode c_T_playRound 60 = .ok (.putfield 35, 3) := by decide +kernel
theorem d_T_playRound_63 : decode c_T_playRound 63 = .ok (.iinc 2 1, 3) := by decide +kernel
theorem d_T_playRound_66 : decode c_T_playRound 66 = .ok (.goto (-28), 3) := by decide +kernel
theorem d_T_playRound_69 : decode c_T_playRound 69 = .ok (.iload_n 1, 1) := by decide +kernel
theorem d_T_playRound_70 : decode c_T_playRound 70 = .ok (.ireturn, 1) := by decide +kernel
theorem d_T_hearAtPorts_0 : decode c_T_hearAtPorts 0 = .ok (.iconst 0, 1) := by decide +kernel
theorem d_T_hearAtPorts_1 : decode c_T_hearAtPorts 1 = .ok (.istore_n 2, 1) := by decide +kernel
theorem d_T_hearAtPorts_2 : decode c_T_hearAtPorts 2 = .ok (.iconst 0, 1) := by decide +kernel
theorem d_T_hearAtPorts_3 : decode c_T_hearAtPorts 3 = .ok (.istore_n 3, 1) := by decide +kernel
theorem d_T_hearAtPorts_4 : decode c_T_hearAtPorts 4 = .ok (.iload_n 3, 1) := by decide +kernel
theorem d_T_hearAtPorts_5 : decode c_T_hearAtPorts 5 = .ok (.iconst 4, 1) := by decide +kernel
theorem d_T_hearAtPorts_6 : decode c_T_hearAtPorts 6 = .ok (.if_icmp .ge 81, 3) := by decide +kernel
theorem d_T_hearAtPorts_9 : decode c_T_hearAtPorts 9 = .ok (.aload_n 1, 1) := by decide +kernel
theorem d_T_hearAtPorts_10 : decode c_T_hearAtPorts 10 = .ok (.getfield 177, 3) := by decide +kernel
theorem d_T_hearAtPorts_13 : decode c_T_hearAtPorts 13 = .ok (.iload_n 3, 1) := by decide +kernel
theorem d_T_hearAtPorts_14 : decode c_T_hearAtPorts 14 = .ok (.aaload, 1) := by decide +kernel
theorem d_T_hearAtPorts_15 : decode c_T_hearAtPorts 15 = .ok (.astore 4, 2) := by decide +kernel
theorem d_T_hearAtPorts_17 : decode c_T_hearAtPorts 17 = .ok (.aload 4, 2) := by decide +kernel
theorem d_T_hearAtPorts_19 : decode c_T_hearAtPorts 19 = .ok (.invokevirtual 185, 3) := by decide +kernel
theorem d_T_hearAtPorts_22 : decode c_T_hearAtPorts 22 = .ok (.astore 5, 2) := by decide +kernel
theorem d_T_hearAtPorts_24 : decode c_T_hearAtPorts 24 = .ok (.aload 5, 2) := by decide +kernel
theorem d_T_hearAtPorts_26 : decode c_T_hearAtPorts 26 = .ok (.ifnull 6, 3) := by decide +kernel
theorem d_T_hearAtPorts_29 : decode c_T_hearAtPorts 29 = .ok (.iinc 2 1, 3) := by decide +kernel
theorem d_T_hearAtPorts_32 : decode c_T_hearAtPorts 32 = .ok (.aload 5, 2) := by decide +kernel
theorem d_T_hearAtPorts_34 : decode c_T_hearAtPorts 34 = .ok (.ifnull 30, 3) := by decide +kernel
theorem d_T_hearAtPorts_37 : decode c_T_hearAtPorts 37 = .ok (.aload_n 1, 1) := by decide +kernel
theorem d_T_hearAtPorts_38 : decode c_T_hearAtPorts 38 = .ok (.aload 5, 2) := by decide +kernel
theorem d_T_hearAtPorts_40 : decode c_T_hearAtPorts 40 = .ok (.getfield 189, 3) := by decide +kernel
theorem d_T_hearAtPorts_43 : decode c_T_hearAtPorts 43 = .ok (.invokevirtual 192, 3) := by decide +kernel
theorem d_T_hearAtPorts_46 : decode c_T_hearAtPorts 46 = .ok (.ifCond .eq 18, 3) := by decide +kernel
theorem d_T_hearAtPorts_49 : decode c_T_hearAtPorts 49 = .ok (.aload 4, 2) := by decide +kernel
theorem d_T_hearAtPorts_51 : decode c_T_hearAtPorts 51 = .ok (.aload 5, 2) := by decide +kernel
theorem d_T_hearAtPorts_53 : decode c_T_hearAtPorts 53 = .ok (.getfield 189, 3) := by decide +kernel
theorem d_T_hearAtPorts_56 : decode c_T_hearAtPorts 56 = .ok (.invokevirtual 196, 3) := by decide +kernel
theorem d_T_hearAtPorts_59 : decode c_T_hearAtPorts 59 = .ok (.istore 6, 2) := by decide +kernel
theorem d_T_hearAtPorts_61 : decode c_T_hearAtPorts 61 = .ok (.goto 10, 3) := by decide +kernel
theorem d_T_hearAtPorts_64 : decode c_T_hearAtPorts 64 = .ok (.aload 4, 2) := by decide +kernel
theorem d_T_hearAtPorts_66 : decode c_T_hearAtPorts 66 = .ok (.invokevirtual 199, 3) := by decide +kernel
theorem d_T_hearAtPorts_69 : decode c_T_hearAtPorts 69 = .ok (.istore 6, 2) := by decide +kernel
theorem d_T_hearAtPorts_71 : decode c_T_hearAtPorts 71 = .ok (.iload 6, 2) := by decide +kernel
theorem d_T_hearAtPorts_73 : decode c_T_hearAtPorts 73 = .ok (.ifCond .eq 8, 3) := by decide +kernel
theorem d_T_hearAtPorts_76 : decode c_T_hearAtPorts 76 = .ok (.aload_n 0, 1) := by decide +kernel
theorem d_T_hearAtPorts_77 : decode c_T_hearAtPorts 77 = .ok (.iconst 1, 1) := by decide +kernel
theorem d_T_hearAtPorts_78 : decode c_T_hearAtPorts 78 = .ok (.putfield 35, 3) := by decide +kernel
theorem d_T_hearAtPorts_81 : decode c_T_hearAtPorts 81 = .ok (.iinc 3 1, 3) := by decide +kernel
theorem d_T_hearAtPorts_84 : decode c_T_hearAtPorts 84 = .ok (.goto (-80), 3) := by decide +kernel
theorem d_T_hearAtPorts_87 : decode c_T_hearAtPorts 87 = .ok (.iload_n 2, 1) := by decide +kernel
theorem d_T_hearAtPorts_88 : decode c_T_hearAtPorts 88 = .ok (.ireturn, 1) := by decide +kernel
theorem d_N_accepts_0 : decode c_N_accepts 0 = .ok (.aload_n 1, 1) := by decide +kernel
theorem d_N_accepts_1 : decode c_N_accepts 1 = .ok (.getfield 43, 3) := by decide +kernel
theorem d_N_accepts_4 : decode c_N_accepts 4 = .ok (.bipush 15, 2) := by decide +kernel
theorem d_N_accepts_6 : decode c_N_accepts 6 = .ok (.if_icmp .ge 21, 3) := by decide +kernel
theorem d_N_accepts_9 : decode c_N_accepts 9 = .ok (.aload_n 1, 1) := by decide +kernel
theorem d_N_accepts_10 : decode c_N_accepts 10 = .ok (.getfield 46, 3) := by decide +kernel
theorem d_N_accepts_13 : decode c_N_accepts 13 = .ok (.aload_n 0, 1) := by decide +kernel
theorem d_N_accepts_14 : decode c_N_accepts 14 = .ok (.getfield 27, 3) := by decide +kernel
theorem d_N_accepts_17 : decode c_N_accepts 17 = .ok (.getfield 46, 3) := by decide +kernel
theorem d_N_accepts_20 : decode c_N_accepts 20 = .ok (.if_icmp .eq 7, 3) := by decide +kernel
theorem d_N_accepts_23 : decode c_N_accepts 23 = .ok (.iconst 1, 1) := by decide +kernel
theorem d_N_accepts_24 : decode c_N_accepts 24 = .ok (.goto 4, 3) := by decide +kernel
theorem d_N_accepts_27 : decode c_N_accepts 27 = .ok (.iconst 0, 1) := by decide +kernel
theorem d_N_accepts_28 : decode c_N_accepts 28 = .ok (.ireturn, 1) := by decide +kernel
theorem d_N_findStates_0 : decode c_N_findStates 0 = .ok (.aload_n 0, 1) := by decide +kernel
theorem d_N_findStates_1 : decode c_N_findStates 1 = .ok (.aload_n 0, 1) := by decide +kernel
theorem d_N_findStates_2 : decode c_N_findStates 2 = .ok (.invokevirtual 49, 3) := by decide +kernel
theorem d_N_findStates_5 : decode c_N_findStates 5 = .ok (.putfield 31, 3) := by decide +kernel
theorem d_N_findStates_8 : decode c_N_findStates 8 = .ok (.iconst 0, 1) := by decide +kernel
theorem d_N_findStates_9 : decode c_N_findStates 9 = .ok (.istore_n 1, 1) := by decide +kernel
theorem d_N_findStates_10 : decode c_N_findStates 10 = .ok (.iconst 0, 1) := by decide +kernel
theorem d_N_findStates_11 : decode c_N_findStates 11 = .ok (.istore_n 2, 1) := by decide +kernel
theorem d_N_findStates_12 : decode c_N_findStates 12 = .ok (.iload_n 2, 1) := by decide +kernel
theorem d_N_findStates_13 : decode c_N_findStates 13 = .ok (.iconst 4, 1) := by decide +kernel
theorem d_N_findStates_14 : decode c_N_findStates 14 = .ok (.if_icmp .ge 55, 3) := by decide +kernel
theorem d_N_findStates_17 : decode c_N_findStates 17 = .ok (.aload_n 0, 1) := by decide +kernel
theorem d_N_findStates_18 : decode c_N_findStates 18 = .ok (.getfield 36, 3) := by decide +kernel
theorem d_N_findStates_21 : decode c_N_findStates 21 = .ok (.iload_n 2, 1) := by decide +kernel
theorem d_N_findStates_22 : decode c_N_findStates 22 = .ok (.aaload, 1) := by decide +kernel
theorem d_N_findStates_23 : decode c_N_findStates 23 = .ok (.astore_n 3, 1) := by decide +kernel
theorem d_N_findStates_24 : decode c_N_findStates 24 = .ok (.aload_n 3, 1) := by decide +kernel
theorem d_N_findStates_25 : decode c_N_findStates 25 = .ok (.aload_n 0, 1) := by decide +kernel
theorem d_N_findStates_26 : decode c_N_findStates 26 = .ok (.getfield 31, 3) := by decide +kernel
theorem d_N_findStates_29 : decode c_N_findStates 29 = .ok (.aload_n 0, 1) := by decide +kernel
theorem d_N_findStates_30 : decode c_N_findStates 30 = .ok (.getfield 27, 3) := by decide +kernel
theorem d_N_findStates_33 : decode c_N_findStates 33 = .ok (.invokevirtual 53, 3) := by decide +kernel
theorem d_N_findStates_36 : decode c_N_findStates 36 = .ok (.aload_n 3, 1) := by decide +kernel
theorem d_N_findStates_37 : decode c_N_findStates 37 = .ok (.aload_n 0, 1) := by decide +kernel
theorem d_N_findStates_38 : decode c_N_findStates 38 = .ok (.getfield 31, 3) := by decide +kernel
theorem d_N_findStates_41 : decode c_N_findStates 41 = .ok (.invokevirtual 57, 3) := by decide +kernel
theorem d_N_findStates_44 : decode c_N_findStates 44 = .ok (.istore 4, 2) := by decide +kernel
theorem d_N_findStates_46 : decode c_N_findStates 46 = .ok (.iload 4, 2) := by decide +kernel
theorem d_N_findStates_48 : decode c_N_findStates 48 = .ok (.aload_n 3, 1) := by decide +kernel
theorem d_N_findStates_49 : decode c_N_findStates 49 = .ok (.getfield 61, 3) := by decide +kernel
theorem d_N_findStates_52 : decode c_N_findStates 52 = .ok (.if_icmp .eq 5, 3) := by decide +kernel
theorem d_N_findStates_55 : decode c_N_findStates 55 = .ok (.iconst 1, 1) := by decide +kernel
theorem d_N_findStates_56 : decode c_N_findStates 56 = .ok (.istore_n 1, 1) := by decide +kernel
theorem d_N_findStates_57 : decode c_N_findStates 57 = .ok (.aload_n 3, 1) := by decide +kernel
theorem d_N_findStates_58 : decode c_N_findStates 58 = .ok (.iload 4, 2) := by decide +kernel
theorem d_N_findStates_60 : decode c_N_findStates 60 = .ok (.putfield 61, 3) := by decide +kernel
theorem d_N_findStates_63 : decode c_N_findStates 63 = .ok (.iinc 2 1, 3) := by decide +kernel
theorem d_N_findStates_66 : decode c_N_findStates 66 = .ok (.goto (-54), 3) := by decide +kernel
theorem d_N_findStates_69 : decode c_N_findStates 69 = .ok (.iload_n 1, 1) := by decide +kernel
theorem d_N_findStates_70 : decode c_N_findStates 70 = .ok (.ireturn, 1) := by decide +kernel
theorem d_N_findBest_0 : decode c_N_findBest 0 = .ok (.aload_n 0, 1) := by decide +kernel
theorem d_N_findBest_1 : decode c_N_findBest 1 = .ok (.getfield 27, 3) := by decide +kernel
theorem d_N_findBest_4 : decode c_N_findBest 4 = .ok (.astore_n 1, 1) := by decide +kernel
theorem d_N_findBest_5 : decode c_N_findBest 5 = .ok (.iconst 0, 1) := by decide +kernel
theorem d_N_findBest_6 : decode c_N_findBest 6 = .ok (.istore_n 2, 1) := by decide +kernel
theorem d_N_findBest_7 : decode c_N_findBest 7 = .ok (.iload_n 2, 1) := by decide +kernel
theorem d_N_findBest_8 : decode c_N_findBest 8 = .ok (.iconst 4, 1) := by decide +kernel
theorem d_N_findBest_9 : decode c_N_findBest 9 = .ok (.if_icmp .ge 47, 3) := by decide +kernel
theorem d_N_findBest_12 : decode c_N_findBest 12 = .ok (.aload_n 0, 1) := by decide +kernel
theorem d_N_findBest_13 : decode c_N_findBest 13 = .ok (.getfield 36, 3) := by decide +kernel
theorem d_N_findBest_16 : decode c_N_findBest 16 = .ok (.iload_n 2, 1) := by decide +kernel
theorem d_N_findBest_17 : decode c_N_findBest 17 = .ok (.aaload, 1) := by decide +kernel
theorem d_N_findBest_18 : decode c_N_findBest 18 = .ok (.getfield 64, 3) := by decide +kernel
theorem d_N_findBest_21 : decode c_N_findBest 21 = .ok (.ifCond .eq 29, 3) := by decide +kernel
theorem d_N_findBest_24 : decode c_N_findBest 24 = .ok (.aload_n 0, 1) := by decide +kernel
theorem d_N_findBest_25 : decode c_N_findBest 25 = .ok (.getfield 36, 3) := by decide +kernel
theorem d_N_findBest_28 : decode c_N_findBest 28 = .ok (.iload_n 2, 1) := by decide +kernel
theorem d_N_findBest_29 : decode c_N_findBest 29 = .ok (.aaload, 1) := by decide +kernel
theorem d_N_findBest_30 : decode c_N_findBest 30 = .ok (.getfield 68, 3) := by decide +kernel
theorem d_N_findBest_33 : decode c_N_findBest 33 = .ok (.aload_n 1, 1) := by decide +kernel
theorem d_N_findBest_34 : decode c_N_findBest 34 = .ok (.invokevirtual 71, 3) := by decide +kernel
theorem d_N_findBest_37 : decode c_N_findBest 37 = .ok (.ifCond .eq 13, 3) := by decide +kernel
theorem d_N_findBest_40 : decode c_N_findBest 40 = .ok (.aload_n 0, 1) := by decide +kernel
theorem d_N_findBest_41 : decode c_N_findBest 41 = .ok (.getfield 36, 3) := by decide +kernel
theorem d_N_findBest_44 : decode c_N_findBest 44 = .ok (.iload_n 2, 1) := by decide +kernel
theorem d_N_findBest_45 : decode c_N_findBest 45 = .ok (.aaload, 1) := by decide +kernel
theorem d_N_findBest_46 : decode c_N_findBest 46 = .ok (.getfield 68, 3) := by decide +kernel
theorem d_N_findBest_49 : decode c_N_findBest 49 = .ok (.astore_n 1, 1) := by decide +kernel
theorem d_N_findBest_50 : decode c_N_findBest 50 = .ok (.iinc 2 1, 3) := by decide +kernel
theorem d_N_findBest_53 : decode c_N_findBest 53 = .ok (.goto (-46), 3) := by decide +kernel
theorem d_N_findBest_56 : decode c_N_findBest 56 = .ok (.aload_n 1, 1) := by decide +kernel
theorem d_N_findBest_57 : decode c_N_findBest 57 = .ok (.areturn, 1) := by decide +kernel
theorem d_T_discipline_0 : decode c_T_discipline 0 = .ok (.iconst 0, 1) := by decide +kernel
theorem d_T_discipline_1 : decode c_T_discipline 1 = .ok (.istore_n 3, 1) := by decide +kernel
theorem d_T_discipline_2 : decode c_T_discipline 2 = .ok (.iconst 0, 1) := by decide +kernel
theorem d_T_discipline_3 : decode c_T_discipline 3 = .ok (.istore 4, 2) := by decide +kernel
theorem d_T_discipline_5 : decode c_T_discipline 5 = .ok (.iload 4, 2) := by decide +kernel
theorem d_T_discipline_7 : decode c_T_discipline 7 = .ok (.bipush 15, 2) := by decide +kernel
theorem d_T_discipline_9 : decode c_T_discipline 9 = .ok (.if_icmp .ge 63, 3) := by decide +kernel
theorem d_T_discipline_12 : decode c_T_discipline 12 = .ok (.iconst 0, 1) := by decide +kernel
theorem d_T_discipline_13 : decode c_T_discipline 13 = .ok (.istore 5, 2) := by decide +kernel
theorem d_T_discipline_15 : decode c_T_discipline 15 = .ok (.iload 5, 2) := by decide +kernel
theorem d_T_discipline_17 : decode c_T_discipline 17 = .ok (.aload_n 0, 1) := by decide +kernel
theorem d_T_discipline_18 : decode c_T_discipline 18 = .ok (.getfield 28, 3) := by decide +kernel
theorem d_T_discipline_21 : decode c_T_discipline 21 = .ok (.if_icmp .ge 45, 3) := by decide +kernel
theorem d_T_discipline_24 : decode c_T_discipline 24 = .ok (.aload_n 0, 1) := by decide +kernel
theorem d_T_discipline_25 : decode c_T_discipline 25 = .ok (.getfield 11, 3) := by decide +kernel
theorem d_T_discipline_28 : decode c_T_discipline 28 = .ok (.iload 5, 2) := by decide +kernel
theorem d_T_discipline_30 : decode c_T_discipline 30 = .ok (.aaload, 1) := by decide +kernel
theorem d_T_discipline_31 : decode c_T_discipline 31 = .ok (.getfield 126, 3) := by decide +kernel
theorem d_T_discipline_34 : decode c_T_discipline 34 = .ok (.getfield 132, 3) := by decide +kernel
theorem d_T_discipline_37 : decode c_T_discipline 37 = .ok (.iload 4, 2) := by decide +kernel
theorem d_T_discipline_39 : decode c_T_discipline 39 = .ok (.if_icmp .ne 21, 3) := by decide +kernel
theorem d_T_discipline_42 : decode c_T_discipline 42 = .ok (.aload_n 0, 1) := by decide +kernel
theorem d_T_discipline_43 : decode c_T_discipline 43 = .ok (.aload_n 0, 1) := by decide +kernel
theorem d_T_discipline_44 : decode c_T_discipline 44 = .ok (.getfield 11, 3) := by decide +kernel
theorem d_T_discipline_47 : decode c_T_discipline 47 = .ok (.iload 5, 2) := by decide +kernel
theorem d_T_discipline_49 : decode c_T_discipline 49 = .ok (.aaload, 1) := by decide +kernel
theorem d_T_discipline_50 : decode c_T_discipline 50 = .ok (.lload_n 1, 1) := by decide +kernel
theorem d_T_discipline_51 : decode c_T_discipline 51 = .ok (.invokevirtual 169, 3) := by decide +kernel
theorem d_T_discipline_54 : decode c_T_discipline 54 = .ok (.ifCond .eq 6, 3) := by decide +kernel
theorem d_T_discipline_57 : decode c_T_discipline 57 = .ok (.iinc 3 1, 3) := by decide +kernel
theorem d_T_discipline_60 : decode c_T_discipline 60 = .ok (.iinc 5 1, 3) := by decide +kernel
theorem d_T_discipline_63 : decode c_T_discipline 63 = .ok (.goto (-48), 3) := by decide +kernel
theorem d_T_discipline_66 : decode c_T_discipline 66 = .ok (.iinc 4 1, 3) := by decide +kernel
theorem d_T_discipline_69 : decode c_T_discipline 69 = .ok (.goto (-64), 3) := by decide +kernel
theorem d_T_discipline_72 : decode c_T_discipline 72 = .ok (.iload_n 3, 1) := by decide +kernel
theorem d_T_discipline_73 : decode c_T_discipline 73 = .ok (.ireturn, 1) := by decide +kernel
theorem d_T_setsClock_0 : decode c_T_setsClock 0 = .ok (.aload_n 1, 1) := by decide +kernel
theorem d_T_setsClock_1 : decode c_T_setsClock 1 = .ok (.invokestatic 144, 3) := by decide +kernel
theorem d_T_setsClock_4 : decode c_T_setsClock 4 = .ok (.astore 4, 2) := by decide +kernel
theorem d_T_setsClock_6 : decode c_T_setsClock 6 = .ok (.aload 4, 2) := by decide +kernel
theorem d_T_setsClock_8 : decode c_T_setsClock 8 = .ok (.ifnull 20, 3) := by decide +kernel
theorem d_T_setsClock_11 : decode c_T_setsClock 11 = .ok (.aload_n 0, 1) := by decide +kernel
theorem d_T_setsClock_12 : decode c_T_setsClock 12 = .ok (.aload_n 1, 1) := by decide +kernel
theorem d_T_setsClock_13 : decode c_T_setsClock 13 = .ok (.aload 4, 2) := by decide +kernel
theorem d_T_setsClock_15 : decode c_T_setsClock 15 = .ok (.lload_n 2, 1) := by decide +kernel
theorem d_T_setsClock_16 : decode c_T_setsClock 16 = .ok (.iconst 0, 1) := by decide +kernel
theorem d_T_setsClock_17 : decode c_T_setsClock 17 = .ok (.iconst 0, 1) := by decide +kernel
theorem d_T_setsClock_18 : decode c_T_setsClock 18 = .ok (.invokevirtual 150, 3) := by decide +kernel
theorem d_T_setsClock_21 : decode c_T_setsClock 21 = .ok (.ifCond .eq 7, 3) := by decide +kernel
theorem d_T_setsClock_24 : decode c_T_setsClock 24 = .ok (.iconst 1, 1) := by decide +kernel
theorem d_T_setsClock_25 : decode c_T_setsClock 25 = .ok (.goto 4, 3) := by decide +kernel
theorem d_T_setsClock_28 : decode c_T_setsClock 28 = .ok (.iconst 0, 1) := by decide +kernel
theorem d_T_setsClock_29 : decode c_T_setsClock 29 = .ok (.ireturn, 1) := by decide +kernel
theorem d_T_openSlaveOf_0 : decode c_T_openSlaveOf 0 = .ok (.aload_n 0, 1) := by decide +kernel
theorem d_T_openSlaveOf_1 : decode c_T_openSlaveOf 1 = .ok (.getfield 126, 3) := by decide +kernel
theorem d_T_openSlaveOf_4 : decode c_T_openSlaveOf 4 = .ok (.getfield 202, 3) := by decide +kernel
theorem d_T_openSlaveOf_7 : decode c_T_openSlaveOf 7 = .ok (.istore_n 1, 1) := by decide +kernel
theorem d_T_openSlaveOf_8 : decode c_T_openSlaveOf 8 = .ok (.iload_n 1, 1) := by decide +kernel
theorem d_T_openSlaveOf_9 : decode c_T_openSlaveOf 9 = .ok (.ifCond .lt 8, 3) := by decide +kernel
theorem d_T_openSlaveOf_12 : decode c_T_openSlaveOf 12 = .ok (.iload_n 1, 1) := by decide +kernel
theorem d_T_openSlaveOf_13 : decode c_T_openSlaveOf 13 = .ok (.iconst 4, 1) := by decide +kernel
theorem d_T_openSlaveOf_14 : decode c_T_openSlaveOf 14 = .ok (.if_icmp .lt 5, 3) := by decide +kernel
theorem d_T_openSlaveOf_17 : decode c_T_openSlaveOf 17 = .ok (.aconst_null, 1) := by decide +kernel
theorem d_T_openSlaveOf_18 : decode c_T_openSlaveOf 18 = .ok (.areturn, 1) := by decide +kernel
theorem d_T_openSlaveOf_19 : decode c_T_openSlaveOf 19 = .ok (.aload_n 0, 1) := by decide +kernel
theorem d_T_openSlaveOf_20 : decode c_T_openSlaveOf 20 = .ok (.getfield 177, 3) := by decide +kernel
theorem d_T_openSlaveOf_23 : decode c_T_openSlaveOf 23 = .ok (.iload_n 1, 1) := by decide +kernel
theorem d_T_openSlaveOf_24 : decode c_T_openSlaveOf 24 = .ok (.aaload, 1) := by decide +kernel
theorem d_T_openSlaveOf_25 : decode c_T_openSlaveOf 25 = .ok (.astore_n 2, 1) := by decide +kernel
theorem d_T_openSlaveOf_26 : decode c_T_openSlaveOf 26 = .ok (.aload_n 2, 1) := by decide +kernel
theorem d_T_openSlaveOf_27 : decode c_T_openSlaveOf 27 = .ok (.getfield 92, 3) := by decide +kernel
theorem d_T_openSlaveOf_30 : decode c_T_openSlaveOf 30 = .ok (.ifnull 17, 3) := by decide +kernel
theorem d_T_openSlaveOf_33 : decode c_T_openSlaveOf 33 = .ok (.aload_n 2, 1) := by decide +kernel
theorem d_T_openSlaveOf_34 : decode c_T_openSlaveOf 34 = .ok (.getfield 92, 3) := by decide +kernel
theorem d_T_openSlaveOf_37 : decode c_T_openSlaveOf 37 = .ok (.getfield 105, 3) := by decide +kernel
theorem d_T_openSlaveOf_40 : decode c_T_openSlaveOf 40 = .ok (.ifCond .eq 7, 3) := by decide +kernel
theorem d_T_openSlaveOf_43 : decode c_T_openSlaveOf 43 = .ok (.aload_n 2, 1) := by decide +kernel
theorem d_T_openSlaveOf_44 : decode c_T_openSlaveOf 44 = .ok (.goto 4, 3) := by decide +kernel
theorem d_T_openSlaveOf_47 : decode c_T_openSlaveOf 47 = .ok (.aconst_null, 1) := by decide +kernel
theorem d_T_openSlaveOf_48 : decode c_T_openSlaveOf 48 = .ok (.areturn, 1) := by decide +kernel
theorem d_T_setClock_0 : decode c_T_setClock 0 = .ok (.aload_n 2, 1) := by decide +kernel
theorem d_T_setClock_1 : decode c_T_setClock 1 = .ok (.getfield 92, 3) := by decide +kernel
theorem d_T_setClock_4 : decode c_T_setClock 4 = .ok (.astore 7, 2) := by decide +kernel
theorem d_T_setClock_6 : decode c_T_setClock 6 = .ok (.aload_n 0, 1) := by decide +kernel
theorem d_T_setClock_7 : decode c_T_setClock 7 = .ok (.getfield 11, 3) := by decide +kernel
theorem d_T_setClock_10 : decode c_T_setClock 10 = .ok (.aload 7, 2) := by decide +kernel
theorem d_T_setClock_12 : decode c_T_setClock 12 = .ok (.aload_n 2, 1) := by decide +kernel
theorem d_T_setClock_13 : decode c_T_setClock 13 = .ok (.invokevirtual 205, 3) := by decide +kernel
theorem d_T_setClock_16 : decode c_T_setClock 16 = .ok (.getfield 209, 3) := by decide +kernel
theorem d_T_setClock_19 : decode c_T_setClock 19 = .ok (.aaload, 1) := by decide +kernel
theorem d_T_setClock_20 : decode c_T_setClock 20 = .ok (.astore 8, 2) := by decide +kernel
theorem d_T_setClock_22 : decode c_T_setClock 22 = .ok (.aload_n 0, 1) := by decide +kernel
theorem d_T_setClock_23 : decode c_T_setClock 23 = .ok (.getfield 24, 3) := by decide +kernel
theorem d_T_setClock_26 : decode c_T_setClock 26 = .ok (.lload_n 3, 1) := by decide +kernel
theorem d_T_setClock_27 : decode c_T_setClock 27 = .ok (.aload 7, 2) := by decide +kernel
theorem d_T_setClock_29 : decode c_T_setClock 29 = .ok (.aload_n 2, 1) := by decide +kernel
theorem d_T_setClock_30 : decode c_T_setClock 30 = .ok (.invokevirtual 212, 3) := by decide +kernel
theorem d_T_setClock_33 : decode c_T_setClock 33 = .ok (.iload 5, 2) := by decide +kernel
theorem d_T_setClock_35 : decode c_T_setClock 35 = .ok (.iadd, 1) := by decide +kernel
theorem d_T_setClock_36 : decode c_T_setClock 36 = .ok (.aload 7, 2) := by decide +kernel
theorem d_T_setClock_38 : decode c_T_setClock 38 = .ok (.aload_n 2, 1) := by decide +kernel
theorem d_T_setClock_39 : decode c_T_setClock 39 = .ok (.invokevirtual 216, 3) := by decide +kernel
theorem d_T_setClock_42 : decode c_T_setClock 42 = .ok (.iload 6, 2) := by decide +kernel
theorem d_T_setClock_44 : decode c_T_setClock 44 = .ok (.iadd, 1) := by decide +kernel
theorem d_T_setClock_45 : decode c_T_setClock 45 = .ok (.invokevirtual 219, 3) := by decide +kernel
theorem d_T_setClock_48 : decode c_T_setClock 48 = .ok (.aload_n 0, 1) := by decide +kernel
theorem d_T_setClock_49 : decode c_T_setClock 49 = .ok (.getfield 24, 3) := by decide +kernel
theorem d_T_setClock_52 : decode c_T_setClock 52 = .ok (.aload 8, 2) := by decide +kernel
theorem d_T_setClock_54 : decode c_T_setClock 54 = .ok (.getfield 166, 3) := by decide +kernel
theorem d_T_setClock_57 : decode c_T_setClock 57 = .ok (.aload_n 1, 1) := by decide +kernel
theorem d_T_setClock_58 : decode c_T_setClock 58 = .ok (.getfield 166, 3) := by decide +kernel
theorem d_T_setClock_61 : decode c_T_setClock 61 = .ok (.invokevirtual 223, 3) := by decide +kernel
theorem d_T_setClock_64 : decode c_T_setClock 64 = .ok (.aload_n 0, 1) := by decide +kernel
theorem d_T_setClock_65 : decode c_T_setClock 65 = .ok (.getfield 24, 3) := by decide +kernel
theorem d_T_setClock_68 : decode c_T_setClock 68 = .ok (.aload_n 1, 1) := by decide +kernel
theorem d_T_setClock_69 : decode c_T_setClock 69 = .ok (.getfield 166, 3) := by decide +kernel
theorem d_T_setClock_72 : decode c_T_setClock 72 = .ok (.iload 5, 2) := by decide +kernel
theorem d_T_setClock_74 : decode c_T_setClock 74 = .ok (.iload 6, 2) := by decide +kernel
theorem d_T_setClock_76 : decode c_T_setClock 76 = .ok (.invokevirtual 227, 3) := by decide +kernel
theorem d_T_setClock_79 : decode c_T_setClock 79 = .ok (.aload_n 0, 1) := by decide +kernel
theorem d_T_setClock_80 : decode c_T_setClock 80 = .ok (.getfield 24, 3) := by decide +kernel
theorem d_T_setClock_83 : decode c_T_setClock 83 = .ok (.getfield 230, 3) := by decide +kernel
theorem d_T_setClock_86 : decode c_T_setClock 86 = .ok (.ifCond .eq 5, 3) := by decide +kernel
theorem d_T_setClock_89 : decode c_T_setClock 89 = .ok (.iconst 0, 1) := by decide +kernel
theorem d_T_setClock_90 : decode c_T_setClock 90 = .ok (.ireturn, 1) := by decide +kernel
theorem d_T_setClock_91 : decode c_T_setClock 91 = .ok (.aload_n 1, 1) := by decide +kernel
theorem d_T_setClock_92 : decode c_T_setClock 92 = .ok (.aload_n 0, 1) := by decide +kernel
theorem d_T_setClock_93 : decode c_T_setClock 93 = .ok (.getfield 24, 3) := by decide +kernel
theorem d_T_setClock_96 : decode c_T_setClock 96 = .ok (.getfield 233, 3) := by decide +kernel
theorem d_T_setClock_99 : decode c_T_setClock 99 = .ok (.putfield 166, 3) := by decide +kernel
theorem d_T_setClock_102 : decode c_T_setClock 102 = .ok (.aload_n 1, 1) := by decide +kernel
theorem d_T_setClock_103 : decode c_T_setClock 103 = .ok (.aload_n 0, 1) := by decide +kernel
theorem d_T_setClock_104 : decode c_T_setClock 104 = .ok (.getfield 24, 3) := by decide +kernel
theorem d_T_setClock_107 : decode c_T_setClock 107 = .ok (.getfield 236, 3) := by decide +kernel
theorem d_T_setClock_110 : decode c_T_setClock 110 = .ok (.putfield 163, 3) := by decide +kernel
theorem d_T_setClock_113 : decode c_T_setClock 113 = .ok (.iconst 1, 1) := by decide +kernel
theorem d_T_setClock_114 : decode c_T_setClock 114 = .ok (.ireturn, 1) := by decide +kernel
theorem d_T_node_0 : decode c_T_node 0 = .ok (.iload_n 1, 1) := by decide +kernel
theorem d_T_node_1 : decode c_T_node 1 = .ok (.sipush 9999, 3) := by decide +kernel
theorem d_T_node_4 : decode c_T_node 4 = .ok (.invokestatic 39, 3) := by decide +kernel
theorem d_T_node_7 : decode c_T_node 7 = .ok (.ifCond .eq 34, 3) := by decide +kernel
theorem d_T_node_10 : decode c_T_node 10 = .ok (.iload_n 2, 1) := by decide +kernel
theorem d_T_node_11 : decode c_T_node 11 = .ok (.sipush 255, 3) := by decide +kernel
theorem d_T_node_14 : decode c_T_node 14 = .ok (.invokestatic 39, 3) := by decide +kernel
theorem d_T_node_17 : decode c_T_node 17 = .ok (.ifCond .eq 24, 3) := by decide +kernel
theorem d_T_node_20 : decode c_T_node 20 = .ok (.iload_n 3, 1) := by decide +kernel
theorem d_T_node_21 : decode c_T_node 21 = .ok (.sipush 255, 3) := by decide +kernel
theorem d_T_node_24 : decode c_T_node 24 = .ok (.invokestatic 39, 3) := by decide +kernel
theorem d_T_node_27 : decode c_T_node 27 = .ok (.ifCond .eq 14, 3) := by decide +kernel
theorem d_T_node_30 : decode c_T_node 30 = .ok (.iload 4, 2) := by decide +kernel
theorem d_T_node_32 : decode c_T_node 32 = .ok (.sipush 255, 3) := by decide +kernel
theorem d_T_node_35 : decode c_T_node 35 = .ok (.invokestatic 39, 3) := by decide +kernel
theorem d_T_node_38 : decode c_T_node 38 = .ok (.ifCond .ne 13, 3) := by decide +kernel
theorem d_T_node_41 : decode c_T_node 41 = .ok (.new 43, 3) := by decide +kernel
theorem d_T_node_44 : decode c_T_node 44 = .ok (.dup, 1) := by decide +kernel
theorem d_T_node_45 : decode c_T_node 45 = .ok (.ldc 45, 2) := by decide +kernel
theorem d_T_node_47 : decode c_T_node 47 = .ok (.invokespecial 47, 3) := by decide +kernel
theorem d_T_node_50 : decode c_T_node 50 = .ok (.athrow, 1) := by decide +kernel
theorem d_T_node_51 : decode c_T_node 51 = .ok (.aload_n 0, 1) := by decide +kernel
theorem d_T_node_52 : decode c_T_node 52 = .ok (.iload_n 1, 1) := by decide +kernel
theorem d_T_node_53 : decode c_T_node 53 = .ok (.invokevirtual 50, 3) := by decide +kernel
theorem d_T_node_56 : decode c_T_node 56 = .ok (.ifCond .eq 13, 3) := by decide +kernel
theorem d_T_node_59 : decode c_T_node 59 = .ok (.new 43, 3) := by decide +kernel
theorem d_T_node_62 : decode c_T_node 62 = .ok (.dup, 1) := by decide +kernel
theorem d_T_node_63 : decode c_T_node 63 = .ok (.ldc 54, 2) := by decide +kernel
theorem d_T_node_65 : decode c_T_node 65 = .ok (.invokespecial 47, 3) := by decide +kernel
theorem d_T_node_68 : decode c_T_node 68 = .ok (.athrow, 1) := by decide +kernel
theorem d_T_node_69 : decode c_T_node 69 = .ok (.aload_n 0, 1) := by decide +kernel
theorem d_T_node_70 : decode c_T_node 70 = .ok (.getfield 28, 3) := by decide +kernel
theorem d_T_node_73 : decode c_T_node 73 = .ok (.bipush 10, 2) := by decide +kernel
theorem d_T_node_75 : decode c_T_node 75 = .ok (.if_icmp .lt 13, 3) := by decide +kernel
theorem d_T_node_78 : decode c_T_node 78 = .ok (.new 56, 3) := by decide +kernel
theorem d_T_node_81 : decode c_T_node 81 = .ok (.dup, 1) := by decide +kernel
theorem d_T_node_82 : decode c_T_node 82 = .ok (.ldc 58, 2) := by decide +kernel
theorem d_T_node_84 : decode c_T_node 84 = .ok (.invokespecial 60, 3) := by decide +kernel
theorem d_T_node_87 : decode c_T_node 87 = .ok (.athrow, 1) := by decide +kernel
theorem d_T_node_88 : decode c_T_node 88 = .ok (.new 9, 3) := by decide +kernel
theorem d_T_node_91 : decode c_T_node 91 = .ok (.dup, 1) := by decide +kernel
theorem d_T_node_92 : decode c_T_node 92 = .ok (.aload_n 0, 1) := by decide +kernel
theorem d_T_node_93 : decode c_T_node 93 = .ok (.getfield 28, 3) := by decide +kernel
theorem d_T_node_96 : decode c_T_node 96 = .ok (.lload 5, 2) := by decide +kernel
theorem d_T_node_98 : decode c_T_node 98 = .ok (.invokespecial 61, 3) := by decide +kernel
theorem d_T_node_101 : decode c_T_node 101 = .ok (.astore 7, 2) := by decide +kernel
theorem d_T_node_103 : decode c_T_node 103 = .ok (.aload 7, 2) := by decide +kernel
theorem d_T_node_105 : decode c_T_node 105 = .ok (.getfield 64, 3) := by decide +kernel
theorem d_T_node_108 : decode c_T_node 108 = .ok (.iload_n 1, 1) := by decide +kernel
theorem d_T_node_109 : decode c_T_node 109 = .ok (.iload_n 2, 1) := by decide +kernel
theorem d_T_node_110 : decode c_T_node 110 = .ok (.iload_n 3, 1) := by decide +kernel
theorem d_T_node_111 : decode c_T_node 111 = .ok (.iload 4, 2) := by decide +kernel
theorem d_T_node_113 : decode c_T_node 113 = .ok (.invokevirtual 68, 3) := by decide +kernel
theorem d_T_node_116 : decode c_T_node 116 = .ok (.aload 7, 2) := by decide +kernel
theorem d_T_node_118 : decode c_T_node 118 = .ok (.invokevirtual 74, 3) := by decide +kernel
theorem d_T_node_121 : decode c_T_node 121 = .ok (.pop, 1) := by decide +kernel
theorem d_T_node_122 : decode c_T_node 122 = .ok (.aload_n 0, 1) := by decide +kernel
theorem d_T_node_123 : decode c_T_node 123 = .ok (.getfield 11, 3) := by decide +kernel
theorem d_T_node_126 : decode c_T_node 126 = .ok (.aload_n 0, 1) := by decide +kernel
theorem d_T_node_127 : decode c_T_node 127 = .ok (.getfield 28, 3) := by decide +kernel
theorem d_T_node_130 : decode c_T_node 130 = .ok (.aload 7, 2) := by decide +kernel
theorem d_T_node_132 : decode c_T_node 132 = .ok (.aastore, 1) := by decide +kernel
theorem d_T_node_133 : decode c_T_node 133 = .ok (.aload_n 0, 1) := by decide +kernel
theorem d_T_node_134 : decode c_T_node 134 = .ok (.dup, 1) := by decide +kernel
theorem d_T_node_135 : decode c_T_node 135 = .ok (.getfield 28, 3) := by decide +kernel
theorem d_T_node_138 : decode c_T_node 138 = .ok (.iconst 1, 1) := by decide +kernel
theorem d_T_node_139 : decode c_T_node 139 = .ok (.iadd, 1) := by decide +kernel
theorem d_T_node_140 : decode c_T_node 140 = .ok (.putfield 28, 3) := by decide +kernel
theorem d_T_node_143 : decode c_T_node 143 = .ok (.aload 7, 2) := by decide +kernel
theorem d_T_node_145 : decode c_T_node 145 = .ok (.getfield 78, 3) := by decide +kernel
theorem d_T_node_148 : decode c_T_node 148 = .ok (.ireturn, 1) := by decide +kernel
theorem d_T_isWithin_0 : decode c_T_isWithin 0 = .ok (.iload_n 0, 1) := by decide +kernel
theorem d_T_isWithin_1 : decode c_T_isWithin 1 = .ok (.ifCond .lt 12, 3) := by decide +kernel
theorem d_T_isWithin_4 : decode c_T_isWithin 4 = .ok (.iload_n 0, 1) := by decide +kernel
theorem d_T_isWithin_5 : decode c_T_isWithin 5 = .ok (.iload_n 1, 1) := by decide +kernel
theorem d_T_isWithin_6 : decode c_T_isWithin 6 = .ok (.if_icmp .gt 7, 3) := by decide +kernel
theorem d_T_isWithin_9 : decode c_T_isWithin 9 = .ok (.iconst 1, 1) := by decide +kernel
theorem d_T_isWithin_10 : decode c_T_isWithin 10 = .ok (.goto 4, 3) := by decide +kernel
theorem d_T_isWithin_13 : decode c_T_isWithin 13 = .ok (.iconst 0, 1) := by decide +kernel
theorem d_T_isWithin_14 : decode c_T_isWithin 14 = .ok (.ireturn, 1) := by decide +kernel
theorem d_T_hasIdentity_0 : decode c_T_hasIdentity 0 = .ok (.iconst 0, 1) := by decide +kernel
theorem d_T_hasIdentity_1 : decode c_T_hasIdentity 1 = .ok (.istore_n 2, 1) := by decide +kernel
theorem d_T_hasIdentity_2 : decode c_T_hasIdentity 2 = .ok (.iload_n 2, 1) := by decide +kernel
theorem d_T_hasIdentity_3 : decode c_T_hasIdentity 3 = .ok (.aload_n 0, 1) := by decide +kernel
theorem d_T_hasIdentity_4 : decode c_T_hasIdentity 4 = .ok (.getfield 28, 3) := by decide +kernel
theorem d_T_hasIdentity_7 : decode c_T_hasIdentity 7 = .ok (.if_icmp .ge 27, 3) := by decide +kernel
theorem d_T_hasIdentity_10 : decode c_T_hasIdentity 10 = .ok (.aload_n 0, 1) := by decide +kernel
theorem d_T_hasIdentity_11 : decode c_T_hasIdentity 11 = .ok (.getfield 11, 3) := by decide +kernel
theorem d_T_hasIdentity_14 : decode c_T_hasIdentity 14 = .ok (.iload_n 2, 1) := by decide +kernel
theorem d_T_hasIdentity_15 : decode c_T_hasIdentity 15 = .ok (.aaload, 1) := by decide +kernel
theorem d_T_hasIdentity_16 : decode c_T_hasIdentity 16 = .ok (.getfield 64, 3) := by decide +kernel
theorem d_T_hasIdentity_19 : decode c_T_hasIdentity 19 = .ok (.getfield 129, 3) := by decide +kernel
theorem d_T_hasIdentity_22 : decode c_T_hasIdentity 22 = .ok (.iload_n 1, 1) := by decide +kernel
theorem d_T_hasIdentity_23 : decode c_T_hasIdentity 23 = .ok (.if_icmp .ne 5, 3) := by decide +kernel
theorem d_T_hasIdentity_26 : decode c_T_hasIdentity 26 = .ok (.iconst 1, 1) := by decide +kernel
theorem d_T_hasIdentity_27 : decode c_T_hasIdentity 27 = .ok (.ireturn, 1) := by decide +kernel
theorem d_T_hasIdentity_28 : decode c_T_hasIdentity 28 = .ok (.iinc 2 1, 3) := by decide +kernel
theorem d_T_hasIdentity_31 : decode c_T_hasIdentity 31 = .ok (.goto (-29), 3) := by decide +kernel
theorem d_T_hasIdentity_34 : decode c_T_hasIdentity 34 = .ok (.iconst 0, 1) := by decide +kernel
theorem d_T_hasIdentity_35 : decode c_T_hasIdentity 35 = .ok (.ireturn, 1) := by decide +kernel
theorem d_N_init_0 : decode c_N_init 0 = .ok (.aload_n 0, 1) := by decide +kernel
theorem d_N_init_1 : decode c_N_init 1 = .ok (.invokespecial 3, 3) := by decide +kernel
theorem d_N_init_4 : decode c_N_init 4 = .ok (.aload_n 0, 1) := by decide +kernel
theorem d_N_init_5 : decode c_N_init 5 = .ok (.iload_n 1, 1) := by decide +kernel
theorem d_N_init_6 : decode c_N_init 6 = .ok (.putfield 9, 3) := by decide +kernel
theorem d_N_init_9 : decode c_N_init 9 = .ok (.aload_n 0, 1) := by decide +kernel
theorem d_N_init_10 : decode c_N_init 10 = .ok (.lload_n 2, 1) := by decide +kernel
theorem d_N_init_11 : decode c_N_init 11 = .ok (.putfield 15, 3) := by decide +kernel
theorem d_N_init_14 : decode c_N_init 14 = .ok (.aload_n 0, 1) := by decide +kernel
theorem d_N_init_15 : decode c_N_init 15 = .ok (.ldc2_w 19, 3) := by decide +kernel
theorem d_N_init_18 : decode c_N_init 18 = .ok (.putfield 21, 3) := by decide +kernel
theorem d_N_init_21 : decode c_N_init 21 = .ok (.aload_n 0, 1) := by decide +kernel
theorem d_N_init_22 : decode c_N_init 22 = .ok (.new 24, 3) := by decide +kernel
theorem d_N_init_25 : decode c_N_init 25 = .ok (.dup, 1) := by decide +kernel
theorem d_N_init_26 : decode c_N_init 26 = .ok (.invokespecial 26, 3) := by decide +kernel
theorem d_N_init_29 : decode c_N_init 29 = .ok (.putfield 27, 3) := by decide +kernel
theorem d_N_init_32 : decode c_N_init 32 = .ok (.aload_n 0, 1) := by decide +kernel
theorem d_N_init_33 : decode c_N_init 33 = .ok (.aload_n 0, 1) := by decide +kernel
theorem d_N_init_34 : decode c_N_init 34 = .ok (.getfield 27, 3) := by decide +kernel
theorem d_N_init_37 : decode c_N_init 37 = .ok (.putfield 31, 3) := by decide +kernel
theorem d_N_init_40 : decode c_N_init 40 = .ok (.aload_n 0, 1) := by decide +kernel
theorem d_N_init_41 : decode c_N_init 41 = .ok (.iconst 4, 1) := by decide +kernel
theorem d_N_init_42 : decode c_N_init 42 = .ok (.anewarray 34, 3) := by decide +kernel
theorem d_N_init_45 : decode c_N_init 45 = .ok (.putfield 36, 3) := by decide +kernel
theorem d_N_init_48 : decode c_N_init 48 = .ok (.iconst 0, 1) := by decide +kernel
theorem d_N_init_49 : decode c_N_init 49 = .ok (.istore 4, 2) := by decide +kernel
theorem d_N_init_51 : decode c_N_init 51 = .ok (.iload 4, 2) := by decide +kernel
theorem d_N_init_53 : decode c_N_init 53 = .ok (.iconst 4, 1) := by decide +kernel
theorem d_N_init_54 : decode c_N_init 54 = .ok (.if_icmp .ge 26, 3) := by decide +kernel
theorem d_N_init_57 : decode c_N_init 57 = .ok (.aload_n 0, 1) := by decide +kernel
theorem d_N_init_58 : decode c_N_init 58 = .ok (.getfield 36, 3) := by decide +kernel
theorem d_N_init_61 : decode c_N_init 61 = .ok (.iload 4, 2) := by decide +kernel
theorem d_N_init_63 : decode c_N_init 63 = .ok (.new 34, 3) := by decide +kernel
theorem d_N_init_66 : decode c_N_init 66 = .ok (.dup, 1) := by decide +kernel
theorem d_N_init_67 : decode c_N_init 67 = .ok (.iload_n 1, 1) := by decide +kernel
theorem d_N_init_68 : decode c_N_init 68 = .ok (.iload 4, 2) := by decide +kernel
theorem d_N_init_70 : decode c_N_init 70 = .ok (.invokespecial 40, 3) := by decide +kernel
theorem d_N_init_73 : decode c_N_init 73 = .ok (.aastore, 1) := by decide +kernel
theorem d_N_init_74 : decode c_N_init 74 = .ok (.iinc 4 1, 3) := by decide +kernel
theorem d_N_init_77 : decode c_N_init 77 = .ok (.goto (-26), 3) := by decide +kernel
theorem d_N_init_80 : decode c_N_init 80 = .ok (.return_, 1) := by decide +kernel
theorem d_T_link_0 : decode c_T_link 0 = .ok (.aload_n 0, 1) := by decide +kernel
theorem d_T_link_1 : decode c_T_link 1 = .ok (.iload_n 1, 1) := by decide +kernel
theorem d_T_link_2 : decode c_T_link 2 = .ok (.iload_n 2, 1) := by decide +kernel
theorem d_T_link_3 : decode c_T_link 3 = .ok (.invokevirtual 81, 3) := by decide +kernel
theorem d_T_link_6 : decode c_T_link 6 = .ok (.astore 7, 2) := by decide +kernel
theorem d_T_link_8 : decode c_T_link 8 = .ok (.aload_n 0, 1) := by decide +kernel
theorem d_T_link_9 : decode c_T_link 9 = .ok (.iload_n 3, 1) := by decide +kernel
theorem d_T_link_10 : decode c_T_link 10 = .ok (.iload 4, 2) := by decide +kernel
theorem d_T_link_12 : decode c_T_link 12 = .ok (.invokevirtual 81, 3) := by decide +kernel
theorem d_T_link_15 : decode c_T_link 15 = .ok (.astore 8, 2) := by decide +kernel
theorem d_T_link_17 : decode c_T_link 17 = .ok (.iload_n 1, 1) := by decide +kernel
theorem d_T_link_18 : decode c_T_link 18 = .ok (.iload_n 3, 1) := by decide +kernel
theorem d_T_link_19 : decode c_T_link 19 = .ok (.if_icmp .ne 13, 3) := by decide +kernel
theorem d_T_link_22 : decode c_T_link 22 = .ok (.new 43, 3) := by decide +kernel
theorem d_T_link_25 : decode c_T_link 25 = .ok (.dup, 1) := by decide +kernel
theorem d_T_link_26 : decode c_T_link 26 = .ok (.ldc 85, 2) := by decide +kernel
theorem d_T_link_28 : decode c_T_link 28 = .ok (.invokespecial 47, 3) := by decide +kernel
theorem d_T_link_31 : decode c_T_link 31 = .ok (.athrow, 1) := by decide +kernel
theorem d_T_link_32 : decode c_T_link 32 = .ok (.iload 5, 2) := by decide +kernel
theorem d_T_link_34 : decode c_T_link 34 = .ok (.ldc 87, 2) := by decide +kernel
theorem d_T_link_36 : decode c_T_link 36 = .ok (.invokestatic 39, 3) := by decide +kernel
theorem d_T_link_39 : decode c_T_link 39 = .ok (.ifCond .eq 13, 3) := by decide +kernel
theorem d_T_link_42 : decode c_T_link 42 = .ok (.iload 6, 2) := by decide +kernel
theorem d_T_link_44 : decode c_T_link 44 = .ok (.ldc 87, 2) := by decide +kernel
theorem d_T_link_46 : decode c_T_link 46 = .ok (.invokestatic 39, 3) := by decide +kernel
theorem d_T_link_49 : decode c_T_link 49 = .ok (.ifCond .ne 13, 3) := by decide +kernel
theorem d_T_link_52 : decode c_T_link 52 = .ok (.new 43, 3) := by decide +kernel
theorem d_T_link_55 : decode c_T_link 55 = .ok (.dup, 1) := by decide +kernel
theorem d_T_link_56 : decode c_T_link 56 = .ok (.ldc 88, 2) := by decide +kernel
theorem d_T_link_58 : decode c_T_link 58 = .ok (.invokespecial 47, 3) := by decide +kernel
theorem d_T_link_61 : decode c_T_link 61 = .ok (.athrow, 1) := by decide +kernel
theorem d_T_link_62 : decode c_T_link 62 = .ok (.aload_n 0, 1) := by decide +kernel
theorem d_T_link_63 : decode c_T_link 63 = .ok (.getfield 32, 3) := by decide +kernel
theorem d_T_link_66 : decode c_T_link 66 = .ok (.bipush 16, 2) := by decide +kernel
theorem d_T_link_68 : decode c_T_link 68 = .ok (.if_icmp .lt 13, 3) := by decide +kernel
theorem d_T_link_71 : decode c_T_link 71 = .ok (.new 56, 3) := by decide +kernel
theorem d_T_link_74 : decode c_T_link 74 = .ok (.dup, 1) := by decide +kernel
theorem d_T_link_75 : decode c_T_link 75 = .ok (.ldc 90, 2) := by decide +kernel
theorem d_T_link_77 : decode c_T_link 77 = .ok (.invokespecial 60, 3) := by decide +kernel
theorem d_T_link_80 : decode c_T_link 80 = .ok (.athrow, 1) := by decide +kernel
theorem d_T_link_81 : decode c_T_link 81 = .ok (.aload 7, 2) := by decide +kernel
theorem d_T_link_83 : decode c_T_link 83 = .ok (.getfield 92, 3) := by decide +kernel
theorem d_T_link_86 : decode c_T_link 86 = .ok (.ifnonnull 11, 3) := by decide +kernel
theorem d_T_link_89 : decode c_T_link 89 = .ok (.aload 8, 2) := by decide +kernel
theorem d_T_link_91 : decode c_T_link 91 = .ok (.getfield 92, 3) := by decide +kernel
theorem d_T_link_94 : decode c_T_link 94 = .ok (.ifnull 13, 3) := by decide +kernel
theorem d_T_link_97 : decode c_T_link 97 = .ok (.new 56, 3) := by decide +kernel
theorem d_T_link_100 : decode c_T_link 100 = .ok (.dup, 1) := by decide +kernel
theorem d_T_link_101 : decode c_T_link 101 = .ok (.ldc 98, 2) := by decide +kernel
theorem d_T_link_103 : decode c_T_link 103 = .ok (.invokespecial 60, 3) := by decide +kernel
theorem d_T_link_106 : decode c_T_link 106 = .ok (.athrow, 1) := by decide +kernel
theorem d_T_link_107 : decode c_T_link 107 = .ok (.new 15, 3) := by decide +kernel
theorem d_T_link_110 : decode c_T_link 110 = .ok (.dup, 1) := by decide +kernel
theorem d_T_link_111 : decode c_T_link 111 = .ok (.aload 7, 2) := by decide +kernel
theorem d_T_link_113 : decode c_T_link 113 = .ok (.aload 8, 2) := by decide +kernel
theorem d_T_link_115 : decode c_T_link 115 = .ok (.iload 5, 2) := by decide +kernel
theorem d_T_link_117 : decode c_T_link 117 = .ok (.iload 6, 2) := by decide +kernel
theorem d_T_link_119 : decode c_T_link 119 = .ok (.invokespecial 100, 3) := by decide +kernel
theorem d_T_link_122 : decode c_T_link 122 = .ok (.astore 9, 2) := by decide +kernel
theorem d_T_link_124 : decode c_T_link 124 = .ok (.aload 7, 2) := by decide +kernel
theorem d_T_link_126 : decode c_T_link 126 = .ok (.aload 9, 2) := by decide +kernel
theorem d_T_link_128 : decode c_T_link 128 = .ok (.putfield 92, 3) := by decide +kernel
theorem d_T_link_131 : decode c_T_link 131 = .ok (.aload 8, 2) := by decide +kernel
theorem d_T_link_133 : decode c_T_link 133 = .ok (.aload 9, 2) := by decide +kernel
theorem d_T_link_135 : decode c_T_link 135 = .ok (.putfield 92, 3) := by decide +kernel
theorem d_T_link_138 : decode c_T_link 138 = .ok (.aload_n 0, 1) := by decide +kernel
theorem d_T_link_139 : decode c_T_link 139 = .ok (.getfield 11, 3) := by decide +kernel
theorem d_T_link_142 : decode c_T_link 142 = .ok (.iload_n 1, 1) := by decide +kernel
theorem d_T_link_143 : decode c_T_link 143 = .ok (.aaload, 1) := by decide +kernel
theorem d_T_link_144 : decode c_T_link 144 = .ok (.invokevirtual 74, 3) := by decide +kernel
theorem d_T_link_147 : decode c_T_link 147 = .ok (.pop, 1) := by decide +kernel
theorem d_T_link_148 : decode c_T_link 148 = .ok (.aload_n 0, 1) := by decide +kernel
theorem d_T_link_149 : decode c_T_link 149 = .ok (.getfield 11, 3) := by decide +kernel
theorem d_T_link_152 : decode c_T_link 152 = .ok (.iload_n 3, 1) := by decide +kernel
theorem d_T_link_153 : decode c_T_link 153 = .ok (.aaload, 1) := by decide +kernel
theorem d_T_link_154 : decode c_T_link 154 = .ok (.invokevirtual 74, 3) := by decide +kernel
theorem d_T_link_157 : decode c_T_link 157 = .ok (.pop, 1) := by decide +kernel
theorem d_T_link_158 : decode c_T_link 158 = .ok (.aload_n 0, 1) := by decide +kernel
theorem d_T_link_159 : decode c_T_link 159 = .ok (.getfield 17, 3) := by decide +kernel
theorem d_T_link_162 : decode c_T_link 162 = .ok (.aload_n 0, 1) := by decide +kernel
theorem d_T_link_163 : decode c_T_link 163 = .ok (.getfield 32, 3) := by decide +kernel
theorem d_T_link_166 : decode c_T_link 166 = .ok (.aload 9, 2) := by decide +kernel
theorem d_T_link_168 : decode c_T_link 168 = .ok (.aastore, 1) := by decide +kernel
theorem d_T_link_169 : decode c_T_link 169 = .ok (.aload_n 0, 1) := by decide +kernel
theorem d_T_link_170 : decode c_T_link 170 = .ok (.dup, 1) := by decide +kernel
theorem d_T_link_171 : decode c_T_link 171 = .ok (.getfield 32, 3) := by decide +kernel
theorem d_T_link_174 : decode c_T_link 174 = .ok (.iconst 1, 1) := by decide +kernel
theorem d_T_link_175 : decode c_T_link 175 = .ok (.iadd, 1) := by decide +kernel
theorem d_T_link_176 : decode c_T_link 176 = .ok (.putfield 32, 3) := by decide +kernel
theorem d_T_link_179 : decode c_T_link 179 = .ok (.aload_n 0, 1) := by decide +kernel
theorem d_T_link_180 : decode c_T_link 180 = .ok (.getfield 32, 3) := by decide +kernel
theorem d_T_link_183 : decode c_T_link 183 = .ok (.iconst 1, 1) := by decide +kernel
theorem d_T_link_184 : decode c_T_link 184 = .ok (.isub, 1) := by decide +kernel
theorem d_T_link_185 : decode c_T_link 185 = .ok (.ireturn, 1) := by decide +kernel
theorem d_T_portAt_0 : decode c_T_portAt 0 = .ok (.aload_n 0, 1) := by decide +kernel
theorem d_T_portAt_1 : decode c_T_portAt 1 = .ok (.iload_n 1, 1) := by decide +kernel
theorem d_T_portAt_2 : decode c_T_portAt 2 = .ok (.invokevirtual 108, 3) := by decide +kernel
theorem d_T_portAt_5 : decode c_T_portAt 5 = .ok (.astore_n 3, 1) := by decide +kernel
theorem d_T_portAt_6 : decode c_T_portAt 6 = .ok (.iload_n 2, 1) := by decide +kernel
theorem d_T_portAt_7 : decode c_T_portAt 7 = .ok (.ifCond .lt 8, 3) := by decide +kernel
theorem d_T_portAt_10 : decode c_T_portAt 10 = .ok (.iload_n 2, 1) := by decide +kernel
theorem d_T_portAt_11 : decode c_T_portAt 11 = .ok (.iconst 4, 1) := by decide +kernel
theorem d_T_portAt_12 : decode c_T_portAt 12 = .ok (.if_icmp .lt 13, 3) := by decide +kernel
theorem d_T_portAt_15 : decode c_T_portAt 15 = .ok (.new 43, 3) := by decide +kernel
theorem d_T_portAt_18 : decode c_T_portAt 18 = .ok (.dup, 1) := by decide +kernel
theorem d_T_portAt_19 : decode c_T_portAt 19 = .ok (.ldc 175, 2) := by decide +kernel
theorem d_T_portAt_21 : decode c_T_portAt 21 = .ok (.invokespecial 47, 3) := by decide +kernel
theorem d_T_portAt_24 : decode c_T_portAt 24 = .ok (.athrow, 1) := by decide +kernel
theorem d_T_portAt_25 : decode c_T_portAt 25 = .ok (.aload_n 3, 1) := by decide +kernel
theorem d_T_portAt_26 : decode c_T_portAt 26 = .ok (.getfield 177, 3) := by decide +kernel
theorem d_T_portAt_29 : decode c_T_portAt 29 = .ok (.iload_n 2, 1) := by decide +kernel
theorem d_T_portAt_30 : decode c_T_portAt 30 = .ok (.aaload, 1) := by decide +kernel
theorem d_T_portAt_31 : decode c_T_portAt 31 = .ok (.areturn, 1) := by decide +kernel
theorem d_T_nodeAt_0 : decode c_T_nodeAt 0 = .ok (.iload_n 1, 1) := by decide +kernel
theorem d_T_nodeAt_1 : decode c_T_nodeAt 1 = .ok (.ifCond .lt 11, 3) := by decide +kernel
theorem d_T_nodeAt_4 : decode c_T_nodeAt 4 = .ok (.iload_n 1, 1) := by decide +kernel
theorem d_T_nodeAt_5 : decode c_T_nodeAt 5 = .ok (.aload_n 0, 1) := by decide +kernel
theorem d_T_nodeAt_6 : decode c_T_nodeAt 6 = .ok (.getfield 28, 3) := by decide +kernel
theorem d_T_nodeAt_9 : decode c_T_nodeAt 9 = .ok (.if_icmp .lt 13, 3) := by decide +kernel
theorem d_T_nodeAt_12 : decode c_T_nodeAt 12 = .ok (.new 43, 3) := by decide +kernel
theorem d_T_nodeAt_15 : decode c_T_nodeAt 15 = .ok (.dup, 1) := by decide +kernel
theorem d_T_nodeAt_16 : decode c_T_nodeAt 16 = .ok (.ldc 173, 2) := by decide +kernel
theorem d_T_nodeAt_18 : decode c_T_nodeAt 18 = .ok (.invokespecial 47, 3) := by decide +kernel
theorem d_T_nodeAt_21 : decode c_T_nodeAt 21 = .ok (.athrow, 1) := by decide +kernel
theorem d_T_nodeAt_22 : decode c_T_nodeAt 22 = .ok (.aload_n 0, 1) := by decide +kernel
theorem d_T_nodeAt_23 : decode c_T_nodeAt 23 = .ok (.getfield 11, 3) := by decide +kernel
theorem d_T_nodeAt_26 : decode c_T_nodeAt 26 = .ok (.iload_n 1, 1) := by decide +kernel
theorem d_T_nodeAt_27 : decode c_T_nodeAt 27 = .ok (.aaload, 1) := by decide +kernel
theorem d_T_nodeAt_28 : decode c_T_nodeAt 28 = .ok (.areturn, 1) := by decide +kernel
theorem d_T_up_0 : decode c_T_up 0 = .ok (.iload_n 1, 1) := by decide +kernel
theorem d_T_up_1 : decode c_T_up 1 = .ok (.ifCond .lt 11, 3) := by decide +kernel
theorem d_T_up_4 : decode c_T_up 4 = .ok (.iload_n 1, 1) := by decide +kernel
theorem d_T_up_5 : decode c_T_up 5 = .ok (.aload_n 0, 1) := by decide +kernel
theorem d_T_up_6 : decode c_T_up 6 = .ok (.getfield 32, 3) := by decide +kernel
theorem d_T_up_9 : decode c_T_up 9 = .ok (.if_icmp .lt 13, 3) := by decide +kernel
theorem d_T_up_12 : decode c_T_up 12 = .ok (.new 43, 3) := by decide +kernel
theorem d_T_up_15 : decode c_T_up 15 = .ok (.dup, 1) := by decide +kernel
theorem d_T_up_16 : decode c_T_up 16 = .ok (.ldc 103, 2) := by decide +kernel
theorem d_T_up_18 : decode c_T_up 18 = .ok (.invokespecial 47, 3) := by decide +kernel
theorem d_T_up_21 : decode c_T_up 21 = .ok (.athrow, 1) := by decide +kernel
theorem d_T_up_22 : decode c_T_up 22 = .ok (.aload_n 0, 1) := by decide +kernel
theorem d_T_up_23 : decode c_T_up 23 = .ok (.getfield 17, 3) := by decide +kernel
theorem d_T_up_26 : decode c_T_up 26 = .ok (.iload_n 1, 1) := by decide +kernel
theorem d_T_up_27 : decode c_T_up 27 = .ok (.aaload, 1) := by decide +kernel
theorem d_T_up_28 : decode c_T_up 28 = .ok (.iload_n 2, 1) := by decide +kernel
theorem d_T_up_29 : decode c_T_up 29 = .ok (.putfield 105, 3) := by decide +kernel
theorem d_T_up_32 : decode c_T_up 32 = .ok (.return_, 1) := by decide +kernel
theorem d_T_priority_0 : decode c_T_priority 0 = .ok (.aload_n 0, 1) := by decide +kernel
theorem d_T_priority_1 : decode c_T_priority 1 = .ok (.iload_n 1, 1) := by decide +kernel
theorem d_T_priority_2 : decode c_T_priority 2 = .ok (.invokevirtual 108, 3) := by decide +kernel
theorem d_T_priority_5 : decode c_T_priority 5 = .ok (.astore_n 3, 1) := by decide +kernel
theorem d_T_priority_6 : decode c_T_priority 6 = .ok (.iload_n 2, 1) := by decide +kernel
theorem d_T_priority_7 : decode c_T_priority 7 = .ok (.sipush 255, 3) := by decide +kernel
theorem d_T_priority_10 : decode c_T_priority 10 = .ok (.invokestatic 39, 3) := by decide +kernel
theorem d_T_priority_13 : decode c_T_priority 13 = .ok (.ifCond .ne 13, 3) := by decide +kernel
theorem d_T_priority_16 : decode c_T_priority 16 = .ok (.new 43, 3) := by decide +kernel
theorem d_T_priority_19 : decode c_T_priority 19 = .ok (.dup, 1) := by decide +kernel
theorem d_T_priority_20 : decode c_T_priority 20 = .ok (.ldc 112, 2) := by decide +kernel
theorem d_T_priority_22 : decode c_T_priority 22 = .ok (.invokespecial 47, 3) := by decide +kernel
theorem d_T_priority_25 : decode c_T_priority 25 = .ok (.athrow, 1) := by decide +kernel
theorem d_T_priority_26 : decode c_T_priority 26 = .ok (.aload_n 3, 1) := by decide +kernel
theorem d_T_priority_27 : decode c_T_priority 27 = .ok (.getfield 64, 3) := by decide +kernel
theorem d_T_priority_30 : decode c_T_priority 30 = .ok (.iload_n 2, 1) := by decide +kernel
theorem d_T_priority_31 : decode c_T_priority 31 = .ok (.putfield 114, 3) := by decide +kernel
theorem d_T_priority_34 : decode c_T_priority 34 = .ok (.aload_n 3, 1) := by decide +kernel
theorem d_T_priority_35 : decode c_T_priority 35 = .ok (.invokevirtual 74, 3) := by decide +kernel
theorem d_T_priority_38 : decode c_T_priority 38 = .ok (.pop, 1) := by decide +kernel
theorem d_T_priority_39 : decode c_T_priority 39 = .ok (.return_, 1) := by decide +kernel
theorem d_T_round_0 : decode c_T_round 0 = .ok (.iload_n 1, 1) := by decide +kernel
theorem d_T_round_1 : decode c_T_round 1 = .ok (.iconst 1, 1) := by decide +kernel
theorem d_T_round_2 : decode c_T_round 2 = .ok (.if_icmp .lt 9, 3) := by decide +kernel
theorem d_T_round_5 : decode c_T_round 5 = .ok (.iload_n 1, 1) := by decide +kernel
theorem d_T_round_6 : decode c_T_round 6 = .ok (.bipush 50, 2) := by decide +kernel
theorem d_T_round_8 : decode c_T_round 8 = .ok (.if_icmp .le 13, 3) := by decide +kernel
theorem d_T_round_11 : decode c_T_round 11 = .ok (.new 43, 3) := by decide +kernel
theorem d_T_round_14 : decode c_T_round 14 = .ok (.dup, 1) := by decide +kernel
theorem d_T_round_15 : decode c_T_round 15 = .ok (.ldc 117, 2) := by decide +kernel
theorem d_T_round_17 : decode c_T_round 17 = .ok (.invokespecial 47, 3) := by decide +kernel
theorem d_T_round_20 : decode c_T_round 20 = .ok (.athrow, 1) := by decide +kernel
theorem d_T_round_21 : decode c_T_round 21 = .ok (.iconst 0, 1) := by decide +kernel
theorem d_T_round_22 : decode c_T_round 22 = .ok (.istore_n 2, 1) := by decide +kernel
theorem d_T_round_23 : decode c_T_round 23 = .ok (.iconst 0, 1) := by decide +kernel
theorem d_T_round_24 : decode c_T_round 24 = .ok (.istore_n 3, 1) := by decide +kernel
theorem d_T_round_25 : decode c_T_round 25 = .ok (.iload_n 3, 1) := by decide +kernel
theorem d_T_round_26 : decode c_T_round 26 = .ok (.iload_n 1, 1) := by decide +kernel
theorem d_T_round_27 : decode c_T_round 27 = .ok (.if_icmp .ge 16, 3) := by decide +kernel
theorem d_T_round_30 : decode c_T_round 30 = .ok (.iload_n 2, 1) := by decide +kernel
theorem d_T_round_31 : decode c_T_round 31 = .ok (.aload_n 0, 1) := by decide +kernel
theorem d_T_round_32 : decode c_T_round 32 = .ok (.invokevirtual 119, 3) := by decide +kernel
theorem d_T_round_35 : decode c_T_round 35 = .ok (.iadd, 1) := by decide +kernel
theorem d_T_round_36 : decode c_T_round 36 = .ok (.istore_n 2, 1) := by decide +kernel
theorem d_T_round_37 : decode c_T_round 37 = .ok (.iinc 3 1, 3) := by decide +kernel
theorem d_T_round_40 : decode c_T_round 40 = .ok (.goto (-15), 3) := by decide +kernel
theorem d_T_round_43 : decode c_T_round 43 = .ok (.iload_n 2, 1) := by decide +kernel
theorem d_T_round_44 : decode c_T_round 44 = .ok (.ireturn, 1) := by decide +kernel
theorem d_T_state_0 : decode c_T_state 0 = .ok (.aload_n 0, 1) := by decide +kernel
theorem d_T_state_1 : decode c_T_state 1 = .ok (.iload_n 1, 1) := by decide +kernel
theorem d_T_state_2 : decode c_T_state 2 = .ok (.iload_n 2, 1) := by decide +kernel
theorem d_T_state_3 : decode c_T_state 3 = .ok (.invokevirtual 81, 3) := by decide +kernel
theorem d_T_state_6 : decode c_T_state 6 = .ok (.getfield 123, 3) := by decide +kernel
theorem d_T_state_9 : decode c_T_state 9 = .ok (.ireturn, 1) := by decide +kernel
theorem d_T_root_0 : decode c_T_root 0 = .ok (.aload_n 0, 1) := by decide +kernel
theorem d_T_root_1 : decode c_T_root 1 = .ok (.iload_n 1, 1) := by decide +kernel
theorem d_T_root_2 : decode c_T_root 2 = .ok (.invokevirtual 108, 3) := by decide +kernel
theorem d_T_root_5 : decode c_T_root 5 = .ok (.getfield 126, 3) := by decide +kernel
theorem d_T_root_8 : decode c_T_root 8 = .ok (.getfield 129, 3) := by decide +kernel
theorem d_T_root_11 : decode c_T_root 11 = .ok (.ireturn, 1) := by decide +kernel
theorem d_T_steps_0 : decode c_T_steps 0 = .ok (.aload_n 0, 1) := by decide +kernel
theorem d_T_steps_1 : decode c_T_steps 1 = .ok (.iload_n 1, 1) := by decide +kernel
theorem d_T_steps_2 : decode c_T_steps 2 = .ok (.invokevirtual 108, 3) := by decide +kernel
theorem d_T_steps_5 : decode c_T_steps 5 = .ok (.getfield 126, 3) := by decide +kernel
theorem d_T_steps_8 : decode c_T_steps 8 = .ok (.getfield 132, 3) := by decide +kernel
theorem d_T_steps_11 : decode c_T_steps 11 = .ok (.ireturn, 1) := by decide +kernel
theorem d_T_kept_0 : decode c_T_kept 0 = .ok (.aload_n 0, 1) := by decide +kernel
theorem d_T_kept_1 : decode c_T_kept 1 = .ok (.iload_n 1, 1) := by decide +kernel
theorem d_T_kept_2 : decode c_T_kept 2 = .ok (.iload_n 2, 1) := by decide +kernel
theorem d_T_kept_3 : decode c_T_kept 3 = .ok (.invokevirtual 81, 3) := by decide +kernel
theorem d_T_kept_6 : decode c_T_kept 6 = .ok (.astore_n 3, 1) := by decide +kernel
theorem d_T_kept_7 : decode c_T_kept 7 = .ok (.aload_n 3, 1) := by decide +kernel
theorem d_T_kept_8 : decode c_T_kept 8 = .ok (.getfield 135, 3) := by decide +kernel
theorem d_T_kept_11 : decode c_T_kept 11 = .ok (.ifCond .ne 5, 3) := by decide +kernel
theorem d_T_kept_14 : decode c_T_kept 14 = .ok (.iconst (-1), 1) := by decide +kernel
theorem d_T_kept_15 : decode c_T_kept 15 = .ok (.ireturn, 1) := by decide +kernel
theorem d_T_kept_16 : decode c_T_kept 16 = .ok (.sipush 10000, 3) := by decide +kernel
theorem d_T_kept_19 : decode c_T_kept 19 = .ok (.aload_n 3, 1) := by decide +kernel
theorem d_T_kept_20 : decode c_T_kept 20 = .ok (.getfield 138, 3) := by decide +kernel
theorem d_T_kept_23 : decode c_T_kept 23 = .ok (.getfield 132, 3) := by decide +kernel
theorem d_T_kept_26 : decode c_T_kept 26 = .ok (.imul, 1) := by decide +kernel
theorem d_T_kept_27 : decode c_T_kept 27 = .ok (.aload_n 3, 1) := by decide +kernel
theorem d_T_kept_28 : decode c_T_kept 28 = .ok (.getfield 138, 3) := by decide +kernel
theorem d_T_kept_31 : decode c_T_kept 31 = .ok (.getfield 129, 3) := by decide +kernel
theorem d_T_kept_34 : decode c_T_kept 34 = .ok (.iadd, 1) := by decide +kernel
theorem d_T_kept_35 : decode c_T_kept 35 = .ok (.ireturn, 1) := by decide +kernel
theorem d_T_exchange_0 : decode c_T_exchange 0 = .ok (.aload_n 0, 1) := by decide +kernel
theorem d_T_exchange_1 : decode c_T_exchange 1 = .ok (.iload_n 1, 1) := by decide +kernel
theorem d_T_exchange_2 : decode c_T_exchange 2 = .ok (.invokevirtual 108, 3) := by decide +kernel
theorem d_T_exchange_5 : decode c_T_exchange 5 = .ok (.astore 6, 2) := by decide +kernel
theorem d_T_exchange_7 : decode c_T_exchange 7 = .ok (.iload 4, 2) := by decide +kernel
theorem d_T_exchange_9 : decode c_T_exchange 9 = .ok (.ldc 141, 2) := by decide +kernel
theorem d_T_exchange_11 : decode c_T_exchange 11 = .ok (.invokestatic 39, 3) := by decide +kernel
theorem d_T_exchange_14 : decode c_T_exchange 14 = .ok (.ifCond .eq 13, 3) := by decide +kernel
theorem d_T_exchange_17 : decode c_T_exchange 17 = .ok (.iload 5, 2) := by decide +kernel
theorem d_T_exchange_19 : decode c_T_exchange 19 = .ok (.ldc 141, 2) := by decide +kernel
theorem d_T_exchange_21 : decode c_T_exchange 21 = .ok (.invokestatic 39, 3) := by decide +kernel
theorem d_T_exchange_24 : decode c_T_exchange 24 = .ok (.ifCond .ne 13, 3) := by decide +kernel
theorem d_T_exchange_27 : decode c_T_exchange 27 = .ok (.new 43, 3) := by decide +kernel
theorem d_T_exchange_30 : decode c_T_exchange 30 = .ok (.dup, 1) := by decide +kernel
theorem d_T_exchange_31 : decode c_T_exchange 31 = .ok (.ldc 142, 2) := by decide +kernel
theorem d_T_exchange_33 : decode c_T_exchange 33 = .ok (.invokespecial 47, 3) := by decide +kernel
theorem d_T_exchange_36 : decode c_T_exchange 36 = .ok (.athrow, 1) := by decide +kernel
theorem d_T_exchange_37 : decode c_T_exchange 37 = .ok (.aload 6, 2) := by decide +kernel
theorem d_T_exchange_39 : decode c_T_exchange 39 = .ok (.invokestatic 144, 3) := by decide +kernel
theorem d_T_exchange_42 : decode c_T_exchange 42 = .ok (.astore 7, 2) := by decide +kernel
theorem d_T_exchange_44 : decode c_T_exchange 44 = .ok (.aload 7, 2) := by decide +kernel
theorem d_T_exchange_46 : decode c_T_exchange 46 = .ok (.ifnonnull 13, 3) := by decide +kernel
theorem d_T_exchange_49 : decode c_T_exchange 49 = .ok (.new 56, 3) := by decide +kernel
theorem d_T_exchange_52 : decode c_T_exchange 52 = .ok (.dup, 1) := by decide +kernel
theorem d_T_exchange_53 : decode c_T_exchange 53 = .ok (.ldc 148, 2) := by decide +kernel
theorem d_T_exchange_55 : decode c_T_exchange 55 = .ok (.invokespecial 60, 3) := by decide +kernel
theorem d_T_exchange_58 : decode c_T_exchange 58 = .ok (.athrow, 1) := by decide +kernel
theorem d_T_exchange_59 : decode c_T_exchange 59 = .ok (.aload_n 0, 1) := by decide +kernel
theorem d_T_exchange_60 : decode c_T_exchange 60 = .ok (.aload 6, 2) := by decide +kernel
theorem d_T_exchange_62 : decode c_T_exchange 62 = .ok (.aload 7, 2) := by decide +kernel
theorem d_T_exchange_64 : decode c_T_exchange 64 = .ok (.lload_n 2, 1) := by decide +kernel
theorem d_T_exchange_65 : decode c_T_exchange 65 = .ok (.iload 4, 2) := by decide +kernel
theorem d_T_exchange_67 : decode c_T_exchange 67 = .ok (.iload 5, 2) := by decide +kernel
theorem d_T_exchange_69 : decode c_T_exchange 69 = .ok (.invokevirtual 150, 3) := by decide +kernel
theorem d_T_exchange_72 : decode c_T_exchange 72 = .ok (.ifCond .ne 13, 3) := by decide +kernel
theorem d_T_exchange_75 : decode c_T_exchange 75 = .ok (.new 154, 3) := by decide +kernel
theorem d_T_exchange_78 : decode c_T_exchange 78 = .ok (.dup, 1) := by decide +kernel
theorem d_T_exchange_79 : decode c_T_exchange 79 = .ok (.ldc 156, 2) := by decide +kernel
theorem d_T_exchange_81 : decode c_T_exchange 81 = .ok (.invokespecial 158, 3) := by decide +kernel
theorem d_T_exchange_84 : decode c_T_exchange 84 = .ok (.athrow, 1) := by decide +kernel
theorem d_T_exchange_85 : decode c_T_exchange 85 = .ok (.aload_n 0, 1) := by decide +kernel
theorem d_T_exchange_86 : decode c_T_exchange 86 = .ok (.getfield 24, 3) := by decide +kernel
theorem d_T_exchange_89 : decode c_T_exchange 89 = .ok (.getfield 159, 3) := by decide +kernel
theorem d_T_exchange_92 : decode c_T_exchange 92 = .ok (.lreturn, 1) := by decide +kernel
theorem d_T_delay_0 : decode c_T_delay 0 = .ok (.aload_n 0, 1) := by decide +kernel
theorem d_T_delay_1 : decode c_T_delay 1 = .ok (.iload_n 1, 1) := by decide +kernel
theorem d_T_delay_2 : decode c_T_delay 2 = .ok (.invokevirtual 108, 3) := by decide +kernel
theorem d_T_delay_5 : decode c_T_delay 5 = .ok (.getfield 163, 3) := by decide +kernel
theorem d_T_delay_8 : decode c_T_delay 8 = .ok (.lreturn, 1) := by decide +kernel
theorem d_T_offset_0 : decode c_T_offset 0 = .ok (.aload_n 0, 1) := by decide +kernel
theorem d_T_offset_1 : decode c_T_offset 1 = .ok (.iload_n 1, 1) := by decide +kernel
theorem d_T_offset_2 : decode c_T_offset 2 = .ok (.invokevirtual 108, 3) := by decide +kernel
theorem d_T_offset_5 : decode c_T_offset 5 = .ok (.getfield 166, 3) := by decide +kernel
theorem d_T_offset_8 : decode c_T_offset 8 = .ok (.lreturn, 1) := by decide +kernel
