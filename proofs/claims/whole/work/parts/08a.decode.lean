theorem d_R_init_0 : decode c_R_init 0 = .ok (.aload_n 0, 1) := by decide +kernel
theorem d_R_init_1 : decode c_R_init 1 = .ok (.invokespecial 3, 3) := by decide +kernel
theorem d_R_init_4 : decode c_R_init 4 = .ok (.return_, 1) := by decide +kernel
theorem d_P_findSender_0 : decode c_P_findSender 0 = .ok (.aload_n 0, 1) := by decide +kernel
theorem d_P_findSender_1 : decode c_P_findSender 1 = .ok (.getfield 38, 3) := by decide +kernel
theorem d_P_findSender_4 : decode c_P_findSender 4 = .ok (.ifnull 13, 3) := by decide +kernel
theorem d_P_findSender_7 : decode c_P_findSender 7 = .ok (.aload_n 0, 1) := by decide +kernel
theorem d_P_findSender_8 : decode c_P_findSender 8 = .ok (.getfield 38, 3) := by decide +kernel
theorem d_P_findSender_11 : decode c_P_findSender 11 = .ok (.getfield 42, 3) := by decide +kernel
theorem d_P_findSender_14 : decode c_P_findSender 14 = .ok (.ifCond .ne 5, 3) := by decide +kernel
theorem d_P_findSender_17 : decode c_P_findSender 17 = .ok (.aconst_null, 1) := by decide +kernel
theorem d_P_findSender_18 : decode c_P_findSender 18 = .ok (.areturn, 1) := by decide +kernel
theorem d_P_findSender_19 : decode c_P_findSender 19 = .ok (.aload_n 0, 1) := by decide +kernel
theorem d_P_findSender_20 : decode c_P_findSender 20 = .ok (.getfield 38, 3) := by decide +kernel
theorem d_P_findSender_23 : decode c_P_findSender 23 = .ok (.aload_n 0, 1) := by decide +kernel
theorem d_P_findSender_24 : decode c_P_findSender 24 = .ok (.invokevirtual 47, 3) := by decide +kernel
theorem d_P_findSender_27 : decode c_P_findSender 27 = .ok (.astore_n 1, 1) := by decide +kernel
theorem d_P_findSender_28 : decode c_P_findSender 28 = .ok (.aload_n 1, 1) := by decide +kernel
theorem d_P_findSender_29 : decode c_P_findSender 29 = .ok (.getfield 35, 3) := by decide +kernel
theorem d_P_findSender_32 : decode c_P_findSender 32 = .ok (.iconst 1, 1) := by decide +kernel
theorem d_P_findSender_33 : decode c_P_findSender 33 = .ok (.if_icmp .ne 7, 3) := by decide +kernel
theorem d_P_findSender_36 : decode c_P_findSender 36 = .ok (.aload_n 1, 1) := by decide +kernel
theorem d_P_findSender_37 : decode c_P_findSender 37 = .ok (.goto 4, 3) := by decide +kernel
theorem d_P_findSender_40 : decode c_P_findSender 40 = .ok (.aconst_null, 1) := by decide +kernel
theorem d_P_findSender_41 : decode c_P_findSender 41 = .ok (.areturn, 1) := by decide +kernel
theorem d_K_farFrom_0 : decode c_K_farFrom 0 = .ok (.aload_n 1, 1) := by decide +kernel
theorem d_K_farFrom_1 : decode c_K_farFrom 1 = .ok (.aload_n 0, 1) := by decide +kernel
theorem d_K_farFrom_2 : decode c_K_farFrom 2 = .ok (.getfield 7, 3) := by decide +kernel
theorem d_K_farFrom_5 : decode c_K_farFrom 5 = .ok (.if_acmp .ne 10, 3) := by decide +kernel
theorem d_K_farFrom_8 : decode c_K_farFrom 8 = .ok (.aload_n 0, 1) := by decide +kernel
theorem d_K_farFrom_9 : decode c_K_farFrom 9 = .ok (.getfield 13, 3) := by decide +kernel
theorem d_K_farFrom_12 : decode c_K_farFrom 12 = .ok (.goto 7, 3) := by decide +kernel
theorem d_K_farFrom_15 : decode c_K_farFrom 15 = .ok (.aload_n 0, 1) := by decide +kernel
theorem d_K_farFrom_16 : decode c_K_farFrom 16 = .ok (.getfield 7, 3) := by decide +kernel
theorem d_K_farFrom_19 : decode c_K_farFrom 19 = .ok (.areturn, 1) := by decide +kernel
theorem d_P_keep_0 : decode c_P_keep 0 = .ok (.aload_n 0, 1) := by decide +kernel
theorem d_P_keep_1 : decode c_P_keep 1 = .ok (.getfield 28, 3) := by decide +kernel
theorem d_P_keep_4 : decode c_P_keep 4 = .ok (.ifCond .eq 14, 3) := by decide +kernel
theorem d_P_keep_7 : decode c_P_keep 7 = .ok (.aload_n 0, 1) := by decide +kernel
theorem d_P_keep_8 : decode c_P_keep 8 = .ok (.getfield 21, 3) := by decide +kernel
theorem d_P_keep_11 : decode c_P_keep 11 = .ok (.aload_n 1, 1) := by decide +kernel
theorem d_P_keep_12 : decode c_P_keep 12 = .ok (.invokevirtual 51, 3) := by decide +kernel
theorem d_P_keep_15 : decode c_P_keep 15 = .ok (.ifCond .ne 7, 3) := by decide +kernel
theorem d_P_keep_18 : decode c_P_keep 18 = .ok (.iconst 1, 1) := by decide +kernel
theorem d_P_keep_19 : decode c_P_keep 19 = .ok (.goto 4, 3) := by decide +kernel
theorem d_P_keep_22 : decode c_P_keep 22 = .ok (.iconst 0, 1) := by decide +kernel
theorem d_P_keep_23 : decode c_P_keep 23 = .ok (.istore_n 2, 1) := by decide +kernel
theorem d_P_keep_24 : decode c_P_keep 24 = .ok (.aload_n 0, 1) := by decide +kernel
theorem d_P_keep_25 : decode c_P_keep 25 = .ok (.getfield 21, 3) := by decide +kernel
theorem d_P_keep_28 : decode c_P_keep 28 = .ok (.aload_n 1, 1) := by decide +kernel
theorem d_P_keep_29 : decode c_P_keep 29 = .ok (.invokevirtual 55, 3) := by decide +kernel
theorem d_P_keep_32 : decode c_P_keep 32 = .ok (.aload_n 0, 1) := by decide +kernel
theorem d_P_keep_33 : decode c_P_keep 33 = .ok (.getfield 21, 3) := by decide +kernel
theorem d_P_keep_36 : decode c_P_keep 36 = .ok (.aload_n 1, 1) := by decide +kernel
theorem d_P_keep_37 : decode c_P_keep 37 = .ok (.getfield 59, 3) := by decide +kernel
theorem d_P_keep_40 : decode c_P_keep 40 = .ok (.putfield 59, 3) := by decide +kernel
theorem d_P_keep_43 : decode c_P_keep 43 = .ok (.aload_n 0, 1) := by decide +kernel
theorem d_P_keep_44 : decode c_P_keep 44 = .ok (.getfield 21, 3) := by decide +kernel
theorem d_P_keep_47 : decode c_P_keep 47 = .ok (.aload_n 1, 1) := by decide +kernel
theorem d_P_keep_48 : decode c_P_keep 48 = .ok (.getfield 62, 3) := by decide +kernel
theorem d_P_keep_51 : decode c_P_keep 51 = .ok (.putfield 62, 3) := by decide +kernel
theorem d_P_keep_54 : decode c_P_keep 54 = .ok (.aload_n 0, 1) := by decide +kernel
theorem d_P_keep_55 : decode c_P_keep 55 = .ok (.getfield 21, 3) := by decide +kernel
theorem d_P_keep_58 : decode c_P_keep 58 = .ok (.aload_n 1, 1) := by decide +kernel
theorem d_P_keep_59 : decode c_P_keep 59 = .ok (.getfield 65, 3) := by decide +kernel
theorem d_P_keep_62 : decode c_P_keep 62 = .ok (.putfield 65, 3) := by decide +kernel
theorem d_P_keep_65 : decode c_P_keep 65 = .ok (.aload_n 0, 1) := by decide +kernel
theorem d_P_keep_66 : decode c_P_keep 66 = .ok (.getfield 21, 3) := by decide +kernel
theorem d_P_keep_69 : decode c_P_keep 69 = .ok (.aload_n 0, 1) := by decide +kernel
theorem d_P_keep_70 : decode c_P_keep 70 = .ok (.getfield 15, 3) := by decide +kernel
theorem d_P_keep_73 : decode c_P_keep 73 = .ok (.putfield 68, 3) := by decide +kernel
theorem d_P_keep_76 : decode c_P_keep 76 = .ok (.aload_n 0, 1) := by decide +kernel
theorem d_P_keep_77 : decode c_P_keep 77 = .ok (.iconst 1, 1) := by decide +kernel
theorem d_P_keep_78 : decode c_P_keep 78 = .ok (.putfield 28, 3) := by decide +kernel
theorem d_P_keep_81 : decode c_P_keep 81 = .ok (.aload_n 0, 1) := by decide +kernel
theorem d_P_keep_82 : decode c_P_keep 82 = .ok (.iconst 0, 1) := by decide +kernel
theorem d_P_keep_83 : decode c_P_keep 83 = .ok (.putfield 32, 3) := by decide +kernel
theorem d_P_keep_86 : decode c_P_keep 86 = .ok (.iload_n 2, 1) := by decide +kernel
theorem d_P_keep_87 : decode c_P_keep 87 = .ok (.ireturn, 1) := by decide +kernel
theorem d_D_tellsSameAs_0 : decode c_D_tellsSameAs 0 = .ok (.aload_n 0, 1) := by decide +kernel
theorem d_D_tellsSameAs_1 : decode c_D_tellsSameAs 1 = .ok (.getfield 9, 3) := by decide +kernel
theorem d_D_tellsSameAs_4 : decode c_D_tellsSameAs 4 = .ok (.aload_n 1, 1) := by decide +kernel
theorem d_D_tellsSameAs_5 : decode c_D_tellsSameAs 5 = .ok (.getfield 9, 3) := by decide +kernel
theorem d_D_tellsSameAs_8 : decode c_D_tellsSameAs 8 = .ok (.if_icmp .ne 73, 3) := by decide +kernel
theorem d_D_tellsSameAs_11 : decode c_D_tellsSameAs 11 = .ok (.aload_n 0, 1) := by decide +kernel
theorem d_D_tellsSameAs_12 : decode c_D_tellsSameAs 12 = .ok (.getfield 15, 3) := by decide +kernel
theorem d_D_tellsSameAs_15 : decode c_D_tellsSameAs 15 = .ok (.aload_n 1, 1) := by decide +kernel
theorem d_D_tellsSameAs_16 : decode c_D_tellsSameAs 16 = .ok (.getfield 15, 3) := by decide +kernel
theorem d_D_tellsSameAs_19 : decode c_D_tellsSameAs 19 = .ok (.if_icmp .ne 62, 3) := by decide +kernel
theorem d_D_tellsSameAs_22 : decode c_D_tellsSameAs 22 = .ok (.aload_n 0, 1) := by decide +kernel
theorem d_D_tellsSameAs_23 : decode c_D_tellsSameAs 23 = .ok (.getfield 18, 3) := by decide +kernel
theorem d_D_tellsSameAs_26 : decode c_D_tellsSameAs 26 = .ok (.aload_n 1, 1) := by decide +kernel
theorem d_D_tellsSameAs_27 : decode c_D_tellsSameAs 27 = .ok (.getfield 18, 3) := by decide +kernel
theorem d_D_tellsSameAs_30 : decode c_D_tellsSameAs 30 = .ok (.if_icmp .ne 51, 3) := by decide +kernel
theorem d_D_tellsSameAs_33 : decode c_D_tellsSameAs 33 = .ok (.aload_n 0, 1) := by decide +kernel
theorem d_D_tellsSameAs_34 : decode c_D_tellsSameAs 34 = .ok (.getfield 21, 3) := by decide +kernel
theorem d_D_tellsSameAs_37 : decode c_D_tellsSameAs 37 = .ok (.aload_n 1, 1) := by decide +kernel
theorem d_D_tellsSameAs_38 : decode c_D_tellsSameAs 38 = .ok (.getfield 21, 3) := by decide +kernel
theorem d_D_tellsSameAs_41 : decode c_D_tellsSameAs 41 = .ok (.if_icmp .ne 40, 3) := by decide +kernel
theorem d_D_tellsSameAs_44 : decode c_D_tellsSameAs 44 = .ok (.aload_n 0, 1) := by decide +kernel
theorem d_D_tellsSameAs_45 : decode c_D_tellsSameAs 45 = .ok (.getfield 24, 3) := by decide +kernel
theorem d_D_tellsSameAs_48 : decode c_D_tellsSameAs 48 = .ok (.aload_n 1, 1) := by decide +kernel
theorem d_D_tellsSameAs_49 : decode c_D_tellsSameAs 49 = .ok (.getfield 24, 3) := by decide +kernel
theorem d_D_tellsSameAs_52 : decode c_D_tellsSameAs 52 = .ok (.if_icmp .ne 29, 3) := by decide +kernel
theorem d_D_tellsSameAs_55 : decode c_D_tellsSameAs 55 = .ok (.aload_n 0, 1) := by decide +kernel
theorem d_D_tellsSameAs_56 : decode c_D_tellsSameAs 56 = .ok (.getfield 27, 3) := by decide +kernel
theorem d_D_tellsSameAs_59 : decode c_D_tellsSameAs 59 = .ok (.aload_n 1, 1) := by decide +kernel
theorem d_D_tellsSameAs_60 : decode c_D_tellsSameAs 60 = .ok (.getfield 27, 3) := by decide +kernel
theorem d_D_tellsSameAs_63 : decode c_D_tellsSameAs 63 = .ok (.if_icmp .ne 18, 3) := by decide +kernel
theorem d_D_tellsSameAs_66 : decode c_D_tellsSameAs 66 = .ok (.aload_n 0, 1) := by decide +kernel
theorem d_D_tellsSameAs_67 : decode c_D_tellsSameAs 67 = .ok (.getfield 30, 3) := by decide +kernel
theorem d_D_tellsSameAs_70 : decode c_D_tellsSameAs 70 = .ok (.aload_n 1, 1) := by decide +kernel
theorem d_D_tellsSameAs_71 : decode c_D_tellsSameAs 71 = .ok (.getfield 30, 3) := by decide +kernel
theorem d_D_tellsSameAs_74 : decode c_D_tellsSameAs 74 = .ok (.if_icmp .ne 7, 3) := by decide +kernel
theorem d_D_tellsSameAs_77 : decode c_D_tellsSameAs 77 = .ok (.iconst 1, 1) := by decide +kernel
theorem d_D_tellsSameAs_78 : decode c_D_tellsSameAs 78 = .ok (.goto 4, 3) := by decide +kernel
theorem d_D_tellsSameAs_81 : decode c_D_tellsSameAs 81 = .ok (.iconst 0, 1) := by decide +kernel
theorem d_D_tellsSameAs_82 : decode c_D_tellsSameAs 82 = .ok (.ireturn, 1) := by decide +kernel
theorem d_D_setRootOf_0 : decode c_D_setRootOf 0 = .ok (.aload_n 0, 1) := by decide +kernel
theorem d_D_setRootOf_1 : decode c_D_setRootOf 1 = .ok (.aload_n 1, 1) := by decide +kernel
theorem d_D_setRootOf_2 : decode c_D_setRootOf 2 = .ok (.getfield 9, 3) := by decide +kernel
theorem d_D_setRootOf_5 : decode c_D_setRootOf 5 = .ok (.putfield 9, 3) := by decide +kernel
theorem d_D_setRootOf_8 : decode c_D_setRootOf 8 = .ok (.aload_n 0, 1) := by decide +kernel
theorem d_D_setRootOf_9 : decode c_D_setRootOf 9 = .ok (.aload_n 1, 1) := by decide +kernel
theorem d_D_setRootOf_10 : decode c_D_setRootOf 10 = .ok (.getfield 15, 3) := by decide +kernel
theorem d_D_setRootOf_13 : decode c_D_setRootOf 13 = .ok (.putfield 15, 3) := by decide +kernel
theorem d_D_setRootOf_16 : decode c_D_setRootOf 16 = .ok (.aload_n 0, 1) := by decide +kernel
theorem d_D_setRootOf_17 : decode c_D_setRootOf 17 = .ok (.aload_n 1, 1) := by decide +kernel
theorem d_D_setRootOf_18 : decode c_D_setRootOf 18 = .ok (.getfield 18, 3) := by decide +kernel
theorem d_D_setRootOf_21 : decode c_D_setRootOf 21 = .ok (.putfield 18, 3) := by decide +kernel
theorem d_D_setRootOf_24 : decode c_D_setRootOf 24 = .ok (.aload_n 0, 1) := by decide +kernel
theorem d_D_setRootOf_25 : decode c_D_setRootOf 25 = .ok (.aload_n 1, 1) := by decide +kernel
theorem d_D_setRootOf_26 : decode c_D_setRootOf 26 = .ok (.getfield 21, 3) := by decide +kernel
theorem d_D_setRootOf_29 : decode c_D_setRootOf 29 = .ok (.putfield 21, 3) := by decide +kernel
theorem d_D_setRootOf_32 : decode c_D_setRootOf 32 = .ok (.return_, 1) := by decide +kernel
theorem d_P_growOlder_0 : decode c_P_growOlder 0 = .ok (.aload_n 0, 1) := by decide +kernel
theorem d_P_growOlder_1 : decode c_P_growOlder 1 = .ok (.getfield 28, 3) := by decide +kernel
theorem d_P_growOlder_4 : decode c_P_growOlder 4 = .ok (.ifCond .ne 5, 3) := by decide +kernel
theorem d_P_growOlder_7 : decode c_P_growOlder 7 = .ok (.iconst 0, 1) := by decide +kernel
theorem d_P_growOlder_8 : decode c_P_growOlder 8 = .ok (.ireturn, 1) := by decide +kernel
theorem d_P_growOlder_9 : decode c_P_growOlder 9 = .ok (.aload_n 0, 1) := by decide +kernel
theorem d_P_growOlder_10 : decode c_P_growOlder 10 = .ok (.dup, 1) := by decide +kernel
theorem d_P_growOlder_11 : decode c_P_growOlder 11 = .ok (.getfield 32, 3) := by decide +kernel
theorem d_P_growOlder_14 : decode c_P_growOlder 14 = .ok (.iconst 1, 1) := by decide +kernel
theorem d_P_growOlder_15 : decode c_P_growOlder 15 = .ok (.iadd, 1) := by decide +kernel
theorem d_P_growOlder_16 : decode c_P_growOlder 16 = .ok (.putfield 32, 3) := by decide +kernel
theorem d_P_growOlder_19 : decode c_P_growOlder 19 = .ok (.aload_n 0, 1) := by decide +kernel
theorem d_P_growOlder_20 : decode c_P_growOlder 20 = .ok (.getfield 32, 3) := by decide +kernel
theorem d_P_growOlder_23 : decode c_P_growOlder 23 = .ok (.iconst 3, 1) := by decide +kernel
theorem d_P_growOlder_24 : decode c_P_growOlder 24 = .ok (.if_icmp .ge 5, 3) := by decide +kernel
theorem d_P_growOlder_27 : decode c_P_growOlder 27 = .ok (.iconst 0, 1) := by decide +kernel
theorem d_P_growOlder_28 : decode c_P_growOlder 28 = .ok (.ireturn, 1) := by decide +kernel
theorem d_P_growOlder_29 : decode c_P_growOlder 29 = .ok (.aload_n 0, 1) := by decide +kernel
theorem d_P_growOlder_30 : decode c_P_growOlder 30 = .ok (.iconst 0, 1) := by decide +kernel
theorem d_P_growOlder_31 : decode c_P_growOlder 31 = .ok (.putfield 28, 3) := by decide +kernel
theorem d_P_growOlder_34 : decode c_P_growOlder 34 = .ok (.iconst 1, 1) := by decide +kernel
theorem d_P_growOlder_35 : decode c_P_growOlder 35 = .ok (.ireturn, 1) := by decide +kernel
theorem d_D_betterThan_0 : decode c_D_betterThan 0 = .ok (.aload_n 0, 1) := by decide +kernel
theorem d_D_betterThan_1 : decode c_D_betterThan 1 = .ok (.getfield 9, 3) := by decide +kernel
theorem d_D_betterThan_4 : decode c_D_betterThan 4 = .ok (.aload_n 1, 1) := by decide +kernel
theorem d_D_betterThan_5 : decode c_D_betterThan 5 = .ok (.getfield 9, 3) := by decide +kernel
theorem d_D_betterThan_8 : decode c_D_betterThan 8 = .ok (.if_icmp .eq 20, 3) := by decide +kernel
theorem d_D_betterThan_11 : decode c_D_betterThan 11 = .ok (.aload_n 0, 1) := by decide +kernel
theorem d_D_betterThan_12 : decode c_D_betterThan 12 = .ok (.getfield 9, 3) := by decide +kernel
theorem d_D_betterThan_15 : decode c_D_betterThan 15 = .ok (.aload_n 1, 1) := by decide +kernel
theorem d_D_betterThan_16 : decode c_D_betterThan 16 = .ok (.getfield 9, 3) := by decide +kernel
theorem d_D_betterThan_19 : decode c_D_betterThan 19 = .ok (.if_icmp .ge 7, 3) := by decide +kernel
theorem d_D_betterThan_22 : decode c_D_betterThan 22 = .ok (.iconst 1, 1) := by decide +kernel
theorem d_D_betterThan_23 : decode c_D_betterThan 23 = .ok (.goto 4, 3) := by decide +kernel
theorem d_D_betterThan_26 : decode c_D_betterThan 26 = .ok (.iconst 0, 1) := by decide +kernel
theorem d_D_betterThan_27 : decode c_D_betterThan 27 = .ok (.ireturn, 1) := by decide +kernel
theorem d_D_betterThan_28 : decode c_D_betterThan 28 = .ok (.aload_n 0, 1) := by decide +kernel
theorem d_D_betterThan_29 : decode c_D_betterThan 29 = .ok (.getfield 15, 3) := by decide +kernel
theorem d_D_betterThan_32 : decode c_D_betterThan 32 = .ok (.aload_n 1, 1) := by decide +kernel
theorem d_D_betterThan_33 : decode c_D_betterThan 33 = .ok (.getfield 15, 3) := by decide +kernel
theorem d_D_betterThan_36 : decode c_D_betterThan 36 = .ok (.if_icmp .eq 20, 3) := by decide +kernel
theorem d_D_betterThan_39 : decode c_D_betterThan 39 = .ok (.aload_n 0, 1) := by decide +kernel
theorem d_D_betterThan_40 : decode c_D_betterThan 40 = .ok (.getfield 15, 3) := by decide +kernel
theorem d_D_betterThan_43 : decode c_D_betterThan 43 = .ok (.aload_n 1, 1) := by decide +kernel
theorem d_D_betterThan_44 : decode c_D_betterThan 44 = .ok (.getfield 15, 3) := by decide +kernel
theorem d_D_betterThan_47 : decode c_D_betterThan 47 = .ok (.if_icmp .ge 7, 3) := by decide +kernel
theorem d_D_betterThan_50 : decode c_D_betterThan 50 = .ok (.iconst 1, 1) := by decide +kernel
theorem d_D_betterThan_51 : decode c_D_betterThan 51 = .ok (.goto 4, 3) := by decide +kernel
theorem d_D_betterThan_54 : decode c_D_betterThan 54 = .ok (.iconst 0, 1) := by decide +kernel
theorem d_D_betterThan_55 : decode c_D_betterThan 55 = .ok (.ireturn, 1) := by decide +kernel
theorem d_D_betterThan_56 : decode c_D_betterThan 56 = .ok (.aload_n 0, 1) := by decide +kernel
theorem d_D_betterThan_57 : decode c_D_betterThan 57 = .ok (.getfield 18, 3) := by decide +kernel
theorem d_D_betterThan_60 : decode c_D_betterThan 60 = .ok (.aload_n 1, 1) := by decide +kernel
theorem d_D_betterThan_61 : decode c_D_betterThan 61 = .ok (.getfield 18, 3) := by decide +kernel
theorem d_D_betterThan_64 : decode c_D_betterThan 64 = .ok (.if_icmp .eq 20, 3) := by decide +kernel
theorem d_D_betterThan_67 : decode c_D_betterThan 67 = .ok (.aload_n 0, 1) := by decide +kernel
theorem d_D_betterThan_68 : decode c_D_betterThan 68 = .ok (.getfield 18, 3) := by decide +kernel
theorem d_D_betterThan_71 : decode c_D_betterThan 71 = .ok (.aload_n 1, 1) := by decide +kernel
theorem d_D_betterThan_72 : decode c_D_betterThan 72 = .ok (.getfield 18, 3) := by decide +kernel
theorem d_D_betterThan_75 : decode c_D_betterThan 75 = .ok (.if_icmp .ge 7, 3) := by decide +kernel
theorem d_D_betterThan_78 : decode c_D_betterThan 78 = .ok (.iconst 1, 1) := by decide +kernel
theorem d_D_betterThan_79 : decode c_D_betterThan 79 = .ok (.goto 4, 3) := by decide +kernel
theorem d_D_betterThan_82 : decode c_D_betterThan 82 = .ok (.iconst 0, 1) := by decide +kernel
theorem d_D_betterThan_83 : decode c_D_betterThan 83 = .ok (.ireturn, 1) := by decide +kernel
theorem d_D_betterThan_84 : decode c_D_betterThan 84 = .ok (.aload_n 0, 1) := by decide +kernel
theorem d_D_betterThan_85 : decode c_D_betterThan 85 = .ok (.getfield 21, 3) := by decide +kernel
theorem d_D_betterThan_88 : decode c_D_betterThan 88 = .ok (.aload_n 1, 1) := by decide +kernel
theorem d_D_betterThan_89 : decode c_D_betterThan 89 = .ok (.getfield 21, 3) := by decide +kernel
theorem d_D_betterThan_92 : decode c_D_betterThan 92 = .ok (.if_icmp .eq 20, 3) := by decide +kernel
theorem d_D_betterThan_95 : decode c_D_betterThan 95 = .ok (.aload_n 0, 1) := by decide +kernel
theorem d_D_betterThan_96 : decode c_D_betterThan 96 = .ok (.getfield 21, 3) := by decide +kernel
theorem d_D_betterThan_99 : decode c_D_betterThan 99 = .ok (.aload_n 1, 1) := by decide +kernel
theorem d_D_betterThan_100 : decode c_D_betterThan 100 = .ok (.getfield 21, 3) := by decide +kernel
theorem d_D_betterThan_103 : decode c_D_betterThan 103 = .ok (.if_icmp .ge 7, 3) := by decide +kernel
theorem d_D_betterThan_106 : decode c_D_betterThan 106 = .ok (.iconst 1, 1) := by decide +kernel
theorem d_D_betterThan_107 : decode c_D_betterThan 107 = .ok (.goto 4, 3) := by decide +kernel
theorem d_D_betterThan_110 : decode c_D_betterThan 110 = .ok (.iconst 0, 1) := by decide +kernel
theorem d_D_betterThan_111 : decode c_D_betterThan 111 = .ok (.ireturn, 1) := by decide +kernel
theorem d_D_betterThan_112 : decode c_D_betterThan 112 = .ok (.aload_n 0, 1) := by decide +kernel
theorem d_D_betterThan_113 : decode c_D_betterThan 113 = .ok (.getfield 24, 3) := by decide +kernel
theorem d_D_betterThan_116 : decode c_D_betterThan 116 = .ok (.aload_n 1, 1) := by decide +kernel
theorem d_D_betterThan_117 : decode c_D_betterThan 117 = .ok (.getfield 24, 3) := by decide +kernel
theorem d_D_betterThan_120 : decode c_D_betterThan 120 = .ok (.if_icmp .eq 20, 3) := by decide +kernel
theorem d_D_betterThan_123 : decode c_D_betterThan 123 = .ok (.aload_n 0, 1) := by decide +kernel
theorem d_D_betterThan_124 : decode c_D_betterThan 124 = .ok (.getfield 24, 3) := by decide +kernel
theorem d_D_betterThan_127 : decode c_D_betterThan 127 = .ok (.aload_n 1, 1) := by decide +kernel
theorem d_D_betterThan_128 : decode c_D_betterThan 128 = .ok (.getfield 24, 3) := by decide +kernel
theorem d_D_betterThan_131 : decode c_D_betterThan 131 = .ok (.if_icmp .ge 7, 3) := by decide +kernel
theorem d_D_betterThan_134 : decode c_D_betterThan 134 = .ok (.iconst 1, 1) := by decide +kernel
theorem d_D_betterThan_135 : decode c_D_betterThan 135 = .ok (.goto 4, 3) := by decide +kernel
theorem d_D_betterThan_138 : decode c_D_betterThan 138 = .ok (.iconst 0, 1) := by decide +kernel
theorem d_D_betterThan_139 : decode c_D_betterThan 139 = .ok (.ireturn, 1) := by decide +kernel
theorem d_D_betterThan_140 : decode c_D_betterThan 140 = .ok (.aload_n 0, 1) := by decide +kernel
theorem d_D_betterThan_141 : decode c_D_betterThan 141 = .ok (.getfield 27, 3) := by decide +kernel
theorem d_D_betterThan_144 : decode c_D_betterThan 144 = .ok (.aload_n 1, 1) := by decide +kernel
theorem d_D_betterThan_145 : decode c_D_betterThan 145 = .ok (.getfield 27, 3) := by decide +kernel
theorem d_D_betterThan_148 : decode c_D_betterThan 148 = .ok (.if_icmp .eq 20, 3) := by decide +kernel
theorem d_D_betterThan_151 : decode c_D_betterThan 151 = .ok (.aload_n 0, 1) := by decide +kernel
theorem d_D_betterThan_152 : decode c_D_betterThan 152 = .ok (.getfield 27, 3) := by decide +kernel
theorem d_D_betterThan_155 : decode c_D_betterThan 155 = .ok (.aload_n 1, 1) := by decide +kernel
theorem d_D_betterThan_156 : decode c_D_betterThan 156 = .ok (.getfield 27, 3) := by decide +kernel
theorem d_D_betterThan_159 : decode c_D_betterThan 159 = .ok (.if_icmp .ge 7, 3) := by decide +kernel
theorem d_D_betterThan_162 : decode c_D_betterThan 162 = .ok (.iconst 1, 1) := by decide +kernel
theorem d_D_betterThan_163 : decode c_D_betterThan 163 = .ok (.goto 4, 3) := by decide +kernel
theorem d_D_betterThan_166 : decode c_D_betterThan 166 = .ok (.iconst 0, 1) := by decide +kernel
theorem d_D_betterThan_167 : decode c_D_betterThan 167 = .ok (.ireturn, 1) := by decide +kernel
theorem d_D_betterThan_168 : decode c_D_betterThan 168 = .ok (.aload_n 0, 1) := by decide +kernel
theorem d_D_betterThan_169 : decode c_D_betterThan 169 = .ok (.getfield 30, 3) := by decide +kernel
theorem d_D_betterThan_172 : decode c_D_betterThan 172 = .ok (.aload_n 1, 1) := by decide +kernel
theorem d_D_betterThan_173 : decode c_D_betterThan 173 = .ok (.getfield 30, 3) := by decide +kernel
theorem d_D_betterThan_176 : decode c_D_betterThan 176 = .ok (.if_icmp .eq 20, 3) := by decide +kernel
theorem d_D_betterThan_179 : decode c_D_betterThan 179 = .ok (.aload_n 0, 1) := by decide +kernel
theorem d_D_betterThan_180 : decode c_D_betterThan 180 = .ok (.getfield 30, 3) := by decide +kernel
theorem d_D_betterThan_183 : decode c_D_betterThan 183 = .ok (.aload_n 1, 1) := by decide +kernel
theorem d_D_betterThan_184 : decode c_D_betterThan 184 = .ok (.getfield 30, 3) := by decide +kernel
theorem d_D_betterThan_187 : decode c_D_betterThan 187 = .ok (.if_icmp .ge 7, 3) := by decide +kernel
theorem d_D_betterThan_190 : decode c_D_betterThan 190 = .ok (.iconst 1, 1) := by decide +kernel
theorem d_D_betterThan_191 : decode c_D_betterThan 191 = .ok (.goto 4, 3) := by decide +kernel
theorem d_D_betterThan_194 : decode c_D_betterThan 194 = .ok (.iconst 0, 1) := by decide +kernel
theorem d_D_betterThan_195 : decode c_D_betterThan 195 = .ok (.ireturn, 1) := by decide +kernel
theorem d_D_betterThan_196 : decode c_D_betterThan 196 = .ok (.aload_n 0, 1) := by decide +kernel
theorem d_D_betterThan_197 : decode c_D_betterThan 197 = .ok (.getfield 33, 3) := by decide +kernel
theorem d_D_betterThan_200 : decode c_D_betterThan 200 = .ok (.aload_n 1, 1) := by decide +kernel
theorem d_D_betterThan_201 : decode c_D_betterThan 201 = .ok (.getfield 33, 3) := by decide +kernel
theorem d_D_betterThan_204 : decode c_D_betterThan 204 = .ok (.if_icmp .ge 7, 3) := by decide +kernel
theorem d_D_betterThan_207 : decode c_D_betterThan 207 = .ok (.iconst 1, 1) := by decide +kernel
theorem d_D_betterThan_208 : decode c_D_betterThan 208 = .ok (.goto 4, 3) := by decide +kernel
theorem d_D_betterThan_211 : decode c_D_betterThan 211 = .ok (.iconst 0, 1) := by decide +kernel
theorem d_D_betterThan_212 : decode c_D_betterThan 212 = .ok (.ireturn, 1) := by decide +kernel
theorem d_P_tell_0 : decode c_P_tell 0 = .ok (.aload_n 0, 1) := by decide +kernel
theorem d_P_tell_1 : decode c_P_tell 1 = .ok (.getfield 25, 3) := by decide +kernel
theorem d_P_tell_4 : decode c_P_tell 4 = .ok (.aload_n 1, 1) := by decide +kernel
theorem d_P_tell_5 : decode c_P_tell 5 = .ok (.invokevirtual 55, 3) := by decide +kernel
theorem d_P_tell_8 : decode c_P_tell 8 = .ok (.aload_n 0, 1) := by decide +kernel
theorem d_P_tell_9 : decode c_P_tell 9 = .ok (.getfield 25, 3) := by decide +kernel
theorem d_P_tell_12 : decode c_P_tell 12 = .ok (.aload_n 1, 1) := by decide +kernel
theorem d_P_tell_13 : decode c_P_tell 13 = .ok (.aload_n 2, 1) := by decide +kernel
theorem d_P_tell_14 : decode c_P_tell 14 = .ok (.if_acmp .ne 7, 3) := by decide +kernel
theorem d_P_tell_17 : decode c_P_tell 17 = .ok (.iconst 0, 1) := by decide +kernel
theorem d_P_tell_18 : decode c_P_tell 18 = .ok (.goto 9, 3) := by decide +kernel
theorem d_P_tell_21 : decode c_P_tell 21 = .ok (.aload_n 1, 1) := by decide +kernel
theorem d_P_tell_22 : decode c_P_tell 22 = .ok (.getfield 59, 3) := by decide +kernel
theorem d_P_tell_25 : decode c_P_tell 25 = .ok (.iconst 1, 1) := by decide +kernel
theorem d_P_tell_26 : decode c_P_tell 26 = .ok (.iadd, 1) := by decide +kernel
theorem d_P_tell_27 : decode c_P_tell 27 = .ok (.putfield 59, 3) := by decide +kernel
theorem d_P_tell_30 : decode c_P_tell 30 = .ok (.aload_n 0, 1) := by decide +kernel
theorem d_P_tell_31 : decode c_P_tell 31 = .ok (.getfield 25, 3) := by decide +kernel
theorem d_P_tell_34 : decode c_P_tell 34 = .ok (.aload_n 2, 1) := by decide +kernel
theorem d_P_tell_35 : decode c_P_tell 35 = .ok (.getfield 71, 3) := by decide +kernel
theorem d_P_tell_38 : decode c_P_tell 38 = .ok (.putfield 62, 3) := by decide +kernel
theorem d_P_tell_41 : decode c_P_tell 41 = .ok (.aload_n 0, 1) := by decide +kernel
theorem d_P_tell_42 : decode c_P_tell 42 = .ok (.getfield 25, 3) := by decide +kernel
theorem d_P_tell_45 : decode c_P_tell 45 = .ok (.aload_n 0, 1) := by decide +kernel
theorem d_P_tell_46 : decode c_P_tell 46 = .ok (.getfield 15, 3) := by decide +kernel
theorem d_P_tell_49 : decode c_P_tell 49 = .ok (.putfield 65, 3) := by decide +kernel
theorem d_P_tell_52 : decode c_P_tell 52 = .ok (.aload_n 0, 1) := by decide +kernel
theorem d_P_tell_53 : decode c_P_tell 53 = .ok (.getfield 25, 3) := by decide +kernel
theorem d_P_tell_56 : decode c_P_tell 56 = .ok (.aload_n 0, 1) := by decide +kernel
theorem d_P_tell_57 : decode c_P_tell 57 = .ok (.getfield 15, 3) := by decide +kernel
theorem d_P_tell_60 : decode c_P_tell 60 = .ok (.putfield 68, 3) := by decide +kernel
theorem d_P_tell_63 : decode c_P_tell 63 = .ok (.return_, 1) := by decide +kernel
theorem d_P_findState_0 : decode c_P_findState 0 = .ok (.aload_n 0, 1) := by decide +kernel
theorem d_P_findState_1 : decode c_P_findState 1 = .ok (.getfield 38, 3) := by decide +kernel
theorem d_P_findState_4 : decode c_P_findState 4 = .ok (.ifnonnull 5, 3) := by decide +kernel
theorem d_P_findState_7 : decode c_P_findState 7 = .ok (.iconst 0, 1) := by decide +kernel
theorem d_P_findState_8 : decode c_P_findState 8 = .ok (.ireturn, 1) := by decide +kernel
theorem d_P_findState_9 : decode c_P_findState 9 = .ok (.aload_n 1, 1) := by decide +kernel
theorem d_P_findState_10 : decode c_P_findState 10 = .ok (.aload_n 0, 1) := by decide +kernel
theorem d_P_findState_11 : decode c_P_findState 11 = .ok (.getfield 21, 3) := by decide +kernel
theorem d_P_findState_14 : decode c_P_findState 14 = .ok (.if_acmp .ne 5, 3) := by decide +kernel
theorem d_P_findState_17 : decode c_P_findState 17 = .ok (.iconst 2, 1) := by decide +kernel
theorem d_P_findState_18 : decode c_P_findState 18 = .ok (.ireturn, 1) := by decide +kernel
theorem d_P_findState_19 : decode c_P_findState 19 = .ok (.aload_n 0, 1) := by decide +kernel
theorem d_P_findState_20 : decode c_P_findState 20 = .ok (.getfield 28, 3) := by decide +kernel
theorem d_P_findState_23 : decode c_P_findState 23 = .ok (.ifCond .eq 21, 3) := by decide +kernel
theorem d_P_findState_26 : decode c_P_findState 26 = .ok (.aload_n 0, 1) := by decide +kernel
theorem d_P_findState_27 : decode c_P_findState 27 = .ok (.getfield 21, 3) := by decide +kernel
theorem d_P_findState_30 : decode c_P_findState 30 = .ok (.aload_n 0, 1) := by decide +kernel
theorem d_P_findState_31 : decode c_P_findState 31 = .ok (.getfield 25, 3) := by decide +kernel
theorem d_P_findState_34 : decode c_P_findState 34 = .ok (.invokevirtual 74, 3) := by decide +kernel
theorem d_P_findState_37 : decode c_P_findState 37 = .ok (.ifCond .eq 7, 3) := by decide +kernel
theorem d_P_findState_40 : decode c_P_findState 40 = .ok (.iconst 3, 1) := by decide +kernel
theorem d_P_findState_41 : decode c_P_findState 41 = .ok (.goto 4, 3) := by decide +kernel
theorem d_P_findState_44 : decode c_P_findState 44 = .ok (.iconst 1, 1) := by decide +kernel
theorem d_P_findState_45 : decode c_P_findState 45 = .ok (.ireturn, 1) := by decide +kernel
theorem d_K_delayTo_0 : decode c_K_delayTo 0 = .ok (.aload_n 1, 1) := by decide +kernel
theorem d_K_delayTo_1 : decode c_K_delayTo 1 = .ok (.aload_n 0, 1) := by decide +kernel
theorem d_K_delayTo_2 : decode c_K_delayTo 2 = .ok (.getfield 7, 3) := by decide +kernel
theorem d_K_delayTo_5 : decode c_K_delayTo 5 = .ok (.if_acmp .ne 10, 3) := by decide +kernel
theorem d_K_delayTo_8 : decode c_K_delayTo 8 = .ok (.aload_n 0, 1) := by decide +kernel
theorem d_K_delayTo_9 : decode c_K_delayTo 9 = .ok (.getfield 20, 3) := by decide +kernel
theorem d_K_delayTo_12 : decode c_K_delayTo 12 = .ok (.goto 7, 3) := by decide +kernel
theorem d_K_delayTo_15 : decode c_K_delayTo 15 = .ok (.aload_n 0, 1) := by decide +kernel
theorem d_K_delayTo_16 : decode c_K_delayTo 16 = .ok (.getfield 16, 3) := by decide +kernel
theorem d_K_delayTo_19 : decode c_K_delayTo 19 = .ok (.ireturn, 1) := by decide +kernel
theorem d_K_delayFrom_0 : decode c_K_delayFrom 0 = .ok (.aload_n 1, 1) := by decide +kernel
theorem d_K_delayFrom_1 : decode c_K_delayFrom 1 = .ok (.aload_n 0, 1) := by decide +kernel
theorem d_K_delayFrom_2 : decode c_K_delayFrom 2 = .ok (.getfield 7, 3) := by decide +kernel
theorem d_K_delayFrom_5 : decode c_K_delayFrom 5 = .ok (.if_acmp .ne 10, 3) := by decide +kernel
theorem d_K_delayFrom_8 : decode c_K_delayFrom 8 = .ok (.aload_n 0, 1) := by decide +kernel
theorem d_K_delayFrom_9 : decode c_K_delayFrom 9 = .ok (.getfield 16, 3) := by decide +kernel
theorem d_K_delayFrom_12 : decode c_K_delayFrom 12 = .ok (.goto 7, 3) := by decide +kernel
theorem d_K_delayFrom_15 : decode c_K_delayFrom 15 = .ok (.aload_n 0, 1) := by decide +kernel
theorem d_K_delayFrom_16 : decode c_K_delayFrom 16 = .ok (.getfield 20, 3) := by decide +kernel
theorem d_K_delayFrom_19 : decode c_K_delayFrom 19 = .ok (.ireturn, 1) := by decide +kernel
theorem d_R_noteTimes_0 : decode c_R_noteTimes 0 = .ok (.aload_n 0, 1) := by decide +kernel
theorem d_R_noteTimes_1 : decode c_R_noteTimes 1 = .ok (.iconst 0, 1) := by decide +kernel
theorem d_R_noteTimes_2 : decode c_R_noteTimes 2 = .ok (.putfield 9, 3) := by decide +kernel
theorem d_R_noteTimes_5 : decode c_R_noteTimes 5 = .ok (.aload_n 0, 1) := by decide +kernel
theorem d_R_noteTimes_6 : decode c_R_noteTimes 6 = .ok (.lload_n 1, 1) := by decide +kernel
theorem d_R_noteTimes_7 : decode c_R_noteTimes 7 = .ok (.putfield 15, 3) := by decide +kernel
theorem d_R_noteTimes_10 : decode c_R_noteTimes 10 = .ok (.aload_n 0, 1) := by decide +kernel
theorem d_R_noteTimes_11 : decode c_R_noteTimes 11 = .ok (.aload_n 0, 1) := by decide +kernel
theorem d_R_noteTimes_12 : decode c_R_noteTimes 12 = .ok (.aload_n 0, 1) := by decide +kernel
theorem d_R_noteTimes_13 : decode c_R_noteTimes 13 = .ok (.getfield 15, 3) := by decide +kernel
theorem d_R_noteTimes_16 : decode c_R_noteTimes 16 = .ok (.iload_n 3, 1) := by decide +kernel
theorem d_R_noteTimes_17 : decode c_R_noteTimes 17 = .ok (.i2l, 1) := by decide +kernel
theorem d_R_noteTimes_18 : decode c_R_noteTimes 18 = .ok (.invokevirtual 19, 3) := by decide +kernel
theorem d_R_noteTimes_21 : decode c_R_noteTimes 21 = .ok (.putfield 23, 3) := by decide +kernel
theorem d_R_noteTimes_24 : decode c_R_noteTimes 24 = .ok (.aload_n 0, 1) := by decide +kernel
theorem d_R_noteTimes_25 : decode c_R_noteTimes 25 = .ok (.aload_n 0, 1) := by decide +kernel
theorem d_R_noteTimes_26 : decode c_R_noteTimes 26 = .ok (.aload_n 0, 1) := by decide +kernel
theorem d_R_noteTimes_27 : decode c_R_noteTimes 27 = .ok (.getfield 23, 3) := by decide +kernel
theorem d_R_noteTimes_30 : decode c_R_noteTimes 30 = .ok (.ldc2_w 26, 3) := by decide +kernel
theorem d_R_noteTimes_33 : decode c_R_noteTimes 33 = .ok (.invokevirtual 19, 3) := by decide +kernel
theorem d_R_noteTimes_36 : decode c_R_noteTimes 36 = .ok (.putfield 28, 3) := by decide +kernel
theorem d_R_noteTimes_39 : decode c_R_noteTimes 39 = .ok (.aload_n 0, 1) := by decide +kernel
theorem d_R_noteTimes_40 : decode c_R_noteTimes 40 = .ok (.aload_n 0, 1) := by decide +kernel
theorem d_R_noteTimes_41 : decode c_R_noteTimes 41 = .ok (.aload_n 0, 1) := by decide +kernel
theorem d_R_noteTimes_42 : decode c_R_noteTimes 42 = .ok (.getfield 28, 3) := by decide +kernel
theorem d_R_noteTimes_45 : decode c_R_noteTimes 45 = .ok (.iload 4, 2) := by decide +kernel
theorem d_R_noteTimes_47 : decode c_R_noteTimes 47 = .ok (.i2l, 1) := by decide +kernel
theorem d_R_noteTimes_48 : decode c_R_noteTimes 48 = .ok (.invokevirtual 19, 3) := by decide +kernel
theorem d_R_noteTimes_51 : decode c_R_noteTimes 51 = .ok (.putfield 31, 3) := by decide +kernel
theorem d_R_noteTimes_54 : decode c_R_noteTimes 54 = .ok (.return_, 1) := by decide +kernel
theorem d_R_plus_0 : decode c_R_plus 0 = .ok (.lload_n 1, 1) := by decide +kernel
theorem d_R_plus_1 : decode c_R_plus 1 = .ok (.lload_n 3, 1) := by decide +kernel
theorem d_R_plus_2 : decode c_R_plus 2 = .ok (.ladd, 1) := by decide +kernel
theorem d_R_plus_3 : decode c_R_plus 3 = .ok (.lstore 5, 2) := by decide +kernel
theorem d_R_plus_5 : decode c_R_plus 5 = .ok (.lload_n 1, 1) := by decide +kernel
theorem d_R_plus_6 : decode c_R_plus 6 = .ok (.lload 5, 2) := by decide +kernel
theorem d_R_plus_8 : decode c_R_plus 8 = .ok (.lxor, 1) := by decide +kernel
theorem d_R_plus_9 : decode c_R_plus 9 = .ok (.lload_n 3, 1) := by decide +kernel
theorem d_R_plus_10 : decode c_R_plus 10 = .ok (.lload 5, 2) := by decide +kernel
theorem d_R_plus_12 : decode c_R_plus 12 = .ok (.lxor, 1) := by decide +kernel
theorem d_R_plus_13 : decode c_R_plus 13 = .ok (.land, 1) := by decide +kernel
theorem d_R_plus_14 : decode c_R_plus 14 = .ok (.lconst 0, 1) := by decide +kernel
theorem d_R_plus_15 : decode c_R_plus 15 = .ok (.lcmp, 1) := by decide +kernel
theorem d_R_plus_16 : decode c_R_plus 16 = .ok (.ifCond .ge 8, 3) := by decide +kernel
theorem d_R_plus_19 : decode c_R_plus 19 = .ok (.aload_n 0, 1) := by decide +kernel
theorem d_R_plus_20 : decode c_R_plus 20 = .ok (.iconst 1, 1) := by decide +kernel
theorem d_R_plus_21 : decode c_R_plus 21 = .ok (.putfield 9, 3) := by decide +kernel
theorem d_R_plus_24 : decode c_R_plus 24 = .ok (.lload 5, 2) := by decide +kernel
theorem d_R_plus_26 : decode c_R_plus 26 = .ok (.lreturn, 1) := by decide +kernel
theorem d_R_noteClocks_0 : decode c_R_noteClocks 0 = .ok (.aload_n 0, 1) := by decide +kernel
theorem d_R_noteClocks_1 : decode c_R_noteClocks 1 = .ok (.aload_n 0, 1) := by decide +kernel
theorem d_R_noteClocks_2 : decode c_R_noteClocks 2 = .ok (.aload_n 0, 1) := by decide +kernel
theorem d_R_noteClocks_3 : decode c_R_noteClocks 3 = .ok (.getfield 15, 3) := by decide +kernel
theorem d_R_noteClocks_6 : decode c_R_noteClocks 6 = .ok (.lload_n 1, 1) := by decide +kernel
theorem d_R_noteClocks_7 : decode c_R_noteClocks 7 = .ok (.invokevirtual 19, 3) := by decide +kernel
theorem d_R_noteClocks_10 : decode c_R_noteClocks 10 = .ok (.putfield 34, 3) := by decide +kernel
theorem d_R_noteClocks_13 : decode c_R_noteClocks 13 = .ok (.aload_n 0, 1) := by decide +kernel
theorem d_R_noteClocks_14 : decode c_R_noteClocks 14 = .ok (.aload_n 0, 1) := by decide +kernel
theorem d_R_noteClocks_15 : decode c_R_noteClocks 15 = .ok (.aload_n 0, 1) := by decide +kernel
theorem d_R_noteClocks_16 : decode c_R_noteClocks 16 = .ok (.getfield 23, 3) := by decide +kernel
theorem d_R_noteClocks_19 : decode c_R_noteClocks 19 = .ok (.lload_n 3, 1) := by decide +kernel
theorem d_R_noteClocks_20 : decode c_R_noteClocks 20 = .ok (.invokevirtual 19, 3) := by decide +kernel
theorem d_R_noteClocks_23 : decode c_R_noteClocks 23 = .ok (.putfield 37, 3) := by decide +kernel
theorem d_R_noteClocks_26 : decode c_R_noteClocks 26 = .ok (.aload_n 0, 1) := by decide +kernel
theorem d_R_noteClocks_27 : decode c_R_noteClocks 27 = .ok (.aload_n 0, 1) := by decide +kernel
theorem d_R_noteClocks_28 : decode c_R_noteClocks 28 = .ok (.aload_n 0, 1) := by decide +kernel
theorem d_R_noteClocks_29 : decode c_R_noteClocks 29 = .ok (.getfield 28, 3) := by decide +kernel
theorem d_R_noteClocks_32 : decode c_R_noteClocks 32 = .ok (.lload_n 3, 1) := by decide +kernel
theorem d_R_noteClocks_33 : decode c_R_noteClocks 33 = .ok (.invokevirtual 19, 3) := by decide +kernel
theorem d_R_noteClocks_36 : decode c_R_noteClocks 36 = .ok (.putfield 40, 3) := by decide +kernel
theorem d_R_noteClocks_39 : decode c_R_noteClocks 39 = .ok (.aload_n 0, 1) := by decide +kernel
theorem d_R_noteClocks_40 : decode c_R_noteClocks 40 = .ok (.aload_n 0, 1) := by decide +kernel
theorem d_R_noteClocks_41 : decode c_R_noteClocks 41 = .ok (.aload_n 0, 1) := by decide +kernel
theorem d_R_noteClocks_42 : decode c_R_noteClocks 42 = .ok (.getfield 31, 3) := by decide +kernel
theorem d_R_noteClocks_45 : decode c_R_noteClocks 45 = .ok (.lload_n 1, 1) := by decide +kernel
theorem d_R_noteClocks_46 : decode c_R_noteClocks 46 = .ok (.invokevirtual 19, 3) := by decide +kernel
theorem d_R_noteClocks_49 : decode c_R_noteClocks 49 = .ok (.putfield 43, 3) := by decide +kernel
theorem d_R_noteClocks_52 : decode c_R_noteClocks 52 = .ok (.return_, 1) := by decide +kernel
theorem d_R_find_0 : decode c_R_find 0 = .ok (.aload_n 0, 1) := by decide +kernel
theorem d_R_find_1 : decode c_R_find 1 = .ok (.aload_n 0, 1) := by decide +kernel
theorem d_R_find_2 : decode c_R_find 2 = .ok (.aload_n 0, 1) := by decide +kernel
theorem d_R_find_3 : decode c_R_find 3 = .ok (.getfield 37, 3) := by decide +kernel
theorem d_R_find_6 : decode c_R_find 6 = .ok (.aload_n 0, 1) := by decide +kernel
theorem d_R_find_7 : decode c_R_find 7 = .ok (.getfield 34, 3) := by decide +kernel
theorem d_R_find_10 : decode c_R_find 10 = .ok (.invokevirtual 46, 3) := by decide +kernel
theorem d_R_find_13 : decode c_R_find 13 = .ok (.iload_n 3, 1) := by decide +kernel
theorem d_R_find_14 : decode c_R_find 14 = .ok (.i2l, 1) := by decide +kernel
theorem d_R_find_15 : decode c_R_find 15 = .ok (.invokevirtual 46, 3) := by decide +kernel
theorem d_R_find_18 : decode c_R_find 18 = .ok (.lstore 5, 2) := by decide +kernel
theorem d_R_find_20 : decode c_R_find 20 = .ok (.aload_n 0, 1) := by decide +kernel
theorem d_R_find_21 : decode c_R_find 21 = .ok (.aload_n 0, 1) := by decide +kernel
theorem d_R_find_22 : decode c_R_find 22 = .ok (.aload_n 0, 1) := by decide +kernel
theorem d_R_find_23 : decode c_R_find 23 = .ok (.getfield 43, 3) := by decide +kernel
theorem d_R_find_26 : decode c_R_find 26 = .ok (.aload_n 0, 1) := by decide +kernel
theorem d_R_find_27 : decode c_R_find 27 = .ok (.getfield 40, 3) := by decide +kernel
theorem d_R_find_30 : decode c_R_find 30 = .ok (.invokevirtual 46, 3) := by decide +kernel
theorem d_R_find_33 : decode c_R_find 33 = .ok (.iload 4, 2) := by decide +kernel
theorem d_R_find_35 : decode c_R_find 35 = .ok (.i2l, 1) := by decide +kernel
theorem d_R_find_36 : decode c_R_find 36 = .ok (.invokevirtual 46, 3) := by decide +kernel
theorem d_R_find_39 : decode c_R_find 39 = .ok (.lstore 7, 2) := by decide +kernel
theorem d_R_find_41 : decode c_R_find 41 = .ok (.aload_n 0, 1) := by decide +kernel
theorem d_R_find_42 : decode c_R_find 42 = .ok (.aload_n 0, 1) := by decide +kernel
theorem d_R_find_43 : decode c_R_find 43 = .ok (.lload 5, 2) := by decide +kernel
theorem d_R_find_45 : decode c_R_find 45 = .ok (.lload 7, 2) := by decide +kernel
theorem d_R_find_47 : decode c_R_find 47 = .ok (.invokevirtual 46, 3) := by decide +kernel
theorem d_R_find_50 : decode c_R_find 50 = .ok (.ldc2_w 49, 3) := by decide +kernel
theorem d_R_find_53 : decode c_R_find 53 = .ok (.ldiv, 1) := by decide +kernel
theorem d_R_find_54 : decode c_R_find 54 = .ok (.putfield 51, 3) := by decide +kernel
theorem d_R_find_57 : decode c_R_find 57 = .ok (.aload_n 0, 1) := by decide +kernel
theorem d_R_find_58 : decode c_R_find 58 = .ok (.aload_n 0, 1) := by decide +kernel
theorem d_R_find_59 : decode c_R_find 59 = .ok (.lload 5, 2) := by decide +kernel
theorem d_R_find_61 : decode c_R_find 61 = .ok (.lload 7, 2) := by decide +kernel
theorem d_R_find_63 : decode c_R_find 63 = .ok (.invokevirtual 19, 3) := by decide +kernel
theorem d_R_find_66 : decode c_R_find 66 = .ok (.ldc2_w 49, 3) := by decide +kernel
theorem d_R_find_69 : decode c_R_find 69 = .ok (.ldiv, 1) := by decide +kernel
theorem d_R_find_70 : decode c_R_find 70 = .ok (.putfield 54, 3) := by decide +kernel
theorem d_R_find_73 : decode c_R_find 73 = .ok (.aload_n 0, 1) := by decide +kernel
theorem d_R_find_74 : decode c_R_find 74 = .ok (.aload_n 0, 1) := by decide +kernel
theorem d_R_find_75 : decode c_R_find 75 = .ok (.lload_n 1, 1) := by decide +kernel
theorem d_R_find_76 : decode c_R_find 76 = .ok (.aload_n 0, 1) := by decide +kernel
theorem d_R_find_77 : decode c_R_find 77 = .ok (.getfield 51, 3) := by decide +kernel
theorem d_R_find_80 : decode c_R_find 80 = .ok (.invokevirtual 46, 3) := by decide +kernel
theorem d_R_find_83 : decode c_R_find 83 = .ok (.putfield 57, 3) := by decide +kernel
theorem d_R_find_86 : decode c_R_find 86 = .ok (.return_, 1) := by decide +kernel
theorem d_R_minus_0 : decode c_R_minus 0 = .ok (.lload_n 1, 1) := by decide +kernel
theorem d_R_minus_1 : decode c_R_minus 1 = .ok (.lload_n 3, 1) := by decide +kernel
theorem d_R_minus_2 : decode c_R_minus 2 = .ok (.lsub, 1) := by decide +kernel
theorem d_R_minus_3 : decode c_R_minus 3 = .ok (.lstore 5, 2) := by decide +kernel
theorem d_R_minus_5 : decode c_R_minus 5 = .ok (.lload_n 1, 1) := by decide +kernel
theorem d_R_minus_6 : decode c_R_minus 6 = .ok (.lload_n 3, 1) := by decide +kernel
theorem d_R_minus_7 : decode c_R_minus 7 = .ok (.lxor, 1) := by decide +kernel
theorem d_R_minus_8 : decode c_R_minus 8 = .ok (.lload_n 1, 1) := by decide +kernel
theorem d_R_minus_9 : decode c_R_minus 9 = .ok (.lload 5, 2) := by decide +kernel
theorem d_R_minus_11 : decode c_R_minus 11 = .ok (.lxor, 1) := by decide +kernel
theorem d_R_minus_12 : decode c_R_minus 12 = .ok (.land, 1) := by decide +kernel
theorem d_R_minus_13 : decode c_R_minus 13 = .ok (.lconst 0, 1) := by decide +kernel
theorem d_R_minus_14 : decode c_R_minus 14 = .ok (.lcmp, 1) := by decide +kernel
theorem d_R_minus_15 : decode c_R_minus 15 = .ok (.ifCond .ge 8, 3) := by decide +kernel
theorem d_R_minus_18 : decode c_R_minus 18 = .ok (.aload_n 0, 1) := by decide +kernel
theorem d_R_minus_19 : decode c_R_minus 19 = .ok (.iconst 1, 1) := by decide +kernel
theorem d_R_minus_20 : decode c_R_minus 20 = .ok (.putfield 9, 3) := by decide +kernel
theorem d_R_minus_23 : decode c_R_minus 23 = .ok (.lload 5, 2) := by decide +kernel
theorem d_R_minus_25 : decode c_R_minus 25 = .ok (.lreturn, 1) := by decide +kernel
theorem d_D_init_0 : decode c_D_init 0 = .ok (.aload_n 0, 1) := by decide +kernel
theorem d_D_init_1 : decode c_D_init 1 = .ok (.invokespecial 3, 3) := by decide +kernel
theorem d_D_init_4 : decode c_D_init 4 = .ok (.return_, 1) := by decide +kernel
theorem d_P_init_0 : decode c_P_init 0 = .ok (.aload_n 0, 1) := by decide +kernel
theorem d_P_init_1 : decode c_P_init 1 = .ok (.invokespecial 3, 3) := by decide +kernel
theorem d_P_init_4 : decode c_P_init 4 = .ok (.aload_n 0, 1) := by decide +kernel
theorem d_P_init_5 : decode c_P_init 5 = .ok (.iload_n 1, 1) := by decide +kernel
theorem d_P_init_6 : decode c_P_init 6 = .ok (.putfield 9, 3) := by decide +kernel
theorem d_P_init_9 : decode c_P_init 9 = .ok (.aload_n 0, 1) := by decide +kernel
theorem d_P_init_10 : decode c_P_init 10 = .ok (.iload_n 2, 1) := by decide +kernel
theorem d_P_init_11 : decode c_P_init 11 = .ok (.putfield 15, 3) := by decide +kernel
theorem d_P_init_14 : decode c_P_init 14 = .ok (.aload_n 0, 1) := by decide +kernel
theorem d_P_init_15 : decode c_P_init 15 = .ok (.new 18, 3) := by decide +kernel
theorem d_P_init_18 : decode c_P_init 18 = .ok (.dup, 1) := by decide +kernel
theorem d_P_init_19 : decode c_P_init 19 = .ok (.invokespecial 20, 3) := by decide +kernel
theorem d_P_init_22 : decode c_P_init 22 = .ok (.putfield 21, 3) := by decide +kernel
theorem d_P_init_25 : decode c_P_init 25 = .ok (.aload_n 0, 1) := by decide +kernel
theorem d_P_init_26 : decode c_P_init 26 = .ok (.new 18, 3) := by decide +kernel
theorem d_P_init_29 : decode c_P_init 29 = .ok (.dup, 1) := by decide +kernel
theorem d_P_init_30 : decode c_P_init 30 = .ok (.invokespecial 20, 3) := by decide +kernel
theorem d_P_init_33 : decode c_P_init 33 = .ok (.putfield 25, 3) := by decide +kernel
theorem d_P_init_36 : decode c_P_init 36 = .ok (.aload_n 0, 1) := by decide +kernel
theorem d_P_init_37 : decode c_P_init 37 = .ok (.iconst 0, 1) := by decide +kernel
theorem d_P_init_38 : decode c_P_init 38 = .ok (.putfield 28, 3) := by decide +kernel
theorem d_P_init_41 : decode c_P_init 41 = .ok (.aload_n 0, 1) := by decide +kernel
theorem d_P_init_42 : decode c_P_init 42 = .ok (.iconst 0, 1) := by decide +kernel
theorem d_P_init_43 : decode c_P_init 43 = .ok (.putfield 32, 3) := by decide +kernel
theorem d_P_init_46 : decode c_P_init 46 = .ok (.aload_n 0, 1) := by decide +kernel
theorem d_P_init_47 : decode c_P_init 47 = .ok (.iconst 0, 1) := by decide +kernel
theorem d_P_init_48 : decode c_P_init 48 = .ok (.putfield 35, 3) := by decide +kernel
theorem d_P_init_51 : decode c_P_init 51 = .ok (.aload_n 0, 1) := by decide +kernel
theorem d_P_init_52 : decode c_P_init 52 = .ok (.aconst_null, 1) := by decide +kernel
theorem d_P_init_53 : decode c_P_init 53 = .ok (.putfield 38, 3) := by decide +kernel
theorem d_P_init_56 : decode c_P_init 56 = .ok (.return_, 1) := by decide +kernel
theorem d_D_setOwn_0 : decode c_D_setOwn 0 = .ok (.aload_n 0, 1) := by decide +kernel
theorem d_D_setOwn_1 : decode c_D_setOwn 1 = .ok (.iload_n 2, 1) := by decide +kernel
theorem d_D_setOwn_2 : decode c_D_setOwn 2 = .ok (.putfield 9, 3) := by decide +kernel
theorem d_D_setOwn_5 : decode c_D_setOwn 5 = .ok (.aload_n 0, 1) := by decide +kernel
theorem d_D_setOwn_6 : decode c_D_setOwn 6 = .ok (.iload_n 3, 1) := by decide +kernel
theorem d_D_setOwn_7 : decode c_D_setOwn 7 = .ok (.putfield 15, 3) := by decide +kernel
theorem d_D_setOwn_10 : decode c_D_setOwn 10 = .ok (.aload_n 0, 1) := by decide +kernel
theorem d_D_setOwn_11 : decode c_D_setOwn 11 = .ok (.iload 4, 2) := by decide +kernel
theorem d_D_setOwn_13 : decode c_D_setOwn 13 = .ok (.putfield 18, 3) := by decide +kernel
theorem d_D_setOwn_16 : decode c_D_setOwn 16 = .ok (.aload_n 0, 1) := by decide +kernel
theorem d_D_setOwn_17 : decode c_D_setOwn 17 = .ok (.iload_n 1, 1) := by decide +kernel
theorem d_D_setOwn_18 : decode c_D_setOwn 18 = .ok (.putfield 21, 3) := by decide +kernel
theorem d_D_setOwn_21 : decode c_D_setOwn 21 = .ok (.aload_n 0, 1) := by decide +kernel
theorem d_D_setOwn_22 : decode c_D_setOwn 22 = .ok (.iconst 0, 1) := by decide +kernel
theorem d_D_setOwn_23 : decode c_D_setOwn 23 = .ok (.putfield 24, 3) := by decide +kernel
theorem d_D_setOwn_26 : decode c_D_setOwn 26 = .ok (.aload_n 0, 1) := by decide +kernel
theorem d_D_setOwn_27 : decode c_D_setOwn 27 = .ok (.iload_n 1, 1) := by decide +kernel
theorem d_D_setOwn_28 : decode c_D_setOwn 28 = .ok (.putfield 27, 3) := by decide +kernel
theorem d_D_setOwn_31 : decode c_D_setOwn 31 = .ok (.aload_n 0, 1) := by decide +kernel
theorem d_D_setOwn_32 : decode c_D_setOwn 32 = .ok (.iconst (-1), 1) := by decide +kernel
theorem d_D_setOwn_33 : decode c_D_setOwn 33 = .ok (.putfield 30, 3) := by decide +kernel
theorem d_D_setOwn_36 : decode c_D_setOwn 36 = .ok (.aload_n 0, 1) := by decide +kernel
theorem d_D_setOwn_37 : decode c_D_setOwn 37 = .ok (.iconst (-1), 1) := by decide +kernel
theorem d_D_setOwn_38 : decode c_D_setOwn 38 = .ok (.putfield 33, 3) := by decide +kernel
theorem d_D_setOwn_41 : decode c_D_setOwn 41 = .ok (.return_, 1) := by decide +kernel
theorem d_K_init_0 : decode c_K_init 0 = .ok (.aload_n 0, 1) := by decide +kernel
theorem d_K_init_1 : decode c_K_init 1 = .ok (.invokespecial 1, 3) := by decide +kernel
theorem d_K_init_4 : decode c_K_init 4 = .ok (.aload_n 0, 1) := by decide +kernel
theorem d_K_init_5 : decode c_K_init 5 = .ok (.aload_n 1, 1) := by decide +kernel
theorem d_K_init_6 : decode c_K_init 6 = .ok (.putfield 7, 3) := by decide +kernel
theorem d_K_init_9 : decode c_K_init 9 = .ok (.aload_n 0, 1) := by decide +kernel
theorem d_K_init_10 : decode c_K_init 10 = .ok (.aload_n 2, 1) := by decide +kernel
theorem d_K_init_11 : decode c_K_init 11 = .ok (.putfield 13, 3) := by decide +kernel
theorem d_K_init_14 : decode c_K_init 14 = .ok (.aload_n 0, 1) := by decide +kernel
theorem d_K_init_15 : decode c_K_init 15 = .ok (.iload_n 3, 1) := by decide +kernel
theorem d_K_init_16 : decode c_K_init 16 = .ok (.putfield 16, 3) := by decide +kernel
theorem d_K_init_19 : decode c_K_init 19 = .ok (.aload_n 0, 1) := by decide +kernel
theorem d_K_init_20 : decode c_K_init 20 = .ok (.iload 4, 2) := by decide +kernel
theorem d_K_init_22 : decode c_K_init 22 = .ok (.putfield 20, 3) := by decide +kernel
theorem d_K_init_25 : decode c_K_init 25 = .ok (.aload_n 0, 1) := by decide +kernel
theorem d_K_init_26 : decode c_K_init 26 = .ok (.iconst 1, 1) := by decide +kernel
theorem d_K_init_27 : decode c_K_init 27 = .ok (.putfield 23, 3) := by decide +kernel
theorem d_K_init_30 : decode c_K_init 30 = .ok (.return_, 1) := by decide +kernel
