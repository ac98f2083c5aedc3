/-! decode rows; written by wip/gen/names.py -/
theorem d_Rn_init_0 : decode b_Rn_init 0 = .ok (.aload_n 0, 1) := by decide +kernel
theorem d_Rn_init_1 : decode b_Rn_init 1 = .ok (.invokespecial 3, 3) := by decide +kernel
theorem d_Rn_init_4 : decode b_Rn_init 4 = .ok (.aload_n 0, 1) := by decide +kernel
theorem d_Rn_init_5 : decode b_Rn_init 5 = .ok (.new 9, 3) := by decide +kernel
theorem d_Rn_init_8 : decode b_Rn_init 8 = .ok (.dup, 1) := by decide +kernel
theorem d_Rn_init_9 : decode b_Rn_init 9 = .ok (.invokespecial 11, 3) := by decide +kernel
theorem d_Rn_init_12 : decode b_Rn_init 12 = .ok (.putfield 12, 3) := by decide +kernel
theorem d_Rn_init_15 : decode b_Rn_init 15 = .ok (.aload_n 0, 1) := by decide +kernel
theorem d_Rn_init_16 : decode b_Rn_init 16 = .ok (.new 18, 3) := by decide +kernel
theorem d_Rn_init_19 : decode b_Rn_init 19 = .ok (.dup, 1) := by decide +kernel
theorem d_Rn_init_20 : decode b_Rn_init 20 = .ok (.invokespecial 20, 3) := by decide +kernel
theorem d_Rn_init_23 : decode b_Rn_init 23 = .ok (.putfield 21, 3) := by decide +kernel
theorem d_Rn_init_26 : decode b_Rn_init 26 = .ok (.aload_n 0, 1) := by decide +kernel
theorem d_Rn_init_27 : decode b_Rn_init 27 = .ok (.bipush 8, 2) := by decide +kernel
theorem d_Rn_init_29 : decode b_Rn_init 29 = .ok (.anewarray 25, 3) := by decide +kernel
theorem d_Rn_init_32 : decode b_Rn_init 32 = .ok (.putfield 27, 3) := by decide +kernel
theorem d_Rn_init_35 : decode b_Rn_init 35 = .ok (.aload_n 0, 1) := by decide +kernel
theorem d_Rn_init_36 : decode b_Rn_init 36 = .ok (.new 31, 3) := by decide +kernel
theorem d_Rn_init_39 : decode b_Rn_init 39 = .ok (.dup, 1) := by decide +kernel
theorem d_Rn_init_40 : decode b_Rn_init 40 = .ok (.iconst 1, 1) := by decide +kernel
theorem d_Rn_init_41 : decode b_Rn_init 41 = .ok (.invokespecial 33, 3) := by decide +kernel
theorem d_Rn_init_44 : decode b_Rn_init 44 = .ok (.putfield 36, 3) := by decide +kernel
theorem d_Rn_init_47 : decode b_Rn_init 47 = .ok (.aload_n 0, 1) := by decide +kernel
theorem d_Rn_init_48 : decode b_Rn_init 48 = .ok (.aload_n 1, 1) := by decide +kernel
theorem d_Rn_init_49 : decode b_Rn_init 49 = .ok (.putfield 40, 3) := by decide +kernel
theorem d_Rn_init_52 : decode b_Rn_init 52 = .ok (.aload_n 0, 1) := by decide +kernel
theorem d_Rn_init_53 : decode b_Rn_init 53 = .ok (.aload_n 2, 1) := by decide +kernel
theorem d_Rn_init_54 : decode b_Rn_init 54 = .ok (.putfield 44, 3) := by decide +kernel
theorem d_Rn_init_57 : decode b_Rn_init 57 = .ok (.aload_n 0, 1) := by decide +kernel
theorem d_Rn_init_58 : decode b_Rn_init 58 = .ok (.new 48, 3) := by decide +kernel
theorem d_Rn_init_61 : decode b_Rn_init 61 = .ok (.dup, 1) := by decide +kernel
theorem d_Rn_init_62 : decode b_Rn_init 62 = .ok (.aload_n 1, 1) := by decide +kernel
theorem d_Rn_init_63 : decode b_Rn_init 63 = .ok (.getfield 50, 3) := by decide +kernel
theorem d_Rn_init_66 : decode b_Rn_init 66 = .ok (.aload_n 0, 1) := by decide +kernel
theorem d_Rn_init_67 : decode b_Rn_init 67 = .ok (.getfield 12, 3) := by decide +kernel
theorem d_Rn_init_70 : decode b_Rn_init 70 = .ok (.invokespecial 56, 3) := by decide +kernel
theorem d_Rn_init_73 : decode b_Rn_init 73 = .ok (.putfield 59, 3) := by decide +kernel
theorem d_Rn_init_76 : decode b_Rn_init 76 = .ok (.iconst 0, 1) := by decide +kernel
theorem d_Rn_init_77 : decode b_Rn_init 77 = .ok (.istore_n 3, 1) := by decide +kernel
theorem d_Rn_init_78 : decode b_Rn_init 78 = .ok (.iload_n 3, 1) := by decide +kernel
theorem d_Rn_init_79 : decode b_Rn_init 79 = .ok (.bipush 8, 2) := by decide +kernel
theorem d_Rn_init_81 : decode b_Rn_init 81 = .ok (.if_icmp .ge 22, 3) := by decide +kernel
theorem d_Rn_init_84 : decode b_Rn_init 84 = .ok (.aload_n 0, 1) := by decide +kernel
theorem d_Rn_init_85 : decode b_Rn_init 85 = .ok (.getfield 27, 3) := by decide +kernel
theorem d_Rn_init_88 : decode b_Rn_init 88 = .ok (.iload_n 3, 1) := by decide +kernel
theorem d_Rn_init_89 : decode b_Rn_init 89 = .ok (.new 25, 3) := by decide +kernel
theorem d_Rn_init_92 : decode b_Rn_init 92 = .ok (.dup, 1) := by decide +kernel
theorem d_Rn_init_93 : decode b_Rn_init 93 = .ok (.invokespecial 63, 3) := by decide +kernel
theorem d_Rn_init_96 : decode b_Rn_init 96 = .ok (.aastore, 1) := by decide +kernel
theorem d_Rn_init_97 : decode b_Rn_init 97 = .ok (.iinc 3 1, 3) := by decide +kernel
theorem d_Rn_init_100 : decode b_Rn_init 100 = .ok (.goto (-22), 3) := by decide +kernel
theorem d_Rn_init_103 : decode b_Rn_init 103 = .ok (.return_, 1) := by decide +kernel
theorem d_Rn_callProcedure_0 : decode b_Rn_callProcedure 0 = .ok (.aload_n 0, 1) := by decide +kernel
theorem d_Rn_callProcedure_1 : decode b_Rn_callProcedure 1 = .ok (.getfield 21, 3) := by decide +kernel
theorem d_Rn_callProcedure_4 : decode b_Rn_callProcedure 4 = .ok (.iload_n 3, 1) := by decide +kernel
theorem d_Rn_callProcedure_5 : decode b_Rn_callProcedure 5 = .ok (.invokevirtual 200, 3) := by decide +kernel
theorem d_Rn_callProcedure_8 : decode b_Rn_callProcedure 8 = .ok (.ifCond .ne 9, 3) := by decide +kernel
theorem d_Rn_callProcedure_11 : decode b_Rn_callProcedure 11 = .ok (.aload_n 0, 1) := by decide +kernel
theorem d_Rn_callProcedure_12 : decode b_Rn_callProcedure 12 = .ok (.iconst 2, 1) := by decide +kernel
theorem d_Rn_callProcedure_13 : decode b_Rn_callProcedure 13 = .ok (.invokevirtual 64, 3) := by decide +kernel
theorem d_Rn_callProcedure_16 : decode b_Rn_callProcedure 16 = .ok (.ireturn, 1) := by decide +kernel
theorem d_Rn_callProcedure_17 : decode b_Rn_callProcedure 17 = .ok (.iload_n 2, 1) := by decide +kernel
theorem d_Rn_callProcedure_18 : decode b_Rn_callProcedure 18 = .ok (.iconst 1, 1) := by decide +kernel
theorem d_Rn_callProcedure_19 : decode b_Rn_callProcedure 19 = .ok (.iadd, 1) := by decide +kernel
theorem d_Rn_callProcedure_20 : decode b_Rn_callProcedure 20 = .ok (.istore 4, 2) := by decide +kernel
theorem d_Rn_callProcedure_22 : decode b_Rn_callProcedure 22 = .ok (.aload_n 0, 1) := by decide +kernel
theorem d_Rn_callProcedure_23 : decode b_Rn_callProcedure 23 = .ok (.getfield 21, 3) := by decide +kernel
theorem d_Rn_callProcedure_26 : decode b_Rn_callProcedure 26 = .ok (.getfield 310, 3) := by decide +kernel
theorem d_Rn_callProcedure_29 : decode b_Rn_callProcedure 29 = .ok (.iload_n 3, 1) := by decide +kernel
theorem d_Rn_callProcedure_30 : decode b_Rn_callProcedure 30 = .ok (.iaload, 1) := by decide +kernel
theorem d_Rn_callProcedure_31 : decode b_Rn_callProcedure 31 = .ok (.istore 5, 2) := by decide +kernel
theorem d_Rn_callProcedure_33 : decode b_Rn_callProcedure 33 = .ok (.aload_n 0, 1) := by decide +kernel
theorem d_Rn_callProcedure_34 : decode b_Rn_callProcedure 34 = .ok (.getfield 12, 3) := by decide +kernel
theorem d_Rn_callProcedure_37 : decode b_Rn_callProcedure 37 = .ok (.iload 4, 2) := by decide +kernel
theorem d_Rn_callProcedure_39 : decode b_Rn_callProcedure 39 = .ok (.invokevirtual 314, 3) := by decide +kernel
theorem d_Rn_callProcedure_42 : decode b_Rn_callProcedure 42 = .ok (.iload 4, 2) := by decide +kernel
theorem d_Rn_callProcedure_44 : decode b_Rn_callProcedure 44 = .ok (.bipush 8, 2) := by decide +kernel
theorem d_Rn_callProcedure_46 : decode b_Rn_callProcedure 46 = .ok (.if_icmp .ge 24, 3) := by decide +kernel
theorem d_Rn_callProcedure_49 : decode b_Rn_callProcedure 49 = .ok (.aload_n 0, 1) := by decide +kernel
theorem d_Rn_callProcedure_50 : decode b_Rn_callProcedure 50 = .ok (.getfield 12, 3) := by decide +kernel
theorem d_Rn_callProcedure_53 : decode b_Rn_callProcedure 53 = .ok (.iload 4, 2) := by decide +kernel
theorem d_Rn_callProcedure_55 : decode b_Rn_callProcedure 55 = .ok (.iload 5, 2) := by decide +kernel
theorem d_Rn_callProcedure_57 : decode b_Rn_callProcedure 57 = .ok (.invokevirtual 156, 3) := by decide +kernel
theorem d_Rn_callProcedure_60 : decode b_Rn_callProcedure 60 = .ok (.iload 5, 2) := by decide +kernel
theorem d_Rn_callProcedure_62 : decode b_Rn_callProcedure 62 = .ok (.aload_n 1, 1) := by decide +kernel
theorem d_Rn_callProcedure_63 : decode b_Rn_callProcedure 63 = .ok (.getfield 145, 3) := by decide +kernel
theorem d_Rn_callProcedure_66 : decode b_Rn_callProcedure 66 = .ok (.iconst 1, 1) := by decide +kernel
theorem d_Rn_callProcedure_67 : decode b_Rn_callProcedure 67 = .ok (.invokevirtual 277, 3) := by decide +kernel
theorem d_Rn_callProcedure_70 : decode b_Rn_callProcedure 70 = .ok (.aload_n 0, 1) := by decide +kernel
theorem d_Rn_callProcedure_71 : decode b_Rn_callProcedure 71 = .ok (.aload_n 0, 1) := by decide +kernel
theorem d_Rn_callProcedure_72 : decode b_Rn_callProcedure 72 = .ok (.aload_n 0, 1) := by decide +kernel
theorem d_Rn_callProcedure_73 : decode b_Rn_callProcedure 73 = .ok (.getfield 21, 3) := by decide +kernel
theorem d_Rn_callProcedure_76 : decode b_Rn_callProcedure 76 = .ok (.getfield 317, 3) := by decide +kernel
theorem d_Rn_callProcedure_79 : decode b_Rn_callProcedure 79 = .ok (.iload_n 3, 1) := by decide +kernel
theorem d_Rn_callProcedure_80 : decode b_Rn_callProcedure 80 = .ok (.iaload, 1) := by decide +kernel
theorem d_Rn_callProcedure_81 : decode b_Rn_callProcedure 81 = .ok (.aload_n 0, 1) := by decide +kernel
theorem d_Rn_callProcedure_82 : decode b_Rn_callProcedure 82 = .ok (.getfield 21, 3) := by decide +kernel
theorem d_Rn_callProcedure_85 : decode b_Rn_callProcedure 85 = .ok (.getfield 320, 3) := by decide +kernel
theorem d_Rn_callProcedure_88 : decode b_Rn_callProcedure 88 = .ok (.iload_n 3, 1) := by decide +kernel
theorem d_Rn_callProcedure_89 : decode b_Rn_callProcedure 89 = .ok (.iaload, 1) := by decide +kernel
theorem d_Rn_callProcedure_90 : decode b_Rn_callProcedure 90 = .ok (.iload 4, 2) := by decide +kernel
theorem d_Rn_callProcedure_92 : decode b_Rn_callProcedure 92 = .ok (.iload 4, 2) := by decide +kernel
theorem d_Rn_callProcedure_94 : decode b_Rn_callProcedure 94 = .ok (.iconst 0, 1) := by decide +kernel
theorem d_Rn_callProcedure_95 : decode b_Rn_callProcedure 95 = .ok (.invokevirtual 141, 3) := by decide +kernel
theorem d_Rn_callProcedure_98 : decode b_Rn_callProcedure 98 = .ok (.invokevirtual 323, 3) := by decide +kernel
theorem d_Rn_callProcedure_101 : decode b_Rn_callProcedure 101 = .ok (.ireturn, 1) := by decide +kernel
theorem d_Rn_catchCode_0 : decode b_Rn_catchCode 0 = .ok (.aload_n 0, 1) := by decide +kernel
theorem d_Rn_catchCode_1 : decode b_Rn_catchCode 1 = .ok (.aload_n 1, 1) := by decide +kernel
theorem d_Rn_catchCode_2 : decode b_Rn_catchCode 2 = .ok (.iconst 1, 1) := by decide +kernel
theorem d_Rn_catchCode_3 : decode b_Rn_catchCode 3 = .ok (.iload_n 2, 1) := by decide +kernel
theorem d_Rn_catchCode_4 : decode b_Rn_catchCode 4 = .ok (.invokevirtual 307, 3) := by decide +kernel
theorem d_Rn_catchCode_7 : decode b_Rn_catchCode 7 = .ok (.istore_n 3, 1) := by decide +kernel
theorem d_Rn_catchCode_8 : decode b_Rn_catchCode 8 = .ok (.iload_n 3, 1) := by decide +kernel
theorem d_Rn_catchCode_9 : decode b_Rn_catchCode 9 = .ok (.iconst 5, 1) := by decide +kernel
theorem d_Rn_catchCode_10 : decode b_Rn_catchCode 10 = .ok (.if_icmp .ne 5, 3) := by decide +kernel
theorem d_Rn_catchCode_13 : decode b_Rn_catchCode 13 = .ok (.iconst 5, 1) := by decide +kernel
theorem d_Rn_catchCode_14 : decode b_Rn_catchCode 14 = .ok (.ireturn, 1) := by decide +kernel
theorem d_Rn_catchCode_15 : decode b_Rn_catchCode 15 = .ok (.aload_n 1, 1) := by decide +kernel
theorem d_Rn_catchCode_16 : decode b_Rn_catchCode 16 = .ok (.getfield 83, 3) := by decide +kernel
theorem d_Rn_catchCode_19 : decode b_Rn_catchCode 19 = .ok (.iconst 2, 1) := by decide +kernel
theorem d_Rn_catchCode_20 : decode b_Rn_catchCode 20 = .ok (.if_icmp .le 39, 3) := by decide +kernel
theorem d_Rn_catchCode_23 : decode b_Rn_catchCode 23 = .ok (.aload_n 1, 1) := by decide +kernel
theorem d_Rn_catchCode_24 : decode b_Rn_catchCode 24 = .ok (.getfield 145, 3) := by decide +kernel
theorem d_Rn_catchCode_27 : decode b_Rn_catchCode 27 = .ok (.iconst 2, 1) := by decide +kernel
theorem d_Rn_catchCode_28 : decode b_Rn_catchCode 28 = .ok (.invokevirtual 171, 3) := by decide +kernel
theorem d_Rn_catchCode_31 : decode b_Rn_catchCode 31 = .ok (.bipush 97, 2) := by decide +kernel
theorem d_Rn_catchCode_33 : decode b_Rn_catchCode 33 = .ok (.isub, 1) := by decide +kernel
theorem d_Rn_catchCode_34 : decode b_Rn_catchCode 34 = .ok (.istore 4, 2) := by decide +kernel
theorem d_Rn_catchCode_36 : decode b_Rn_catchCode 36 = .ok (.aload_n 0, 1) := by decide +kernel
theorem d_Rn_catchCode_37 : decode b_Rn_catchCode 37 = .ok (.getfield 12, 3) := by decide +kernel
theorem d_Rn_catchCode_40 : decode b_Rn_catchCode 40 = .ok (.aload_n 1, 1) := by decide +kernel
theorem d_Rn_catchCode_41 : decode b_Rn_catchCode 41 = .ok (.getfield 138, 3) := by decide +kernel
theorem d_Rn_catchCode_44 : decode b_Rn_catchCode 44 = .ok (.iload 4, 2) := by decide +kernel
theorem d_Rn_catchCode_46 : decode b_Rn_catchCode 46 = .ok (.invokevirtual 156, 3) := by decide +kernel
theorem d_Rn_catchCode_49 : decode b_Rn_catchCode 49 = .ok (.iload 4, 2) := by decide +kernel
theorem d_Rn_catchCode_51 : decode b_Rn_catchCode 51 = .ok (.aload_n 0, 1) := by decide +kernel
theorem d_Rn_catchCode_52 : decode b_Rn_catchCode 52 = .ok (.getfield 36, 3) := by decide +kernel
theorem d_Rn_catchCode_55 : decode b_Rn_catchCode 55 = .ok (.iconst 0, 1) := by decide +kernel
theorem d_Rn_catchCode_56 : decode b_Rn_catchCode 56 = .ok (.invokevirtual 277, 3) := by decide +kernel
theorem d_Rn_catchCode_59 : decode b_Rn_catchCode 59 = .ok (.aload_n 0, 1) := by decide +kernel
theorem d_Rn_catchCode_60 : decode b_Rn_catchCode 60 = .ok (.getfield 36, 3) := by decide +kernel
theorem d_Rn_catchCode_63 : decode b_Rn_catchCode 63 = .ok (.iconst 0, 1) := by decide +kernel
theorem d_Rn_catchCode_64 : decode b_Rn_catchCode 64 = .ok (.iload_n 3, 1) := by decide +kernel
theorem d_Rn_catchCode_65 : decode b_Rn_catchCode 65 = .ok (.invokevirtual 250, 3) := by decide +kernel
theorem d_Rn_catchCode_68 : decode b_Rn_catchCode 68 = .ok (.iconst 0, 1) := by decide +kernel
theorem d_Rn_catchCode_69 : decode b_Rn_catchCode 69 = .ok (.ireturn, 1) := by decide +kernel
theorem d_Rn_checkBehind_0 : decode b_Rn_checkBehind 0 = .ok (.aload_n 1, 1) := by decide +kernel
theorem d_Rn_checkBehind_1 : decode b_Rn_checkBehind 1 = .ok (.getfield 101, 3) := by decide +kernel
theorem d_Rn_checkBehind_4 : decode b_Rn_checkBehind 4 = .ok (.aload_n 1, 1) := by decide +kernel
theorem d_Rn_checkBehind_5 : decode b_Rn_checkBehind 5 = .ok (.getfield 104, 3) := by decide +kernel
theorem d_Rn_checkBehind_8 : decode b_Rn_checkBehind 8 = .ok (.if_icmp .lt 5, 3) := by decide +kernel
theorem d_Rn_checkBehind_11 : decode b_Rn_checkBehind 11 = .ok (.iconst 0, 1) := by decide +kernel
theorem d_Rn_checkBehind_12 : decode b_Rn_checkBehind 12 = .ok (.ireturn, 1) := by decide +kernel
theorem d_Rn_checkBehind_13 : decode b_Rn_checkBehind 13 = .ok (.aload_n 0, 1) := by decide +kernel
theorem d_Rn_checkBehind_14 : decode b_Rn_checkBehind 14 = .ok (.getfield 40, 3) := by decide +kernel
theorem d_Rn_checkBehind_17 : decode b_Rn_checkBehind 17 = .ok (.getfield 50, 3) := by decide +kernel
theorem d_Rn_checkBehind_20 : decode b_Rn_checkBehind 20 = .ok (.aload_n 1, 1) := by decide +kernel
theorem d_Rn_checkBehind_21 : decode b_Rn_checkBehind 21 = .ok (.getfield 101, 3) := by decide +kernel
theorem d_Rn_checkBehind_24 : decode b_Rn_checkBehind 24 = .ok (.caload, 1) := by decide +kernel
theorem d_Rn_checkBehind_25 : decode b_Rn_checkBehind 25 = .ok (.istore_n 2, 1) := by decide +kernel
theorem d_Rn_checkBehind_26 : decode b_Rn_checkBehind 26 = .ok (.iload_n 2, 1) := by decide +kernel
theorem d_Rn_checkBehind_27 : decode b_Rn_checkBehind 27 = .ok (.bipush 32, 2) := by decide +kernel
theorem d_Rn_checkBehind_29 : decode b_Rn_checkBehind 29 = .ok (.if_icmp .eq 11, 3) := by decide +kernel
theorem d_Rn_checkBehind_32 : decode b_Rn_checkBehind 32 = .ok (.aload_n 1, 1) := by decide +kernel
theorem d_Rn_checkBehind_33 : decode b_Rn_checkBehind 33 = .ok (.iload_n 2, 1) := by decide +kernel
theorem d_Rn_checkBehind_34 : decode b_Rn_checkBehind 34 = .ok (.invokevirtual 107, 3) := by decide +kernel
theorem d_Rn_checkBehind_37 : decode b_Rn_checkBehind 37 = .ok (.ifCond .eq 7, 3) := by decide +kernel
theorem d_Rn_checkBehind_40 : decode b_Rn_checkBehind 40 = .ok (.iconst 0, 1) := by decide +kernel
theorem d_Rn_checkBehind_41 : decode b_Rn_checkBehind 41 = .ok (.goto 8, 3) := by decide +kernel
theorem d_Rn_checkBehind_44 : decode b_Rn_checkBehind 44 = .ok (.aload_n 0, 1) := by decide +kernel
theorem d_Rn_checkBehind_45 : decode b_Rn_checkBehind 45 = .ok (.iconst 1, 1) := by decide +kernel
theorem d_Rn_checkBehind_46 : decode b_Rn_checkBehind 46 = .ok (.invokevirtual 64, 3) := by decide +kernel
theorem d_Rn_checkBehind_49 : decode b_Rn_checkBehind 49 = .ok (.ireturn, 1) := by decide +kernel
theorem d_Rn_checkCommand_0 : decode b_Rn_checkCommand 0 = .ok (.aload_n 0, 1) := by decide +kernel
theorem d_Rn_checkCommand_1 : decode b_Rn_checkCommand 1 = .ok (.invokevirtual 163, 3) := by decide +kernel
theorem d_Rn_checkCommand_4 : decode b_Rn_checkCommand 4 = .ok (.ifCond .ne 8, 3) := by decide +kernel
theorem d_Rn_checkCommand_7 : decode b_Rn_checkCommand 7 = .ok (.aload_n 0, 1) := by decide +kernel
theorem d_Rn_checkCommand_8 : decode b_Rn_checkCommand 8 = .ok (.invokevirtual 167, 3) := by decide +kernel
theorem d_Rn_checkCommand_11 : decode b_Rn_checkCommand 11 = .ok (.ireturn, 1) := by decide +kernel
theorem d_Rn_checkCommand_12 : decode b_Rn_checkCommand 12 = .ok (.aload_n 1, 1) := by decide +kernel
theorem d_Rn_checkCommand_13 : decode b_Rn_checkCommand 13 = .ok (.getfield 145, 3) := by decide +kernel
theorem d_Rn_checkCommand_16 : decode b_Rn_checkCommand 16 = .ok (.iconst 0, 1) := by decide +kernel
theorem d_Rn_checkCommand_17 : decode b_Rn_checkCommand 17 = .ok (.invokevirtual 171, 3) := by decide +kernel
theorem d_Rn_checkCommand_20 : decode b_Rn_checkCommand 20 = .ok (.istore_n 2, 1) := by decide +kernel
theorem d_Rn_checkCommand_21 : decode b_Rn_checkCommand 21 = .ok (.aload_n 0, 1) := by decide +kernel
theorem d_Rn_checkCommand_22 : decode b_Rn_checkCommand 22 = .ok (.iload_n 2, 1) := by decide +kernel
theorem d_Rn_checkCommand_23 : decode b_Rn_checkCommand 23 = .ok (.invokevirtual 174, 3) := by decide +kernel
theorem d_Rn_checkCommand_26 : decode b_Rn_checkCommand 26 = .ok (.ifCond .ne 9, 3) := by decide +kernel
theorem d_Rn_checkCommand_29 : decode b_Rn_checkCommand 29 = .ok (.aload_n 0, 1) := by decide +kernel
theorem d_Rn_checkCommand_30 : decode b_Rn_checkCommand 30 = .ok (.iconst 2, 1) := by decide +kernel
theorem d_Rn_checkCommand_31 : decode b_Rn_checkCommand 31 = .ok (.invokevirtual 64, 3) := by decide +kernel
theorem d_Rn_checkCommand_34 : decode b_Rn_checkCommand 34 = .ok (.ireturn, 1) := by decide +kernel
theorem d_Rn_checkCommand_35 : decode b_Rn_checkCommand 35 = .ok (.iload_n 2, 1) := by decide +kernel
theorem d_Rn_checkCommand_36 : decode b_Rn_checkCommand 36 = .ok (.aload_n 1, 1) := by decide +kernel
theorem d_Rn_checkCommand_37 : decode b_Rn_checkCommand 37 = .ok (.getfield 83, 3) := by decide +kernel
theorem d_Rn_checkCommand_40 : decode b_Rn_checkCommand 40 = .ok (.invokestatic 177, 3) := by decide +kernel
theorem d_Rn_checkCommand_43 : decode b_Rn_checkCommand 43 = .ok (.astore_n 3, 1) := by decide +kernel
theorem d_Rn_checkCommand_44 : decode b_Rn_checkCommand 44 = .ok (.aload_n 1, 1) := by decide +kernel
theorem d_Rn_checkCommand_45 : decode b_Rn_checkCommand 45 = .ok (.getfield 83, 3) := by decide +kernel
theorem d_Rn_checkCommand_48 : decode b_Rn_checkCommand 48 = .ok (.aload_n 3, 1) := by decide +kernel
theorem d_Rn_checkCommand_49 : decode b_Rn_checkCommand 49 = .ok (.invokevirtual 181, 3) := by decide +kernel
theorem d_Rn_checkCommand_52 : decode b_Rn_checkCommand 52 = .ok (.iconst 1, 1) := by decide +kernel
theorem d_Rn_checkCommand_53 : decode b_Rn_checkCommand 53 = .ok (.iadd, 1) := by decide +kernel
theorem d_Rn_checkCommand_54 : decode b_Rn_checkCommand 54 = .ok (.if_icmp .eq 9, 3) := by decide +kernel
theorem d_Rn_checkCommand_57 : decode b_Rn_checkCommand 57 = .ok (.aload_n 0, 1) := by decide +kernel
theorem d_Rn_checkCommand_58 : decode b_Rn_checkCommand 58 = .ok (.iconst 3, 1) := by decide +kernel
theorem d_Rn_checkCommand_59 : decode b_Rn_checkCommand 59 = .ok (.invokevirtual 64, 3) := by decide +kernel
theorem d_Rn_checkCommand_62 : decode b_Rn_checkCommand 62 = .ok (.ireturn, 1) := by decide +kernel
theorem d_Rn_checkCommand_63 : decode b_Rn_checkCommand 63 = .ok (.iconst 1, 1) := by decide +kernel
theorem d_Rn_checkCommand_64 : decode b_Rn_checkCommand 64 = .ok (.istore 4, 2) := by decide +kernel
theorem d_Rn_checkCommand_66 : decode b_Rn_checkCommand 66 = .ok (.iload 4, 2) := by decide +kernel
theorem d_Rn_checkCommand_68 : decode b_Rn_checkCommand 68 = .ok (.aload_n 1, 1) := by decide +kernel
theorem d_Rn_checkCommand_69 : decode b_Rn_checkCommand 69 = .ok (.getfield 83, 3) := by decide +kernel
theorem d_Rn_checkCommand_72 : decode b_Rn_checkCommand 72 = .ok (.if_icmp .ge 48, 3) := by decide +kernel
theorem d_Rn_checkCommand_75 : decode b_Rn_checkCommand 75 = .ok (.aload_n 3, 1) := by decide +kernel
theorem d_Rn_checkCommand_76 : decode b_Rn_checkCommand 76 = .ok (.iload 4, 2) := by decide +kernel
theorem d_Rn_checkCommand_78 : decode b_Rn_checkCommand 78 = .ok (.iconst 1, 1) := by decide +kernel
theorem d_Rn_checkCommand_79 : decode b_Rn_checkCommand 79 = .ok (.isub, 1) := by decide +kernel
theorem d_Rn_checkCommand_80 : decode b_Rn_checkCommand 80 = .ok (.invokevirtual 186, 3) := by decide +kernel
theorem d_Rn_checkCommand_83 : decode b_Rn_checkCommand 83 = .ok (.istore 5, 2) := by decide +kernel
theorem d_Rn_checkCommand_85 : decode b_Rn_checkCommand 85 = .ok (.iload 5, 2) := by decide +kernel
theorem d_Rn_checkCommand_87 : decode b_Rn_checkCommand 87 = .ok (.bipush 119, 2) := by decide +kernel
theorem d_Rn_checkCommand_89 : decode b_Rn_checkCommand 89 = .ok (.if_icmp .eq 10, 3) := by decide +kernel
theorem d_Rn_checkCommand_92 : decode b_Rn_checkCommand 92 = .ok (.iload 5, 2) := by decide +kernel
theorem d_Rn_checkCommand_94 : decode b_Rn_checkCommand 94 = .ok (.bipush 99, 2) := by decide +kernel
theorem d_Rn_checkCommand_96 : decode b_Rn_checkCommand 96 = .ok (.if_icmp .ne 18, 3) := by decide +kernel
theorem d_Rn_checkCommand_99 : decode b_Rn_checkCommand 99 = .ok (.aload_n 1, 1) := by decide +kernel
theorem d_Rn_checkCommand_100 : decode b_Rn_checkCommand 100 = .ok (.iload 4, 2) := by decide +kernel
theorem d_Rn_checkCommand_102 : decode b_Rn_checkCommand 102 = .ok (.invokevirtual 190, 3) := by decide +kernel
theorem d_Rn_checkCommand_105 : decode b_Rn_checkCommand 105 = .ok (.ifCond .ne 9, 3) := by decide +kernel
theorem d_Rn_checkCommand_108 : decode b_Rn_checkCommand 108 = .ok (.aload_n 0, 1) := by decide +kernel
theorem d_Rn_checkCommand_109 : decode b_Rn_checkCommand 109 = .ok (.iconst 3, 1) := by decide +kernel
theorem d_Rn_checkCommand_110 : decode b_Rn_checkCommand 110 = .ok (.invokevirtual 64, 3) := by decide +kernel
theorem d_Rn_checkCommand_113 : decode b_Rn_checkCommand 113 = .ok (.ireturn, 1) := by decide +kernel
theorem d_Rn_checkCommand_114 : decode b_Rn_checkCommand 114 = .ok (.iinc 4 1, 3) := by decide +kernel
theorem d_Rn_checkCommand_117 : decode b_Rn_checkCommand 117 = .ok (.goto (-51), 3) := by decide +kernel
theorem d_Rn_checkCommand_120 : decode b_Rn_checkCommand 120 = .ok (.iconst 1, 1) := by decide +kernel
theorem d_Rn_checkCommand_121 : decode b_Rn_checkCommand 121 = .ok (.istore 4, 2) := by decide +kernel
theorem d_Rn_checkCommand_123 : decode b_Rn_checkCommand 123 = .ok (.iload 4, 2) := by decide +kernel
theorem d_Rn_checkCommand_125 : decode b_Rn_checkCommand 125 = .ok (.aload_n 1, 1) := by decide +kernel
theorem d_Rn_checkCommand_126 : decode b_Rn_checkCommand 126 = .ok (.getfield 83, 3) := by decide +kernel
theorem d_Rn_checkCommand_129 : decode b_Rn_checkCommand 129 = .ok (.if_icmp .ge 40, 3) := by decide +kernel
theorem d_Rn_checkCommand_132 : decode b_Rn_checkCommand 132 = .ok (.aload_n 1, 1) := by decide +kernel
theorem d_Rn_checkCommand_133 : decode b_Rn_checkCommand 133 = .ok (.getfield 145, 3) := by decide +kernel
theorem d_Rn_checkCommand_136 : decode b_Rn_checkCommand 136 = .ok (.iload 4, 2) := by decide +kernel
theorem d_Rn_checkCommand_138 : decode b_Rn_checkCommand 138 = .ok (.aload_n 3, 1) := by decide +kernel
theorem d_Rn_checkCommand_139 : decode b_Rn_checkCommand 139 = .ok (.iload 4, 2) := by decide +kernel
theorem d_Rn_checkCommand_141 : decode b_Rn_checkCommand 141 = .ok (.iconst 1, 1) := by decide +kernel
theorem d_Rn_checkCommand_142 : decode b_Rn_checkCommand 142 = .ok (.isub, 1) := by decide +kernel
theorem d_Rn_checkCommand_143 : decode b_Rn_checkCommand 143 = .ok (.invokevirtual 186, 3) := by decide +kernel
theorem d_Rn_checkCommand_146 : decode b_Rn_checkCommand 146 = .ok (.invokestatic 193, 3) := by decide +kernel
theorem d_Rn_checkCommand_149 : decode b_Rn_checkCommand 149 = .ok (.istore 5, 2) := by decide +kernel
theorem d_Rn_checkCommand_151 : decode b_Rn_checkCommand 151 = .ok (.iload 5, 2) := by decide +kernel
theorem d_Rn_checkCommand_153 : decode b_Rn_checkCommand 153 = .ok (.ifCond .eq 10, 3) := by decide +kernel
theorem d_Rn_checkCommand_156 : decode b_Rn_checkCommand 156 = .ok (.aload_n 0, 1) := by decide +kernel
theorem d_Rn_checkCommand_157 : decode b_Rn_checkCommand 157 = .ok (.iload 5, 2) := by decide +kernel
theorem d_Rn_checkCommand_159 : decode b_Rn_checkCommand 159 = .ok (.invokevirtual 64, 3) := by decide +kernel
theorem d_Rn_checkCommand_162 : decode b_Rn_checkCommand 162 = .ok (.ireturn, 1) := by decide +kernel
theorem d_Rn_checkCommand_163 : decode b_Rn_checkCommand 163 = .ok (.iinc 4 1, 3) := by decide +kernel
theorem d_Rn_checkCommand_166 : decode b_Rn_checkCommand 166 = .ok (.goto (-43), 3) := by decide +kernel
theorem d_Rn_checkCommand_169 : decode b_Rn_checkCommand 169 = .ok (.iconst 0, 1) := by decide +kernel
theorem d_Rn_checkCommand_170 : decode b_Rn_checkCommand 170 = .ok (.ireturn, 1) := by decide +kernel
theorem d_Rn_choose_0 : decode b_Rn_choose 0 = .ok (.aload_n 0, 1) := by decide +kernel
theorem d_Rn_choose_1 : decode b_Rn_choose 1 = .ok (.getfield 59, 3) := by decide +kernel
theorem d_Rn_choose_4 : decode b_Rn_choose 4 = .ok (.aload_n 1, 1) := by decide +kernel
theorem d_Rn_choose_5 : decode b_Rn_choose 5 = .ok (.iconst 1, 1) := by decide +kernel
theorem d_Rn_choose_6 : decode b_Rn_choose 6 = .ok (.invokevirtual 264, 3) := by decide +kernel
theorem d_Rn_choose_9 : decode b_Rn_choose 9 = .ok (.aload_n 1, 1) := by decide +kernel
theorem d_Rn_choose_10 : decode b_Rn_choose 10 = .ok (.iconst 1, 1) := by decide +kernel
theorem d_Rn_choose_11 : decode b_Rn_choose 11 = .ok (.invokevirtual 267, 3) := by decide +kernel
theorem d_Rn_choose_14 : decode b_Rn_choose 14 = .ok (.aload_n 1, 1) := by decide +kernel
theorem d_Rn_choose_15 : decode b_Rn_choose 15 = .ok (.getfield 138, 3) := by decide +kernel
theorem d_Rn_choose_18 : decode b_Rn_choose 18 = .ok (.invokevirtual 300, 3) := by decide +kernel
theorem d_Rn_choose_21 : decode b_Rn_choose 21 = .ok (.istore_n 3, 1) := by decide +kernel
theorem d_Rn_choose_22 : decode b_Rn_choose 22 = .ok (.iload_n 3, 1) := by decide +kernel
theorem d_Rn_choose_23 : decode b_Rn_choose 23 = .ok (.ifCond .eq 9, 3) := by decide +kernel
theorem d_Rn_choose_26 : decode b_Rn_choose 26 = .ok (.aload_n 0, 1) := by decide +kernel
theorem d_Rn_choose_27 : decode b_Rn_choose 27 = .ok (.iload_n 3, 1) := by decide +kernel
theorem d_Rn_choose_28 : decode b_Rn_choose 28 = .ok (.invokevirtual 64, 3) := by decide +kernel
theorem d_Rn_choose_31 : decode b_Rn_choose 31 = .ok (.ireturn, 1) := by decide +kernel
theorem d_Rn_choose_32 : decode b_Rn_choose 32 = .ok (.aload_n 0, 1) := by decide +kernel
theorem d_Rn_choose_33 : decode b_Rn_choose 33 = .ok (.getfield 59, 3) := by decide +kernel
theorem d_Rn_choose_36 : decode b_Rn_choose 36 = .ok (.getfield 304, 3) := by decide +kernel
theorem d_Rn_choose_39 : decode b_Rn_choose 39 = .ok (.ifCond .eq 7, 3) := by decide +kernel
theorem d_Rn_choose_42 : decode b_Rn_choose 42 = .ok (.iconst 2, 1) := by decide +kernel
theorem d_Rn_choose_43 : decode b_Rn_choose 43 = .ok (.goto 4, 3) := by decide +kernel
theorem d_Rn_choose_46 : decode b_Rn_choose 46 = .ok (.iconst 3, 1) := by decide +kernel
theorem d_Rn_choose_47 : decode b_Rn_choose 47 = .ok (.istore 4, 2) := by decide +kernel
theorem d_Rn_choose_49 : decode b_Rn_choose 49 = .ok (.iload 4, 2) := by decide +kernel
theorem d_Rn_choose_51 : decode b_Rn_choose 51 = .ok (.aload_n 1, 1) := by decide +kernel
theorem d_Rn_choose_52 : decode b_Rn_choose 52 = .ok (.getfield 83, 3) := by decide +kernel
theorem d_Rn_choose_55 : decode b_Rn_choose 55 = .ok (.if_icmp .ge 14, 3) := by decide +kernel
theorem d_Rn_choose_58 : decode b_Rn_choose 58 = .ok (.aload_n 0, 1) := by decide +kernel
theorem d_Rn_choose_59 : decode b_Rn_choose 59 = .ok (.aload_n 1, 1) := by decide +kernel
theorem d_Rn_choose_60 : decode b_Rn_choose 60 = .ok (.iload 4, 2) := by decide +kernel
theorem d_Rn_choose_62 : decode b_Rn_choose 62 = .ok (.iload_n 2, 1) := by decide +kernel
theorem d_Rn_choose_63 : decode b_Rn_choose 63 = .ok (.invokevirtual 307, 3) := by decide +kernel
theorem d_Rn_choose_66 : decode b_Rn_choose 66 = .ok (.goto 4, 3) := by decide +kernel
theorem d_Rn_choose_69 : decode b_Rn_choose 69 = .ok (.iconst 0, 1) := by decide +kernel
theorem d_Rn_choose_70 : decode b_Rn_choose 70 = .ok (.ireturn, 1) := by decide +kernel
theorem d_Rn_doCommand_0 : decode b_Rn_doCommand 0 = .ok (.aload_n 1, 1) := by decide +kernel
theorem d_Rn_doCommand_1 : decode b_Rn_doCommand 1 = .ok (.getfield 145, 3) := by decide +kernel
theorem d_Rn_doCommand_4 : decode b_Rn_doCommand 4 = .ok (.astore_n 3, 1) := by decide +kernel
theorem d_Rn_doCommand_5 : decode b_Rn_doCommand 5 = .ok (.aload_n 3, 1) := by decide +kernel
theorem d_Rn_doCommand_6 : decode b_Rn_doCommand 6 = .ok (.iconst 0, 1) := by decide +kernel
theorem d_Rn_doCommand_7 : decode b_Rn_doCommand 7 = .ok (.invokevirtual 171, 3) := by decide +kernel
theorem d_Rn_doCommand_10 : decode b_Rn_doCommand 10 = .ok (.istore 4, 2) := by decide +kernel
theorem d_Rn_doCommand_12 : decode b_Rn_doCommand 12 = .ok (.aload_n 0, 1) := by decide +kernel
theorem d_Rn_doCommand_13 : decode b_Rn_doCommand 13 = .ok (.getfield 36, 3) := by decide +kernel
theorem d_Rn_doCommand_16 : decode b_Rn_doCommand 16 = .ok (.iconst 0, 1) := by decide +kernel
theorem d_Rn_doCommand_17 : decode b_Rn_doCommand 17 = .ok (.invokevirtual 72, 3) := by decide +kernel
theorem d_Rn_doCommand_20 : decode b_Rn_doCommand 20 = .ok (.iload 4, 2) := by decide +kernel
theorem d_Rn_doCommand_22 : decode b_Rn_doCommand 22 = .ok (.lookupswitch 331 #[(42, 203), (60, 324), (62, 301), (63, 196), (98, 278), (99, 280), (101, 150), (103, 245), (105, 144), (107, 294), (108, 156), (109, 171), (112, 210), (114, 266), (115, 138), (120, 282)], 138) := by decide +kernel
theorem d_Rn_doCommand_160 : decode b_Rn_doCommand 160 = .ok (.aload_n 0, 1) := by decide +kernel
theorem d_Rn_doCommand_161 : decode b_Rn_doCommand 161 = .ok (.aload_n 1, 1) := by decide +kernel
theorem d_Rn_doCommand_162 : decode b_Rn_doCommand 162 = .ok (.invokevirtual 241, 3) := by decide +kernel
theorem d_Rn_doCommand_165 : decode b_Rn_doCommand 165 = .ok (.ireturn, 1) := by decide +kernel
theorem d_Rn_doCommand_166 : decode b_Rn_doCommand 166 = .ok (.aload_n 0, 1) := by decide +kernel
theorem d_Rn_doCommand_167 : decode b_Rn_doCommand 167 = .ok (.aload_n 1, 1) := by decide +kernel
theorem d_Rn_doCommand_168 : decode b_Rn_doCommand 168 = .ok (.invokevirtual 244, 3) := by decide +kernel
theorem d_Rn_doCommand_171 : decode b_Rn_doCommand 171 = .ok (.ireturn, 1) := by decide +kernel
theorem d_Rn_doCommand_172 : decode b_Rn_doCommand 172 = .ok (.aload_n 0, 1) := by decide +kernel
theorem d_Rn_doCommand_173 : decode b_Rn_doCommand 173 = .ok (.aload_n 1, 1) := by decide +kernel
theorem d_Rn_doCommand_174 : decode b_Rn_doCommand 174 = .ok (.invokevirtual 247, 3) := by decide +kernel
theorem d_Rn_doCommand_177 : decode b_Rn_doCommand 177 = .ok (.ireturn, 1) := by decide +kernel
theorem d_Rn_doCommand_178 : decode b_Rn_doCommand 178 = .ok (.aload_n 0, 1) := by decide +kernel
theorem d_Rn_doCommand_179 : decode b_Rn_doCommand 179 = .ok (.getfield 36, 3) := by decide +kernel
theorem d_Rn_doCommand_182 : decode b_Rn_doCommand 182 = .ok (.iconst 0, 1) := by decide +kernel
theorem d_Rn_doCommand_183 : decode b_Rn_doCommand 183 = .ok (.aload_n 3, 1) := by decide +kernel
theorem d_Rn_doCommand_184 : decode b_Rn_doCommand 184 = .ok (.iconst 1, 1) := by decide +kernel
theorem d_Rn_doCommand_185 : decode b_Rn_doCommand 185 = .ok (.invokevirtual 160, 3) := by decide +kernel
theorem d_Rn_doCommand_188 : decode b_Rn_doCommand 188 = .ok (.invokevirtual 250, 3) := by decide +kernel
theorem d_Rn_doCommand_191 : decode b_Rn_doCommand 191 = .ok (.iconst 0, 1) := by decide +kernel
theorem d_Rn_doCommand_192 : decode b_Rn_doCommand 192 = .ok (.ireturn, 1) := by decide +kernel
theorem d_Rn_doCommand_193 : decode b_Rn_doCommand 193 = .ok (.aload_n 0, 1) := by decide +kernel
theorem d_Rn_doCommand_194 : decode b_Rn_doCommand 194 = .ok (.getfield 36, 3) := by decide +kernel
theorem d_Rn_doCommand_197 : decode b_Rn_doCommand 197 = .ok (.iconst 0, 1) := by decide +kernel
theorem d_Rn_doCommand_198 : decode b_Rn_doCommand 198 = .ok (.aload_n 3, 1) := by decide +kernel
theorem d_Rn_doCommand_199 : decode b_Rn_doCommand 199 = .ok (.iconst 2, 1) := by decide +kernel
theorem d_Rn_doCommand_200 : decode b_Rn_doCommand 200 = .ok (.aload_n 3, 1) := by decide +kernel
theorem d_Rn_doCommand_201 : decode b_Rn_doCommand 201 = .ok (.iconst 1, 1) := by decide +kernel
theorem d_Rn_doCommand_202 : decode b_Rn_doCommand 202 = .ok (.invokevirtual 254, 3) := by decide +kernel
theorem d_Rn_doCommand_205 : decode b_Rn_doCommand 205 = .ok (.aload_n 3, 1) := by decide +kernel
theorem d_Rn_doCommand_206 : decode b_Rn_doCommand 206 = .ok (.iconst 2, 1) := by decide +kernel
theorem d_Rn_doCommand_207 : decode b_Rn_doCommand 207 = .ok (.invokevirtual 160, 3) := by decide +kernel
theorem d_Rn_doCommand_210 : decode b_Rn_doCommand 210 = .ok (.ishr, 1) := by decide +kernel
theorem d_Rn_doCommand_211 : decode b_Rn_doCommand 211 = .ok (.iconst 1, 1) := by decide +kernel
theorem d_Rn_doCommand_212 : decode b_Rn_doCommand 212 = .ok (.iand, 1) := by decide +kernel
theorem d_Rn_doCommand_213 : decode b_Rn_doCommand 213 = .ok (.invokevirtual 250, 3) := by decide +kernel
theorem d_Rn_doCommand_216 : decode b_Rn_doCommand 216 = .ok (.iconst 0, 1) := by decide +kernel
theorem d_Rn_doCommand_217 : decode b_Rn_doCommand 217 = .ok (.ireturn, 1) := by decide +kernel
theorem d_Rn_doCommand_218 : decode b_Rn_doCommand 218 = .ok (.aload_n 0, 1) := by decide +kernel
theorem d_Rn_doCommand_219 : decode b_Rn_doCommand 219 = .ok (.aload_n 1, 1) := by decide +kernel
theorem d_Rn_doCommand_220 : decode b_Rn_doCommand 220 = .ok (.iload_n 2, 1) := by decide +kernel
theorem d_Rn_doCommand_221 : decode b_Rn_doCommand 221 = .ok (.invokevirtual 258, 3) := by decide +kernel
theorem d_Rn_doCommand_224 : decode b_Rn_doCommand 224 = .ok (.ireturn, 1) := by decide +kernel
theorem d_Rn_doCommand_225 : decode b_Rn_doCommand 225 = .ok (.aload_n 0, 1) := by decide +kernel
theorem d_Rn_doCommand_226 : decode b_Rn_doCommand 226 = .ok (.aload_n 1, 1) := by decide +kernel
theorem d_Rn_doCommand_227 : decode b_Rn_doCommand 227 = .ok (.iload_n 2, 1) := by decide +kernel
theorem d_Rn_doCommand_228 : decode b_Rn_doCommand 228 = .ok (.invokevirtual 261, 3) := by decide +kernel
theorem d_Rn_doCommand_231 : decode b_Rn_doCommand 231 = .ok (.ireturn, 1) := by decide +kernel
theorem d_Rn_doCommand_232 : decode b_Rn_doCommand 232 = .ok (.aload_n 0, 1) := by decide +kernel
theorem d_Rn_doCommand_233 : decode b_Rn_doCommand 233 = .ok (.getfield 21, 3) := by decide +kernel
theorem d_Rn_doCommand_236 : decode b_Rn_doCommand 236 = .ok (.aload_n 3, 1) := by decide +kernel
theorem d_Rn_doCommand_237 : decode b_Rn_doCommand 237 = .ok (.iconst 1, 1) := by decide +kernel
theorem d_Rn_doCommand_238 : decode b_Rn_doCommand 238 = .ok (.invokevirtual 171, 3) := by decide +kernel
theorem d_Rn_doCommand_241 : decode b_Rn_doCommand 241 = .ok (.bipush 65, 2) := by decide +kernel
theorem d_Rn_doCommand_243 : decode b_Rn_doCommand 243 = .ok (.isub, 1) := by decide +kernel
theorem d_Rn_doCommand_244 : decode b_Rn_doCommand 244 = .ok (.aload_n 3, 1) := by decide +kernel
theorem d_Rn_doCommand_245 : decode b_Rn_doCommand 245 = .ok (.iconst 2, 1) := by decide +kernel
theorem d_Rn_doCommand_246 : decode b_Rn_doCommand 246 = .ok (.invokevirtual 171, 3) := by decide +kernel
theorem d_Rn_doCommand_249 : decode b_Rn_doCommand 249 = .ok (.bipush 97, 2) := by decide +kernel
theorem d_Rn_doCommand_251 : decode b_Rn_doCommand 251 = .ok (.isub, 1) := by decide +kernel
theorem d_Rn_doCommand_252 : decode b_Rn_doCommand 252 = .ok (.aload_n 1, 1) := by decide +kernel
theorem d_Rn_doCommand_253 : decode b_Rn_doCommand 253 = .ok (.iconst 3, 1) := by decide +kernel
theorem d_Rn_doCommand_254 : decode b_Rn_doCommand 254 = .ok (.invokevirtual 264, 3) := by decide +kernel
theorem d_Rn_doCommand_257 : decode b_Rn_doCommand 257 = .ok (.aload_n 1, 1) := by decide +kernel
theorem d_Rn_doCommand_258 : decode b_Rn_doCommand 258 = .ok (.iconst 3, 1) := by decide +kernel
theorem d_Rn_doCommand_259 : decode b_Rn_doCommand 259 = .ok (.invokevirtual 267, 3) := by decide +kernel
theorem d_Rn_doCommand_262 : decode b_Rn_doCommand 262 = .ok (.invokevirtual 270, 3) := by decide +kernel
theorem d_Rn_doCommand_265 : decode b_Rn_doCommand 265 = .ok (.iconst 0, 1) := by decide +kernel
theorem d_Rn_doCommand_266 : decode b_Rn_doCommand 266 = .ok (.ireturn, 1) := by decide +kernel
theorem d_Rn_doCommand_267 : decode b_Rn_doCommand 267 = .ok (.aload_n 0, 1) := by decide +kernel
theorem d_Rn_doCommand_268 : decode b_Rn_doCommand 268 = .ok (.getfield 12, 3) := by decide +kernel
theorem d_Rn_doCommand_271 : decode b_Rn_doCommand 271 = .ok (.aload_n 1, 1) := by decide +kernel
theorem d_Rn_doCommand_272 : decode b_Rn_doCommand 272 = .ok (.getfield 138, 3) := by decide +kernel
theorem d_Rn_doCommand_275 : decode b_Rn_doCommand 275 = .ok (.aload_n 3, 1) := by decide +kernel
theorem d_Rn_doCommand_276 : decode b_Rn_doCommand 276 = .ok (.iconst 1, 1) := by decide +kernel
theorem d_Rn_doCommand_277 : decode b_Rn_doCommand 277 = .ok (.invokevirtual 171, 3) := by decide +kernel
theorem d_Rn_doCommand_280 : decode b_Rn_doCommand 280 = .ok (.bipush 97, 2) := by decide +kernel
theorem d_Rn_doCommand_282 : decode b_Rn_doCommand 282 = .ok (.isub, 1) := by decide +kernel
theorem d_Rn_doCommand_283 : decode b_Rn_doCommand 283 = .ok (.invokevirtual 274, 3) := by decide +kernel
theorem d_Rn_doCommand_286 : decode b_Rn_doCommand 286 = .ok (.iconst 0, 1) := by decide +kernel
theorem d_Rn_doCommand_287 : decode b_Rn_doCommand 287 = .ok (.ireturn, 1) := by decide +kernel
theorem d_Rn_doCommand_288 : decode b_Rn_doCommand 288 = .ok (.aload_n 0, 1) := by decide +kernel
theorem d_Rn_doCommand_289 : decode b_Rn_doCommand 289 = .ok (.getfield 36, 3) := by decide +kernel
theorem d_Rn_doCommand_292 : decode b_Rn_doCommand 292 = .ok (.iconst 0, 1) := by decide +kernel
theorem d_Rn_doCommand_293 : decode b_Rn_doCommand 293 = .ok (.aload_n 3, 1) := by decide +kernel
theorem d_Rn_doCommand_294 : decode b_Rn_doCommand 294 = .ok (.iconst 1, 1) := by decide +kernel
theorem d_Rn_doCommand_295 : decode b_Rn_doCommand 295 = .ok (.invokevirtual 277, 3) := by decide +kernel
theorem d_Rn_doCommand_298 : decode b_Rn_doCommand 298 = .ok (.iconst 2, 1) := by decide +kernel
theorem d_Rn_doCommand_299 : decode b_Rn_doCommand 299 = .ok (.ireturn, 1) := by decide +kernel
theorem d_Rn_doCommand_300 : decode b_Rn_doCommand 300 = .ok (.iconst 3, 1) := by decide +kernel
theorem d_Rn_doCommand_301 : decode b_Rn_doCommand 301 = .ok (.ireturn, 1) := by decide +kernel
theorem d_Rn_doCommand_302 : decode b_Rn_doCommand 302 = .ok (.iconst 4, 1) := by decide +kernel
theorem d_Rn_doCommand_303 : decode b_Rn_doCommand 303 = .ok (.ireturn, 1) := by decide +kernel
theorem d_Rn_doCommand_304 : decode b_Rn_doCommand 304 = .ok (.aload_n 0, 1) := by decide +kernel
theorem d_Rn_doCommand_305 : decode b_Rn_doCommand 305 = .ok (.getfield 36, 3) := by decide +kernel
theorem d_Rn_doCommand_308 : decode b_Rn_doCommand 308 = .ok (.iconst 0, 1) := by decide +kernel
theorem d_Rn_doCommand_309 : decode b_Rn_doCommand 309 = .ok (.aload_n 3, 1) := by decide +kernel
theorem d_Rn_doCommand_310 : decode b_Rn_doCommand 310 = .ok (.iconst 1, 1) := by decide +kernel
theorem d_Rn_doCommand_311 : decode b_Rn_doCommand 311 = .ok (.invokevirtual 277, 3) := by decide +kernel
theorem d_Rn_doCommand_314 : decode b_Rn_doCommand 314 = .ok (.iconst 1, 1) := by decide +kernel
theorem d_Rn_doCommand_315 : decode b_Rn_doCommand 315 = .ok (.ireturn, 1) := by decide +kernel
theorem d_Rn_doCommand_316 : decode b_Rn_doCommand 316 = .ok (.aload_n 0, 1) := by decide +kernel
theorem d_Rn_doCommand_317 : decode b_Rn_doCommand 317 = .ok (.aload_n 1, 1) := by decide +kernel
theorem d_Rn_doCommand_318 : decode b_Rn_doCommand 318 = .ok (.iload_n 2, 1) := by decide +kernel
theorem d_Rn_doCommand_319 : decode b_Rn_doCommand 319 = .ok (.invokevirtual 281, 3) := by decide +kernel
theorem d_Rn_doCommand_322 : decode b_Rn_doCommand 322 = .ok (.ireturn, 1) := by decide +kernel
theorem d_Rn_doCommand_323 : decode b_Rn_doCommand 323 = .ok (.aload_n 0, 1) := by decide +kernel
theorem d_Rn_doCommand_324 : decode b_Rn_doCommand 324 = .ok (.getfield 44, 3) := by decide +kernel
theorem d_Rn_doCommand_327 : decode b_Rn_doCommand 327 = .ok (.aload_n 3, 1) := by decide +kernel
theorem d_Rn_doCommand_328 : decode b_Rn_doCommand 328 = .ok (.iconst 1, 1) := by decide +kernel
theorem d_Rn_doCommand_329 : decode b_Rn_doCommand 329 = .ok (.invokevirtual 284, 3) := by decide +kernel
theorem d_Rn_doCommand_332 : decode b_Rn_doCommand 332 = .ok (.ifCond .eq 7, 3) := by decide +kernel
theorem d_Rn_doCommand_335 : decode b_Rn_doCommand 335 = .ok (.iconst 0, 1) := by decide +kernel
theorem d_Rn_doCommand_336 : decode b_Rn_doCommand 336 = .ok (.goto 9, 3) := by decide +kernel
theorem d_Rn_doCommand_339 : decode b_Rn_doCommand 339 = .ok (.aload_n 0, 1) := by decide +kernel
theorem d_Rn_doCommand_340 : decode b_Rn_doCommand 340 = .ok (.bipush 7, 2) := by decide +kernel
theorem d_Rn_doCommand_342 : decode b_Rn_doCommand 342 = .ok (.invokevirtual 64, 3) := by decide +kernel
theorem d_Rn_doCommand_345 : decode b_Rn_doCommand 345 = .ok (.ireturn, 1) := by decide +kernel
theorem d_Rn_doCommand_346 : decode b_Rn_doCommand 346 = .ok (.aload_n 0, 1) := by decide +kernel
theorem d_Rn_doCommand_347 : decode b_Rn_doCommand 347 = .ok (.aload_n 1, 1) := by decide +kernel
theorem d_Rn_doCommand_348 : decode b_Rn_doCommand 348 = .ok (.iload_n 2, 1) := by decide +kernel
theorem d_Rn_doCommand_349 : decode b_Rn_doCommand 349 = .ok (.invokevirtual 290, 3) := by decide +kernel
theorem d_Rn_doCommand_352 : decode b_Rn_doCommand 352 = .ok (.ireturn, 1) := by decide +kernel
theorem d_Rn_doCommand_353 : decode b_Rn_doCommand 353 = .ok (.aload_n 0, 1) := by decide +kernel
theorem d_Rn_doCommand_354 : decode b_Rn_doCommand 354 = .ok (.aload_n 1, 1) := by decide +kernel
theorem d_Rn_doCommand_355 : decode b_Rn_doCommand 355 = .ok (.iload_n 2, 1) := by decide +kernel
theorem d_Rn_doCommand_356 : decode b_Rn_doCommand 356 = .ok (.iload 4, 2) := by decide +kernel
theorem d_Rn_doCommand_358 : decode b_Rn_doCommand 358 = .ok (.bipush 65, 2) := by decide +kernel
theorem d_Rn_doCommand_360 : decode b_Rn_doCommand 360 = .ok (.isub, 1) := by decide +kernel
theorem d_Rn_doCommand_361 : decode b_Rn_doCommand 361 = .ok (.invokevirtual 293, 3) := by decide +kernel
theorem d_Rn_doCommand_364 : decode b_Rn_doCommand 364 = .ok (.ireturn, 1) := by decide +kernel
theorem d_Rn_endOut_0 : decode b_Rn_endOut 0 = .ok (.aload_n 0, 1) := by decide +kernel
theorem d_Rn_endOut_1 : decode b_Rn_endOut 1 = .ok (.getfield 36, 3) := by decide +kernel
theorem d_Rn_endOut_4 : decode b_Rn_endOut 4 = .ok (.iconst 0, 1) := by decide +kernel
theorem d_Rn_endOut_5 : decode b_Rn_endOut 5 = .ok (.invokevirtual 72, 3) := by decide +kernel
theorem d_Rn_endOut_8 : decode b_Rn_endOut 8 = .ok (.iconst 5, 1) := by decide +kernel
theorem d_Rn_endOut_9 : decode b_Rn_endOut 9 = .ok (.ireturn, 1) := by decide +kernel
theorem d_Rn_errorOf_0 : decode b_Rn_errorOf 0 = .ok (.aload_n 0, 1) := by decide +kernel
theorem d_Rn_errorOf_1 : decode b_Rn_errorOf 1 = .ok (.iload_n 1, 1) := by decide +kernel
theorem d_Rn_errorOf_2 : decode b_Rn_errorOf 2 = .ok (.invokevirtual 160, 3) := by decide +kernel
theorem d_Rn_errorOf_5 : decode b_Rn_errorOf 5 = .ok (.bipush 20, 2) := by decide +kernel
theorem d_Rn_errorOf_7 : decode b_Rn_errorOf 7 = .ok (.if_icmp .le 7, 3) := by decide +kernel
theorem d_Rn_errorOf_10 : decode b_Rn_errorOf 10 = .ok (.iconst 1, 1) := by decide +kernel
theorem d_Rn_errorOf_11 : decode b_Rn_errorOf 11 = .ok (.goto 4, 3) := by decide +kernel
theorem d_Rn_errorOf_14 : decode b_Rn_errorOf 14 = .ok (.iconst 0, 1) := by decide +kernel
theorem d_Rn_errorOf_15 : decode b_Rn_errorOf 15 = .ok (.istore_n 3, 1) := by decide +kernel
theorem d_Rn_errorOf_16 : decode b_Rn_errorOf 16 = .ok (.iload_n 2, 1) := by decide +kernel
theorem d_Rn_errorOf_17 : decode b_Rn_errorOf 17 = .ok (.lookupswitch 109 #[(78, 85), (110, 60), (118, 43), (120, 74)], 43) := by decide +kernel
theorem d_Rn_errorOf_60 : decode b_Rn_errorOf 60 = .ok (.aload_n 0, 1) := by decide +kernel
theorem d_Rn_errorOf_61 : decode b_Rn_errorOf 61 = .ok (.iload_n 1, 1) := by decide +kernel
theorem d_Rn_errorOf_62 : decode b_Rn_errorOf 62 = .ok (.invokevirtual 171, 3) := by decide +kernel
theorem d_Rn_errorOf_65 : decode b_Rn_errorOf 65 = .ok (.invokestatic 152, 3) := by decide +kernel
theorem d_Rn_errorOf_68 : decode b_Rn_errorOf 68 = .ok (.ifCond .eq 7, 3) := by decide +kernel
theorem d_Rn_errorOf_71 : decode b_Rn_errorOf 71 = .ok (.iconst 0, 1) := by decide +kernel
theorem d_Rn_errorOf_72 : decode b_Rn_errorOf 72 = .ok (.goto 4, 3) := by decide +kernel
theorem d_Rn_errorOf_75 : decode b_Rn_errorOf 75 = .ok (.iconst 4, 1) := by decide +kernel
theorem d_Rn_errorOf_76 : decode b_Rn_errorOf 76 = .ok (.ireturn, 1) := by decide +kernel
theorem d_Rn_errorOf_77 : decode b_Rn_errorOf 77 = .ok (.aload_n 0, 1) := by decide +kernel
theorem d_Rn_errorOf_78 : decode b_Rn_errorOf 78 = .ok (.iload_n 1, 1) := by decide +kernel
theorem d_Rn_errorOf_79 : decode b_Rn_errorOf 79 = .ok (.invokevirtual 238, 3) := by decide +kernel
theorem d_Rn_errorOf_82 : decode b_Rn_errorOf 82 = .ok (.ifCond .eq 7, 3) := by decide +kernel
theorem d_Rn_errorOf_85 : decode b_Rn_errorOf 85 = .ok (.iconst 0, 1) := by decide +kernel
theorem d_Rn_errorOf_86 : decode b_Rn_errorOf 86 = .ok (.goto 4, 3) := by decide +kernel
theorem d_Rn_errorOf_89 : decode b_Rn_errorOf 89 = .ok (.iconst 5, 1) := by decide +kernel
theorem d_Rn_errorOf_90 : decode b_Rn_errorOf 90 = .ok (.ireturn, 1) := by decide +kernel
theorem d_Rn_errorOf_91 : decode b_Rn_errorOf 91 = .ok (.iload_n 3, 1) := by decide +kernel
theorem d_Rn_errorOf_92 : decode b_Rn_errorOf 92 = .ok (.ifCond .eq 8, 3) := by decide +kernel
theorem d_Rn_errorOf_95 : decode b_Rn_errorOf 95 = .ok (.bipush 7, 2) := by decide +kernel
theorem d_Rn_errorOf_97 : decode b_Rn_errorOf 97 = .ok (.goto 4, 3) := by decide +kernel
theorem d_Rn_errorOf_100 : decode b_Rn_errorOf 100 = .ok (.iconst 0, 1) := by decide +kernel
theorem d_Rn_errorOf_101 : decode b_Rn_errorOf 101 = .ok (.ireturn, 1) := by decide +kernel
theorem d_Rn_errorOf_102 : decode b_Rn_errorOf 102 = .ok (.iload_n 3, 1) := by decide +kernel
theorem d_Rn_errorOf_103 : decode b_Rn_errorOf 103 = .ok (.ifCond .eq 6, 3) := by decide +kernel
theorem d_Rn_errorOf_106 : decode b_Rn_errorOf 106 = .ok (.bipush 7, 2) := by decide +kernel
theorem d_Rn_errorOf_108 : decode b_Rn_errorOf 108 = .ok (.ireturn, 1) := by decide +kernel
theorem d_Rn_errorOf_109 : decode b_Rn_errorOf 109 = .ok (.aload_n 0, 1) := by decide +kernel
theorem d_Rn_errorOf_110 : decode b_Rn_errorOf 110 = .ok (.iload_n 1, 1) := by decide +kernel
theorem d_Rn_errorOf_111 : decode b_Rn_errorOf 111 = .ok (.invokevirtual 171, 3) := by decide +kernel
theorem d_Rn_errorOf_114 : decode b_Rn_errorOf 114 = .ok (.invokestatic 197, 3) := by decide +kernel
theorem d_Rn_errorOf_117 : decode b_Rn_errorOf 117 = .ok (.ifCond .eq 7, 3) := by decide +kernel
theorem d_Rn_errorOf_120 : decode b_Rn_errorOf 120 = .ok (.iconst 0, 1) := by decide +kernel
theorem d_Rn_errorOf_121 : decode b_Rn_errorOf 121 = .ok (.goto 4, 3) := by decide +kernel
theorem d_Rn_errorOf_124 : decode b_Rn_errorOf 124 = .ok (.iconst 4, 1) := by decide +kernel
theorem d_Rn_errorOf_125 : decode b_Rn_errorOf 125 = .ok (.ireturn, 1) := by decide +kernel
theorem d_Rn_errorOf_126 : decode b_Rn_errorOf 126 = .ok (.iconst 0, 1) := by decide +kernel
theorem d_Rn_errorOf_127 : decode b_Rn_errorOf 127 = .ok (.ireturn, 1) := by decide +kernel
theorem d_Rn_fail_0 : decode b_Rn_fail 0 = .ok (.aload_n 0, 1) := by decide +kernel
theorem d_Rn_fail_1 : decode b_Rn_fail 1 = .ok (.getfield 36, 3) := by decide +kernel
theorem d_Rn_fail_4 : decode b_Rn_fail 4 = .ok (.iconst 0, 1) := by decide +kernel
theorem d_Rn_fail_5 : decode b_Rn_fail 5 = .ok (.invokevirtual 72, 3) := by decide +kernel
theorem d_Rn_fail_8 : decode b_Rn_fail 8 = .ok (.aload_n 0, 1) := by decide +kernel
theorem d_Rn_fail_9 : decode b_Rn_fail 9 = .ok (.getfield 36, 3) := by decide +kernel
theorem d_Rn_fail_12 : decode b_Rn_fail 12 = .ok (.iconst 0, 1) := by decide +kernel
theorem d_Rn_fail_13 : decode b_Rn_fail 13 = .ok (.bipush 69, 2) := by decide +kernel
theorem d_Rn_fail_15 : decode b_Rn_fail 15 = .ok (.invokevirtual 94, 3) := by decide +kernel
theorem d_Rn_fail_18 : decode b_Rn_fail 18 = .ok (.pop, 1) := by decide +kernel
theorem d_Rn_fail_19 : decode b_Rn_fail 19 = .ok (.aload_n 0, 1) := by decide +kernel
theorem d_Rn_fail_20 : decode b_Rn_fail 20 = .ok (.getfield 36, 3) := by decide +kernel
theorem d_Rn_fail_23 : decode b_Rn_fail 23 = .ok (.iconst 0, 1) := by decide +kernel
theorem d_Rn_fail_24 : decode b_Rn_fail 24 = .ok (.bipush 48, 2) := by decide +kernel
theorem d_Rn_fail_26 : decode b_Rn_fail 26 = .ok (.iload_n 1, 1) := by decide +kernel
theorem d_Rn_fail_27 : decode b_Rn_fail 27 = .ok (.iadd, 1) := by decide +kernel
theorem d_Rn_fail_28 : decode b_Rn_fail 28 = .ok (.invokevirtual 94, 3) := by decide +kernel
theorem d_Rn_fail_31 : decode b_Rn_fail 31 = .ok (.pop, 1) := by decide +kernel
theorem d_Rn_fail_32 : decode b_Rn_fail 32 = .ok (.iconst 1, 1) := by decide +kernel
theorem d_Rn_fail_33 : decode b_Rn_fail 33 = .ok (.ireturn, 1) := by decide +kernel
theorem d_Rn_formOf_0 : decode b_Rn_formOf 0 = .ok (.iload_n 0, 1) := by decide +kernel
theorem d_Rn_formOf_1 : decode b_Rn_formOf 1 = .ok (.lookupswitch 201 #[(42, 152), (60, 177), (63, 139), (98, 161), (99, 161), (101, 133), (103, 158), (105, 120), (107, 164), (109, 136), (112, 155), (115, 107)], 107) := by decide +kernel
theorem d_Rn_formOf_108 : decode b_Rn_formOf 108 = .ok (.iload_n 1, 1) := by decide +kernel
theorem d_Rn_formOf_109 : decode b_Rn_formOf 109 = .ok (.iconst 2, 1) := by decide +kernel
theorem d_Rn_formOf_110 : decode b_Rn_formOf 110 = .ok (.if_icmp .ne 8, 3) := by decide +kernel
theorem d_Rn_formOf_113 : decode b_Rn_formOf 113 = .ok (.ldc 208, 2) := by decide +kernel
theorem d_Rn_formOf_115 : decode b_Rn_formOf 115 = .ok (.goto 5, 3) := by decide +kernel
theorem d_Rn_formOf_118 : decode b_Rn_formOf 118 = .ok (.ldc 210, 2) := by decide +kernel
theorem d_Rn_formOf_120 : decode b_Rn_formOf 120 = .ok (.areturn, 1) := by decide +kernel
theorem d_Rn_formOf_121 : decode b_Rn_formOf 121 = .ok (.iload_n 1, 1) := by decide +kernel
theorem d_Rn_formOf_122 : decode b_Rn_formOf 122 = .ok (.iconst 2, 1) := by decide +kernel
theorem d_Rn_formOf_123 : decode b_Rn_formOf 123 = .ok (.if_icmp .ne 8, 3) := by decide +kernel
theorem d_Rn_formOf_126 : decode b_Rn_formOf 126 = .ok (.ldc 208, 2) := by decide +kernel
theorem d_Rn_formOf_128 : decode b_Rn_formOf 128 = .ok (.goto 5, 3) := by decide +kernel
theorem d_Rn_formOf_131 : decode b_Rn_formOf 131 = .ok (.ldc 212, 2) := by decide +kernel
theorem d_Rn_formOf_133 : decode b_Rn_formOf 133 = .ok (.areturn, 1) := by decide +kernel
theorem d_Rn_formOf_134 : decode b_Rn_formOf 134 = .ok (.ldc 214, 2) := by decide +kernel
theorem d_Rn_formOf_136 : decode b_Rn_formOf 136 = .ok (.areturn, 1) := by decide +kernel
theorem d_Rn_formOf_137 : decode b_Rn_formOf 137 = .ok (.ldc 216, 2) := by decide +kernel
theorem d_Rn_formOf_139 : decode b_Rn_formOf 139 = .ok (.areturn, 1) := by decide +kernel
theorem d_Rn_formOf_140 : decode b_Rn_formOf 140 = .ok (.iload_n 1, 1) := by decide +kernel
theorem d_Rn_formOf_141 : decode b_Rn_formOf 141 = .ok (.iconst 3, 1) := by decide +kernel
theorem d_Rn_formOf_142 : decode b_Rn_formOf 142 = .ok (.if_icmp .ne 8, 3) := by decide +kernel
theorem d_Rn_formOf_145 : decode b_Rn_formOf 145 = .ok (.ldc 218, 2) := by decide +kernel
theorem d_Rn_formOf_147 : decode b_Rn_formOf 147 = .ok (.goto 5, 3) := by decide +kernel
theorem d_Rn_formOf_150 : decode b_Rn_formOf 150 = .ok (.ldc 220, 2) := by decide +kernel
theorem d_Rn_formOf_152 : decode b_Rn_formOf 152 = .ok (.areturn, 1) := by decide +kernel
theorem d_Rn_formOf_153 : decode b_Rn_formOf 153 = .ok (.ldc 218, 2) := by decide +kernel
theorem d_Rn_formOf_155 : decode b_Rn_formOf 155 = .ok (.areturn, 1) := by decide +kernel
theorem d_Rn_formOf_156 : decode b_Rn_formOf 156 = .ok (.ldc 222, 2) := by decide +kernel
theorem d_Rn_formOf_158 : decode b_Rn_formOf 158 = .ok (.areturn, 1) := by decide +kernel
theorem d_Rn_formOf_159 : decode b_Rn_formOf 159 = .ok (.ldc 208, 2) := by decide +kernel
theorem d_Rn_formOf_161 : decode b_Rn_formOf 161 = .ok (.areturn, 1) := by decide +kernel
theorem d_Rn_formOf_162 : decode b_Rn_formOf 162 = .ok (.ldc 224, 2) := by decide +kernel
theorem d_Rn_formOf_164 : decode b_Rn_formOf 164 = .ok (.areturn, 1) := by decide +kernel
theorem d_Rn_formOf_165 : decode b_Rn_formOf 165 = .ok (.iload_n 1, 1) := by decide +kernel
theorem d_Rn_formOf_166 : decode b_Rn_formOf 166 = .ok (.iconst 2, 1) := by decide +kernel
theorem d_Rn_formOf_167 : decode b_Rn_formOf 167 = .ok (.if_icmp .ne 8, 3) := by decide +kernel
theorem d_Rn_formOf_170 : decode b_Rn_formOf 170 = .ok (.ldc 226, 2) := by decide +kernel
theorem d_Rn_formOf_172 : decode b_Rn_formOf 172 = .ok (.goto 5, 3) := by decide +kernel
theorem d_Rn_formOf_175 : decode b_Rn_formOf 175 = .ok (.ldc 228, 2) := by decide +kernel
theorem d_Rn_formOf_177 : decode b_Rn_formOf 177 = .ok (.areturn, 1) := by decide +kernel
theorem d_Rn_formOf_178 : decode b_Rn_formOf 178 = .ok (.iload_n 1, 1) := by decide +kernel
theorem d_Rn_formOf_179 : decode b_Rn_formOf 179 = .ok (.iconst 4, 1) := by decide +kernel
theorem d_Rn_formOf_180 : decode b_Rn_formOf 180 = .ok (.if_icmp .ne 8, 3) := by decide +kernel
theorem d_Rn_formOf_183 : decode b_Rn_formOf 183 = .ok (.ldc 230, 2) := by decide +kernel
theorem d_Rn_formOf_185 : decode b_Rn_formOf 185 = .ok (.goto 16, 3) := by decide +kernel
theorem d_Rn_formOf_188 : decode b_Rn_formOf 188 = .ok (.iload_n 1, 1) := by decide +kernel
theorem d_Rn_formOf_189 : decode b_Rn_formOf 189 = .ok (.bipush 6, 2) := by decide +kernel
theorem d_Rn_formOf_191 : decode b_Rn_formOf 191 = .ok (.if_icmp .ne 8, 3) := by decide +kernel
theorem d_Rn_formOf_194 : decode b_Rn_formOf 194 = .ok (.ldc 232, 2) := by decide +kernel
theorem d_Rn_formOf_196 : decode b_Rn_formOf 196 = .ok (.goto 5, 3) := by decide +kernel
theorem d_Rn_formOf_199 : decode b_Rn_formOf 199 = .ok (.ldc 234, 2) := by decide +kernel
theorem d_Rn_formOf_201 : decode b_Rn_formOf 201 = .ok (.areturn, 1) := by decide +kernel
theorem d_Rn_formOf_202 : decode b_Rn_formOf 202 = .ok (.ldc 236, 2) := by decide +kernel
theorem d_Rn_formOf_204 : decode b_Rn_formOf 204 = .ok (.areturn, 1) := by decide +kernel
theorem d_Rn_grow_0 : decode b_Rn_grow 0 = .ok (.aload_n 1, 1) := by decide +kernel
theorem d_Rn_grow_1 : decode b_Rn_grow 1 = .ok (.getfield 145, 3) := by decide +kernel
theorem d_Rn_grow_4 : decode b_Rn_grow 4 = .ok (.iconst 1, 1) := by decide +kernel
theorem d_Rn_grow_5 : decode b_Rn_grow 5 = .ok (.invokevirtual 171, 3) := by decide +kernel
theorem d_Rn_grow_8 : decode b_Rn_grow 8 = .ok (.bipush 97, 2) := by decide +kernel
theorem d_Rn_grow_10 : decode b_Rn_grow 10 = .ok (.isub, 1) := by decide +kernel
theorem d_Rn_grow_11 : decode b_Rn_grow 11 = .ok (.istore_n 2, 1) := by decide +kernel
theorem d_Rn_grow_12 : decode b_Rn_grow 12 = .ok (.aload_n 1, 1) := by decide +kernel
theorem d_Rn_grow_13 : decode b_Rn_grow 13 = .ok (.getfield 83, 3) := by decide +kernel
theorem d_Rn_grow_16 : decode b_Rn_grow 16 = .ok (.iconst 2, 1) := by decide +kernel
theorem d_Rn_grow_17 : decode b_Rn_grow 17 = .ok (.if_icmp .le 14, 3) := by decide +kernel
theorem d_Rn_grow_20 : decode b_Rn_grow 20 = .ok (.aload_n 1, 1) := by decide +kernel
theorem d_Rn_grow_21 : decode b_Rn_grow 21 = .ok (.getfield 145, 3) := by decide +kernel
theorem d_Rn_grow_24 : decode b_Rn_grow 24 = .ok (.iconst 2, 1) := by decide +kernel
theorem d_Rn_grow_25 : decode b_Rn_grow 25 = .ok (.invokevirtual 297, 3) := by decide +kernel
theorem d_Rn_grow_28 : decode b_Rn_grow 28 = .ok (.goto 4, 3) := by decide +kernel
theorem d_Rn_grow_31 : decode b_Rn_grow 31 = .ok (.iconst 1, 1) := by decide +kernel
theorem d_Rn_grow_32 : decode b_Rn_grow 32 = .ok (.istore_n 3, 1) := by decide +kernel
theorem d_Rn_grow_33 : decode b_Rn_grow 33 = .ok (.aload_n 0, 1) := by decide +kernel
theorem d_Rn_grow_34 : decode b_Rn_grow 34 = .ok (.getfield 12, 3) := by decide +kernel
theorem d_Rn_grow_37 : decode b_Rn_grow 37 = .ok (.aload_n 1, 1) := by decide +kernel
theorem d_Rn_grow_38 : decode b_Rn_grow 38 = .ok (.getfield 138, 3) := by decide +kernel
theorem d_Rn_grow_41 : decode b_Rn_grow 41 = .ok (.iload_n 2, 1) := by decide +kernel
theorem d_Rn_grow_42 : decode b_Rn_grow 42 = .ok (.invokevirtual 156, 3) := by decide +kernel
theorem d_Rn_grow_45 : decode b_Rn_grow 45 = .ok (.astore 4, 2) := by decide +kernel
