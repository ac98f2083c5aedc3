theorem d_Rn_init_0 : decode b_Rn_init 0 = .ok (.aload_n 0, 1) := by decide +kernel
theorem d_Rn_init_1 : decode b_Rn_init 1 = .ok (.invokespecial 3, 3) := by decide +kernel
theorem d_Rn_init_4 : decode b_Rn_init 4 = .ok (.aload_n 0, 1) := by decide +kernel
theorem d_Rn_init_5 : decode b_Rn_init 5 = .ok (.new 9, 3) := by decide +kernel
theorem d_Rn_init_8 : decode b_Rn_init 8 = .ok (.dup, 1) := by decide +kernel
theorem d_Rn_init_9 : decode b_Rn_init 9 = .ok (.invokespecial 11, 3) := by decide +kernel
theorem d_Rn_init_12 : decode b_Rn_init 12 = .ok (.putfield 12, 3) := by decide +kernel
theorem d_Rn_init_15 : decode b_Rn_init 15 = .ok (.aload_n 0, 1) := by decide +kernel
theorem d_Rn_init_16 : decode b_Rn_init 16 = .ok (.new 18, 3) := by decide +kernel
theorem d_Rn_init_19 : decode b_Rn_init 19 = .ok (.dup, 1) := by decide +kernel
theorem d_Rn_init_20 : decode b_Rn_init 20 = .ok (.invokespecial 20, 3) := by decide +kernel
theorem d_Rn_init_23 : decode b_Rn_init 23 = .ok (.putfield 21, 3) := by decide +kernel
theorem d_Rn_init_26 : decode b_Rn_init 26 = .ok (.aload_n 0, 1) := by decide +kernel
theorem d_Rn_init_27 : decode b_Rn_init 27 = .ok (.bipush 8, 2) := by decide +kernel
theorem d_Rn_init_29 : decode b_Rn_init 29 = .ok (.anewarray 25, 3) := by decide +kernel
theorem d_Rn_init_32 : decode b_Rn_init 32 = .ok (.putfield 27, 3) := by decide +kernel
theorem d_Rn_init_35 : decode b_Rn_init 35 = .ok (.aload_n 0, 1) := by decide +kernel
theorem d_Rn_init_36 : decode b_Rn_init 36 = .ok (.new 31, 3) := by decide +kernel
theorem d_Rn_init_39 : decode b_Rn_init 39 = .ok (.dup, 1) := by decide +kernel
theorem d_Rn_init_40 : decode b_Rn_init 40 = .ok (.iconst 1, 1) := by decide +kernel
theorem d_Rn_init_41 : decode b_Rn_init 41 = .ok (.invokespecial 33, 3) := by decide +kernel
theorem d_Rn_init_44 : decode b_Rn_init 44 = .ok (.putfield 36, 3) := by decide +kernel
theorem d_Rn_init_47 : decode b_Rn_init 47 = .ok (.aload_n 0, 1) := by decide +kernel
theorem d_Rn_init_48 : decode b_Rn_init 48 = .ok (.aload_n 1, 1) := by decide +kernel
theorem d_Rn_init_49 : decode b_Rn_init 49 = .ok (.putfield 40, 3) := by decide +kernel
theorem d_Rn_init_52 : decode b_Rn_init 52 = .ok (.aload_n 0, 1) := by decide +kernel
theorem d_Rn_init_53 : decode b_Rn_init 53 = .ok (.aload_n 2, 1) := by decide +kernel
theorem d_Rn_init_54 : decode b_Rn_init 54 = .ok (.putfield 44, 3) := by decide +kernel
theorem d_Rn_init_57 : decode b_Rn_init 57 = .ok (.aload_n 0, 1) := by decide +kernel
theorem d_Rn_init_58 : decode b_Rn_init 58 = .ok (.new 48, 3) := by decide +kernel
theorem d_Rn_init_61 : decode b_Rn_init 61 = .ok (.dup, 1) := by decide +kernel
theorem d_Rn_init_62 : decode b_Rn_init 62 = .ok (.aload_n 1, 1) := by decide +kernel
theorem d_Rn_init_63 : decode b_Rn_init 63 = .ok (.getfield 50, 3) := by decide +kernel
theorem d_Rn_init_66 : decode b_Rn_init 66 = .ok (.aload_n 0, 1) := by decide +kernel
theorem d_Rn_init_67 : decode b_Rn_init 67 = .ok (.getfield 12, 3) := by decide +kernel
theorem d_Rn_init_70 : decode b_Rn_init 70 = .ok (.invokespecial 56, 3) := by decide +kernel
theorem d_Rn_init_73 : decode b_Rn_init 73 = .ok (.putfield 59, 3) := by decide +kernel
theorem d_Rn_init_76 : decode b_Rn_init 76 = .ok (.iconst 0, 1) := by decide +kernel
theorem d_Rn_init_77 : decode b_Rn_init 77 = .ok (.istore_n 3, 1) := by decide +kernel
theorem d_Rn_init_78 : decode b_Rn_init 78 = .ok (.iload_n 3, 1) := by decide +kernel
theorem d_Rn_init_79 : decode b_Rn_init 79 = .ok (.bipush 8, 2) := by decide +kernel
theorem d_Rn_init_81 : decode b_Rn_init 81 = .ok (.if_icmp .ge 22, 3) := by decide +kernel
theorem d_Rn_init_84 : decode b_Rn_init 84 = .ok (.aload_n 0, 1) := by decide +kernel
theorem d_Rn_init_85 : decode b_Rn_init 85 = .ok (.getfield 27, 3) := by decide +kernel
theorem d_Rn_init_88 : decode b_Rn_init 88 = .ok (.iload_n 3, 1) := by decide +kernel
theorem d_Rn_init_89 : decode b_Rn_init 89 = .ok (.new 25, 3) := by decide +kernel
theorem d_Rn_init_92 : decode b_Rn_init 92 = .ok (.dup, 1) := by decide +kernel
theorem d_Rn_init_93 : decode b_Rn_init 93 = .ok (.invokespecial 63, 3) := by decide +kernel
theorem d_Rn_init_96 : decode b_Rn_init 96 = .ok (.aastore, 1) := by decide +kernel
theorem d_Rn_init_97 : decode b_Rn_init 97 = .ok (.iinc 3 1, 3) := by decide +kernel
theorem d_Rn_init_100 : decode b_Rn_init 100 = .ok (.goto (-22), 3) := by decide +kernel
theorem d_Rn_init_103 : decode b_Rn_init 103 = .ok (.return_, 1) := by decide +kernel
theorem d_Rn_endOut_0 : decode b_Rn_endOut 0 = .ok (.aload_n 0, 1) := by decide +kernel
theorem d_Rn_endOut_1 : decode b_Rn_endOut 1 = .ok (.getfield 36, 3) := by decide +kernel
theorem d_Rn_endOut_4 : decode b_Rn_endOut 4 = .ok (.iconst 0, 1) := by decide +kernel
theorem d_Rn_endOut_5 : decode b_Rn_endOut 5 = .ok (.invokevirtual 72, 3) := by decide +kernel
theorem d_Rn_endOut_8 : decode b_Rn_endOut 8 = .ok (.iconst 5, 1) := by decide +kernel
theorem d_Rn_endOut_9 : decode b_Rn_endOut 9 = .ok (.ireturn, 1) := by decide +kernel
theorem d_Rn_fail_0 : decode b_Rn_fail 0 = .ok (.aload_n 0, 1) := by decide +kernel
theorem d_Rn_fail_1 : decode b_Rn_fail 1 = .ok (.getfield 36, 3) := by decide +kernel
theorem d_Rn_fail_4 : decode b_Rn_fail 4 = .ok (.iconst 0, 1) := by decide +kernel
theorem d_Rn_fail_5 : decode b_Rn_fail 5 = .ok (.invokevirtual 72, 3) := by decide +kernel
theorem d_Rn_fail_8 : decode b_Rn_fail 8 = .ok (.aload_n 0, 1) := by decide +kernel
theorem d_Rn_fail_9 : decode b_Rn_fail 9 = .ok (.getfield 36, 3) := by decide +kernel
theorem d_Rn_fail_12 : decode b_Rn_fail 12 = .ok (.iconst 0, 1) := by decide +kernel
theorem d_Rn_fail_13 : decode b_Rn_fail 13 = .ok (.bipush 69, 2) := by decide +kernel
theorem d_Rn_fail_15 : decode b_Rn_fail 15 = .ok (.invokevirtual 94, 3) := by decide +kernel
theorem d_Rn_fail_18 : decode b_Rn_fail 18 = .ok (.pop, 1) := by decide +kernel
theorem d_Rn_fail_19 : decode b_Rn_fail 19 = .ok (.aload_n 0, 1) := by decide +kernel
theorem d_Rn_fail_20 : decode b_Rn_fail 20 = .ok (.getfield 36, 3) := by decide +kernel
theorem d_Rn_fail_23 : decode b_Rn_fail 23 = .ok (.iconst 0, 1) := by decide +kernel
theorem d_Rn_fail_24 : decode b_Rn_fail 24 = .ok (.bipush 48, 2) := by decide +kernel
theorem d_Rn_fail_26 : decode b_Rn_fail 26 = .ok (.iload_n 1, 1) := by decide +kernel
theorem d_Rn_fail_27 : decode b_Rn_fail 27 = .ok (.iadd, 1) := by decide +kernel
theorem d_Rn_fail_28 : decode b_Rn_fail 28 = .ok (.invokevirtual 94, 3) := by decide +kernel
theorem d_Rn_fail_31 : decode b_Rn_fail 31 = .ok (.pop, 1) := by decide +kernel
theorem d_Rn_fail_32 : decode b_Rn_fail 32 = .ok (.iconst 1, 1) := by decide +kernel
theorem d_Rn_fail_33 : decode b_Rn_fail 33 = .ok (.ireturn, 1) := by decide +kernel
theorem d_Rn_leave_0 : decode b_Rn_leave 0 = .ok (.iload_n 1, 1) := by decide +kernel
theorem d_Rn_leave_1 : decode b_Rn_leave 1 = .ok (.iconst 3, 1) := by decide +kernel
theorem d_Rn_leave_2 : decode b_Rn_leave 2 = .ok (.if_icmp .eq 8, 3) := by decide +kernel
theorem d_Rn_leave_5 : decode b_Rn_leave 5 = .ok (.iload_n 1, 1) := by decide +kernel
theorem d_Rn_leave_6 : decode b_Rn_leave 6 = .ok (.iconst 4, 1) := by decide +kernel
theorem d_Rn_leave_7 : decode b_Rn_leave 7 = .ok (.if_icmp .ne 10, 3) := by decide +kernel
theorem d_Rn_leave_10 : decode b_Rn_leave 10 = .ok (.aload_n 0, 1) := by decide +kernel
theorem d_Rn_leave_11 : decode b_Rn_leave 11 = .ok (.bipush 9, 2) := by decide +kernel
theorem d_Rn_leave_13 : decode b_Rn_leave 13 = .ok (.invokevirtual 64, 3) := by decide +kernel
theorem d_Rn_leave_16 : decode b_Rn_leave 16 = .ok (.ireturn, 1) := by decide +kernel
theorem d_Rn_leave_17 : decode b_Rn_leave 17 = .ok (.iload_n 1, 1) := by decide +kernel
theorem d_Rn_leave_18 : decode b_Rn_leave 18 = .ok (.iconst 2, 1) := by decide +kernel
theorem d_Rn_leave_19 : decode b_Rn_leave 19 = .ok (.if_icmp .ne 7, 3) := by decide +kernel
theorem d_Rn_leave_22 : decode b_Rn_leave 22 = .ok (.iconst 0, 1) := by decide +kernel
theorem d_Rn_leave_23 : decode b_Rn_leave 23 = .ok (.goto 4, 3) := by decide +kernel
theorem d_Rn_leave_26 : decode b_Rn_leave 26 = .ok (.iload_n 1, 1) := by decide +kernel
theorem d_Rn_leave_27 : decode b_Rn_leave 27 = .ok (.ireturn, 1) := by decide +kernel
theorem d_Rn_readCommand_0 : decode b_Rn_readCommand 0 = .ok (.aload_n 1, 1) := by decide +kernel
theorem d_Rn_readCommand_1 : decode b_Rn_readCommand 1 = .ok (.iconst 0, 1) := by decide +kernel
theorem d_Rn_readCommand_2 : decode b_Rn_readCommand 2 = .ok (.putfield 83, 3) := by decide +kernel
theorem d_Rn_readCommand_5 : decode b_Rn_readCommand 5 = .ok (.iconst 0, 1) := by decide +kernel
theorem d_Rn_readCommand_6 : decode b_Rn_readCommand 6 = .ok (.istore_n 3, 1) := by decide +kernel
theorem d_Rn_readCommand_7 : decode b_Rn_readCommand 7 = .ok (.iload_n 3, 1) := by decide +kernel
theorem d_Rn_readCommand_8 : decode b_Rn_readCommand 8 = .ok (.sipush 200, 3) := by decide +kernel
theorem d_Rn_readCommand_11 : decode b_Rn_readCommand 11 = .ok (.if_icmp .gt 109, 3) := by decide +kernel
theorem d_Rn_readCommand_14 : decode b_Rn_readCommand 14 = .ok (.aload_n 1, 1) := by decide +kernel
theorem d_Rn_readCommand_15 : decode b_Rn_readCommand 15 = .ok (.getfield 101, 3) := by decide +kernel
theorem d_Rn_readCommand_18 : decode b_Rn_readCommand 18 = .ok (.aload_n 1, 1) := by decide +kernel
theorem d_Rn_readCommand_19 : decode b_Rn_readCommand 19 = .ok (.getfield 104, 3) := by decide +kernel
theorem d_Rn_readCommand_22 : decode b_Rn_readCommand 22 = .ok (.if_icmp .ge 98, 3) := by decide +kernel
theorem d_Rn_readCommand_25 : decode b_Rn_readCommand 25 = .ok (.aload_n 0, 1) := by decide +kernel
theorem d_Rn_readCommand_26 : decode b_Rn_readCommand 26 = .ok (.getfield 40, 3) := by decide +kernel
theorem d_Rn_readCommand_29 : decode b_Rn_readCommand 29 = .ok (.getfield 50, 3) := by decide +kernel
theorem d_Rn_readCommand_32 : decode b_Rn_readCommand 32 = .ok (.aload_n 1, 1) := by decide +kernel
theorem d_Rn_readCommand_33 : decode b_Rn_readCommand 33 = .ok (.getfield 101, 3) := by decide +kernel
theorem d_Rn_readCommand_36 : decode b_Rn_readCommand 36 = .ok (.caload, 1) := by decide +kernel
theorem d_Rn_readCommand_37 : decode b_Rn_readCommand 37 = .ok (.istore 4, 2) := by decide +kernel
theorem d_Rn_readCommand_39 : decode b_Rn_readCommand 39 = .ok (.aload_n 1, 1) := by decide +kernel
theorem d_Rn_readCommand_40 : decode b_Rn_readCommand 40 = .ok (.iload 4, 2) := by decide +kernel
theorem d_Rn_readCommand_42 : decode b_Rn_readCommand 42 = .ok (.invokevirtual 107, 3) := by decide +kernel
theorem d_Rn_readCommand_45 : decode b_Rn_readCommand 45 = .ok (.ifCond .eq 31, 3) := by decide +kernel
theorem d_Rn_readCommand_48 : decode b_Rn_readCommand 48 = .ok (.aload_n 1, 1) := by decide +kernel
theorem d_Rn_readCommand_49 : decode b_Rn_readCommand 49 = .ok (.dup, 1) := by decide +kernel
theorem d_Rn_readCommand_50 : decode b_Rn_readCommand 50 = .ok (.getfield 101, 3) := by decide +kernel
theorem d_Rn_readCommand_53 : decode b_Rn_readCommand 53 = .ok (.iconst 1, 1) := by decide +kernel
theorem d_Rn_readCommand_54 : decode b_Rn_readCommand 54 = .ok (.iadd, 1) := by decide +kernel
theorem d_Rn_readCommand_55 : decode b_Rn_readCommand 55 = .ok (.putfield 101, 3) := by decide +kernel
theorem d_Rn_readCommand_58 : decode b_Rn_readCommand 58 = .ok (.aload_n 1, 1) := by decide +kernel
theorem d_Rn_readCommand_59 : decode b_Rn_readCommand 59 = .ok (.iload 4, 2) := by decide +kernel
theorem d_Rn_readCommand_61 : decode b_Rn_readCommand 61 = .ok (.bipush 93, 2) := by decide +kernel
theorem d_Rn_readCommand_63 : decode b_Rn_readCommand 63 = .ok (.if_icmp .ne 7, 3) := by decide +kernel
theorem d_Rn_readCommand_66 : decode b_Rn_readCommand 66 = .ok (.iconst 1, 1) := by decide +kernel
theorem d_Rn_readCommand_67 : decode b_Rn_readCommand 67 = .ok (.goto 4, 3) := by decide +kernel
theorem d_Rn_readCommand_70 : decode b_Rn_readCommand 70 = .ok (.iconst 0, 1) := by decide +kernel
theorem d_Rn_readCommand_71 : decode b_Rn_readCommand 71 = .ok (.putfield 75, 3) := by decide +kernel
theorem d_Rn_readCommand_74 : decode b_Rn_readCommand 74 = .ok (.iconst 0, 1) := by decide +kernel
theorem d_Rn_readCommand_75 : decode b_Rn_readCommand 75 = .ok (.ireturn, 1) := by decide +kernel
theorem d_Rn_readCommand_76 : decode b_Rn_readCommand 76 = .ok (.iload 4, 2) := by decide +kernel
theorem d_Rn_readCommand_78 : decode b_Rn_readCommand 78 = .ok (.bipush 32, 2) := by decide +kernel
theorem d_Rn_readCommand_80 : decode b_Rn_readCommand 80 = .ok (.if_icmp .ne 16, 3) := by decide +kernel
theorem d_Rn_readCommand_83 : decode b_Rn_readCommand 83 = .ok (.aload_n 1, 1) := by decide +kernel
theorem d_Rn_readCommand_84 : decode b_Rn_readCommand 84 = .ok (.dup, 1) := by decide +kernel
theorem d_Rn_readCommand_85 : decode b_Rn_readCommand 85 = .ok (.getfield 101, 3) := by decide +kernel
theorem d_Rn_readCommand_88 : decode b_Rn_readCommand 88 = .ok (.iconst 1, 1) := by decide +kernel
theorem d_Rn_readCommand_89 : decode b_Rn_readCommand 89 = .ok (.iadd, 1) := by decide +kernel
theorem d_Rn_readCommand_90 : decode b_Rn_readCommand 90 = .ok (.putfield 101, 3) := by decide +kernel
theorem d_Rn_readCommand_93 : decode b_Rn_readCommand 93 = .ok (.goto 21, 3) := by decide +kernel
theorem d_Rn_readCommand_96 : decode b_Rn_readCommand 96 = .ok (.aload_n 0, 1) := by decide +kernel
theorem d_Rn_readCommand_97 : decode b_Rn_readCommand 97 = .ok (.aload_n 1, 1) := by decide +kernel
theorem d_Rn_readCommand_98 : decode b_Rn_readCommand 98 = .ok (.iload_n 2, 1) := by decide +kernel
theorem d_Rn_readCommand_99 : decode b_Rn_readCommand 99 = .ok (.iload 4, 2) := by decide +kernel
theorem d_Rn_readCommand_101 : decode b_Rn_readCommand 101 = .ok (.invokevirtual 111, 3) := by decide +kernel
theorem d_Rn_readCommand_104 : decode b_Rn_readCommand 104 = .ok (.istore 5, 2) := by decide +kernel
theorem d_Rn_readCommand_106 : decode b_Rn_readCommand 106 = .ok (.iload 5, 2) := by decide +kernel
theorem d_Rn_readCommand_108 : decode b_Rn_readCommand 108 = .ok (.ifCond .eq 6, 3) := by decide +kernel
theorem d_Rn_readCommand_111 : decode b_Rn_readCommand 111 = .ok (.iload 5, 2) := by decide +kernel
theorem d_Rn_readCommand_113 : decode b_Rn_readCommand 113 = .ok (.ireturn, 1) := by decide +kernel
theorem d_Rn_readCommand_114 : decode b_Rn_readCommand 114 = .ok (.iinc 3 1, 3) := by decide +kernel
theorem d_Rn_readCommand_117 : decode b_Rn_readCommand 117 = .ok (.goto (-110), 3) := by decide +kernel
theorem d_Rn_readCommand_120 : decode b_Rn_readCommand 120 = .ok (.aload_n 1, 1) := by decide +kernel
theorem d_Rn_readCommand_121 : decode b_Rn_readCommand 121 = .ok (.iconst 1, 1) := by decide +kernel
theorem d_Rn_readCommand_122 : decode b_Rn_readCommand 122 = .ok (.putfield 75, 3) := by decide +kernel
theorem d_Rn_readCommand_125 : decode b_Rn_readCommand 125 = .ok (.aload_n 1, 1) := by decide +kernel
theorem d_Rn_readCommand_126 : decode b_Rn_readCommand 126 = .ok (.getfield 115, 3) := by decide +kernel
theorem d_Rn_readCommand_129 : decode b_Rn_readCommand 129 = .ok (.ifCond .eq 11, 3) := by decide +kernel
theorem d_Rn_readCommand_132 : decode b_Rn_readCommand 132 = .ok (.aload_n 0, 1) := by decide +kernel
theorem d_Rn_readCommand_133 : decode b_Rn_readCommand 133 = .ok (.iconst 1, 1) := by decide +kernel
theorem d_Rn_readCommand_134 : decode b_Rn_readCommand 134 = .ok (.invokevirtual 64, 3) := by decide +kernel
theorem d_Rn_readCommand_137 : decode b_Rn_readCommand 137 = .ok (.goto 4, 3) := by decide +kernel
theorem d_Rn_readCommand_140 : decode b_Rn_readCommand 140 = .ok (.iconst 0, 1) := by decide +kernel
theorem d_Rn_readCommand_141 : decode b_Rn_readCommand 141 = .ok (.ireturn, 1) := by decide +kernel
theorem d_Rn_runScript_0 : decode b_Rn_runScript 0 = .ok (.iload 4, 2) := by decide +kernel
theorem d_Rn_runScript_2 : decode b_Rn_runScript 2 = .ok (.ifCond .lt 10, 3) := by decide +kernel
theorem d_Rn_runScript_5 : decode b_Rn_runScript 5 = .ok (.iload 4, 2) := by decide +kernel
theorem d_Rn_runScript_7 : decode b_Rn_runScript 7 = .ok (.bipush 8, 2) := by decide +kernel
theorem d_Rn_runScript_9 : decode b_Rn_runScript 9 = .ok (.if_icmp .lt 10, 3) := by decide +kernel
theorem d_Rn_runScript_12 : decode b_Rn_runScript 12 = .ok (.aload_n 0, 1) := by decide +kernel
theorem d_Rn_runScript_13 : decode b_Rn_runScript 13 = .ok (.bipush 8, 2) := by decide +kernel
theorem d_Rn_runScript_15 : decode b_Rn_runScript 15 = .ok (.invokevirtual 64, 3) := by decide +kernel
theorem d_Rn_runScript_18 : decode b_Rn_runScript 18 = .ok (.ireturn, 1) := by decide +kernel
theorem d_Rn_runScript_19 : decode b_Rn_runScript 19 = .ok (.aload_n 0, 1) := by decide +kernel
theorem d_Rn_runScript_20 : decode b_Rn_runScript 20 = .ok (.getfield 27, 3) := by decide +kernel
theorem d_Rn_runScript_23 : decode b_Rn_runScript 23 = .ok (.iload 4, 2) := by decide +kernel
theorem d_Rn_runScript_25 : decode b_Rn_runScript 25 = .ok (.aaload, 1) := by decide +kernel
theorem d_Rn_runScript_26 : decode b_Rn_runScript 26 = .ok (.astore 6, 2) := by decide +kernel
theorem d_Rn_runScript_28 : decode b_Rn_runScript 28 = .ok (.aload 6, 2) := by decide +kernel
theorem d_Rn_runScript_30 : decode b_Rn_runScript 30 = .ok (.iload_n 1, 1) := by decide +kernel
theorem d_Rn_runScript_31 : decode b_Rn_runScript 31 = .ok (.iload_n 2, 1) := by decide +kernel
theorem d_Rn_runScript_32 : decode b_Rn_runScript 32 = .ok (.iload_n 3, 1) := by decide +kernel
theorem d_Rn_runScript_33 : decode b_Rn_runScript 33 = .ok (.iload 5, 2) := by decide +kernel
theorem d_Rn_runScript_35 : decode b_Rn_runScript 35 = .ok (.invokevirtual 68, 3) := by decide +kernel
theorem d_Rn_runScript_38 : decode b_Rn_runScript 38 = .ok (.aload_n 0, 1) := by decide +kernel
theorem d_Rn_runScript_39 : decode b_Rn_runScript 39 = .ok (.getfield 36, 3) := by decide +kernel
theorem d_Rn_runScript_42 : decode b_Rn_runScript 42 = .ok (.iconst 0, 1) := by decide +kernel
theorem d_Rn_runScript_43 : decode b_Rn_runScript 43 = .ok (.invokevirtual 72, 3) := by decide +kernel
theorem d_Rn_runScript_46 : decode b_Rn_runScript 46 = .ok (.iconst 0, 1) := by decide +kernel
theorem d_Rn_runScript_47 : decode b_Rn_runScript 47 = .ok (.istore 7, 2) := by decide +kernel
theorem d_Rn_runScript_49 : decode b_Rn_runScript 49 = .ok (.iconst 0, 1) := by decide +kernel
theorem d_Rn_runScript_50 : decode b_Rn_runScript 50 = .ok (.istore 8, 2) := by decide +kernel
theorem d_Rn_runScript_52 : decode b_Rn_runScript 52 = .ok (.iload 8, 2) := by decide +kernel
theorem d_Rn_runScript_54 : decode b_Rn_runScript 54 = .ok (.sipush 200, 3) := by decide +kernel
theorem d_Rn_runScript_57 : decode b_Rn_runScript 57 = .ok (.if_icmp .gt 68, 3) := by decide +kernel
theorem d_Rn_runScript_60 : decode b_Rn_runScript 60 = .ok (.iload 7, 2) := by decide +kernel
theorem d_Rn_runScript_62 : decode b_Rn_runScript 62 = .ok (.ifCond .ne 63, 3) := by decide +kernel
theorem d_Rn_runScript_65 : decode b_Rn_runScript 65 = .ok (.aload 6, 2) := by decide +kernel
theorem d_Rn_runScript_67 : decode b_Rn_runScript 67 = .ok (.getfield 75, 3) := by decide +kernel
theorem d_Rn_runScript_70 : decode b_Rn_runScript 70 = .ok (.ifCond .ne 55, 3) := by decide +kernel
theorem d_Rn_runScript_73 : decode b_Rn_runScript 73 = .ok (.aload_n 0, 1) := by decide +kernel
theorem d_Rn_runScript_74 : decode b_Rn_runScript 74 = .ok (.aload 6, 2) := by decide +kernel
theorem d_Rn_runScript_76 : decode b_Rn_runScript 76 = .ok (.iload 4, 2) := by decide +kernel
theorem d_Rn_runScript_78 : decode b_Rn_runScript 78 = .ok (.invokevirtual 79, 3) := by decide +kernel
theorem d_Rn_runScript_81 : decode b_Rn_runScript 81 = .ok (.istore 7, 2) := by decide +kernel
theorem d_Rn_runScript_83 : decode b_Rn_runScript 83 = .ok (.iload 7, 2) := by decide +kernel
theorem d_Rn_runScript_85 : decode b_Rn_runScript 85 = .ok (.ifCond .ne 34, 3) := by decide +kernel
theorem d_Rn_runScript_88 : decode b_Rn_runScript 88 = .ok (.aload 6, 2) := by decide +kernel
theorem d_Rn_runScript_90 : decode b_Rn_runScript 90 = .ok (.getfield 83, 3) := by decide +kernel
theorem d_Rn_runScript_93 : decode b_Rn_runScript 93 = .ok (.ifCond .le 26, 3) := by decide +kernel
theorem d_Rn_runScript_96 : decode b_Rn_runScript 96 = .ok (.aload_n 0, 1) := by decide +kernel
theorem d_Rn_runScript_97 : decode b_Rn_runScript 97 = .ok (.aload 6, 2) := by decide +kernel
theorem d_Rn_runScript_99 : decode b_Rn_runScript 99 = .ok (.invokevirtual 87, 3) := by decide +kernel
theorem d_Rn_runScript_102 : decode b_Rn_runScript 102 = .ok (.istore 7, 2) := by decide +kernel
theorem d_Rn_runScript_104 : decode b_Rn_runScript 104 = .ok (.iload 7, 2) := by decide +kernel
theorem d_Rn_runScript_106 : decode b_Rn_runScript 106 = .ok (.ifCond .ne 13, 3) := by decide +kernel
theorem d_Rn_runScript_109 : decode b_Rn_runScript 109 = .ok (.aload_n 0, 1) := by decide +kernel
theorem d_Rn_runScript_110 : decode b_Rn_runScript 110 = .ok (.aload 6, 2) := by decide +kernel
theorem d_Rn_runScript_112 : decode b_Rn_runScript 112 = .ok (.iload 4, 2) := by decide +kernel
theorem d_Rn_runScript_114 : decode b_Rn_runScript 114 = .ok (.invokevirtual 91, 3) := by decide +kernel
theorem d_Rn_runScript_117 : decode b_Rn_runScript 117 = .ok (.istore 7, 2) := by decide +kernel
theorem d_Rn_runScript_119 : decode b_Rn_runScript 119 = .ok (.iinc 8 1, 3) := by decide +kernel
theorem d_Rn_runScript_122 : decode b_Rn_runScript 122 = .ok (.goto (-70), 3) := by decide +kernel
theorem d_Rn_runScript_125 : decode b_Rn_runScript 125 = .ok (.iload 7, 2) := by decide +kernel
theorem d_Rn_runScript_127 : decode b_Rn_runScript 127 = .ok (.ireturn, 1) := by decide +kernel
theorem d_Rn_takeFuel_0 : decode b_Rn_takeFuel 0 = .ok (.aload_n 0, 1) := by decide +kernel
theorem d_Rn_takeFuel_1 : decode b_Rn_takeFuel 1 = .ok (.getfield 98, 3) := by decide +kernel
theorem d_Rn_takeFuel_4 : decode b_Rn_takeFuel 4 = .ok (.ifCond .gt 5, 3) := by decide +kernel
theorem d_Rn_takeFuel_7 : decode b_Rn_takeFuel 7 = .ok (.iconst 0, 1) := by decide +kernel
theorem d_Rn_takeFuel_8 : decode b_Rn_takeFuel 8 = .ok (.ireturn, 1) := by decide +kernel
theorem d_Rn_takeFuel_9 : decode b_Rn_takeFuel 9 = .ok (.aload_n 0, 1) := by decide +kernel
theorem d_Rn_takeFuel_10 : decode b_Rn_takeFuel 10 = .ok (.dup, 1) := by decide +kernel
theorem d_Rn_takeFuel_11 : decode b_Rn_takeFuel 11 = .ok (.getfield 98, 3) := by decide +kernel
theorem d_Rn_takeFuel_14 : decode b_Rn_takeFuel 14 = .ok (.iconst 1, 1) := by decide +kernel
theorem d_Rn_takeFuel_15 : decode b_Rn_takeFuel 15 = .ok (.isub, 1) := by decide +kernel
theorem d_Rn_takeFuel_16 : decode b_Rn_takeFuel 16 = .ok (.putfield 98, 3) := by decide +kernel
theorem d_Rn_takeFuel_19 : decode b_Rn_takeFuel 19 = .ok (.iconst 1, 1) := by decide +kernel
theorem d_Rn_takeFuel_20 : decode b_Rn_takeFuel 20 = .ok (.ireturn, 1) := by decide +kernel
