/-! decode rows; written by wip/gen/names.py -/
theorem d_Rn_grow_47 : decode b_Rn_grow 47 = .ok (.aload 4, 2) := by decide +kernel
theorem d_Rn_grow_49 : decode b_Rn_grow 49 = .ok (.iload_n 2, 1) := by decide +kernel
theorem d_Rn_grow_50 : decode b_Rn_grow 50 = .ok (.invokevirtual 160, 3) := by decide +kernel
theorem d_Rn_grow_53 : decode b_Rn_grow 53 = .ok (.iconst (-1), 1) := by decide +kernel
theorem d_Rn_grow_54 : decode b_Rn_grow 54 = .ok (.if_icmp .ne 9, 3) := by decide +kernel
theorem d_Rn_grow_57 : decode b_Rn_grow 57 = .ok (.aload_n 0, 1) := by decide +kernel
theorem d_Rn_grow_58 : decode b_Rn_grow 58 = .ok (.iconst 4, 1) := by decide +kernel
theorem d_Rn_grow_59 : decode b_Rn_grow 59 = .ok (.invokevirtual 64, 3) := by decide +kernel
theorem d_Rn_grow_62 : decode b_Rn_grow 62 = .ok (.ireturn, 1) := by decide +kernel
theorem d_Rn_grow_63 : decode b_Rn_grow 63 = .ok (.aload 4, 2) := by decide +kernel
theorem d_Rn_grow_65 : decode b_Rn_grow 65 = .ok (.iload_n 2, 1) := by decide +kernel
theorem d_Rn_grow_66 : decode b_Rn_grow 66 = .ok (.invokevirtual 238, 3) := by decide +kernel
theorem d_Rn_grow_69 : decode b_Rn_grow 69 = .ok (.ifCond .ne 9, 3) := by decide +kernel
theorem d_Rn_grow_72 : decode b_Rn_grow 72 = .ok (.aload_n 0, 1) := by decide +kernel
theorem d_Rn_grow_73 : decode b_Rn_grow 73 = .ok (.iconst 5, 1) := by decide +kernel
theorem d_Rn_grow_74 : decode b_Rn_grow 74 = .ok (.invokevirtual 64, 3) := by decide +kernel
theorem d_Rn_grow_77 : decode b_Rn_grow 77 = .ok (.ireturn, 1) := by decide +kernel
theorem d_Rn_grow_78 : decode b_Rn_grow 78 = .ok (.aload 4, 2) := by decide +kernel
theorem d_Rn_grow_80 : decode b_Rn_grow 80 = .ok (.iload_n 2, 1) := by decide +kernel
theorem d_Rn_grow_81 : decode b_Rn_grow 81 = .ok (.aload 4, 2) := by decide +kernel
theorem d_Rn_grow_83 : decode b_Rn_grow 83 = .ok (.iload_n 2, 1) := by decide +kernel
theorem d_Rn_grow_84 : decode b_Rn_grow 84 = .ok (.invokevirtual 297, 3) := by decide +kernel
theorem d_Rn_grow_87 : decode b_Rn_grow 87 = .ok (.iload_n 3, 1) := by decide +kernel
theorem d_Rn_grow_88 : decode b_Rn_grow 88 = .ok (.iadd, 1) := by decide +kernel
theorem d_Rn_grow_89 : decode b_Rn_grow 89 = .ok (.invokevirtual 250, 3) := by decide +kernel
theorem d_Rn_grow_92 : decode b_Rn_grow 92 = .ok (.aload_n 0, 1) := by decide +kernel
theorem d_Rn_grow_93 : decode b_Rn_grow 93 = .ok (.getfield 36, 3) := by decide +kernel
theorem d_Rn_grow_96 : decode b_Rn_grow 96 = .ok (.iconst 0, 1) := by decide +kernel
theorem d_Rn_grow_97 : decode b_Rn_grow 97 = .ok (.aload 4, 2) := by decide +kernel
theorem d_Rn_grow_99 : decode b_Rn_grow 99 = .ok (.iload_n 2, 1) := by decide +kernel
theorem d_Rn_grow_100 : decode b_Rn_grow 100 = .ok (.invokevirtual 277, 3) := by decide +kernel
theorem d_Rn_grow_103 : decode b_Rn_grow 103 = .ok (.iconst 0, 1) := by decide +kernel
theorem d_Rn_grow_104 : decode b_Rn_grow 104 = .ok (.ireturn, 1) := by decide +kernel
theorem d_Rn_isCommand_0 : decode b_Rn_isCommand 0 = .ok (.iload_n 1, 1) := by decide +kernel
theorem d_Rn_isCommand_1 : decode b_Rn_isCommand 1 = .ok (.invokestatic 197, 3) := by decide +kernel
theorem d_Rn_isCommand_4 : decode b_Rn_isCommand 4 = .ok (.ifCond .eq 15, 3) := by decide +kernel
theorem d_Rn_isCommand_7 : decode b_Rn_isCommand 7 = .ok (.aload_n 0, 1) := by decide +kernel
theorem d_Rn_isCommand_8 : decode b_Rn_isCommand 8 = .ok (.getfield 21, 3) := by decide +kernel
theorem d_Rn_isCommand_11 : decode b_Rn_isCommand 11 = .ok (.iload_n 1, 1) := by decide +kernel
theorem d_Rn_isCommand_12 : decode b_Rn_isCommand 12 = .ok (.bipush 65, 2) := by decide +kernel
theorem d_Rn_isCommand_14 : decode b_Rn_isCommand 14 = .ok (.isub, 1) := by decide +kernel
theorem d_Rn_isCommand_15 : decode b_Rn_isCommand 15 = .ok (.invokevirtual 200, 3) := by decide +kernel
theorem d_Rn_isCommand_18 : decode b_Rn_isCommand 18 = .ok (.ireturn, 1) := by decide +kernel
theorem d_Rn_isCommand_19 : decode b_Rn_isCommand 19 = .ok (.iload_n 1, 1) := by decide +kernel
theorem d_Rn_isCommand_20 : decode b_Rn_isCommand 20 = .ok (.ifCond .eq 17, 3) := by decide +kernel
theorem d_Rn_isCommand_23 : decode b_Rn_isCommand 23 = .ok (.ldc 203, 2) := by decide +kernel
theorem d_Rn_isCommand_25 : decode b_Rn_isCommand 25 = .ok (.iload_n 1, 1) := by decide +kernel
theorem d_Rn_isCommand_26 : decode b_Rn_isCommand 26 = .ok (.i2c, 1) := by decide +kernel
theorem d_Rn_isCommand_27 : decode b_Rn_isCommand 27 = .ok (.invokevirtual 205, 3) := by decide +kernel
theorem d_Rn_isCommand_30 : decode b_Rn_isCommand 30 = .ok (.ifCond .lt 7, 3) := by decide +kernel
theorem d_Rn_isCommand_33 : decode b_Rn_isCommand 33 = .ok (.iconst 1, 1) := by decide +kernel
theorem d_Rn_isCommand_34 : decode b_Rn_isCommand 34 = .ok (.goto 4, 3) := by decide +kernel
theorem d_Rn_isCommand_37 : decode b_Rn_isCommand 37 = .ok (.iconst 0, 1) := by decide +kernel
theorem d_Rn_isCommand_38 : decode b_Rn_isCommand 38 = .ok (.ireturn, 1) := by decide +kernel
theorem d_Rn_leave_0 : decode b_Rn_leave 0 = .ok (.iload_n 1, 1) := by decide +kernel
theorem d_Rn_leave_1 : decode b_Rn_leave 1 = .ok (.iconst 3, 1) := by decide +kernel
theorem d_Rn_leave_2 : decode b_Rn_leave 2 = .ok (.if_icmp .eq 8, 3) := by decide +kernel
theorem d_Rn_leave_5 : decode b_Rn_leave 5 = .ok (.iload_n 1, 1) := by decide +kernel
theorem d_Rn_leave_6 : decode b_Rn_leave 6 = .ok (.iconst 4, 1) := by decide +kernel
theorem d_Rn_leave_7 : decode b_Rn_leave 7 = .ok (.if_icmp .ne 10, 3) := by decide +kernel
theorem d_Rn_leave_10 : decode b_Rn_leave 10 = .ok (.aload_n 0, 1) := by decide +kernel
theorem d_Rn_leave_11 : decode b_Rn_leave 11 = .ok (.bipush 9, 2) := by decide +kernel
theorem d_Rn_leave_13 : decode b_Rn_leave 13 = .ok (.invokevirtual 64, 3) := by decide +kernel
theorem d_Rn_leave_16 : decode b_Rn_leave 16 = .ok (.ireturn, 1) := by decide +kernel
theorem d_Rn_leave_17 : decode b_Rn_leave 17 = .ok (.iload_n 1, 1) := by decide +kernel
theorem d_Rn_leave_18 : decode b_Rn_leave 18 = .ok (.iconst 2, 1) := by decide +kernel
theorem d_Rn_leave_19 : decode b_Rn_leave 19 = .ok (.if_icmp .ne 7, 3) := by decide +kernel
theorem d_Rn_leave_22 : decode b_Rn_leave 22 = .ok (.iconst 0, 1) := by decide +kernel
theorem d_Rn_leave_23 : decode b_Rn_leave 23 = .ok (.goto 4, 3) := by decide +kernel
theorem d_Rn_leave_26 : decode b_Rn_leave 26 = .ok (.iload_n 1, 1) := by decide +kernel
theorem d_Rn_leave_27 : decode b_Rn_leave 27 = .ok (.ireturn, 1) := by decide +kernel
theorem d_Rn_readBraced_0 : decode b_Rn_readBraced 0 = .ok (.iconst 0, 1) := by decide +kernel
theorem d_Rn_readBraced_1 : decode b_Rn_readBraced 1 = .ok (.istore_n 2, 1) := by decide +kernel
theorem d_Rn_readBraced_2 : decode b_Rn_readBraced 2 = .ok (.aload_n 1, 1) := by decide +kernel
theorem d_Rn_readBraced_3 : decode b_Rn_readBraced 3 = .ok (.getfield 101, 3) := by decide +kernel
theorem d_Rn_readBraced_6 : decode b_Rn_readBraced 6 = .ok (.istore_n 3, 1) := by decide +kernel
theorem d_Rn_readBraced_7 : decode b_Rn_readBraced 7 = .ok (.iload_n 3, 1) := by decide +kernel
theorem d_Rn_readBraced_8 : decode b_Rn_readBraced 8 = .ok (.aload_n 1, 1) := by decide +kernel
theorem d_Rn_readBraced_9 : decode b_Rn_readBraced 9 = .ok (.getfield 104, 3) := by decide +kernel
theorem d_Rn_readBraced_12 : decode b_Rn_readBraced 12 = .ok (.if_icmp .ge 78, 3) := by decide +kernel
theorem d_Rn_readBraced_15 : decode b_Rn_readBraced 15 = .ok (.aload_n 0, 1) := by decide +kernel
theorem d_Rn_readBraced_16 : decode b_Rn_readBraced 16 = .ok (.getfield 40, 3) := by decide +kernel
theorem d_Rn_readBraced_19 : decode b_Rn_readBraced 19 = .ok (.getfield 50, 3) := by decide +kernel
theorem d_Rn_readBraced_22 : decode b_Rn_readBraced 22 = .ok (.iload_n 3, 1) := by decide +kernel
theorem d_Rn_readBraced_23 : decode b_Rn_readBraced 23 = .ok (.caload, 1) := by decide +kernel
theorem d_Rn_readBraced_24 : decode b_Rn_readBraced 24 = .ok (.istore 4, 2) := by decide +kernel
theorem d_Rn_readBraced_26 : decode b_Rn_readBraced 26 = .ok (.iload 4, 2) := by decide +kernel
theorem d_Rn_readBraced_28 : decode b_Rn_readBraced 28 = .ok (.bipush 123, 2) := by decide +kernel
theorem d_Rn_readBraced_30 : decode b_Rn_readBraced 30 = .ok (.if_icmp .ne 9, 3) := by decide +kernel
theorem d_Rn_readBraced_33 : decode b_Rn_readBraced 33 = .ok (.iinc 2 1, 3) := by decide +kernel
theorem d_Rn_readBraced_36 : decode b_Rn_readBraced 36 = .ok (.goto 13, 3) := by decide +kernel
theorem d_Rn_readBraced_39 : decode b_Rn_readBraced 39 = .ok (.iload 4, 2) := by decide +kernel
theorem d_Rn_readBraced_41 : decode b_Rn_readBraced 41 = .ok (.bipush 125, 2) := by decide +kernel
theorem d_Rn_readBraced_43 : decode b_Rn_readBraced 43 = .ok (.if_icmp .ne 6, 3) := by decide +kernel
theorem d_Rn_readBraced_46 : decode b_Rn_readBraced 46 = .ok (.iinc 2 (-1), 3) := by decide +kernel
theorem d_Rn_readBraced_49 : decode b_Rn_readBraced 49 = .ok (.iload_n 2, 1) := by decide +kernel
theorem d_Rn_readBraced_50 : decode b_Rn_readBraced 50 = .ok (.ifCond .ne 34, 3) := by decide +kernel
theorem d_Rn_readBraced_53 : decode b_Rn_readBraced 53 = .ok (.aload_n 1, 1) := by decide +kernel
theorem d_Rn_readBraced_54 : decode b_Rn_readBraced 54 = .ok (.aload_n 0, 1) := by decide +kernel
theorem d_Rn_readBraced_55 : decode b_Rn_readBraced 55 = .ok (.getfield 40, 3) := by decide +kernel
theorem d_Rn_readBraced_58 : decode b_Rn_readBraced 58 = .ok (.getfield 50, 3) := by decide +kernel
theorem d_Rn_readBraced_61 : decode b_Rn_readBraced 61 = .ok (.aload_n 1, 1) := by decide +kernel
theorem d_Rn_readBraced_62 : decode b_Rn_readBraced 62 = .ok (.getfield 101, 3) := by decide +kernel
theorem d_Rn_readBraced_65 : decode b_Rn_readBraced 65 = .ok (.iconst 1, 1) := by decide +kernel
theorem d_Rn_readBraced_66 : decode b_Rn_readBraced 66 = .ok (.iadd, 1) := by decide +kernel
theorem d_Rn_readBraced_67 : decode b_Rn_readBraced 67 = .ok (.iload_n 3, 1) := by decide +kernel
theorem d_Rn_readBraced_68 : decode b_Rn_readBraced 68 = .ok (.invokevirtual 131, 3) := by decide +kernel
theorem d_Rn_readBraced_71 : decode b_Rn_readBraced 71 = .ok (.aload_n 1, 1) := by decide +kernel
theorem d_Rn_readBraced_72 : decode b_Rn_readBraced 72 = .ok (.iload_n 3, 1) := by decide +kernel
theorem d_Rn_readBraced_73 : decode b_Rn_readBraced 73 = .ok (.iconst 1, 1) := by decide +kernel
theorem d_Rn_readBraced_74 : decode b_Rn_readBraced 74 = .ok (.iadd, 1) := by decide +kernel
theorem d_Rn_readBraced_75 : decode b_Rn_readBraced 75 = .ok (.putfield 101, 3) := by decide +kernel
theorem d_Rn_readBraced_78 : decode b_Rn_readBraced 78 = .ok (.aload_n 0, 1) := by decide +kernel
theorem d_Rn_readBraced_79 : decode b_Rn_readBraced 79 = .ok (.aload_n 1, 1) := by decide +kernel
theorem d_Rn_readBraced_80 : decode b_Rn_readBraced 80 = .ok (.invokevirtual 128, 3) := by decide +kernel
theorem d_Rn_readBraced_83 : decode b_Rn_readBraced 83 = .ok (.ireturn, 1) := by decide +kernel
theorem d_Rn_readBraced_84 : decode b_Rn_readBraced 84 = .ok (.iinc 3 1, 3) := by decide +kernel
theorem d_Rn_readBraced_87 : decode b_Rn_readBraced 87 = .ok (.goto (-80), 3) := by decide +kernel
theorem d_Rn_readBraced_90 : decode b_Rn_readBraced 90 = .ok (.aload_n 0, 1) := by decide +kernel
theorem d_Rn_readBraced_91 : decode b_Rn_readBraced 91 = .ok (.iconst 1, 1) := by decide +kernel
theorem d_Rn_readBraced_92 : decode b_Rn_readBraced 92 = .ok (.invokevirtual 64, 3) := by decide +kernel
theorem d_Rn_readBraced_95 : decode b_Rn_readBraced 95 = .ok (.ireturn, 1) := by decide +kernel
theorem d_Rn_readCommand_0 : decode b_Rn_readCommand 0 = .ok (.aload_n 1, 1) := by decide +kernel
theorem d_Rn_readCommand_1 : decode b_Rn_readCommand 1 = .ok (.iconst 0, 1) := by decide +kernel
theorem d_Rn_readCommand_2 : decode b_Rn_readCommand 2 = .ok (.putfield 83, 3) := by decide +kernel
theorem d_Rn_readCommand_5 : decode b_Rn_readCommand 5 = .ok (.iconst 0, 1) := by decide +kernel
theorem d_Rn_readCommand_6 : decode b_Rn_readCommand 6 = .ok (.istore_n 3, 1) := by decide +kernel
theorem d_Rn_readCommand_7 : decode b_Rn_readCommand 7 = .ok (.iload_n 3, 1) := by decide +kernel
theorem d_Rn_readCommand_8 : decode b_Rn_readCommand 8 = .ok (.sipush 200, 3) := by decide +kernel
theorem d_Rn_readCommand_11 : decode b_Rn_readCommand 11 = .ok (.if_icmp .gt 109, 3) := by decide +kernel
theorem d_Rn_readCommand_14 : decode b_Rn_readCommand 14 = .ok (.aload_n 1, 1) := by decide +kernel
theorem d_Rn_readCommand_15 : decode b_Rn_readCommand 15 = .ok (.getfield 101, 3) := by decide +kernel
theorem d_Rn_readCommand_18 : decode b_Rn_readCommand 18 = .ok (.aload_n 1, 1) := by decide +kernel
theorem d_Rn_readCommand_19 : decode b_Rn_readCommand 19 = .ok (.getfield 104, 3) := by decide +kernel
theorem d_Rn_readCommand_22 : decode b_Rn_readCommand 22 = .ok (.if_icmp .ge 98, 3) := by decide +kernel
theorem d_Rn_readCommand_25 : decode b_Rn_readCommand 25 = .ok (.aload_n 0, 1) := by decide +kernel
theorem d_Rn_readCommand_26 : decode b_Rn_readCommand 26 = .ok (.getfield 40, 3) := by decide +kernel
theorem d_Rn_readCommand_29 : decode b_Rn_readCommand 29 = .ok (.getfield 50, 3) := by decide +kernel
theorem d_Rn_readCommand_32 : decode b_Rn_readCommand 32 = .ok (.aload_n 1, 1) := by decide +kernel
theorem d_Rn_readCommand_33 : decode b_Rn_readCommand 33 = .ok (.getfield 101, 3) := by decide +kernel
theorem d_Rn_readCommand_36 : decode b_Rn_readCommand 36 = .ok (.caload, 1) := by decide +kernel
theorem d_Rn_readCommand_37 : decode b_Rn_readCommand 37 = .ok (.istore 4, 2) := by decide +kernel
theorem d_Rn_readCommand_39 : decode b_Rn_readCommand 39 = .ok (.aload_n 1, 1) := by decide +kernel
theorem d_Rn_readCommand_40 : decode b_Rn_readCommand 40 = .ok (.iload 4, 2) := by decide +kernel
theorem d_Rn_readCommand_42 : decode b_Rn_readCommand 42 = .ok (.invokevirtual 107, 3) := by decide +kernel
theorem d_Rn_readCommand_45 : decode b_Rn_readCommand 45 = .ok (.ifCond .eq 31, 3) := by decide +kernel
theorem d_Rn_readCommand_48 : decode b_Rn_readCommand 48 = .ok (.aload_n 1, 1) := by decide +kernel
theorem d_Rn_readCommand_49 : decode b_Rn_readCommand 49 = .ok (.dup, 1) := by decide +kernel
theorem d_Rn_readCommand_50 : decode b_Rn_readCommand 50 = .ok (.getfield 101, 3) := by decide +kernel
theorem d_Rn_readCommand_53 : decode b_Rn_readCommand 53 = .ok (.iconst 1, 1) := by decide +kernel
theorem d_Rn_readCommand_54 : decode b_Rn_readCommand 54 = .ok (.iadd, 1) := by decide +kernel
theorem d_Rn_readCommand_55 : decode b_Rn_readCommand 55 = .ok (.putfield 101, 3) := by decide +kernel
theorem d_Rn_readCommand_58 : decode b_Rn_readCommand 58 = .ok (.aload_n 1, 1) := by decide +kernel
theorem d_Rn_readCommand_59 : decode b_Rn_readCommand 59 = .ok (.iload 4, 2) := by decide +kernel
theorem d_Rn_readCommand_61 : decode b_Rn_readCommand 61 = .ok (.bipush 93, 2) := by decide +kernel
theorem d_Rn_readCommand_63 : decode b_Rn_readCommand 63 = .ok (.if_icmp .ne 7, 3) := by decide +kernel
theorem d_Rn_readCommand_66 : decode b_Rn_readCommand 66 = .ok (.iconst 1, 1) := by decide +kernel
theorem d_Rn_readCommand_67 : decode b_Rn_readCommand 67 = .ok (.goto 4, 3) := by decide +kernel
theorem d_Rn_readCommand_70 : decode b_Rn_readCommand 70 = .ok (.iconst 0, 1) := by decide +kernel
theorem d_Rn_readCommand_71 : decode b_Rn_readCommand 71 = .ok (.putfield 75, 3) := by decide +kernel
theorem d_Rn_readCommand_74 : decode b_Rn_readCommand 74 = .ok (.iconst 0, 1) := by decide +kernel
theorem d_Rn_readCommand_75 : decode b_Rn_readCommand 75 = .ok (.ireturn, 1) := by decide +kernel
theorem d_Rn_readCommand_76 : decode b_Rn_readCommand 76 = .ok (.iload 4, 2) := by decide +kernel
theorem d_Rn_readCommand_78 : decode b_Rn_readCommand 78 = .ok (.bipush 32, 2) := by decide +kernel
theorem d_Rn_readCommand_80 : decode b_Rn_readCommand 80 = .ok (.if_icmp .ne 16, 3) := by decide +kernel
theorem d_Rn_readCommand_83 : decode b_Rn_readCommand 83 = .ok (.aload_n 1, 1) := by decide +kernel
theorem d_Rn_readCommand_84 : decode b_Rn_readCommand 84 = .ok (.dup, 1) := by decide +kernel
theorem d_Rn_readCommand_85 : decode b_Rn_readCommand 85 = .ok (.getfield 101, 3) := by decide +kernel
theorem d_Rn_readCommand_88 : decode b_Rn_readCommand 88 = .ok (.iconst 1, 1) := by decide +kernel
theorem d_Rn_readCommand_89 : decode b_Rn_readCommand 89 = .ok (.iadd, 1) := by decide +kernel
theorem d_Rn_readCommand_90 : decode b_Rn_readCommand 90 = .ok (.putfield 101, 3) := by decide +kernel
theorem d_Rn_readCommand_93 : decode b_Rn_readCommand 93 = .ok (.goto 21, 3) := by decide +kernel
theorem d_Rn_readCommand_96 : decode b_Rn_readCommand 96 = .ok (.aload_n 0, 1) := by decide +kernel
theorem d_Rn_readCommand_97 : decode b_Rn_readCommand 97 = .ok (.aload_n 1, 1) := by decide +kernel
theorem d_Rn_readCommand_98 : decode b_Rn_readCommand 98 = .ok (.iload_n 2, 1) := by decide +kernel
theorem d_Rn_readCommand_99 : decode b_Rn_readCommand 99 = .ok (.iload 4, 2) := by decide +kernel
theorem d_Rn_readCommand_101 : decode b_Rn_readCommand 101 = .ok (.invokevirtual 111, 3) := by decide +kernel
theorem d_Rn_readCommand_104 : decode b_Rn_readCommand 104 = .ok (.istore 5, 2) := by decide +kernel
theorem d_Rn_readCommand_106 : decode b_Rn_readCommand 106 = .ok (.iload 5, 2) := by decide +kernel
theorem d_Rn_readCommand_108 : decode b_Rn_readCommand 108 = .ok (.ifCond .eq 6, 3) := by decide +kernel
theorem d_Rn_readCommand_111 : decode b_Rn_readCommand 111 = .ok (.iload 5, 2) := by decide +kernel
theorem d_Rn_readCommand_113 : decode b_Rn_readCommand 113 = .ok (.ireturn, 1) := by decide +kernel
theorem d_Rn_readCommand_114 : decode b_Rn_readCommand 114 = .ok (.iinc 3 1, 3) := by decide +kernel
theorem d_Rn_readCommand_117 : decode b_Rn_readCommand 117 = .ok (.goto (-110), 3) := by decide +kernel
theorem d_Rn_readCommand_120 : decode b_Rn_readCommand 120 = .ok (.aload_n 1, 1) := by decide +kernel
theorem d_Rn_readCommand_121 : decode b_Rn_readCommand 121 = .ok (.iconst 1, 1) := by decide +kernel
theorem d_Rn_readCommand_122 : decode b_Rn_readCommand 122 = .ok (.putfield 75, 3) := by decide +kernel
theorem d_Rn_readCommand_125 : decode b_Rn_readCommand 125 = .ok (.aload_n 1, 1) := by decide +kernel
theorem d_Rn_readCommand_126 : decode b_Rn_readCommand 126 = .ok (.getfield 115, 3) := by decide +kernel
theorem d_Rn_readCommand_129 : decode b_Rn_readCommand 129 = .ok (.ifCond .eq 11, 3) := by decide +kernel
theorem d_Rn_readCommand_132 : decode b_Rn_readCommand 132 = .ok (.aload_n 0, 1) := by decide +kernel
theorem d_Rn_readCommand_133 : decode b_Rn_readCommand 133 = .ok (.iconst 1, 1) := by decide +kernel
theorem d_Rn_readCommand_134 : decode b_Rn_readCommand 134 = .ok (.invokevirtual 64, 3) := by decide +kernel
theorem d_Rn_readCommand_137 : decode b_Rn_readCommand 137 = .ok (.goto 4, 3) := by decide +kernel
theorem d_Rn_readCommand_140 : decode b_Rn_readCommand 140 = .ok (.iconst 0, 1) := by decide +kernel
theorem d_Rn_readCommand_141 : decode b_Rn_readCommand 141 = .ok (.ireturn, 1) := by decide +kernel
theorem d_Rn_readPiece_0 : decode b_Rn_readPiece 0 = .ok (.aload_n 1, 1) := by decide +kernel
theorem d_Rn_readPiece_1 : decode b_Rn_readPiece 1 = .ok (.getfield 101, 3) := by decide +kernel
theorem d_Rn_readPiece_4 : decode b_Rn_readPiece 4 = .ok (.aload_n 1, 1) := by decide +kernel
theorem d_Rn_readPiece_5 : decode b_Rn_readPiece 5 = .ok (.getfield 104, 3) := by decide +kernel
theorem d_Rn_readPiece_8 : decode b_Rn_readPiece 8 = .ok (.if_icmp .ge 18, 3) := by decide +kernel
theorem d_Rn_readPiece_11 : decode b_Rn_readPiece 11 = .ok (.aload_n 0, 1) := by decide +kernel
theorem d_Rn_readPiece_12 : decode b_Rn_readPiece 12 = .ok (.getfield 40, 3) := by decide +kernel
theorem d_Rn_readPiece_15 : decode b_Rn_readPiece 15 = .ok (.getfield 50, 3) := by decide +kernel
theorem d_Rn_readPiece_18 : decode b_Rn_readPiece 18 = .ok (.aload_n 1, 1) := by decide +kernel
theorem d_Rn_readPiece_19 : decode b_Rn_readPiece 19 = .ok (.getfield 101, 3) := by decide +kernel
theorem d_Rn_readPiece_22 : decode b_Rn_readPiece 22 = .ok (.caload, 1) := by decide +kernel
theorem d_Rn_readPiece_23 : decode b_Rn_readPiece 23 = .ok (.goto 4, 3) := by decide +kernel
theorem d_Rn_readPiece_26 : decode b_Rn_readPiece 26 = .ok (.iconst 0, 1) := by decide +kernel
theorem d_Rn_readPiece_27 : decode b_Rn_readPiece 27 = .ok (.istore 4, 2) := by decide +kernel
theorem d_Rn_readPiece_29 : decode b_Rn_readPiece 29 = .ok (.iload_n 3, 1) := by decide +kernel
theorem d_Rn_readPiece_30 : decode b_Rn_readPiece 30 = .ok (.bipush 91, 2) := by decide +kernel
theorem d_Rn_readPiece_32 : decode b_Rn_readPiece 32 = .ok (.if_icmp .ne 86, 3) := by decide +kernel
theorem d_Rn_readPiece_35 : decode b_Rn_readPiece 35 = .ok (.aload_n 0, 1) := by decide +kernel
theorem d_Rn_readPiece_36 : decode b_Rn_readPiece 36 = .ok (.aload_n 1, 1) := by decide +kernel
theorem d_Rn_readPiece_37 : decode b_Rn_readPiece 37 = .ok (.getfield 101, 3) := by decide +kernel
theorem d_Rn_readPiece_40 : decode b_Rn_readPiece 40 = .ok (.aload_n 1, 1) := by decide +kernel
theorem d_Rn_readPiece_41 : decode b_Rn_readPiece 41 = .ok (.getfield 104, 3) := by decide +kernel
theorem d_Rn_readPiece_44 : decode b_Rn_readPiece 44 = .ok (.aload_n 1, 1) := by decide +kernel
theorem d_Rn_readPiece_45 : decode b_Rn_readPiece 45 = .ok (.getfield 138, 3) := by decide +kernel
theorem d_Rn_readPiece_48 : decode b_Rn_readPiece 48 = .ok (.iload_n 2, 1) := by decide +kernel
theorem d_Rn_readPiece_49 : decode b_Rn_readPiece 49 = .ok (.iconst 1, 1) := by decide +kernel
theorem d_Rn_readPiece_50 : decode b_Rn_readPiece 50 = .ok (.iadd, 1) := by decide +kernel
theorem d_Rn_readPiece_51 : decode b_Rn_readPiece 51 = .ok (.iconst 1, 1) := by decide +kernel
theorem d_Rn_readPiece_52 : decode b_Rn_readPiece 52 = .ok (.invokevirtual 141, 3) := by decide +kernel
theorem d_Rn_readPiece_55 : decode b_Rn_readPiece 55 = .ok (.istore 5, 2) := by decide +kernel
theorem d_Rn_readPiece_57 : decode b_Rn_readPiece 57 = .ok (.iload 5, 2) := by decide +kernel
theorem d_Rn_readPiece_59 : decode b_Rn_readPiece 59 = .ok (.ifCond .ne 11, 3) := by decide +kernel
theorem d_Rn_readPiece_62 : decode b_Rn_readPiece 62 = .ok (.iload_n 2, 1) := by decide +kernel
theorem d_Rn_readPiece_63 : decode b_Rn_readPiece 63 = .ok (.iconst 1, 1) := by decide +kernel
theorem d_Rn_readPiece_64 : decode b_Rn_readPiece 64 = .ok (.iadd, 1) := by decide +kernel
theorem d_Rn_readPiece_65 : decode b_Rn_readPiece 65 = .ok (.bipush 8, 2) := by decide +kernel
theorem d_Rn_readPiece_67 : decode b_Rn_readPiece 67 = .ok (.if_icmp .lt 6, 3) := by decide +kernel
theorem d_Rn_readPiece_70 : decode b_Rn_readPiece 70 = .ok (.iload 5, 2) := by decide +kernel
theorem d_Rn_readPiece_72 : decode b_Rn_readPiece 72 = .ok (.ireturn, 1) := by decide +kernel
theorem d_Rn_readPiece_73 : decode b_Rn_readPiece 73 = .ok (.aload_n 1, 1) := by decide +kernel
theorem d_Rn_readPiece_74 : decode b_Rn_readPiece 74 = .ok (.aload_n 0, 1) := by decide +kernel
theorem d_Rn_readPiece_75 : decode b_Rn_readPiece 75 = .ok (.getfield 27, 3) := by decide +kernel
theorem d_Rn_readPiece_78 : decode b_Rn_readPiece 78 = .ok (.iload_n 2, 1) := by decide +kernel
theorem d_Rn_readPiece_79 : decode b_Rn_readPiece 79 = .ok (.iconst 1, 1) := by decide +kernel
theorem d_Rn_readPiece_80 : decode b_Rn_readPiece 80 = .ok (.iadd, 1) := by decide +kernel
theorem d_Rn_readPiece_81 : decode b_Rn_readPiece 81 = .ok (.aaload, 1) := by decide +kernel
theorem d_Rn_readPiece_82 : decode b_Rn_readPiece 82 = .ok (.getfield 101, 3) := by decide +kernel
theorem d_Rn_readPiece_85 : decode b_Rn_readPiece 85 = .ok (.putfield 101, 3) := by decide +kernel
theorem d_Rn_readPiece_88 : decode b_Rn_readPiece 88 = .ok (.aload_n 1, 1) := by decide +kernel
theorem d_Rn_readPiece_89 : decode b_Rn_readPiece 89 = .ok (.getfield 145, 3) := by decide +kernel
theorem d_Rn_readPiece_92 : decode b_Rn_readPiece 92 = .ok (.aload_n 1, 1) := by decide +kernel
theorem d_Rn_readPiece_93 : decode b_Rn_readPiece 93 = .ok (.getfield 83, 3) := by decide +kernel
theorem d_Rn_readPiece_96 : decode b_Rn_readPiece 96 = .ok (.aload_n 0, 1) := by decide +kernel
theorem d_Rn_readPiece_97 : decode b_Rn_readPiece 97 = .ok (.getfield 36, 3) := by decide +kernel
theorem d_Rn_readPiece_100 : decode b_Rn_readPiece 100 = .ok (.iconst 0, 1) := by decide +kernel
theorem d_Rn_readPiece_101 : decode b_Rn_readPiece 101 = .ok (.invokevirtual 148, 3) := by decide +kernel
theorem d_Rn_readPiece_104 : decode b_Rn_readPiece 104 = .ok (.ifCond .eq 7, 3) := by decide +kernel
theorem d_Rn_readPiece_107 : decode b_Rn_readPiece 107 = .ok (.iconst 0, 1) := by decide +kernel
theorem d_Rn_readPiece_108 : decode b_Rn_readPiece 108 = .ok (.goto 9, 3) := by decide +kernel
theorem d_Rn_readPiece_111 : decode b_Rn_readPiece 111 = .ok (.aload_n 0, 1) := by decide +kernel
theorem d_Rn_readPiece_112 : decode b_Rn_readPiece 112 = .ok (.bipush 7, 2) := by decide +kernel
theorem d_Rn_readPiece_114 : decode b_Rn_readPiece 114 = .ok (.invokevirtual 64, 3) := by decide +kernel
theorem d_Rn_readPiece_117 : decode b_Rn_readPiece 117 = .ok (.ireturn, 1) := by decide +kernel
theorem d_Rn_readPiece_118 : decode b_Rn_readPiece 118 = .ok (.iload_n 3, 1) := by decide +kernel
theorem d_Rn_readPiece_119 : decode b_Rn_readPiece 119 = .ok (.bipush 36, 2) := by decide +kernel
theorem d_Rn_readPiece_121 : decode b_Rn_readPiece 121 = .ok (.if_icmp .ne 89, 3) := by decide +kernel
theorem d_Rn_readPiece_124 : decode b_Rn_readPiece 124 = .ok (.iload 4, 2) := by decide +kernel
theorem d_Rn_readPiece_126 : decode b_Rn_readPiece 126 = .ok (.invokestatic 152, 3) := by decide +kernel
theorem d_Rn_readPiece_129 : decode b_Rn_readPiece 129 = .ok (.ifCond .eq 81, 3) := by decide +kernel
theorem d_Rn_readPiece_132 : decode b_Rn_readPiece 132 = .ok (.aload_n 1, 1) := by decide +kernel
theorem d_Rn_readPiece_133 : decode b_Rn_readPiece 133 = .ok (.dup, 1) := by decide +kernel
theorem d_Rn_readPiece_134 : decode b_Rn_readPiece 134 = .ok (.getfield 101, 3) := by decide +kernel
theorem d_Rn_readPiece_137 : decode b_Rn_readPiece 137 = .ok (.iconst 1, 1) := by decide +kernel
theorem d_Rn_readPiece_138 : decode b_Rn_readPiece 138 = .ok (.iadd, 1) := by decide +kernel
theorem d_Rn_readPiece_139 : decode b_Rn_readPiece 139 = .ok (.putfield 101, 3) := by decide +kernel
theorem d_Rn_readPiece_142 : decode b_Rn_readPiece 142 = .ok (.iload 4, 2) := by decide +kernel
theorem d_Rn_readPiece_144 : decode b_Rn_readPiece 144 = .ok (.bipush 97, 2) := by decide +kernel
theorem d_Rn_readPiece_146 : decode b_Rn_readPiece 146 = .ok (.isub, 1) := by decide +kernel
theorem d_Rn_readPiece_147 : decode b_Rn_readPiece 147 = .ok (.istore 5, 2) := by decide +kernel
theorem d_Rn_readPiece_149 : decode b_Rn_readPiece 149 = .ok (.aload_n 0, 1) := by decide +kernel
theorem d_Rn_readPiece_150 : decode b_Rn_readPiece 150 = .ok (.getfield 12, 3) := by decide +kernel
theorem d_Rn_readPiece_153 : decode b_Rn_readPiece 153 = .ok (.aload_n 1, 1) := by decide +kernel
theorem d_Rn_readPiece_154 : decode b_Rn_readPiece 154 = .ok (.getfield 138, 3) := by decide +kernel
theorem d_Rn_readPiece_157 : decode b_Rn_readPiece 157 = .ok (.iload 5, 2) := by decide +kernel
theorem d_Rn_readPiece_159 : decode b_Rn_readPiece 159 = .ok (.invokevirtual 156, 3) := by decide +kernel
theorem d_Rn_readPiece_162 : decode b_Rn_readPiece 162 = .ok (.astore 6, 2) := by decide +kernel
theorem d_Rn_readPiece_164 : decode b_Rn_readPiece 164 = .ok (.aload 6, 2) := by decide +kernel
theorem d_Rn_readPiece_166 : decode b_Rn_readPiece 166 = .ok (.iload 5, 2) := by decide +kernel
theorem d_Rn_readPiece_168 : decode b_Rn_readPiece 168 = .ok (.invokevirtual 160, 3) := by decide +kernel
theorem d_Rn_readPiece_171 : decode b_Rn_readPiece 171 = .ok (.iconst (-1), 1) := by decide +kernel
theorem d_Rn_readPiece_172 : decode b_Rn_readPiece 172 = .ok (.if_icmp .ne 9, 3) := by decide +kernel
theorem d_Rn_readPiece_175 : decode b_Rn_readPiece 175 = .ok (.aload_n 0, 1) := by decide +kernel
theorem d_Rn_readPiece_176 : decode b_Rn_readPiece 176 = .ok (.iconst 4, 1) := by decide +kernel
theorem d_Rn_readPiece_177 : decode b_Rn_readPiece 177 = .ok (.invokevirtual 64, 3) := by decide +kernel
theorem d_Rn_readPiece_180 : decode b_Rn_readPiece 180 = .ok (.ireturn, 1) := by decide +kernel
theorem d_Rn_readPiece_181 : decode b_Rn_readPiece 181 = .ok (.aload_n 1, 1) := by decide +kernel
theorem d_Rn_readPiece_182 : decode b_Rn_readPiece 182 = .ok (.getfield 145, 3) := by decide +kernel
theorem d_Rn_readPiece_185 : decode b_Rn_readPiece 185 = .ok (.aload_n 1, 1) := by decide +kernel
theorem d_Rn_readPiece_186 : decode b_Rn_readPiece 186 = .ok (.getfield 83, 3) := by decide +kernel
theorem d_Rn_readPiece_189 : decode b_Rn_readPiece 189 = .ok (.aload 6, 2) := by decide +kernel
theorem d_Rn_readPiece_191 : decode b_Rn_readPiece 191 = .ok (.iload 5, 2) := by decide +kernel
theorem d_Rn_readPiece_193 : decode b_Rn_readPiece 193 = .ok (.invokevirtual 148, 3) := by decide +kernel
theorem d_Rn_readPiece_196 : decode b_Rn_readPiece 196 = .ok (.ifCond .eq 7, 3) := by decide +kernel
theorem d_Rn_readPiece_199 : decode b_Rn_readPiece 199 = .ok (.iconst 0, 1) := by decide +kernel
theorem d_Rn_readPiece_200 : decode b_Rn_readPiece 200 = .ok (.goto 9, 3) := by decide +kernel
theorem d_Rn_readPiece_203 : decode b_Rn_readPiece 203 = .ok (.aload_n 0, 1) := by decide +kernel
theorem d_Rn_readPiece_204 : decode b_Rn_readPiece 204 = .ok (.bipush 7, 2) := by decide +kernel
theorem d_Rn_readPiece_206 : decode b_Rn_readPiece 206 = .ok (.invokevirtual 64, 3) := by decide +kernel
theorem d_Rn_readPiece_209 : decode b_Rn_readPiece 209 = .ok (.ireturn, 1) := by decide +kernel
theorem d_Rn_readPiece_210 : decode b_Rn_readPiece 210 = .ok (.iload_n 3, 1) := by decide +kernel
theorem d_Rn_readPiece_211 : decode b_Rn_readPiece 211 = .ok (.bipush 92, 2) := by decide +kernel
theorem d_Rn_readPiece_213 : decode b_Rn_readPiece 213 = .ok (.if_icmp .ne 57, 3) := by decide +kernel
theorem d_Rn_readPiece_216 : decode b_Rn_readPiece 216 = .ok (.aload_n 1, 1) := by decide +kernel
theorem d_Rn_readPiece_217 : decode b_Rn_readPiece 217 = .ok (.getfield 101, 3) := by decide +kernel
theorem d_Rn_readPiece_220 : decode b_Rn_readPiece 220 = .ok (.aload_n 1, 1) := by decide +kernel
theorem d_Rn_readPiece_221 : decode b_Rn_readPiece 221 = .ok (.getfield 104, 3) := by decide +kernel
theorem d_Rn_readPiece_224 : decode b_Rn_readPiece 224 = .ok (.if_icmp .lt 9, 3) := by decide +kernel
theorem d_Rn_readPiece_227 : decode b_Rn_readPiece 227 = .ok (.aload_n 0, 1) := by decide +kernel
theorem d_Rn_readPiece_228 : decode b_Rn_readPiece 228 = .ok (.iconst 1, 1) := by decide +kernel
theorem d_Rn_readPiece_229 : decode b_Rn_readPiece 229 = .ok (.invokevirtual 64, 3) := by decide +kernel
theorem d_Rn_readPiece_232 : decode b_Rn_readPiece 232 = .ok (.ireturn, 1) := by decide +kernel
theorem d_Rn_readPiece_233 : decode b_Rn_readPiece 233 = .ok (.aload_n 1, 1) := by decide +kernel
theorem d_Rn_readPiece_234 : decode b_Rn_readPiece 234 = .ok (.dup, 1) := by decide +kernel
theorem d_Rn_readPiece_235 : decode b_Rn_readPiece 235 = .ok (.getfield 101, 3) := by decide +kernel
theorem d_Rn_readPiece_238 : decode b_Rn_readPiece 238 = .ok (.iconst 1, 1) := by decide +kernel
theorem d_Rn_readPiece_239 : decode b_Rn_readPiece 239 = .ok (.iadd, 1) := by decide +kernel
theorem d_Rn_readPiece_240 : decode b_Rn_readPiece 240 = .ok (.putfield 101, 3) := by decide +kernel
theorem d_Rn_readPiece_243 : decode b_Rn_readPiece 243 = .ok (.aload_n 1, 1) := by decide +kernel
theorem d_Rn_readPiece_244 : decode b_Rn_readPiece 244 = .ok (.getfield 145, 3) := by decide +kernel
theorem d_Rn_readPiece_247 : decode b_Rn_readPiece 247 = .ok (.aload_n 1, 1) := by decide +kernel
theorem d_Rn_readPiece_248 : decode b_Rn_readPiece 248 = .ok (.getfield 83, 3) := by decide +kernel
theorem d_Rn_readPiece_251 : decode b_Rn_readPiece 251 = .ok (.iload 4, 2) := by decide +kernel
theorem d_Rn_readPiece_253 : decode b_Rn_readPiece 253 = .ok (.invokevirtual 94, 3) := by decide +kernel
theorem d_Rn_readPiece_256 : decode b_Rn_readPiece 256 = .ok (.ifCond .eq 7, 3) := by decide +kernel
theorem d_Rn_readPiece_259 : decode b_Rn_readPiece 259 = .ok (.iconst 0, 1) := by decide +kernel
theorem d_Rn_readPiece_260 : decode b_Rn_readPiece 260 = .ok (.goto 9, 3) := by decide +kernel
theorem d_Rn_readPiece_263 : decode b_Rn_readPiece 263 = .ok (.aload_n 0, 1) := by decide +kernel
theorem d_Rn_readPiece_264 : decode b_Rn_readPiece 264 = .ok (.bipush 7, 2) := by decide +kernel
theorem d_Rn_readPiece_266 : decode b_Rn_readPiece 266 = .ok (.invokevirtual 64, 3) := by decide +kernel
theorem d_Rn_readPiece_269 : decode b_Rn_readPiece 269 = .ok (.ireturn, 1) := by decide +kernel
theorem d_Rn_readPiece_270 : decode b_Rn_readPiece 270 = .ok (.aload_n 1, 1) := by decide +kernel
theorem d_Rn_readPiece_271 : decode b_Rn_readPiece 271 = .ok (.getfield 145, 3) := by decide +kernel
theorem d_Rn_readPiece_274 : decode b_Rn_readPiece 274 = .ok (.aload_n 1, 1) := by decide +kernel
theorem d_Rn_readPiece_275 : decode b_Rn_readPiece 275 = .ok (.getfield 83, 3) := by decide +kernel
theorem d_Rn_readPiece_278 : decode b_Rn_readPiece 278 = .ok (.iload_n 3, 1) := by decide +kernel
theorem d_Rn_readPiece_279 : decode b_Rn_readPiece 279 = .ok (.invokevirtual 94, 3) := by decide +kernel
theorem d_Rn_readPiece_282 : decode b_Rn_readPiece 282 = .ok (.ifCond .eq 7, 3) := by decide +kernel
theorem d_Rn_readPiece_285 : decode b_Rn_readPiece 285 = .ok (.iconst 0, 1) := by decide +kernel
theorem d_Rn_readPiece_286 : decode b_Rn_readPiece 286 = .ok (.goto 9, 3) := by decide +kernel
theorem d_Rn_readPiece_289 : decode b_Rn_readPiece 289 = .ok (.aload_n 0, 1) := by decide +kernel
theorem d_Rn_readPiece_290 : decode b_Rn_readPiece 290 = .ok (.bipush 7, 2) := by decide +kernel
theorem d_Rn_readPiece_292 : decode b_Rn_readPiece 292 = .ok (.invokevirtual 64, 3) := by decide +kernel
theorem d_Rn_readPiece_295 : decode b_Rn_readPiece 295 = .ok (.ireturn, 1) := by decide +kernel
theorem d_Rn_readPieces_0 : decode b_Rn_readPieces 0 = .ok (.iload_n 3, 1) := by decide +kernel
theorem d_Rn_readPieces_1 : decode b_Rn_readPieces 1 = .ok (.ifCond .eq 13, 3) := by decide +kernel
theorem d_Rn_readPieces_4 : decode b_Rn_readPieces 4 = .ok (.aload_n 1, 1) := by decide +kernel
theorem d_Rn_readPieces_5 : decode b_Rn_readPieces 5 = .ok (.dup, 1) := by decide +kernel
theorem d_Rn_readPieces_6 : decode b_Rn_readPieces 6 = .ok (.getfield 101, 3) := by decide +kernel
theorem d_Rn_readPieces_9 : decode b_Rn_readPieces 9 = .ok (.iconst 1, 1) := by decide +kernel
theorem d_Rn_readPieces_10 : decode b_Rn_readPieces 10 = .ok (.iadd, 1) := by decide +kernel
theorem d_Rn_readPieces_11 : decode b_Rn_readPieces 11 = .ok (.putfield 101, 3) := by decide +kernel
theorem d_Rn_readPieces_14 : decode b_Rn_readPieces 14 = .ok (.iconst 0, 1) := by decide +kernel
theorem d_Rn_readPieces_15 : decode b_Rn_readPieces 15 = .ok (.istore 4, 2) := by decide +kernel
theorem d_Rn_readPieces_17 : decode b_Rn_readPieces 17 = .ok (.iload 4, 2) := by decide +kernel
theorem d_Rn_readPieces_19 : decode b_Rn_readPieces 19 = .ok (.sipush 200, 3) := by decide +kernel
theorem d_Rn_readPieces_22 : decode b_Rn_readPieces 22 = .ok (.if_icmp .gt 107, 3) := by decide +kernel
theorem d_Rn_readPieces_25 : decode b_Rn_readPieces 25 = .ok (.aload_n 1, 1) := by decide +kernel
theorem d_Rn_readPieces_26 : decode b_Rn_readPieces 26 = .ok (.getfield 101, 3) := by decide +kernel
theorem d_Rn_readPieces_29 : decode b_Rn_readPieces 29 = .ok (.aload_n 1, 1) := by decide +kernel
theorem d_Rn_readPieces_30 : decode b_Rn_readPieces 30 = .ok (.getfield 104, 3) := by decide +kernel
theorem d_Rn_readPieces_33 : decode b_Rn_readPieces 33 = .ok (.if_icmp .ge 96, 3) := by decide +kernel
theorem d_Rn_readPieces_36 : decode b_Rn_readPieces 36 = .ok (.aload_n 0, 1) := by decide +kernel
theorem d_Rn_readPieces_37 : decode b_Rn_readPieces 37 = .ok (.getfield 40, 3) := by decide +kernel
theorem d_Rn_readPieces_40 : decode b_Rn_readPieces 40 = .ok (.getfield 50, 3) := by decide +kernel
theorem d_Rn_readPieces_43 : decode b_Rn_readPieces 43 = .ok (.aload_n 1, 1) := by decide +kernel
theorem d_Rn_readPieces_44 : decode b_Rn_readPieces 44 = .ok (.getfield 101, 3) := by decide +kernel
theorem d_Rn_readPieces_47 : decode b_Rn_readPieces 47 = .ok (.caload, 1) := by decide +kernel
theorem d_Rn_readPieces_48 : decode b_Rn_readPieces 48 = .ok (.istore 5, 2) := by decide +kernel
theorem d_Rn_readPieces_50 : decode b_Rn_readPieces 50 = .ok (.iload_n 3, 1) := by decide +kernel
theorem d_Rn_readPieces_51 : decode b_Rn_readPieces 51 = .ok (.ifCond .eq 22, 3) := by decide +kernel
theorem d_Rn_readPieces_54 : decode b_Rn_readPieces 54 = .ok (.iload 5, 2) := by decide +kernel
theorem d_Rn_readPieces_56 : decode b_Rn_readPieces 56 = .ok (.bipush 34, 2) := by decide +kernel
theorem d_Rn_readPieces_58 : decode b_Rn_readPieces 58 = .ok (.if_icmp .ne 15, 3) := by decide +kernel
theorem d_Rn_readPieces_61 : decode b_Rn_readPieces 61 = .ok (.aload_n 1, 1) := by decide +kernel
theorem d_Rn_readPieces_62 : decode b_Rn_readPieces 62 = .ok (.dup, 1) := by decide +kernel
theorem d_Rn_readPieces_63 : decode b_Rn_readPieces 63 = .ok (.getfield 101, 3) := by decide +kernel
theorem d_Rn_readPieces_66 : decode b_Rn_readPieces 66 = .ok (.iconst 1, 1) := by decide +kernel
theorem d_Rn_readPieces_67 : decode b_Rn_readPieces 67 = .ok (.iadd, 1) := by decide +kernel
theorem d_Rn_readPieces_68 : decode b_Rn_readPieces 68 = .ok (.putfield 101, 3) := by decide +kernel
theorem d_Rn_readPieces_71 : decode b_Rn_readPieces 71 = .ok (.iconst 0, 1) := by decide +kernel
theorem d_Rn_readPieces_72 : decode b_Rn_readPieces 72 = .ok (.ireturn, 1) := by decide +kernel
theorem d_Rn_readPieces_73 : decode b_Rn_readPieces 73 = .ok (.iload_n 3, 1) := by decide +kernel
theorem d_Rn_readPieces_74 : decode b_Rn_readPieces 74 = .ok (.ifCond .ne 21, 3) := by decide +kernel
theorem d_Rn_readPieces_77 : decode b_Rn_readPieces 77 = .ok (.iload 5, 2) := by decide +kernel
theorem d_Rn_readPieces_79 : decode b_Rn_readPieces 79 = .ok (.bipush 32, 2) := by decide +kernel
theorem d_Rn_readPieces_81 : decode b_Rn_readPieces 81 = .ok (.if_icmp .eq 12, 3) := by decide +kernel
theorem d_Rn_readPieces_84 : decode b_Rn_readPieces 84 = .ok (.aload_n 1, 1) := by decide +kernel
theorem d_Rn_readPieces_85 : decode b_Rn_readPieces 85 = .ok (.iload 5, 2) := by decide +kernel
theorem d_Rn_readPieces_87 : decode b_Rn_readPieces 87 = .ok (.invokevirtual 107, 3) := by decide +kernel
theorem d_Rn_readPieces_90 : decode b_Rn_readPieces 90 = .ok (.ifCond .eq 5, 3) := by decide +kernel
theorem d_Rn_readPieces_93 : decode b_Rn_readPieces 93 = .ok (.iconst 0, 1) := by decide +kernel
theorem d_Rn_readPieces_94 : decode b_Rn_readPieces 94 = .ok (.ireturn, 1) := by decide +kernel
theorem d_Rn_readPieces_95 : decode b_Rn_readPieces 95 = .ok (.aload_n 1, 1) := by decide +kernel
theorem d_Rn_readPieces_96 : decode b_Rn_readPieces 96 = .ok (.dup, 1) := by decide +kernel
theorem d_Rn_readPieces_97 : decode b_Rn_readPieces 97 = .ok (.getfield 101, 3) := by decide +kernel
theorem d_Rn_readPieces_100 : decode b_Rn_readPieces 100 = .ok (.iconst 1, 1) := by decide +kernel
theorem d_Rn_readPieces_101 : decode b_Rn_readPieces 101 = .ok (.iadd, 1) := by decide +kernel
theorem d_Rn_readPieces_102 : decode b_Rn_readPieces 102 = .ok (.putfield 101, 3) := by decide +kernel
theorem d_Rn_readPieces_105 : decode b_Rn_readPieces 105 = .ok (.aload_n 0, 1) := by decide +kernel
theorem d_Rn_readPieces_106 : decode b_Rn_readPieces 106 = .ok (.aload_n 1, 1) := by decide +kernel
theorem d_Rn_readPieces_107 : decode b_Rn_readPieces 107 = .ok (.iload_n 2, 1) := by decide +kernel
theorem d_Rn_readPieces_108 : decode b_Rn_readPieces 108 = .ok (.iload 5, 2) := by decide +kernel
theorem d_Rn_readPieces_110 : decode b_Rn_readPieces 110 = .ok (.invokevirtual 135, 3) := by decide +kernel
theorem d_Rn_readPieces_113 : decode b_Rn_readPieces 113 = .ok (.istore 6, 2) := by decide +kernel
theorem d_Rn_readPieces_115 : decode b_Rn_readPieces 115 = .ok (.iload 6, 2) := by decide +kernel
theorem d_Rn_readPieces_117 : decode b_Rn_readPieces 117 = .ok (.ifCond .eq 6, 3) := by decide +kernel
theorem d_Rn_readPieces_120 : decode b_Rn_readPieces 120 = .ok (.iload 6, 2) := by decide +kernel
theorem d_Rn_readPieces_122 : decode b_Rn_readPieces 122 = .ok (.ireturn, 1) := by decide +kernel
theorem d_Rn_readPieces_123 : decode b_Rn_readPieces 123 = .ok (.iinc 4 1, 3) := by decide +kernel
theorem d_Rn_readPieces_126 : decode b_Rn_readPieces 126 = .ok (.goto (-109), 3) := by decide +kernel
theorem d_Rn_readPieces_129 : decode b_Rn_readPieces 129 = .ok (.iload_n 3, 1) := by decide +kernel
theorem d_Rn_readPieces_130 : decode b_Rn_readPieces 130 = .ok (.ifCond .eq 11, 3) := by decide +kernel
theorem d_Rn_readPieces_133 : decode b_Rn_readPieces 133 = .ok (.aload_n 0, 1) := by decide +kernel
theorem d_Rn_readPieces_134 : decode b_Rn_readPieces 134 = .ok (.iconst 1, 1) := by decide +kernel
theorem d_Rn_readPieces_135 : decode b_Rn_readPieces 135 = .ok (.invokevirtual 64, 3) := by decide +kernel
theorem d_Rn_readPieces_138 : decode b_Rn_readPieces 138 = .ok (.goto 4, 3) := by decide +kernel
theorem d_Rn_readPieces_141 : decode b_Rn_readPieces 141 = .ok (.iconst 0, 1) := by decide +kernel
theorem d_Rn_readPieces_142 : decode b_Rn_readPieces 142 = .ok (.ireturn, 1) := by decide +kernel
theorem d_Rn_readWord_0 : decode b_Rn_readWord 0 = .ok (.aload_n 1, 1) := by decide +kernel
theorem d_Rn_readWord_1 : decode b_Rn_readWord 1 = .ok (.getfield 83, 3) := by decide +kernel
theorem d_Rn_readWord_4 : decode b_Rn_readWord 4 = .ok (.bipush 8, 2) := by decide +kernel
theorem d_Rn_readWord_6 : decode b_Rn_readWord 6 = .ok (.if_icmp .lt 9, 3) := by decide +kernel
theorem d_Rn_readWord_9 : decode b_Rn_readWord 9 = .ok (.aload_n 0, 1) := by decide +kernel
theorem d_Rn_readWord_10 : decode b_Rn_readWord 10 = .ok (.iconst 1, 1) := by decide +kernel
theorem d_Rn_readWord_11 : decode b_Rn_readWord 11 = .ok (.invokevirtual 64, 3) := by decide +kernel
theorem d_Rn_readWord_14 : decode b_Rn_readWord 14 = .ok (.ireturn, 1) := by decide +kernel
theorem d_Rn_readWord_15 : decode b_Rn_readWord 15 = .ok (.aload_n 1, 1) := by decide +kernel
theorem d_Rn_readWord_16 : decode b_Rn_readWord 16 = .ok (.invokevirtual 118, 3) := by decide +kernel
theorem d_Rn_readWord_19 : decode b_Rn_readWord 19 = .ok (.iload_n 3, 1) := by decide +kernel
theorem d_Rn_readWord_20 : decode b_Rn_readWord 20 = .ok (.bipush 123, 2) := by decide +kernel
theorem d_Rn_readWord_22 : decode b_Rn_readWord 22 = .ok (.if_icmp .ne 9, 3) := by decide +kernel
theorem d_Rn_readWord_25 : decode b_Rn_readWord 25 = .ok (.aload_n 0, 1) := by decide +kernel
theorem d_Rn_readWord_26 : decode b_Rn_readWord 26 = .ok (.aload_n 1, 1) := by decide +kernel
theorem d_Rn_readWord_27 : decode b_Rn_readWord 27 = .ok (.invokevirtual 121, 3) := by decide +kernel
theorem d_Rn_readWord_30 : decode b_Rn_readWord 30 = .ok (.ireturn, 1) := by decide +kernel
theorem d_Rn_readWord_31 : decode b_Rn_readWord 31 = .ok (.iload_n 3, 1) := by decide +kernel
theorem d_Rn_readWord_32 : decode b_Rn_readWord 32 = .ok (.bipush 34, 2) := by decide +kernel
theorem d_Rn_readWord_34 : decode b_Rn_readWord 34 = .ok (.if_icmp .ne 7, 3) := by decide +kernel
theorem d_Rn_readWord_37 : decode b_Rn_readWord 37 = .ok (.iconst 1, 1) := by decide +kernel
theorem d_Rn_readWord_38 : decode b_Rn_readWord 38 = .ok (.goto 4, 3) := by decide +kernel
theorem d_Rn_readWord_41 : decode b_Rn_readWord 41 = .ok (.iconst 0, 1) := by decide +kernel
theorem d_Rn_readWord_42 : decode b_Rn_readWord 42 = .ok (.istore 4, 2) := by decide +kernel
theorem d_Rn_readWord_44 : decode b_Rn_readWord 44 = .ok (.aload_n 0, 1) := by decide +kernel
theorem d_Rn_readWord_45 : decode b_Rn_readWord 45 = .ok (.aload_n 1, 1) := by decide +kernel
theorem d_Rn_readWord_46 : decode b_Rn_readWord 46 = .ok (.iload_n 2, 1) := by decide +kernel
theorem d_Rn_readWord_47 : decode b_Rn_readWord 47 = .ok (.iload 4, 2) := by decide +kernel
theorem d_Rn_readWord_49 : decode b_Rn_readWord 49 = .ok (.invokevirtual 124, 3) := by decide +kernel
theorem d_Rn_readWord_52 : decode b_Rn_readWord 52 = .ok (.istore 5, 2) := by decide +kernel
theorem d_Rn_readWord_54 : decode b_Rn_readWord 54 = .ok (.iload 5, 2) := by decide +kernel
theorem d_Rn_readWord_56 : decode b_Rn_readWord 56 = .ok (.ifCond .eq 6, 3) := by decide +kernel
theorem d_Rn_readWord_59 : decode b_Rn_readWord 59 = .ok (.iload 5, 2) := by decide +kernel
theorem d_Rn_readWord_61 : decode b_Rn_readWord 61 = .ok (.ireturn, 1) := by decide +kernel
theorem d_Rn_readWord_62 : decode b_Rn_readWord 62 = .ok (.aload_n 1, 1) := by decide +kernel
theorem d_Rn_readWord_63 : decode b_Rn_readWord 63 = .ok (.dup, 1) := by decide +kernel
theorem d_Rn_readWord_64 : decode b_Rn_readWord 64 = .ok (.getfield 83, 3) := by decide +kernel
theorem d_Rn_readWord_67 : decode b_Rn_readWord 67 = .ok (.iconst 1, 1) := by decide +kernel
theorem d_Rn_readWord_68 : decode b_Rn_readWord 68 = .ok (.iadd, 1) := by decide +kernel
theorem d_Rn_readWord_69 : decode b_Rn_readWord 69 = .ok (.putfield 83, 3) := by decide +kernel
theorem d_Rn_readWord_72 : decode b_Rn_readWord 72 = .ok (.iload 4, 2) := by decide +kernel
theorem d_Rn_readWord_74 : decode b_Rn_readWord 74 = .ok (.ifCond .eq 11, 3) := by decide +kernel
theorem d_Rn_readWord_77 : decode b_Rn_readWord 77 = .ok (.aload_n 0, 1) := by decide +kernel
theorem d_Rn_readWord_78 : decode b_Rn_readWord 78 = .ok (.aload_n 1, 1) := by decide +kernel
theorem d_Rn_readWord_79 : decode b_Rn_readWord 79 = .ok (.invokevirtual 128, 3) := by decide +kernel
theorem d_Rn_readWord_82 : decode b_Rn_readWord 82 = .ok (.goto 4, 3) := by decide +kernel
theorem d_Rn_readWord_85 : decode b_Rn_readWord 85 = .ok (.iconst 0, 1) := by decide +kernel
theorem d_Rn_readWord_86 : decode b_Rn_readWord 86 = .ok (.ireturn, 1) := by decide +kernel
theorem d_Rn_repeat_0 : decode b_Rn_repeat 0 = .ok (.iconst 0, 1) := by decide +kernel
theorem d_Rn_repeat_1 : decode b_Rn_repeat 1 = .ok (.istore_n 3, 1) := by decide +kernel
theorem d_Rn_repeat_2 : decode b_Rn_repeat 2 = .ok (.iload_n 3, 1) := by decide +kernel
theorem d_Rn_repeat_3 : decode b_Rn_repeat 3 = .ok (.bipush 100, 2) := by decide +kernel
theorem d_Rn_repeat_5 : decode b_Rn_repeat 5 = .ok (.if_icmp .gt 115, 3) := by decide +kernel
theorem d_Rn_repeat_8 : decode b_Rn_repeat 8 = .ok (.aload_n 0, 1) := by decide +kernel
theorem d_Rn_repeat_9 : decode b_Rn_repeat 9 = .ok (.getfield 59, 3) := by decide +kernel
theorem d_Rn_repeat_12 : decode b_Rn_repeat 12 = .ok (.aload_n 1, 1) := by decide +kernel
theorem d_Rn_repeat_13 : decode b_Rn_repeat 13 = .ok (.iconst 1, 1) := by decide +kernel
theorem d_Rn_repeat_14 : decode b_Rn_repeat 14 = .ok (.invokevirtual 264, 3) := by decide +kernel
theorem d_Rn_repeat_17 : decode b_Rn_repeat 17 = .ok (.aload_n 1, 1) := by decide +kernel
theorem d_Rn_repeat_18 : decode b_Rn_repeat 18 = .ok (.iconst 1, 1) := by decide +kernel
theorem d_Rn_repeat_19 : decode b_Rn_repeat 19 = .ok (.invokevirtual 267, 3) := by decide +kernel
theorem d_Rn_repeat_22 : decode b_Rn_repeat 22 = .ok (.aload_n 1, 1) := by decide +kernel
theorem d_Rn_repeat_23 : decode b_Rn_repeat 23 = .ok (.getfield 138, 3) := by decide +kernel
theorem d_Rn_repeat_26 : decode b_Rn_repeat 26 = .ok (.invokevirtual 300, 3) := by decide +kernel
theorem d_Rn_repeat_29 : decode b_Rn_repeat 29 = .ok (.istore 4, 2) := by decide +kernel
theorem d_Rn_repeat_31 : decode b_Rn_repeat 31 = .ok (.iload 4, 2) := by decide +kernel
theorem d_Rn_repeat_33 : decode b_Rn_repeat 33 = .ok (.ifCond .eq 10, 3) := by decide +kernel
theorem d_Rn_repeat_36 : decode b_Rn_repeat 36 = .ok (.aload_n 0, 1) := by decide +kernel
theorem d_Rn_repeat_37 : decode b_Rn_repeat 37 = .ok (.iload 4, 2) := by decide +kernel
theorem d_Rn_repeat_39 : decode b_Rn_repeat 39 = .ok (.invokevirtual 64, 3) := by decide +kernel
theorem d_Rn_repeat_42 : decode b_Rn_repeat 42 = .ok (.ireturn, 1) := by decide +kernel
theorem d_Rn_repeat_43 : decode b_Rn_repeat 43 = .ok (.aload_n 0, 1) := by decide +kernel
theorem d_Rn_repeat_44 : decode b_Rn_repeat 44 = .ok (.getfield 59, 3) := by decide +kernel
theorem d_Rn_repeat_47 : decode b_Rn_repeat 47 = .ok (.getfield 304, 3) := by decide +kernel
theorem d_Rn_repeat_50 : decode b_Rn_repeat 50 = .ok (.ifCond .ne 13, 3) := by decide +kernel
theorem d_Rn_repeat_53 : decode b_Rn_repeat 53 = .ok (.aload_n 0, 1) := by decide +kernel
theorem d_Rn_repeat_54 : decode b_Rn_repeat 54 = .ok (.getfield 36, 3) := by decide +kernel
theorem d_Rn_repeat_57 : decode b_Rn_repeat 57 = .ok (.iconst 0, 1) := by decide +kernel
theorem d_Rn_repeat_58 : decode b_Rn_repeat 58 = .ok (.invokevirtual 72, 3) := by decide +kernel
theorem d_Rn_repeat_61 : decode b_Rn_repeat 61 = .ok (.iconst 0, 1) := by decide +kernel
theorem d_Rn_repeat_62 : decode b_Rn_repeat 62 = .ok (.ireturn, 1) := by decide +kernel
theorem d_Rn_repeat_63 : decode b_Rn_repeat 63 = .ok (.aload_n 0, 1) := by decide +kernel
theorem d_Rn_repeat_64 : decode b_Rn_repeat 64 = .ok (.invokevirtual 163, 3) := by decide +kernel
theorem d_Rn_repeat_67 : decode b_Rn_repeat 67 = .ok (.ifCond .ne 8, 3) := by decide +kernel
theorem d_Rn_repeat_70 : decode b_Rn_repeat 70 = .ok (.aload_n 0, 1) := by decide +kernel
theorem d_Rn_repeat_71 : decode b_Rn_repeat 71 = .ok (.invokevirtual 167, 3) := by decide +kernel
theorem d_Rn_repeat_74 : decode b_Rn_repeat 74 = .ok (.ireturn, 1) := by decide +kernel
theorem d_Rn_repeat_75 : decode b_Rn_repeat 75 = .ok (.aload_n 0, 1) := by decide +kernel
theorem d_Rn_repeat_76 : decode b_Rn_repeat 76 = .ok (.aload_n 1, 1) := by decide +kernel
theorem d_Rn_repeat_77 : decode b_Rn_repeat 77 = .ok (.iconst 2, 1) := by decide +kernel
theorem d_Rn_repeat_78 : decode b_Rn_repeat 78 = .ok (.iload_n 2, 1) := by decide +kernel
theorem d_Rn_repeat_79 : decode b_Rn_repeat 79 = .ok (.invokevirtual 307, 3) := by decide +kernel
theorem d_Rn_repeat_82 : decode b_Rn_repeat 82 = .ok (.istore 5, 2) := by decide +kernel
theorem d_Rn_repeat_84 : decode b_Rn_repeat 84 = .ok (.iload 5, 2) := by decide +kernel
theorem d_Rn_repeat_86 : decode b_Rn_repeat 86 = .ok (.iconst 3, 1) := by decide +kernel
theorem d_Rn_repeat_87 : decode b_Rn_repeat 87 = .ok (.if_icmp .ne 13, 3) := by decide +kernel
theorem d_Rn_repeat_90 : decode b_Rn_repeat 90 = .ok (.aload_n 0, 1) := by decide +kernel
theorem d_Rn_repeat_91 : decode b_Rn_repeat 91 = .ok (.getfield 36, 3) := by decide +kernel
theorem d_Rn_repeat_94 : decode b_Rn_repeat 94 = .ok (.iconst 0, 1) := by decide +kernel
theorem d_Rn_repeat_95 : decode b_Rn_repeat 95 = .ok (.invokevirtual 72, 3) := by decide +kernel
theorem d_Rn_repeat_98 : decode b_Rn_repeat 98 = .ok (.iconst 0, 1) := by decide +kernel
theorem d_Rn_repeat_99 : decode b_Rn_repeat 99 = .ok (.ireturn, 1) := by decide +kernel
theorem d_Rn_repeat_100 : decode b_Rn_repeat 100 = .ok (.iload 5, 2) := by decide +kernel
theorem d_Rn_repeat_102 : decode b_Rn_repeat 102 = .ok (.ifCond .eq 12, 3) := by decide +kernel
theorem d_Rn_repeat_105 : decode b_Rn_repeat 105 = .ok (.iload 5, 2) := by decide +kernel
theorem d_Rn_repeat_107 : decode b_Rn_repeat 107 = .ok (.iconst 4, 1) := by decide +kernel
theorem d_Rn_repeat_108 : decode b_Rn_repeat 108 = .ok (.if_icmp .eq 6, 3) := by decide +kernel
theorem d_Rn_repeat_111 : decode b_Rn_repeat 111 = .ok (.iload 5, 2) := by decide +kernel
theorem d_Rn_repeat_113 : decode b_Rn_repeat 113 = .ok (.ireturn, 1) := by decide +kernel
theorem d_Rn_repeat_114 : decode b_Rn_repeat 114 = .ok (.iinc 3 1, 3) := by decide +kernel
theorem d_Rn_repeat_117 : decode b_Rn_repeat 117 = .ok (.goto (-115), 3) := by decide +kernel
theorem d_Rn_repeat_120 : decode b_Rn_repeat 120 = .ok (.aload_n 0, 1) := by decide +kernel
theorem d_Rn_repeat_121 : decode b_Rn_repeat 121 = .ok (.invokevirtual 167, 3) := by decide +kernel
theorem d_Rn_repeat_124 : decode b_Rn_repeat 124 = .ok (.ireturn, 1) := by decide +kernel
theorem d_Rn_runScript_0 : decode b_Rn_runScript 0 = .ok (.iload 4, 2) := by decide +kernel
theorem d_Rn_runScript_2 : decode b_Rn_runScript 2 = .ok (.ifCond .lt 10, 3) := by decide +kernel
theorem d_Rn_runScript_5 : decode b_Rn_runScript 5 = .ok (.iload 4, 2) := by decide +kernel
theorem d_Rn_runScript_7 : decode b_Rn_runScript 7 = .ok (.bipush 8, 2) := by decide +kernel
theorem d_Rn_runScript_9 : decode b_Rn_runScript 9 = .ok (.if_icmp .lt 10, 3) := by decide +kernel
theorem d_Rn_runScript_12 : decode b_Rn_runScript 12 = .ok (.aload_n 0, 1) := by decide +kernel
theorem d_Rn_runScript_13 : decode b_Rn_runScript 13 = .ok (.bipush 8, 2) := by decide +kernel
theorem d_Rn_runScript_15 : decode b_Rn_runScript 15 = .ok (.invokevirtual 64, 3) := by decide +kernel
theorem d_Rn_runScript_18 : decode b_Rn_runScript 18 = .ok (.ireturn, 1) := by decide +kernel
theorem d_Rn_runScript_19 : decode b_Rn_runScript 19 = .ok (.aload_n 0, 1) := by decide +kernel
theorem d_Rn_runScript_20 : decode b_Rn_runScript 20 = .ok (.getfield 27, 3) := by decide +kernel
theorem d_Rn_runScript_23 : decode b_Rn_runScript 23 = .ok (.iload 4, 2) := by decide +kernel
theorem d_Rn_runScript_25 : decode b_Rn_runScript 25 = .ok (.aaload, 1) := by decide +kernel
theorem d_Rn_runScript_26 : decode b_Rn_runScript 26 = .ok (.astore 6, 2) := by decide +kernel
theorem d_Rn_runScript_28 : decode b_Rn_runScript 28 = .ok (.aload 6, 2) := by decide +kernel
theorem d_Rn_runScript_30 : decode b_Rn_runScript 30 = .ok (.iload_n 1, 1) := by decide +kernel
theorem d_Rn_runScript_31 : decode b_Rn_runScript 31 = .ok (.iload_n 2, 1) := by decide +kernel
theorem d_Rn_runScript_32 : decode b_Rn_runScript 32 = .ok (.iload_n 3, 1) := by decide +kernel
theorem d_Rn_runScript_33 : decode b_Rn_runScript 33 = .ok (.iload 5, 2) := by decide +kernel
theorem d_Rn_runScript_35 : decode b_Rn_runScript 35 = .ok (.invokevirtual 68, 3) := by decide +kernel
theorem d_Rn_runScript_38 : decode b_Rn_runScript 38 = .ok (.aload_n 0, 1) := by decide +kernel
theorem d_Rn_runScript_39 : decode b_Rn_runScript 39 = .ok (.getfield 36, 3) := by decide +kernel
theorem d_Rn_runScript_42 : decode b_Rn_runScript 42 = .ok (.iconst 0, 1) := by decide +kernel
theorem d_Rn_runScript_43 : decode b_Rn_runScript 43 = .ok (.invokevirtual 72, 3) := by decide +kernel
theorem d_Rn_runScript_46 : decode b_Rn_runScript 46 = .ok (.iconst 0, 1) := by decide +kernel
theorem d_Rn_runScript_47 : decode b_Rn_runScript 47 = .ok (.istore 7, 2) := by decide +kernel
theorem d_Rn_runScript_49 : decode b_Rn_runScript 49 = .ok (.iconst 0, 1) := by decide +kernel
theorem d_Rn_runScript_50 : decode b_Rn_runScript 50 = .ok (.istore 8, 2) := by decide +kernel
theorem d_Rn_runScript_52 : decode b_Rn_runScript 52 = .ok (.iload 8, 2) := by decide +kernel
theorem d_Rn_runScript_54 : decode b_Rn_runScript 54 = .ok (.sipush 200, 3) := by decide +kernel
theorem d_Rn_runScript_57 : decode b_Rn_runScript 57 = .ok (.if_icmp .gt 68, 3) := by decide +kernel
theorem d_Rn_runScript_60 : decode b_Rn_runScript 60 = .ok (.iload 7, 2) := by decide +kernel
theorem d_Rn_runScript_62 : decode b_Rn_runScript 62 = .ok (.ifCond .ne 63, 3) := by decide +kernel
theorem d_Rn_runScript_65 : decode b_Rn_runScript 65 = .ok (.aload 6, 2) := by decide +kernel
theorem d_Rn_runScript_67 : decode b_Rn_runScript 67 = .ok (.getfield 75, 3) := by decide +kernel
theorem d_Rn_runScript_70 : decode b_Rn_runScript 70 = .ok (.ifCond .ne 55, 3) := by decide +kernel
theorem d_Rn_runScript_73 : decode b_Rn_runScript 73 = .ok (.aload_n 0, 1) := by decide +kernel
theorem d_Rn_runScript_74 : decode b_Rn_runScript 74 = .ok (.aload 6, 2) := by decide +kernel
theorem d_Rn_runScript_76 : decode b_Rn_runScript 76 = .ok (.iload 4, 2) := by decide +kernel
theorem d_Rn_runScript_78 : decode b_Rn_runScript 78 = .ok (.invokevirtual 79, 3) := by decide +kernel
theorem d_Rn_runScript_81 : decode b_Rn_runScript 81 = .ok (.istore 7, 2) := by decide +kernel
theorem d_Rn_runScript_83 : decode b_Rn_runScript 83 = .ok (.iload 7, 2) := by decide +kernel
theorem d_Rn_runScript_85 : decode b_Rn_runScript 85 = .ok (.ifCond .ne 34, 3) := by decide +kernel
theorem d_Rn_runScript_88 : decode b_Rn_runScript 88 = .ok (.aload 6, 2) := by decide +kernel
theorem d_Rn_runScript_90 : decode b_Rn_runScript 90 = .ok (.getfield 83, 3) := by decide +kernel
theorem d_Rn_runScript_93 : decode b_Rn_runScript 93 = .ok (.ifCond .le 26, 3) := by decide +kernel
theorem d_Rn_runScript_96 : decode b_Rn_runScript 96 = .ok (.aload_n 0, 1) := by decide +kernel
theorem d_Rn_runScript_97 : decode b_Rn_runScript 97 = .ok (.aload 6, 2) := by decide +kernel
theorem d_Rn_runScript_99 : decode b_Rn_runScript 99 = .ok (.invokevirtual 87, 3) := by decide +kernel
theorem d_Rn_runScript_102 : decode b_Rn_runScript 102 = .ok (.istore 7, 2) := by decide +kernel
theorem d_Rn_runScript_104 : decode b_Rn_runScript 104 = .ok (.iload 7, 2) := by decide +kernel
theorem d_Rn_runScript_106 : decode b_Rn_runScript 106 = .ok (.ifCond .ne 13, 3) := by decide +kernel
theorem d_Rn_runScript_109 : decode b_Rn_runScript 109 = .ok (.aload_n 0, 1) := by decide +kernel
theorem d_Rn_runScript_110 : decode b_Rn_runScript 110 = .ok (.aload 6, 2) := by decide +kernel
theorem d_Rn_runScript_112 : decode b_Rn_runScript 112 = .ok (.iload 4, 2) := by decide +kernel
theorem d_Rn_runScript_114 : decode b_Rn_runScript 114 = .ok (.invokevirtual 91, 3) := by decide +kernel
theorem d_Rn_runScript_117 : decode b_Rn_runScript 117 = .ok (.istore 7, 2) := by decide +kernel
theorem d_Rn_runScript_119 : decode b_Rn_runScript 119 = .ok (.iinc 8 1, 3) := by decide +kernel
theorem d_Rn_runScript_122 : decode b_Rn_runScript 122 = .ok (.goto (-70), 3) := by decide +kernel
theorem d_Rn_runScript_125 : decode b_Rn_runScript 125 = .ok (.iload 7, 2) := by decide +kernel
theorem d_Rn_runScript_127 : decode b_Rn_runScript 127 = .ok (.ireturn, 1) := by decide +kernel
theorem d_Rn_runWord_0 : decode b_Rn_runWord 0 = .ok (.aload_n 0, 1) := by decide +kernel
