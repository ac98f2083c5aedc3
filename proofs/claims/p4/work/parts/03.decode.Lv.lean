/-! decode rows; written by wip/gen/names.py -/
theorem d_Lv_init_0 : decode b_Lv_init 0 = .ok (.aload_n 0, 1) := by decide +kernel
theorem d_Lv_init_1 : decode b_Lv_init 1 = .ok (.invokespecial 3, 3) := by decide +kernel
theorem d_Lv_init_4 : decode b_Lv_init 4 = .ok (.aload_n 0, 1) := by decide +kernel
theorem d_Lv_init_5 : decode b_Lv_init 5 = .ok (.new 9, 3) := by decide +kernel
theorem d_Lv_init_8 : decode b_Lv_init 8 = .ok (.dup, 1) := by decide +kernel
theorem d_Lv_init_9 : decode b_Lv_init 9 = .ok (.bipush 8, 2) := by decide +kernel
theorem d_Lv_init_11 : decode b_Lv_init 11 = .ok (.invokespecial 11, 3) := by decide +kernel
theorem d_Lv_init_14 : decode b_Lv_init 14 = .ok (.putfield 14, 3) := by decide +kernel
theorem d_Lv_init_17 : decode b_Lv_init 17 = .ok (.aload_n 0, 1) := by decide +kernel
theorem d_Lv_init_18 : decode b_Lv_init 18 = .ok (.bipush 8, 2) := by decide +kernel
theorem d_Lv_init_20 : decode b_Lv_init 20 = .ok (.newarray .boolean, 2) := by decide +kernel
theorem d_Lv_init_22 : decode b_Lv_init 22 = .ok (.putfield 20, 3) := by decide +kernel
theorem d_Lv_init_25 : decode b_Lv_init 25 = .ok (.aload_n 0, 1) := by decide +kernel
theorem d_Lv_init_26 : decode b_Lv_init 26 = .ok (.bipush 8, 2) := by decide +kernel
theorem d_Lv_init_28 : decode b_Lv_init 28 = .ok (.newarray .int, 2) := by decide +kernel
theorem d_Lv_init_30 : decode b_Lv_init 30 = .ok (.putfield 24, 3) := by decide +kernel
theorem d_Lv_init_33 : decode b_Lv_init 33 = .ok (.aload_n 0, 1) := by decide +kernel
theorem d_Lv_init_34 : decode b_Lv_init 34 = .ok (.bipush 8, 2) := by decide +kernel
theorem d_Lv_init_36 : decode b_Lv_init 36 = .ok (.newarray .int, 2) := by decide +kernel
theorem d_Lv_init_38 : decode b_Lv_init 38 = .ok (.putfield 28, 3) := by decide +kernel
theorem d_Lv_init_41 : decode b_Lv_init 41 = .ok (.return_, 1) := by decide +kernel
theorem d_Lv_begin_0 : decode b_Lv_begin 0 = .ok (.aload_n 0, 1) := by decide +kernel
theorem d_Lv_begin_1 : decode b_Lv_begin 1 = .ok (.iconst 0, 1) := by decide +kernel
theorem d_Lv_begin_2 : decode b_Lv_begin 2 = .ok (.putfield 31, 3) := by decide +kernel
theorem d_Lv_begin_5 : decode b_Lv_begin 5 = .ok (.aload_n 0, 1) := by decide +kernel
theorem d_Lv_begin_6 : decode b_Lv_begin 6 = .ok (.iload_n 1, 1) := by decide +kernel
theorem d_Lv_begin_7 : decode b_Lv_begin 7 = .ok (.iconst 0, 1) := by decide +kernel
theorem d_Lv_begin_8 : decode b_Lv_begin 8 = .ok (.invokestatic 35, 3) := by decide +kernel
theorem d_Lv_begin_11 : decode b_Lv_begin 11 = .ok (.putfield 41, 3) := by decide +kernel
theorem d_Lv_begin_14 : decode b_Lv_begin 14 = .ok (.aload_n 0, 1) := by decide +kernel
theorem d_Lv_begin_15 : decode b_Lv_begin 15 = .ok (.iload_n 2, 1) := by decide +kernel
theorem d_Lv_begin_16 : decode b_Lv_begin 16 = .ok (.sipush 200, 3) := by decide +kernel
theorem d_Lv_begin_19 : decode b_Lv_begin 19 = .ok (.invokestatic 44, 3) := by decide +kernel
theorem d_Lv_begin_22 : decode b_Lv_begin 22 = .ok (.putfield 47, 3) := by decide +kernel
theorem d_Lv_begin_25 : decode b_Lv_begin 25 = .ok (.aload_n 0, 1) := by decide +kernel
theorem d_Lv_begin_26 : decode b_Lv_begin 26 = .ok (.iload_n 3, 1) := by decide +kernel
theorem d_Lv_begin_27 : decode b_Lv_begin 27 = .ok (.putfield 50, 3) := by decide +kernel
theorem d_Lv_begin_30 : decode b_Lv_begin 30 = .ok (.aload_n 0, 1) := by decide +kernel
theorem d_Lv_begin_31 : decode b_Lv_begin 31 = .ok (.iload 4, 2) := by decide +kernel
theorem d_Lv_begin_33 : decode b_Lv_begin 33 = .ok (.putfield 53, 3) := by decide +kernel
theorem d_Lv_begin_36 : decode b_Lv_begin 36 = .ok (.aload_n 0, 1) := by decide +kernel
theorem d_Lv_begin_37 : decode b_Lv_begin 37 = .ok (.iconst 0, 1) := by decide +kernel
theorem d_Lv_begin_38 : decode b_Lv_begin 38 = .ok (.putfield 57, 3) := by decide +kernel
theorem d_Lv_begin_41 : decode b_Lv_begin 41 = .ok (.return_, 1) := by decide +kernel
theorem d_Lv_beginWord_0 : decode b_Lv_beginWord 0 = .ok (.aload_n 0, 1) := by decide +kernel
theorem d_Lv_beginWord_1 : decode b_Lv_beginWord 1 = .ok (.getfield 31, 3) := by decide +kernel
theorem d_Lv_beginWord_4 : decode b_Lv_beginWord 4 = .ok (.bipush 8, 2) := by decide +kernel
theorem d_Lv_beginWord_6 : decode b_Lv_beginWord 6 = .ok (.if_icmp .ge 24, 3) := by decide +kernel
theorem d_Lv_beginWord_9 : decode b_Lv_beginWord 9 = .ok (.aload_n 0, 1) := by decide +kernel
theorem d_Lv_beginWord_10 : decode b_Lv_beginWord 10 = .ok (.getfield 14, 3) := by decide +kernel
theorem d_Lv_beginWord_13 : decode b_Lv_beginWord 13 = .ok (.aload_n 0, 1) := by decide +kernel
theorem d_Lv_beginWord_14 : decode b_Lv_beginWord 14 = .ok (.getfield 31, 3) := by decide +kernel
theorem d_Lv_beginWord_17 : decode b_Lv_beginWord 17 = .ok (.invokevirtual 60, 3) := by decide +kernel
theorem d_Lv_beginWord_20 : decode b_Lv_beginWord 20 = .ok (.aload_n 0, 1) := by decide +kernel
theorem d_Lv_beginWord_21 : decode b_Lv_beginWord 21 = .ok (.getfield 20, 3) := by decide +kernel
theorem d_Lv_beginWord_24 : decode b_Lv_beginWord 24 = .ok (.aload_n 0, 1) := by decide +kernel
theorem d_Lv_beginWord_25 : decode b_Lv_beginWord 25 = .ok (.getfield 31, 3) := by decide +kernel
theorem d_Lv_beginWord_28 : decode b_Lv_beginWord 28 = .ok (.iconst 0, 1) := by decide +kernel
theorem d_Lv_beginWord_29 : decode b_Lv_beginWord 29 = .ok (.bastore, 1) := by decide +kernel
theorem d_Lv_beginWord_30 : decode b_Lv_beginWord 30 = .ok (.return_, 1) := by decide +kernel
theorem d_Lv_endBraced_0 : decode b_Lv_endBraced 0 = .ok (.aload_n 0, 1) := by decide +kernel
theorem d_Lv_endBraced_1 : decode b_Lv_endBraced 1 = .ok (.getfield 31, 3) := by decide +kernel
theorem d_Lv_endBraced_4 : decode b_Lv_endBraced 4 = .ok (.bipush 8, 2) := by decide +kernel
theorem d_Lv_endBraced_6 : decode b_Lv_endBraced 6 = .ok (.if_icmp .ge 57, 3) := by decide +kernel
theorem d_Lv_endBraced_9 : decode b_Lv_endBraced 9 = .ok (.aload_n 0, 1) := by decide +kernel
theorem d_Lv_endBraced_10 : decode b_Lv_endBraced 10 = .ok (.getfield 14, 3) := by decide +kernel
theorem d_Lv_endBraced_13 : decode b_Lv_endBraced 13 = .ok (.aload_n 0, 1) := by decide +kernel
theorem d_Lv_endBraced_14 : decode b_Lv_endBraced 14 = .ok (.getfield 31, 3) := by decide +kernel
theorem d_Lv_endBraced_17 : decode b_Lv_endBraced 17 = .ok (.aload_n 1, 1) := by decide +kernel
theorem d_Lv_endBraced_18 : decode b_Lv_endBraced 18 = .ok (.iload_n 2, 1) := by decide +kernel
theorem d_Lv_endBraced_19 : decode b_Lv_endBraced 19 = .ok (.iload_n 3, 1) := by decide +kernel
theorem d_Lv_endBraced_20 : decode b_Lv_endBraced 20 = .ok (.invokevirtual 63, 3) := by decide +kernel
theorem d_Lv_endBraced_23 : decode b_Lv_endBraced 23 = .ok (.aload_n 0, 1) := by decide +kernel
theorem d_Lv_endBraced_24 : decode b_Lv_endBraced 24 = .ok (.getfield 20, 3) := by decide +kernel
theorem d_Lv_endBraced_27 : decode b_Lv_endBraced 27 = .ok (.aload_n 0, 1) := by decide +kernel
theorem d_Lv_endBraced_28 : decode b_Lv_endBraced 28 = .ok (.getfield 31, 3) := by decide +kernel
theorem d_Lv_endBraced_31 : decode b_Lv_endBraced 31 = .ok (.iconst 1, 1) := by decide +kernel
theorem d_Lv_endBraced_32 : decode b_Lv_endBraced 32 = .ok (.bastore, 1) := by decide +kernel
theorem d_Lv_endBraced_33 : decode b_Lv_endBraced 33 = .ok (.aload_n 0, 1) := by decide +kernel
theorem d_Lv_endBraced_34 : decode b_Lv_endBraced 34 = .ok (.getfield 24, 3) := by decide +kernel
theorem d_Lv_endBraced_37 : decode b_Lv_endBraced 37 = .ok (.aload_n 0, 1) := by decide +kernel
theorem d_Lv_endBraced_38 : decode b_Lv_endBraced 38 = .ok (.getfield 31, 3) := by decide +kernel
theorem d_Lv_endBraced_41 : decode b_Lv_endBraced 41 = .ok (.iload_n 2, 1) := by decide +kernel
theorem d_Lv_endBraced_42 : decode b_Lv_endBraced 42 = .ok (.iastore, 1) := by decide +kernel
theorem d_Lv_endBraced_43 : decode b_Lv_endBraced 43 = .ok (.aload_n 0, 1) := by decide +kernel
theorem d_Lv_endBraced_44 : decode b_Lv_endBraced 44 = .ok (.getfield 28, 3) := by decide +kernel
theorem d_Lv_endBraced_47 : decode b_Lv_endBraced 47 = .ok (.aload_n 0, 1) := by decide +kernel
theorem d_Lv_endBraced_48 : decode b_Lv_endBraced 48 = .ok (.getfield 31, 3) := by decide +kernel
theorem d_Lv_endBraced_51 : decode b_Lv_endBraced 51 = .ok (.iload_n 3, 1) := by decide +kernel
theorem d_Lv_endBraced_52 : decode b_Lv_endBraced 52 = .ok (.iastore, 1) := by decide +kernel
theorem d_Lv_endBraced_53 : decode b_Lv_endBraced 53 = .ok (.aload_n 0, 1) := by decide +kernel
theorem d_Lv_endBraced_54 : decode b_Lv_endBraced 54 = .ok (.dup, 1) := by decide +kernel
theorem d_Lv_endBraced_55 : decode b_Lv_endBraced 55 = .ok (.getfield 31, 3) := by decide +kernel
theorem d_Lv_endBraced_58 : decode b_Lv_endBraced 58 = .ok (.iconst 1, 1) := by decide +kernel
theorem d_Lv_endBraced_59 : decode b_Lv_endBraced 59 = .ok (.iadd, 1) := by decide +kernel
theorem d_Lv_endBraced_60 : decode b_Lv_endBraced 60 = .ok (.putfield 31, 3) := by decide +kernel
theorem d_Lv_endBraced_63 : decode b_Lv_endBraced 63 = .ok (.return_, 1) := by decide +kernel
theorem d_Lv_endOf_0 : decode b_Lv_endOf 0 = .ok (.aload_n 0, 1) := by decide +kernel
theorem d_Lv_endOf_1 : decode b_Lv_endOf 1 = .ok (.iload_n 1, 1) := by decide +kernel
theorem d_Lv_endOf_2 : decode b_Lv_endOf 2 = .ok (.invokevirtual 67, 3) := by decide +kernel
theorem d_Lv_endOf_5 : decode b_Lv_endOf 5 = .ok (.ifCond .eq 12, 3) := by decide +kernel
theorem d_Lv_endOf_8 : decode b_Lv_endOf 8 = .ok (.aload_n 0, 1) := by decide +kernel
theorem d_Lv_endOf_9 : decode b_Lv_endOf 9 = .ok (.getfield 28, 3) := by decide +kernel
theorem d_Lv_endOf_12 : decode b_Lv_endOf 12 = .ok (.iload_n 1, 1) := by decide +kernel
theorem d_Lv_endOf_13 : decode b_Lv_endOf 13 = .ok (.iaload, 1) := by decide +kernel
theorem d_Lv_endOf_14 : decode b_Lv_endOf 14 = .ok (.goto 4, 3) := by decide +kernel
theorem d_Lv_endOf_17 : decode b_Lv_endOf 17 = .ok (.iconst 0, 1) := by decide +kernel
theorem d_Lv_endOf_18 : decode b_Lv_endOf 18 = .ok (.ireturn, 1) := by decide +kernel
theorem d_Lv_endsCommand_0 : decode b_Lv_endsCommand 0 = .ok (.iload_n 1, 1) := by decide +kernel
theorem d_Lv_endsCommand_1 : decode b_Lv_endsCommand 1 = .ok (.bipush 59, 2) := by decide +kernel
theorem d_Lv_endsCommand_3 : decode b_Lv_endsCommand 3 = .ok (.if_icmp .eq 22, 3) := by decide +kernel
theorem d_Lv_endsCommand_6 : decode b_Lv_endsCommand 6 = .ok (.iload_n 1, 1) := by decide +kernel
theorem d_Lv_endsCommand_7 : decode b_Lv_endsCommand 7 = .ok (.bipush 10, 2) := by decide +kernel
theorem d_Lv_endsCommand_9 : decode b_Lv_endsCommand 9 = .ok (.if_icmp .eq 16, 3) := by decide +kernel
theorem d_Lv_endsCommand_12 : decode b_Lv_endsCommand 12 = .ok (.iload_n 1, 1) := by decide +kernel
theorem d_Lv_endsCommand_13 : decode b_Lv_endsCommand 13 = .ok (.bipush 93, 2) := by decide +kernel
theorem d_Lv_endsCommand_15 : decode b_Lv_endsCommand 15 = .ok (.if_icmp .ne 14, 3) := by decide +kernel
theorem d_Lv_endsCommand_18 : decode b_Lv_endsCommand 18 = .ok (.aload_n 0, 1) := by decide +kernel
theorem d_Lv_endsCommand_19 : decode b_Lv_endsCommand 19 = .ok (.getfield 53, 3) := by decide +kernel
theorem d_Lv_endsCommand_22 : decode b_Lv_endsCommand 22 = .ok (.ifCond .eq 7, 3) := by decide +kernel
theorem d_Lv_endsCommand_25 : decode b_Lv_endsCommand 25 = .ok (.iconst 1, 1) := by decide +kernel
theorem d_Lv_endsCommand_26 : decode b_Lv_endsCommand 26 = .ok (.goto 4, 3) := by decide +kernel
theorem d_Lv_endsCommand_29 : decode b_Lv_endsCommand 29 = .ok (.iconst 0, 1) := by decide +kernel
theorem d_Lv_endsCommand_30 : decode b_Lv_endsCommand 30 = .ok (.ireturn, 1) := by decide +kernel
theorem d_Lv_isBraced_0 : decode b_Lv_isBraced 0 = .ok (.iload_n 1, 1) := by decide +kernel
theorem d_Lv_isBraced_1 : decode b_Lv_isBraced 1 = .ok (.ifCond .lt 30, 3) := by decide +kernel
theorem d_Lv_isBraced_4 : decode b_Lv_isBraced 4 = .ok (.iload_n 1, 1) := by decide +kernel
theorem d_Lv_isBraced_5 : decode b_Lv_isBraced 5 = .ok (.aload_n 0, 1) := by decide +kernel
theorem d_Lv_isBraced_6 : decode b_Lv_isBraced 6 = .ok (.getfield 31, 3) := by decide +kernel
theorem d_Lv_isBraced_9 : decode b_Lv_isBraced 9 = .ok (.if_icmp .ge 22, 3) := by decide +kernel
theorem d_Lv_isBraced_12 : decode b_Lv_isBraced 12 = .ok (.iload_n 1, 1) := by decide +kernel
theorem d_Lv_isBraced_13 : decode b_Lv_isBraced 13 = .ok (.bipush 8, 2) := by decide +kernel
theorem d_Lv_isBraced_15 : decode b_Lv_isBraced 15 = .ok (.if_icmp .ge 16, 3) := by decide +kernel
theorem d_Lv_isBraced_18 : decode b_Lv_isBraced 18 = .ok (.aload_n 0, 1) := by decide +kernel
theorem d_Lv_isBraced_19 : decode b_Lv_isBraced 19 = .ok (.getfield 20, 3) := by decide +kernel
theorem d_Lv_isBraced_22 : decode b_Lv_isBraced 22 = .ok (.iload_n 1, 1) := by decide +kernel
theorem d_Lv_isBraced_23 : decode b_Lv_isBraced 23 = .ok (.baload, 1) := by decide +kernel
theorem d_Lv_isBraced_24 : decode b_Lv_isBraced 24 = .ok (.ifCond .eq 7, 3) := by decide +kernel
theorem d_Lv_isBraced_27 : decode b_Lv_isBraced 27 = .ok (.iconst 1, 1) := by decide +kernel
theorem d_Lv_isBraced_28 : decode b_Lv_isBraced 28 = .ok (.goto 4, 3) := by decide +kernel
theorem d_Lv_isBraced_31 : decode b_Lv_isBraced 31 = .ok (.iconst 0, 1) := by decide +kernel
theorem d_Lv_isBraced_32 : decode b_Lv_isBraced 32 = .ok (.ireturn, 1) := by decide +kernel
theorem d_Lv_startOf_0 : decode b_Lv_startOf 0 = .ok (.aload_n 0, 1) := by decide +kernel
theorem d_Lv_startOf_1 : decode b_Lv_startOf 1 = .ok (.iload_n 1, 1) := by decide +kernel
theorem d_Lv_startOf_2 : decode b_Lv_startOf 2 = .ok (.invokevirtual 67, 3) := by decide +kernel
theorem d_Lv_startOf_5 : decode b_Lv_startOf 5 = .ok (.ifCond .eq 12, 3) := by decide +kernel
theorem d_Lv_startOf_8 : decode b_Lv_startOf 8 = .ok (.aload_n 0, 1) := by decide +kernel
theorem d_Lv_startOf_9 : decode b_Lv_startOf 9 = .ok (.getfield 24, 3) := by decide +kernel
theorem d_Lv_startOf_12 : decode b_Lv_startOf 12 = .ok (.iload_n 1, 1) := by decide +kernel
theorem d_Lv_startOf_13 : decode b_Lv_startOf 13 = .ok (.iaload, 1) := by decide +kernel
theorem d_Lv_startOf_14 : decode b_Lv_startOf 14 = .ok (.goto 4, 3) := by decide +kernel
theorem d_Lv_startOf_17 : decode b_Lv_startOf 17 = .ok (.iconst 0, 1) := by decide +kernel
theorem d_Lv_startOf_18 : decode b_Lv_startOf 18 = .ok (.ireturn, 1) := by decide +kernel
