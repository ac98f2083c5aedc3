/-! decode rows; written by wip/gen/names.py -/
theorem d_Pe_init_0 : decode b_Pe_init 0 = .ok (.aload_n 0, 1) := by decide +kernel
theorem d_Pe_init_1 : decode b_Pe_init 1 = .ok (.invokespecial 3, 3) := by decide +kernel
theorem d_Pe_init_4 : decode b_Pe_init 4 = .ok (.aload_n 0, 1) := by decide +kernel
theorem d_Pe_init_5 : decode b_Pe_init 5 = .ok (.bipush 20, 2) := by decide +kernel
theorem d_Pe_init_7 : decode b_Pe_init 7 = .ok (.newarray .int, 2) := by decide +kernel
theorem d_Pe_init_9 : decode b_Pe_init 9 = .ok (.putfield 9, 3) := by decide +kernel
theorem d_Pe_init_12 : decode b_Pe_init 12 = .ok (.aload_n 0, 1) := by decide +kernel
theorem d_Pe_init_13 : decode b_Pe_init 13 = .ok (.bipush 20, 2) := by decide +kernel
theorem d_Pe_init_15 : decode b_Pe_init 15 = .ok (.newarray .int, 2) := by decide +kernel
theorem d_Pe_init_17 : decode b_Pe_init 17 = .ok (.putfield 15, 3) := by decide +kernel
theorem d_Pe_init_20 : decode b_Pe_init 20 = .ok (.aload_n 0, 1) := by decide +kernel
theorem d_Pe_init_21 : decode b_Pe_init 21 = .ok (.bipush 20, 2) := by decide +kernel
theorem d_Pe_init_23 : decode b_Pe_init 23 = .ok (.newarray .int, 2) := by decide +kernel
theorem d_Pe_init_25 : decode b_Pe_init 25 = .ok (.putfield 18, 3) := by decide +kernel
theorem d_Pe_init_28 : decode b_Pe_init 28 = .ok (.aload_n 0, 1) := by decide +kernel
theorem d_Pe_init_29 : decode b_Pe_init 29 = .ok (.bipush 20, 2) := by decide +kernel
theorem d_Pe_init_31 : decode b_Pe_init 31 = .ok (.newarray .int, 2) := by decide +kernel
theorem d_Pe_init_33 : decode b_Pe_init 33 = .ok (.putfield 21, 3) := by decide +kernel
theorem d_Pe_init_36 : decode b_Pe_init 36 = .ok (.aload_n 0, 1) := by decide +kernel
theorem d_Pe_init_37 : decode b_Pe_init 37 = .ok (.bipush 40, 2) := by decide +kernel
theorem d_Pe_init_39 : decode b_Pe_init 39 = .ok (.newarray .int, 2) := by decide +kernel
theorem d_Pe_init_41 : decode b_Pe_init 41 = .ok (.putfield 24, 3) := by decide +kernel
theorem d_Pe_init_44 : decode b_Pe_init 44 = .ok (.aload_n 0, 1) := by decide +kernel
theorem d_Pe_init_45 : decode b_Pe_init 45 = .ok (.new 27, 3) := by decide +kernel
theorem d_Pe_init_48 : decode b_Pe_init 48 = .ok (.dup, 1) := by decide +kernel
theorem d_Pe_init_49 : decode b_Pe_init 49 = .ok (.iconst 1, 1) := by decide +kernel
theorem d_Pe_init_50 : decode b_Pe_init 50 = .ok (.invokespecial 29, 3) := by decide +kernel
theorem d_Pe_init_53 : decode b_Pe_init 53 = .ok (.putfield 32, 3) := by decide +kernel
theorem d_Pe_init_56 : decode b_Pe_init 56 = .ok (.aload_n 0, 1) := by decide +kernel
theorem d_Pe_init_57 : decode b_Pe_init 57 = .ok (.new 36, 3) := by decide +kernel
theorem d_Pe_init_60 : decode b_Pe_init 60 = .ok (.dup, 1) := by decide +kernel
theorem d_Pe_init_61 : decode b_Pe_init 61 = .ok (.invokespecial 38, 3) := by decide +kernel
theorem d_Pe_init_64 : decode b_Pe_init 64 = .ok (.putfield 39, 3) := by decide +kernel
theorem d_Pe_init_67 : decode b_Pe_init 67 = .ok (.return_, 1) := by decide +kernel
theorem d_Pe_addRule_0 : decode b_Pe_addRule 0 = .ok (.aload_n 0, 1) := by decide +kernel
theorem d_Pe_addRule_1 : decode b_Pe_addRule 1 = .ok (.getfield 43, 3) := by decide +kernel
theorem d_Pe_addRule_4 : decode b_Pe_addRule 4 = .ok (.bipush 20, 2) := by decide +kernel
theorem d_Pe_addRule_6 : decode b_Pe_addRule 6 = .ok (.if_icmp .lt 5, 3) := by decide +kernel
theorem d_Pe_addRule_9 : decode b_Pe_addRule 9 = .ok (.iconst 0, 1) := by decide +kernel
theorem d_Pe_addRule_10 : decode b_Pe_addRule 10 = .ok (.ireturn, 1) := by decide +kernel
theorem d_Pe_addRule_11 : decode b_Pe_addRule 11 = .ok (.aload_n 0, 1) := by decide +kernel
theorem d_Pe_addRule_12 : decode b_Pe_addRule 12 = .ok (.getfield 9, 3) := by decide +kernel
theorem d_Pe_addRule_15 : decode b_Pe_addRule 15 = .ok (.aload_n 0, 1) := by decide +kernel
theorem d_Pe_addRule_16 : decode b_Pe_addRule 16 = .ok (.getfield 43, 3) := by decide +kernel
theorem d_Pe_addRule_19 : decode b_Pe_addRule 19 = .ok (.iload_n 1, 1) := by decide +kernel
theorem d_Pe_addRule_20 : decode b_Pe_addRule 20 = .ok (.iastore, 1) := by decide +kernel
theorem d_Pe_addRule_21 : decode b_Pe_addRule 21 = .ok (.aload_n 0, 1) := by decide +kernel
theorem d_Pe_addRule_22 : decode b_Pe_addRule 22 = .ok (.getfield 15, 3) := by decide +kernel
theorem d_Pe_addRule_25 : decode b_Pe_addRule 25 = .ok (.aload_n 0, 1) := by decide +kernel
theorem d_Pe_addRule_26 : decode b_Pe_addRule 26 = .ok (.getfield 43, 3) := by decide +kernel
theorem d_Pe_addRule_29 : decode b_Pe_addRule 29 = .ok (.iload_n 2, 1) := by decide +kernel
theorem d_Pe_addRule_30 : decode b_Pe_addRule 30 = .ok (.iastore, 1) := by decide +kernel
theorem d_Pe_addRule_31 : decode b_Pe_addRule 31 = .ok (.aload_n 0, 1) := by decide +kernel
theorem d_Pe_addRule_32 : decode b_Pe_addRule 32 = .ok (.getfield 18, 3) := by decide +kernel
theorem d_Pe_addRule_35 : decode b_Pe_addRule 35 = .ok (.aload_n 0, 1) := by decide +kernel
theorem d_Pe_addRule_36 : decode b_Pe_addRule 36 = .ok (.getfield 43, 3) := by decide +kernel
theorem d_Pe_addRule_39 : decode b_Pe_addRule 39 = .ok (.iload_n 3, 1) := by decide +kernel
theorem d_Pe_addRule_40 : decode b_Pe_addRule 40 = .ok (.iastore, 1) := by decide +kernel
theorem d_Pe_addRule_41 : decode b_Pe_addRule 41 = .ok (.aload_n 0, 1) := by decide +kernel
theorem d_Pe_addRule_42 : decode b_Pe_addRule 42 = .ok (.getfield 21, 3) := by decide +kernel
theorem d_Pe_addRule_45 : decode b_Pe_addRule 45 = .ok (.aload_n 0, 1) := by decide +kernel
theorem d_Pe_addRule_46 : decode b_Pe_addRule 46 = .ok (.getfield 43, 3) := by decide +kernel
theorem d_Pe_addRule_49 : decode b_Pe_addRule 49 = .ok (.iload 4, 2) := by decide +kernel
theorem d_Pe_addRule_51 : decode b_Pe_addRule 51 = .ok (.iastore, 1) := by decide +kernel
theorem d_Pe_addRule_52 : decode b_Pe_addRule 52 = .ok (.aload_n 0, 1) := by decide +kernel
theorem d_Pe_addRule_53 : decode b_Pe_addRule 53 = .ok (.dup, 1) := by decide +kernel
theorem d_Pe_addRule_54 : decode b_Pe_addRule 54 = .ok (.getfield 43, 3) := by decide +kernel
theorem d_Pe_addRule_57 : decode b_Pe_addRule 57 = .ok (.iconst 1, 1) := by decide +kernel
theorem d_Pe_addRule_58 : decode b_Pe_addRule 58 = .ok (.iadd, 1) := by decide +kernel
theorem d_Pe_addRule_59 : decode b_Pe_addRule 59 = .ok (.putfield 43, 3) := by decide +kernel
theorem d_Pe_addRule_62 : decode b_Pe_addRule 62 = .ok (.iconst 1, 1) := by decide +kernel
theorem d_Pe_addRule_63 : decode b_Pe_addRule 63 = .ok (.ireturn, 1) := by decide +kernel
theorem d_Pe_ruleFor_0 : decode b_Pe_ruleFor 0 = .ok (.iconst 0, 1) := by decide +kernel
theorem d_Pe_ruleFor_1 : decode b_Pe_ruleFor 1 = .ok (.istore_n 2, 1) := by decide +kernel
theorem d_Pe_ruleFor_2 : decode b_Pe_ruleFor 2 = .ok (.iload_n 2, 1) := by decide +kernel
theorem d_Pe_ruleFor_3 : decode b_Pe_ruleFor 3 = .ok (.aload_n 0, 1) := by decide +kernel
theorem d_Pe_ruleFor_4 : decode b_Pe_ruleFor 4 = .ok (.getfield 43, 3) := by decide +kernel
theorem d_Pe_ruleFor_7 : decode b_Pe_ruleFor 7 = .ok (.if_icmp .ge 34, 3) := by decide +kernel
theorem d_Pe_ruleFor_10 : decode b_Pe_ruleFor 10 = .ok (.aload_n 0, 1) := by decide +kernel
theorem d_Pe_ruleFor_11 : decode b_Pe_ruleFor 11 = .ok (.getfield 9, 3) := by decide +kernel
theorem d_Pe_ruleFor_14 : decode b_Pe_ruleFor 14 = .ok (.iload_n 2, 1) := by decide +kernel
theorem d_Pe_ruleFor_15 : decode b_Pe_ruleFor 15 = .ok (.iaload, 1) := by decide +kernel
theorem d_Pe_ruleFor_16 : decode b_Pe_ruleFor 16 = .ok (.aload_n 0, 1) := by decide +kernel
theorem d_Pe_ruleFor_17 : decode b_Pe_ruleFor 17 = .ok (.getfield 47, 3) := by decide +kernel
theorem d_Pe_ruleFor_20 : decode b_Pe_ruleFor 20 = .ok (.if_icmp .ne 15, 3) := by decide +kernel
theorem d_Pe_ruleFor_23 : decode b_Pe_ruleFor 23 = .ok (.aload_n 0, 1) := by decide +kernel
theorem d_Pe_ruleFor_24 : decode b_Pe_ruleFor 24 = .ok (.getfield 15, 3) := by decide +kernel
theorem d_Pe_ruleFor_27 : decode b_Pe_ruleFor 27 = .ok (.iload_n 2, 1) := by decide +kernel
theorem d_Pe_ruleFor_28 : decode b_Pe_ruleFor 28 = .ok (.iaload, 1) := by decide +kernel
theorem d_Pe_ruleFor_29 : decode b_Pe_ruleFor 29 = .ok (.iload_n 1, 1) := by decide +kernel
theorem d_Pe_ruleFor_30 : decode b_Pe_ruleFor 30 = .ok (.if_icmp .ne 5, 3) := by decide +kernel
theorem d_Pe_ruleFor_33 : decode b_Pe_ruleFor 33 = .ok (.iload_n 2, 1) := by decide +kernel
theorem d_Pe_ruleFor_34 : decode b_Pe_ruleFor 34 = .ok (.ireturn, 1) := by decide +kernel
theorem d_Pe_ruleFor_35 : decode b_Pe_ruleFor 35 = .ok (.iinc 2 1, 3) := by decide +kernel
theorem d_Pe_ruleFor_38 : decode b_Pe_ruleFor 38 = .ok (.goto (-36), 3) := by decide +kernel
theorem d_Pe_ruleFor_41 : decode b_Pe_ruleFor 41 = .ok (.iconst (-1), 1) := by decide +kernel
theorem d_Pe_ruleFor_42 : decode b_Pe_ruleFor 42 = .ok (.ireturn, 1) := by decide +kernel
theorem d_Pe_send_0 : decode b_Pe_send 0 = .ok (.aload_n 1, 1) := by decide +kernel
theorem d_Pe_send_1 : decode b_Pe_send 1 = .ok (.iload_n 2, 1) := by decide +kernel
theorem d_Pe_send_2 : decode b_Pe_send 2 = .ok (.invokevirtual 56, 3) := by decide +kernel
theorem d_Pe_send_5 : decode b_Pe_send 5 = .ok (.istore_n 3, 1) := by decide +kernel
theorem d_Pe_send_6 : decode b_Pe_send 6 = .ok (.aload_n 0, 1) := by decide +kernel
theorem d_Pe_send_7 : decode b_Pe_send 7 = .ok (.getfield 50, 3) := by decide +kernel
theorem d_Pe_send_10 : decode b_Pe_send 10 = .ok (.iload_n 3, 1) := by decide +kernel
theorem d_Pe_send_11 : decode b_Pe_send 11 = .ok (.iadd, 1) := by decide +kernel
theorem d_Pe_send_12 : decode b_Pe_send 12 = .ok (.bipush 40, 2) := by decide +kernel
theorem d_Pe_send_14 : decode b_Pe_send 14 = .ok (.if_icmp .le 5, 3) := by decide +kernel
theorem d_Pe_send_17 : decode b_Pe_send 17 = .ok (.iconst 0, 1) := by decide +kernel
theorem d_Pe_send_18 : decode b_Pe_send 18 = .ok (.ireturn, 1) := by decide +kernel
theorem d_Pe_send_19 : decode b_Pe_send 19 = .ok (.iconst 0, 1) := by decide +kernel
theorem d_Pe_send_20 : decode b_Pe_send 20 = .ok (.istore 4, 2) := by decide +kernel
theorem d_Pe_send_22 : decode b_Pe_send 22 = .ok (.iload 4, 2) := by decide +kernel
theorem d_Pe_send_24 : decode b_Pe_send 24 = .ok (.iload_n 3, 1) := by decide +kernel
theorem d_Pe_send_25 : decode b_Pe_send 25 = .ok (.if_icmp .ge 57, 3) := by decide +kernel
theorem d_Pe_send_28 : decode b_Pe_send 28 = .ok (.aload_n 0, 1) := by decide +kernel
theorem d_Pe_send_29 : decode b_Pe_send 29 = .ok (.getfield 50, 3) := by decide +kernel
theorem d_Pe_send_32 : decode b_Pe_send 32 = .ok (.bipush 40, 2) := by decide +kernel
theorem d_Pe_send_34 : decode b_Pe_send 34 = .ok (.if_icmp .ge 48, 3) := by decide +kernel
theorem d_Pe_send_37 : decode b_Pe_send 37 = .ok (.aload_n 1, 1) := by decide +kernel
theorem d_Pe_send_38 : decode b_Pe_send 38 = .ok (.iload_n 2, 1) := by decide +kernel
theorem d_Pe_send_39 : decode b_Pe_send 39 = .ok (.iload 4, 2) := by decide +kernel
theorem d_Pe_send_41 : decode b_Pe_send 41 = .ok (.invokevirtual 60, 3) := by decide +kernel
theorem d_Pe_send_44 : decode b_Pe_send 44 = .ok (.istore 5, 2) := by decide +kernel
theorem d_Pe_send_46 : decode b_Pe_send 46 = .ok (.aload_n 0, 1) := by decide +kernel
theorem d_Pe_send_47 : decode b_Pe_send 47 = .ok (.getfield 24, 3) := by decide +kernel
theorem d_Pe_send_50 : decode b_Pe_send 50 = .ok (.aload_n 0, 1) := by decide +kernel
theorem d_Pe_send_51 : decode b_Pe_send 51 = .ok (.getfield 50, 3) := by decide +kernel
theorem d_Pe_send_54 : decode b_Pe_send 54 = .ok (.iload 5, 2) := by decide +kernel
theorem d_Pe_send_56 : decode b_Pe_send 56 = .ok (.iastore, 1) := by decide +kernel
theorem d_Pe_send_57 : decode b_Pe_send 57 = .ok (.aload_n 0, 1) := by decide +kernel
theorem d_Pe_send_58 : decode b_Pe_send 58 = .ok (.dup, 1) := by decide +kernel
theorem d_Pe_send_59 : decode b_Pe_send 59 = .ok (.getfield 50, 3) := by decide +kernel
theorem d_Pe_send_62 : decode b_Pe_send 62 = .ok (.iconst 1, 1) := by decide +kernel
theorem d_Pe_send_63 : decode b_Pe_send 63 = .ok (.iadd, 1) := by decide +kernel
theorem d_Pe_send_64 : decode b_Pe_send 64 = .ok (.putfield 50, 3) := by decide +kernel
theorem d_Pe_send_67 : decode b_Pe_send 67 = .ok (.aload_n 0, 1) := by decide +kernel
theorem d_Pe_send_68 : decode b_Pe_send 68 = .ok (.getfield 39, 3) := by decide +kernel
theorem d_Pe_send_71 : decode b_Pe_send 71 = .ok (.iload 5, 2) := by decide +kernel
theorem d_Pe_send_73 : decode b_Pe_send 73 = .ok (.invokevirtual 64, 3) := by decide +kernel
theorem d_Pe_send_76 : decode b_Pe_send 76 = .ok (.iinc 4 1, 3) := by decide +kernel
theorem d_Pe_send_79 : decode b_Pe_send 79 = .ok (.goto (-57), 3) := by decide +kernel
theorem d_Pe_send_82 : decode b_Pe_send 82 = .ok (.iconst 1, 1) := by decide +kernel
theorem d_Pe_send_83 : decode b_Pe_send 83 = .ok (.ireturn, 1) := by decide +kernel
theorem d_Pe_startAnew_0 : decode b_Pe_startAnew 0 = .ok (.aload_n 0, 1) := by decide +kernel
theorem d_Pe_startAnew_1 : decode b_Pe_startAnew 1 = .ok (.iconst 0, 1) := by decide +kernel
theorem d_Pe_startAnew_2 : decode b_Pe_startAnew 2 = .ok (.putfield 43, 3) := by decide +kernel
theorem d_Pe_startAnew_5 : decode b_Pe_startAnew 5 = .ok (.aload_n 0, 1) := by decide +kernel
theorem d_Pe_startAnew_6 : decode b_Pe_startAnew 6 = .ok (.iconst 0, 1) := by decide +kernel
theorem d_Pe_startAnew_7 : decode b_Pe_startAnew 7 = .ok (.putfield 47, 3) := by decide +kernel
theorem d_Pe_startAnew_10 : decode b_Pe_startAnew 10 = .ok (.aload_n 0, 1) := by decide +kernel
theorem d_Pe_startAnew_11 : decode b_Pe_startAnew 11 = .ok (.iconst 0, 1) := by decide +kernel
theorem d_Pe_startAnew_12 : decode b_Pe_startAnew 12 = .ok (.putfield 50, 3) := by decide +kernel
theorem d_Pe_startAnew_15 : decode b_Pe_startAnew 15 = .ok (.aload_n 0, 1) := by decide +kernel
theorem d_Pe_startAnew_16 : decode b_Pe_startAnew 16 = .ok (.getfield 32, 3) := by decide +kernel
theorem d_Pe_startAnew_19 : decode b_Pe_startAnew 19 = .ok (.iconst 0, 1) := by decide +kernel
theorem d_Pe_startAnew_20 : decode b_Pe_startAnew 20 = .ok (.invokevirtual 53, 3) := by decide +kernel
theorem d_Pe_startAnew_23 : decode b_Pe_startAnew 23 = .ok (.return_, 1) := by decide +kernel
theorem d_Pe_takeInput_0 : decode b_Pe_takeInput 0 = .ok (.aload_n 0, 1) := by decide +kernel
theorem d_Pe_takeInput_1 : decode b_Pe_takeInput 1 = .ok (.getfield 50, 3) := by decide +kernel
theorem d_Pe_takeInput_4 : decode b_Pe_takeInput 4 = .ok (.ifCond .ne 5, 3) := by decide +kernel
theorem d_Pe_takeInput_7 : decode b_Pe_takeInput 7 = .ok (.iconst 0, 1) := by decide +kernel
theorem d_Pe_takeInput_8 : decode b_Pe_takeInput 8 = .ok (.ireturn, 1) := by decide +kernel
theorem d_Pe_takeInput_9 : decode b_Pe_takeInput 9 = .ok (.aload_n 0, 1) := by decide +kernel
theorem d_Pe_takeInput_10 : decode b_Pe_takeInput 10 = .ok (.getfield 24, 3) := by decide +kernel
theorem d_Pe_takeInput_13 : decode b_Pe_takeInput 13 = .ok (.iconst 0, 1) := by decide +kernel
theorem d_Pe_takeInput_14 : decode b_Pe_takeInput 14 = .ok (.iaload, 1) := by decide +kernel
theorem d_Pe_takeInput_15 : decode b_Pe_takeInput 15 = .ok (.istore_n 1, 1) := by decide +kernel
theorem d_Pe_takeInput_16 : decode b_Pe_takeInput 16 = .ok (.aload_n 0, 1) := by decide +kernel
theorem d_Pe_takeInput_17 : decode b_Pe_takeInput 17 = .ok (.dup, 1) := by decide +kernel
theorem d_Pe_takeInput_18 : decode b_Pe_takeInput 18 = .ok (.getfield 50, 3) := by decide +kernel
theorem d_Pe_takeInput_21 : decode b_Pe_takeInput 21 = .ok (.iconst 1, 1) := by decide +kernel
theorem d_Pe_takeInput_22 : decode b_Pe_takeInput 22 = .ok (.isub, 1) := by decide +kernel
theorem d_Pe_takeInput_23 : decode b_Pe_takeInput 23 = .ok (.putfield 50, 3) := by decide +kernel
theorem d_Pe_takeInput_26 : decode b_Pe_takeInput 26 = .ok (.aload_n 0, 1) := by decide +kernel
theorem d_Pe_takeInput_27 : decode b_Pe_takeInput 27 = .ok (.getfield 24, 3) := by decide +kernel
theorem d_Pe_takeInput_30 : decode b_Pe_takeInput 30 = .ok (.iconst 1, 1) := by decide +kernel
theorem d_Pe_takeInput_31 : decode b_Pe_takeInput 31 = .ok (.aload_n 0, 1) := by decide +kernel
theorem d_Pe_takeInput_32 : decode b_Pe_takeInput 32 = .ok (.getfield 24, 3) := by decide +kernel
theorem d_Pe_takeInput_35 : decode b_Pe_takeInput 35 = .ok (.iconst 0, 1) := by decide +kernel
theorem d_Pe_takeInput_36 : decode b_Pe_takeInput 36 = .ok (.aload_n 0, 1) := by decide +kernel
theorem d_Pe_takeInput_37 : decode b_Pe_takeInput 37 = .ok (.getfield 50, 3) := by decide +kernel
theorem d_Pe_takeInput_40 : decode b_Pe_takeInput 40 = .ok (.invokestatic 78, 3) := by decide +kernel
theorem d_Pe_takeInput_43 : decode b_Pe_takeInput 43 = .ok (.iload_n 1, 1) := by decide +kernel
theorem d_Pe_takeInput_44 : decode b_Pe_takeInput 44 = .ok (.ireturn, 1) := by decide +kernel
theorem d_Pe_tick_0 : decode b_Pe_tick 0 = .ok (.aload_n 0, 1) := by decide +kernel
theorem d_Pe_tick_1 : decode b_Pe_tick 1 = .ok (.aload_n 0, 1) := by decide +kernel
theorem d_Pe_tick_2 : decode b_Pe_tick 2 = .ok (.invokevirtual 67, 3) := by decide +kernel
theorem d_Pe_tick_5 : decode b_Pe_tick 5 = .ok (.invokevirtual 71, 3) := by decide +kernel
theorem d_Pe_tick_8 : decode b_Pe_tick 8 = .ok (.istore_n 1, 1) := by decide +kernel
theorem d_Pe_tick_9 : decode b_Pe_tick 9 = .ok (.iload_n 1, 1) := by decide +kernel
theorem d_Pe_tick_10 : decode b_Pe_tick 10 = .ok (.iconst (-1), 1) := by decide +kernel
theorem d_Pe_tick_11 : decode b_Pe_tick 11 = .ok (.if_icmp .ne 4, 3) := by decide +kernel
theorem d_Pe_tick_14 : decode b_Pe_tick 14 = .ok (.return_, 1) := by decide +kernel
theorem d_Pe_tick_15 : decode b_Pe_tick 15 = .ok (.aload_n 0, 1) := by decide +kernel
theorem d_Pe_tick_16 : decode b_Pe_tick 16 = .ok (.getfield 18, 3) := by decide +kernel
theorem d_Pe_tick_19 : decode b_Pe_tick 19 = .ok (.iload_n 1, 1) := by decide +kernel
theorem d_Pe_tick_20 : decode b_Pe_tick 20 = .ok (.iaload, 1) := by decide +kernel
theorem d_Pe_tick_21 : decode b_Pe_tick 21 = .ok (.ifCond .eq 35, 3) := by decide +kernel
theorem d_Pe_tick_24 : decode b_Pe_tick 24 = .ok (.aload_n 0, 1) := by decide +kernel
theorem d_Pe_tick_25 : decode b_Pe_tick 25 = .ok (.getfield 32, 3) := by decide +kernel
theorem d_Pe_tick_28 : decode b_Pe_tick 28 = .ok (.iconst 0, 1) := by decide +kernel
theorem d_Pe_tick_29 : decode b_Pe_tick 29 = .ok (.aload_n 0, 1) := by decide +kernel
theorem d_Pe_tick_30 : decode b_Pe_tick 30 = .ok (.getfield 18, 3) := by decide +kernel
theorem d_Pe_tick_33 : decode b_Pe_tick 33 = .ok (.iload_n 1, 1) := by decide +kernel
theorem d_Pe_tick_34 : decode b_Pe_tick 34 = .ok (.iaload, 1) := by decide +kernel
theorem d_Pe_tick_35 : decode b_Pe_tick 35 = .ok (.invokevirtual 74, 3) := by decide +kernel
theorem d_Pe_tick_38 : decode b_Pe_tick 38 = .ok (.pop, 1) := by decide +kernel
theorem d_Pe_tick_39 : decode b_Pe_tick 39 = .ok (.aload_n 0, 1) := by decide +kernel
theorem d_Pe_tick_40 : decode b_Pe_tick 40 = .ok (.getfield 39, 3) := by decide +kernel
theorem d_Pe_tick_43 : decode b_Pe_tick 43 = .ok (.aload_n 0, 1) := by decide +kernel
theorem d_Pe_tick_44 : decode b_Pe_tick 44 = .ok (.getfield 18, 3) := by decide +kernel
theorem d_Pe_tick_47 : decode b_Pe_tick 47 = .ok (.iload_n 1, 1) := by decide +kernel
theorem d_Pe_tick_48 : decode b_Pe_tick 48 = .ok (.iaload, 1) := by decide +kernel
theorem d_Pe_tick_49 : decode b_Pe_tick 49 = .ok (.sipush 256, 3) := by decide +kernel
theorem d_Pe_tick_52 : decode b_Pe_tick 52 = .ok (.iadd, 1) := by decide +kernel
theorem d_Pe_tick_53 : decode b_Pe_tick 53 = .ok (.invokevirtual 64, 3) := by decide +kernel
theorem d_Pe_tick_56 : decode b_Pe_tick 56 = .ok (.aload_n 0, 1) := by decide +kernel
theorem d_Pe_tick_57 : decode b_Pe_tick 57 = .ok (.aload_n 0, 1) := by decide +kernel
theorem d_Pe_tick_58 : decode b_Pe_tick 58 = .ok (.getfield 21, 3) := by decide +kernel
theorem d_Pe_tick_61 : decode b_Pe_tick 61 = .ok (.iload_n 1, 1) := by decide +kernel
theorem d_Pe_tick_62 : decode b_Pe_tick 62 = .ok (.iaload, 1) := by decide +kernel
theorem d_Pe_tick_63 : decode b_Pe_tick 63 = .ok (.putfield 47, 3) := by decide +kernel
theorem d_Pe_tick_66 : decode b_Pe_tick 66 = .ok (.return_, 1) := by decide +kernel
