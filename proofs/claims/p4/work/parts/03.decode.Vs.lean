/-! decode rows; written by wip/gen/names.py -/
theorem d_Vs_init_0 : decode b_Vs_init 0 = .ok (.aload_n 0, 1) := by decide +kernel
theorem d_Vs_init_1 : decode b_Vs_init 1 = .ok (.invokespecial 3, 3) := by decide +kernel
theorem d_Vs_init_4 : decode b_Vs_init 4 = .ok (.aload_n 0, 1) := by decide +kernel
theorem d_Vs_init_5 : decode b_Vs_init 5 = .ok (.bipush 8, 2) := by decide +kernel
theorem d_Vs_init_7 : decode b_Vs_init 7 = .ok (.anewarray 9, 3) := by decide +kernel
theorem d_Vs_init_10 : decode b_Vs_init 10 = .ok (.putfield 11, 3) := by decide +kernel
theorem d_Vs_init_13 : decode b_Vs_init 13 = .ok (.aload_n 0, 1) := by decide +kernel
theorem d_Vs_init_14 : decode b_Vs_init 14 = .ok (.sipush 208, 3) := by decide +kernel
theorem d_Vs_init_17 : decode b_Vs_init 17 = .ok (.newarray .boolean, 2) := by decide +kernel
theorem d_Vs_init_19 : decode b_Vs_init 19 = .ok (.putfield 17, 3) := by decide +kernel
theorem d_Vs_init_22 : decode b_Vs_init 22 = .ok (.iconst 0, 1) := by decide +kernel
theorem d_Vs_init_23 : decode b_Vs_init 23 = .ok (.istore_n 1, 1) := by decide +kernel
theorem d_Vs_init_24 : decode b_Vs_init 24 = .ok (.iload_n 1, 1) := by decide +kernel
theorem d_Vs_init_25 : decode b_Vs_init 25 = .ok (.bipush 8, 2) := by decide +kernel
theorem d_Vs_init_27 : decode b_Vs_init 27 = .ok (.if_icmp .ge 33, 3) := by decide +kernel
theorem d_Vs_init_30 : decode b_Vs_init 30 = .ok (.aload_n 0, 1) := by decide +kernel
theorem d_Vs_init_31 : decode b_Vs_init 31 = .ok (.getfield 11, 3) := by decide +kernel
theorem d_Vs_init_34 : decode b_Vs_init 34 = .ok (.iload_n 1, 1) := by decide +kernel
theorem d_Vs_init_35 : decode b_Vs_init 35 = .ok (.new 9, 3) := by decide +kernel
theorem d_Vs_init_38 : decode b_Vs_init 38 = .ok (.dup, 1) := by decide +kernel
theorem d_Vs_init_39 : decode b_Vs_init 39 = .ok (.bipush 26, 2) := by decide +kernel
theorem d_Vs_init_41 : decode b_Vs_init 41 = .ok (.invokespecial 21, 3) := by decide +kernel
theorem d_Vs_init_44 : decode b_Vs_init 44 = .ok (.aastore, 1) := by decide +kernel
theorem d_Vs_init_45 : decode b_Vs_init 45 = .ok (.aload_n 0, 1) := by decide +kernel
theorem d_Vs_init_46 : decode b_Vs_init 46 = .ok (.getfield 11, 3) := by decide +kernel
theorem d_Vs_init_49 : decode b_Vs_init 49 = .ok (.iload_n 1, 1) := by decide +kernel
theorem d_Vs_init_50 : decode b_Vs_init 50 = .ok (.aaload, 1) := by decide +kernel
theorem d_Vs_init_51 : decode b_Vs_init 51 = .ok (.invokevirtual 24, 3) := by decide +kernel
theorem d_Vs_init_54 : decode b_Vs_init 54 = .ok (.iinc 1 1, 3) := by decide +kernel
theorem d_Vs_init_57 : decode b_Vs_init 57 = .ok (.goto (-33), 3) := by decide +kernel
theorem d_Vs_init_60 : decode b_Vs_init 60 = .ok (.return_, 1) := by decide +kernel
theorem d_Vs_isLocal_0 : decode b_Vs_isLocal 0 = .ok (.iload_n 0, 1) := by decide +kernel
theorem d_Vs_isLocal_1 : decode b_Vs_isLocal 1 = .ok (.ifCond .le 23, 3) := by decide +kernel
theorem d_Vs_isLocal_4 : decode b_Vs_isLocal 4 = .ok (.iload_n 0, 1) := by decide +kernel
theorem d_Vs_isLocal_5 : decode b_Vs_isLocal 5 = .ok (.bipush 8, 2) := by decide +kernel
theorem d_Vs_isLocal_7 : decode b_Vs_isLocal 7 = .ok (.if_icmp .ge 17, 3) := by decide +kernel
theorem d_Vs_isLocal_10 : decode b_Vs_isLocal 10 = .ok (.iload_n 1, 1) := by decide +kernel
theorem d_Vs_isLocal_11 : decode b_Vs_isLocal 11 = .ok (.ifCond .lt 13, 3) := by decide +kernel
theorem d_Vs_isLocal_14 : decode b_Vs_isLocal 14 = .ok (.iload_n 1, 1) := by decide +kernel
theorem d_Vs_isLocal_15 : decode b_Vs_isLocal 15 = .ok (.bipush 26, 2) := by decide +kernel
theorem d_Vs_isLocal_17 : decode b_Vs_isLocal 17 = .ok (.if_icmp .ge 7, 3) := by decide +kernel
theorem d_Vs_isLocal_20 : decode b_Vs_isLocal 20 = .ok (.iconst 1, 1) := by decide +kernel
theorem d_Vs_isLocal_21 : decode b_Vs_isLocal 21 = .ok (.goto 4, 3) := by decide +kernel
theorem d_Vs_isLocal_24 : decode b_Vs_isLocal 24 = .ok (.iconst 0, 1) := by decide +kernel
theorem d_Vs_isLocal_25 : decode b_Vs_isLocal 25 = .ok (.ireturn, 1) := by decide +kernel
theorem d_Vs_link_0 : decode b_Vs_link 0 = .ok (.iload_n 1, 1) := by decide +kernel
theorem d_Vs_link_1 : decode b_Vs_link 1 = .ok (.iload_n 2, 1) := by decide +kernel
theorem d_Vs_link_2 : decode b_Vs_link 2 = .ok (.invokestatic 27, 3) := by decide +kernel
theorem d_Vs_link_5 : decode b_Vs_link 5 = .ok (.ifCond .eq 15, 3) := by decide +kernel
theorem d_Vs_link_8 : decode b_Vs_link 8 = .ok (.aload_n 0, 1) := by decide +kernel
theorem d_Vs_link_9 : decode b_Vs_link 9 = .ok (.getfield 17, 3) := by decide +kernel
theorem d_Vs_link_12 : decode b_Vs_link 12 = .ok (.iload_n 1, 1) := by decide +kernel
theorem d_Vs_link_13 : decode b_Vs_link 13 = .ok (.bipush 26, 2) := by decide +kernel
theorem d_Vs_link_15 : decode b_Vs_link 15 = .ok (.imul, 1) := by decide +kernel
theorem d_Vs_link_16 : decode b_Vs_link 16 = .ok (.iload_n 2, 1) := by decide +kernel
theorem d_Vs_link_17 : decode b_Vs_link 17 = .ok (.iadd, 1) := by decide +kernel
theorem d_Vs_link_18 : decode b_Vs_link 18 = .ok (.iconst 1, 1) := by decide +kernel
theorem d_Vs_link_19 : decode b_Vs_link 19 = .ok (.bastore, 1) := by decide +kernel
theorem d_Vs_link_20 : decode b_Vs_link 20 = .ok (.return_, 1) := by decide +kernel
theorem d_Vs_meant_0 : decode b_Vs_meant 0 = .ok (.iload_n 1, 1) := by decide +kernel
theorem d_Vs_meant_1 : decode b_Vs_meant 1 = .ok (.iload_n 2, 1) := by decide +kernel
theorem d_Vs_meant_2 : decode b_Vs_meant 2 = .ok (.invokestatic 27, 3) := by decide +kernel
theorem d_Vs_meant_5 : decode b_Vs_meant 5 = .ok (.ifCond .eq 24, 3) := by decide +kernel
theorem d_Vs_meant_8 : decode b_Vs_meant 8 = .ok (.aload_n 0, 1) := by decide +kernel
theorem d_Vs_meant_9 : decode b_Vs_meant 9 = .ok (.getfield 17, 3) := by decide +kernel
theorem d_Vs_meant_12 : decode b_Vs_meant 12 = .ok (.iload_n 1, 1) := by decide +kernel
theorem d_Vs_meant_13 : decode b_Vs_meant 13 = .ok (.bipush 26, 2) := by decide +kernel
theorem d_Vs_meant_15 : decode b_Vs_meant 15 = .ok (.imul, 1) := by decide +kernel
theorem d_Vs_meant_16 : decode b_Vs_meant 16 = .ok (.iload_n 2, 1) := by decide +kernel
theorem d_Vs_meant_17 : decode b_Vs_meant 17 = .ok (.iadd, 1) := by decide +kernel
theorem d_Vs_meant_18 : decode b_Vs_meant 18 = .ok (.baload, 1) := by decide +kernel
theorem d_Vs_meant_19 : decode b_Vs_meant 19 = .ok (.ifCond .ne 10, 3) := by decide +kernel
theorem d_Vs_meant_22 : decode b_Vs_meant 22 = .ok (.aload_n 0, 1) := by decide +kernel
theorem d_Vs_meant_23 : decode b_Vs_meant 23 = .ok (.getfield 11, 3) := by decide +kernel
theorem d_Vs_meant_26 : decode b_Vs_meant 26 = .ok (.iload_n 1, 1) := by decide +kernel
theorem d_Vs_meant_27 : decode b_Vs_meant 27 = .ok (.aaload, 1) := by decide +kernel
theorem d_Vs_meant_28 : decode b_Vs_meant 28 = .ok (.areturn, 1) := by decide +kernel
theorem d_Vs_meant_29 : decode b_Vs_meant 29 = .ok (.aload_n 0, 1) := by decide +kernel
theorem d_Vs_meant_30 : decode b_Vs_meant 30 = .ok (.getfield 11, 3) := by decide +kernel
theorem d_Vs_meant_33 : decode b_Vs_meant 33 = .ok (.iconst 0, 1) := by decide +kernel
theorem d_Vs_meant_34 : decode b_Vs_meant 34 = .ok (.aaload, 1) := by decide +kernel
theorem d_Vs_meant_35 : decode b_Vs_meant 35 = .ok (.areturn, 1) := by decide +kernel
theorem d_Vs_open_0 : decode b_Vs_open 0 = .ok (.iload_n 1, 1) := by decide +kernel
theorem d_Vs_open_1 : decode b_Vs_open 1 = .ok (.ifCond .lt 9, 3) := by decide +kernel
theorem d_Vs_open_4 : decode b_Vs_open 4 = .ok (.iload_n 1, 1) := by decide +kernel
theorem d_Vs_open_5 : decode b_Vs_open 5 = .ok (.bipush 8, 2) := by decide +kernel
theorem d_Vs_open_7 : decode b_Vs_open 7 = .ok (.if_icmp .lt 4, 3) := by decide +kernel
theorem d_Vs_open_10 : decode b_Vs_open 10 = .ok (.return_, 1) := by decide +kernel
theorem d_Vs_open_11 : decode b_Vs_open 11 = .ok (.aload_n 0, 1) := by decide +kernel
theorem d_Vs_open_12 : decode b_Vs_open 12 = .ok (.getfield 11, 3) := by decide +kernel
theorem d_Vs_open_15 : decode b_Vs_open 15 = .ok (.iload_n 1, 1) := by decide +kernel
theorem d_Vs_open_16 : decode b_Vs_open 16 = .ok (.aaload, 1) := by decide +kernel
theorem d_Vs_open_17 : decode b_Vs_open 17 = .ok (.invokevirtual 24, 3) := by decide +kernel
theorem d_Vs_open_20 : decode b_Vs_open 20 = .ok (.iconst 0, 1) := by decide +kernel
theorem d_Vs_open_21 : decode b_Vs_open 21 = .ok (.istore_n 2, 1) := by decide +kernel
theorem d_Vs_open_22 : decode b_Vs_open 22 = .ok (.iload_n 2, 1) := by decide +kernel
theorem d_Vs_open_23 : decode b_Vs_open 23 = .ok (.bipush 26, 2) := by decide +kernel
theorem d_Vs_open_25 : decode b_Vs_open 25 = .ok (.if_icmp .ge 21, 3) := by decide +kernel
theorem d_Vs_open_28 : decode b_Vs_open 28 = .ok (.aload_n 0, 1) := by decide +kernel
theorem d_Vs_open_29 : decode b_Vs_open 29 = .ok (.getfield 17, 3) := by decide +kernel
theorem d_Vs_open_32 : decode b_Vs_open 32 = .ok (.iload_n 1, 1) := by decide +kernel
theorem d_Vs_open_33 : decode b_Vs_open 33 = .ok (.bipush 26, 2) := by decide +kernel
theorem d_Vs_open_35 : decode b_Vs_open 35 = .ok (.imul, 1) := by decide +kernel
theorem d_Vs_open_36 : decode b_Vs_open 36 = .ok (.iload_n 2, 1) := by decide +kernel
theorem d_Vs_open_37 : decode b_Vs_open 37 = .ok (.iadd, 1) := by decide +kernel
theorem d_Vs_open_38 : decode b_Vs_open 38 = .ok (.iconst 0, 1) := by decide +kernel
theorem d_Vs_open_39 : decode b_Vs_open 39 = .ok (.bastore, 1) := by decide +kernel
theorem d_Vs_open_40 : decode b_Vs_open 40 = .ok (.iinc 2 1, 3) := by decide +kernel
theorem d_Vs_open_43 : decode b_Vs_open 43 = .ok (.goto (-21), 3) := by decide +kernel
theorem d_Vs_open_46 : decode b_Vs_open 46 = .ok (.return_, 1) := by decide +kernel
