/-! decode rows; written by wip/gen/names.py -/
theorem d_Pd_init_0 : decode b_Pd_init 0 = .ok (.aload_n 0, 1) := by decide +kernel
theorem d_Pd_init_1 : decode b_Pd_init 1 = .ok (.invokespecial 3, 3) := by decide +kernel
theorem d_Pd_init_4 : decode b_Pd_init 4 = .ok (.aload_n 0, 1) := by decide +kernel
theorem d_Pd_init_5 : decode b_Pd_init 5 = .ok (.bipush 26, 2) := by decide +kernel
theorem d_Pd_init_7 : decode b_Pd_init 7 = .ok (.newarray .int, 2) := by decide +kernel
theorem d_Pd_init_9 : decode b_Pd_init 9 = .ok (.putfield 9, 3) := by decide +kernel
theorem d_Pd_init_12 : decode b_Pd_init 12 = .ok (.aload_n 0, 1) := by decide +kernel
theorem d_Pd_init_13 : decode b_Pd_init 13 = .ok (.bipush 26, 2) := by decide +kernel
theorem d_Pd_init_15 : decode b_Pd_init 15 = .ok (.newarray .int, 2) := by decide +kernel
theorem d_Pd_init_17 : decode b_Pd_init 17 = .ok (.putfield 15, 3) := by decide +kernel
theorem d_Pd_init_20 : decode b_Pd_init 20 = .ok (.aload_n 0, 1) := by decide +kernel
theorem d_Pd_init_21 : decode b_Pd_init 21 = .ok (.bipush 26, 2) := by decide +kernel
theorem d_Pd_init_23 : decode b_Pd_init 23 = .ok (.newarray .int, 2) := by decide +kernel
theorem d_Pd_init_25 : decode b_Pd_init 25 = .ok (.putfield 18, 3) := by decide +kernel
theorem d_Pd_init_28 : decode b_Pd_init 28 = .ok (.aload_n 0, 1) := by decide +kernel
theorem d_Pd_init_29 : decode b_Pd_init 29 = .ok (.getfield 9, 3) := by decide +kernel
theorem d_Pd_init_32 : decode b_Pd_init 32 = .ok (.iconst (-1), 1) := by decide +kernel
theorem d_Pd_init_33 : decode b_Pd_init 33 = .ok (.invokestatic 21, 3) := by decide +kernel
theorem d_Pd_init_36 : decode b_Pd_init 36 = .ok (.return_, 1) := by decide +kernel
theorem d_Pd_define_0 : decode b_Pd_define 0 = .ok (.iload_n 1, 1) := by decide +kernel
theorem d_Pd_define_1 : decode b_Pd_define 1 = .ok (.ifCond .lt 31, 3) := by decide +kernel
theorem d_Pd_define_4 : decode b_Pd_define 4 = .ok (.iload_n 1, 1) := by decide +kernel
theorem d_Pd_define_5 : decode b_Pd_define 5 = .ok (.bipush 26, 2) := by decide +kernel
theorem d_Pd_define_7 : decode b_Pd_define 7 = .ok (.if_icmp .ge 25, 3) := by decide +kernel
theorem d_Pd_define_10 : decode b_Pd_define 10 = .ok (.aload_n 0, 1) := by decide +kernel
theorem d_Pd_define_11 : decode b_Pd_define 11 = .ok (.getfield 9, 3) := by decide +kernel
theorem d_Pd_define_14 : decode b_Pd_define 14 = .ok (.iload_n 1, 1) := by decide +kernel
theorem d_Pd_define_15 : decode b_Pd_define 15 = .ok (.iload_n 3, 1) := by decide +kernel
theorem d_Pd_define_16 : decode b_Pd_define 16 = .ok (.iastore, 1) := by decide +kernel
theorem d_Pd_define_17 : decode b_Pd_define 17 = .ok (.aload_n 0, 1) := by decide +kernel
theorem d_Pd_define_18 : decode b_Pd_define 18 = .ok (.getfield 15, 3) := by decide +kernel
theorem d_Pd_define_21 : decode b_Pd_define 21 = .ok (.iload_n 1, 1) := by decide +kernel
theorem d_Pd_define_22 : decode b_Pd_define 22 = .ok (.iload 4, 2) := by decide +kernel
theorem d_Pd_define_24 : decode b_Pd_define 24 = .ok (.iastore, 1) := by decide +kernel
theorem d_Pd_define_25 : decode b_Pd_define 25 = .ok (.aload_n 0, 1) := by decide +kernel
theorem d_Pd_define_26 : decode b_Pd_define 26 = .ok (.getfield 18, 3) := by decide +kernel
theorem d_Pd_define_29 : decode b_Pd_define 29 = .ok (.iload_n 1, 1) := by decide +kernel
theorem d_Pd_define_30 : decode b_Pd_define 30 = .ok (.iload_n 2, 1) := by decide +kernel
theorem d_Pd_define_31 : decode b_Pd_define 31 = .ok (.iastore, 1) := by decide +kernel
theorem d_Pd_define_32 : decode b_Pd_define 32 = .ok (.return_, 1) := by decide +kernel
theorem d_Pd_forgetAll_0 : decode b_Pd_forgetAll 0 = .ok (.aload_n 0, 1) := by decide +kernel
theorem d_Pd_forgetAll_1 : decode b_Pd_forgetAll 1 = .ok (.getfield 9, 3) := by decide +kernel
theorem d_Pd_forgetAll_4 : decode b_Pd_forgetAll 4 = .ok (.iconst (-1), 1) := by decide +kernel
theorem d_Pd_forgetAll_5 : decode b_Pd_forgetAll 5 = .ok (.invokestatic 21, 3) := by decide +kernel
theorem d_Pd_forgetAll_8 : decode b_Pd_forgetAll 8 = .ok (.return_, 1) := by decide +kernel
theorem d_Pd_has_0 : decode b_Pd_has 0 = .ok (.iload_n 1, 1) := by decide +kernel
theorem d_Pd_has_1 : decode b_Pd_has 1 = .ok (.ifCond .lt 23, 3) := by decide +kernel
theorem d_Pd_has_4 : decode b_Pd_has 4 = .ok (.iload_n 1, 1) := by decide +kernel
theorem d_Pd_has_5 : decode b_Pd_has 5 = .ok (.bipush 26, 2) := by decide +kernel
theorem d_Pd_has_7 : decode b_Pd_has 7 = .ok (.if_icmp .ge 17, 3) := by decide +kernel
theorem d_Pd_has_10 : decode b_Pd_has 10 = .ok (.aload_n 0, 1) := by decide +kernel
theorem d_Pd_has_11 : decode b_Pd_has 11 = .ok (.getfield 9, 3) := by decide +kernel
theorem d_Pd_has_14 : decode b_Pd_has 14 = .ok (.iload_n 1, 1) := by decide +kernel
theorem d_Pd_has_15 : decode b_Pd_has 15 = .ok (.iaload, 1) := by decide +kernel
theorem d_Pd_has_16 : decode b_Pd_has 16 = .ok (.iconst (-1), 1) := by decide +kernel
theorem d_Pd_has_17 : decode b_Pd_has 17 = .ok (.if_icmp .eq 7, 3) := by decide +kernel
theorem d_Pd_has_20 : decode b_Pd_has 20 = .ok (.iconst 1, 1) := by decide +kernel
theorem d_Pd_has_21 : decode b_Pd_has 21 = .ok (.goto 4, 3) := by decide +kernel
theorem d_Pd_has_24 : decode b_Pd_has 24 = .ok (.iconst 0, 1) := by decide +kernel
theorem d_Pd_has_25 : decode b_Pd_has 25 = .ok (.ireturn, 1) := by decide +kernel
