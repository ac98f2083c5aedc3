/-! decode rows; written by wip/gen/names.py -/
theorem d_PS_init_0 : decode b_PS_init 0 = .ok (.aload_n 0, 1) := by decide +kernel
theorem d_PS_init_1 : decode b_PS_init 1 = .ok (.invokespecial 1, 3) := by decide +kernel
theorem d_PS_init_4 : decode b_PS_init 4 = .ok (.aload_n 0, 1) := by decide +kernel
theorem d_PS_init_5 : decode b_PS_init 5 = .ok (.new 7, 3) := by decide +kernel
theorem d_PS_init_8 : decode b_PS_init 8 = .ok (.dup, 1) := by decide +kernel
theorem d_PS_init_9 : decode b_PS_init 9 = .ok (.invokespecial 9, 3) := by decide +kernel
theorem d_PS_init_12 : decode b_PS_init 12 = .ok (.putfield 10, 3) := by decide +kernel
theorem d_PS_init_15 : decode b_PS_init 15 = .ok (.aload_n 0, 1) := by decide +kernel
theorem d_PS_init_16 : decode b_PS_init 16 = .ok (.new 16, 3) := by decide +kernel
theorem d_PS_init_19 : decode b_PS_init 19 = .ok (.dup, 1) := by decide +kernel
theorem d_PS_init_20 : decode b_PS_init 20 = .ok (.invokespecial 18, 3) := by decide +kernel
theorem d_PS_init_23 : decode b_PS_init 23 = .ok (.putfield 19, 3) := by decide +kernel
theorem d_PS_init_26 : decode b_PS_init 26 = .ok (.aload_n 0, 1) := by decide +kernel
theorem d_PS_init_27 : decode b_PS_init 27 = .ok (.new 23, 3) := by decide +kernel
theorem d_PS_init_30 : decode b_PS_init 30 = .ok (.dup, 1) := by decide +kernel
theorem d_PS_init_31 : decode b_PS_init 31 = .ok (.aload_n 0, 1) := by decide +kernel
theorem d_PS_init_32 : decode b_PS_init 32 = .ok (.getfield 10, 3) := by decide +kernel
theorem d_PS_init_35 : decode b_PS_init 35 = .ok (.aload_n 0, 1) := by decide +kernel
theorem d_PS_init_36 : decode b_PS_init 36 = .ok (.getfield 19, 3) := by decide +kernel
theorem d_PS_init_39 : decode b_PS_init 39 = .ok (.invokespecial 25, 3) := by decide +kernel
theorem d_PS_init_42 : decode b_PS_init 42 = .ok (.putfield 28, 3) := by decide +kernel
theorem d_PS_init_45 : decode b_PS_init 45 = .ok (.return_, 1) := by decide +kernel
theorem d_PS_at_0 : decode b_PS_at 0 = .ok (.aload_n 0, 1) := by decide +kernel
theorem d_PS_at_1 : decode b_PS_at 1 = .ok (.getfield 28, 3) := by decide +kernel
theorem d_PS_at_4 : decode b_PS_at 4 = .ok (.getfield 94, 3) := by decide +kernel
theorem d_PS_at_7 : decode b_PS_at 7 = .ok (.iconst 0, 1) := by decide +kernel
theorem d_PS_at_8 : decode b_PS_at 8 = .ok (.iload_n 1, 1) := by decide +kernel
theorem d_PS_at_9 : decode b_PS_at 9 = .ok (.invokevirtual 103, 3) := by decide +kernel
theorem d_PS_at_12 : decode b_PS_at 12 = .ok (.ireturn, 1) := by decide +kernel
theorem d_PS_buffered_0 : decode b_PS_buffered 0 = .ok (.aload_n 0, 1) := by decide +kernel
theorem d_PS_buffered_1 : decode b_PS_buffered 1 = .ok (.getfield 19, 3) := by decide +kernel
theorem d_PS_buffered_4 : decode b_PS_buffered 4 = .ok (.getfield 120, 3) := by decide +kernel
theorem d_PS_buffered_7 : decode b_PS_buffered 7 = .ok (.iconst 0, 1) := by decide +kernel
theorem d_PS_buffered_8 : decode b_PS_buffered 8 = .ok (.invokevirtual 98, 3) := by decide +kernel
theorem d_PS_buffered_11 : decode b_PS_buffered 11 = .ok (.ireturn, 1) := by decide +kernel
theorem d_PS_defined_0 : decode b_PS_defined 0 = .ok (.aload_n 0, 1) := by decide +kernel
theorem d_PS_defined_1 : decode b_PS_defined 1 = .ok (.getfield 28, 3) := by decide +kernel
theorem d_PS_defined_4 : decode b_PS_defined 4 = .ok (.getfield 58, 3) := by decide +kernel
theorem d_PS_defined_7 : decode b_PS_defined 7 = .ok (.iload_n 1, 1) := by decide +kernel
theorem d_PS_defined_8 : decode b_PS_defined 8 = .ok (.invokevirtual 111, 3) := by decide +kernel
theorem d_PS_defined_11 : decode b_PS_defined 11 = .ok (.ireturn, 1) := by decide +kernel
theorem d_PS_isDigit_0 : decode b_PS_isDigit 0 = .ok (.iload_n 0, 1) := by decide +kernel
theorem d_PS_isDigit_1 : decode b_PS_isDigit 1 = .ok (.bipush 48, 2) := by decide +kernel
theorem d_PS_isDigit_3 : decode b_PS_isDigit 3 = .ok (.if_icmp .lt 13, 3) := by decide +kernel
theorem d_PS_isDigit_6 : decode b_PS_isDigit 6 = .ok (.iload_n 0, 1) := by decide +kernel
theorem d_PS_isDigit_7 : decode b_PS_isDigit 7 = .ok (.bipush 57, 2) := by decide +kernel
theorem d_PS_isDigit_9 : decode b_PS_isDigit 9 = .ok (.if_icmp .gt 7, 3) := by decide +kernel
theorem d_PS_isDigit_12 : decode b_PS_isDigit 12 = .ok (.iconst 1, 1) := by decide +kernel
theorem d_PS_isDigit_13 : decode b_PS_isDigit 13 = .ok (.goto 4, 3) := by decide +kernel
theorem d_PS_isDigit_16 : decode b_PS_isDigit 16 = .ok (.iconst 0, 1) := by decide +kernel
theorem d_PS_isDigit_17 : decode b_PS_isDigit 17 = .ok (.ireturn, 1) := by decide +kernel
theorem d_PS_isPrintable_0 : decode b_PS_isPrintable 0 = .ok (.iload_n 0, 1) := by decide +kernel
theorem d_PS_isPrintable_1 : decode b_PS_isPrintable 1 = .ok (.bipush 32, 2) := by decide +kernel
theorem d_PS_isPrintable_3 : decode b_PS_isPrintable 3 = .ok (.if_icmp .lt 13, 3) := by decide +kernel
theorem d_PS_isPrintable_6 : decode b_PS_isPrintable 6 = .ok (.iload_n 0, 1) := by decide +kernel
theorem d_PS_isPrintable_7 : decode b_PS_isPrintable 7 = .ok (.bipush 126, 2) := by decide +kernel
theorem d_PS_isPrintable_9 : decode b_PS_isPrintable 9 = .ok (.if_icmp .gt 7, 3) := by decide +kernel
theorem d_PS_isPrintable_12 : decode b_PS_isPrintable 12 = .ok (.iconst 1, 1) := by decide +kernel
theorem d_PS_isPrintable_13 : decode b_PS_isPrintable 13 = .ok (.goto 4, 3) := by decide +kernel
theorem d_PS_isPrintable_16 : decode b_PS_isPrintable 16 = .ok (.iconst 0, 1) := by decide +kernel
theorem d_PS_isPrintable_17 : decode b_PS_isPrintable 17 = .ok (.ireturn, 1) := by decide +kernel
theorem d_PS_isPrintableOrZero_0 : decode b_PS_isPrintableOrZero 0 = .ok (.iload_n 0, 1) := by decide +kernel
theorem d_PS_isPrintableOrZero_1 : decode b_PS_isPrintableOrZero 1 = .ok (.ifCond .eq 10, 3) := by decide +kernel
theorem d_PS_isPrintableOrZero_4 : decode b_PS_isPrintableOrZero 4 = .ok (.iload_n 0, 1) := by decide +kernel
theorem d_PS_isPrintableOrZero_5 : decode b_PS_isPrintableOrZero 5 = .ok (.invokestatic 32, 3) := by decide +kernel
theorem d_PS_isPrintableOrZero_8 : decode b_PS_isPrintableOrZero 8 = .ok (.ifCond .eq 7, 3) := by decide +kernel
theorem d_PS_isPrintableOrZero_11 : decode b_PS_isPrintableOrZero 11 = .ok (.iconst 1, 1) := by decide +kernel
theorem d_PS_isPrintableOrZero_12 : decode b_PS_isPrintableOrZero 12 = .ok (.goto 4, 3) := by decide +kernel
theorem d_PS_isPrintableOrZero_15 : decode b_PS_isPrintableOrZero 15 = .ok (.iconst 0, 1) := by decide +kernel
theorem d_PS_isPrintableOrZero_16 : decode b_PS_isPrintableOrZero 16 = .ok (.ireturn, 1) := by decide +kernel
theorem d_PS_isProcedure_0 : decode b_PS_isProcedure 0 = .ok (.iload_n 0, 1) := by decide +kernel
theorem d_PS_isProcedure_1 : decode b_PS_isProcedure 1 = .ok (.bipush 65, 2) := by decide +kernel
theorem d_PS_isProcedure_3 : decode b_PS_isProcedure 3 = .ok (.if_icmp .lt 13, 3) := by decide +kernel
theorem d_PS_isProcedure_6 : decode b_PS_isProcedure 6 = .ok (.iload_n 0, 1) := by decide +kernel
theorem d_PS_isProcedure_7 : decode b_PS_isProcedure 7 = .ok (.bipush 90, 2) := by decide +kernel
theorem d_PS_isProcedure_9 : decode b_PS_isProcedure 9 = .ok (.if_icmp .gt 7, 3) := by decide +kernel
theorem d_PS_isProcedure_12 : decode b_PS_isProcedure 12 = .ok (.iconst 1, 1) := by decide +kernel
theorem d_PS_isProcedure_13 : decode b_PS_isProcedure 13 = .ok (.goto 4, 3) := by decide +kernel
theorem d_PS_isProcedure_16 : decode b_PS_isProcedure 16 = .ok (.iconst 0, 1) := by decide +kernel
theorem d_PS_isProcedure_17 : decode b_PS_isProcedure 17 = .ok (.ireturn, 1) := by decide +kernel
theorem d_PS_isState_0 : decode b_PS_isState 0 = .ok (.iload_n 0, 1) := by decide +kernel
theorem d_PS_isState_1 : decode b_PS_isState 1 = .ok (.ifCond .lt 13, 3) := by decide +kernel
theorem d_PS_isState_4 : decode b_PS_isState 4 = .ok (.iload_n 0, 1) := by decide +kernel
theorem d_PS_isState_5 : decode b_PS_isState 5 = .ok (.bipush 8, 2) := by decide +kernel
theorem d_PS_isState_7 : decode b_PS_isState 7 = .ok (.if_icmp .ge 7, 3) := by decide +kernel
theorem d_PS_isState_10 : decode b_PS_isState 10 = .ok (.iconst 1, 1) := by decide +kernel
theorem d_PS_isState_11 : decode b_PS_isState 11 = .ok (.goto 4, 3) := by decide +kernel
theorem d_PS_isState_14 : decode b_PS_isState 14 = .ok (.iconst 0, 1) := by decide +kernel
theorem d_PS_isState_15 : decode b_PS_isState 15 = .ok (.ireturn, 1) := by decide +kernel
theorem d_PS_isVariable_0 : decode b_PS_isVariable 0 = .ok (.iload_n 0, 1) := by decide +kernel
theorem d_PS_isVariable_1 : decode b_PS_isVariable 1 = .ok (.bipush 97, 2) := by decide +kernel
theorem d_PS_isVariable_3 : decode b_PS_isVariable 3 = .ok (.if_icmp .lt 13, 3) := by decide +kernel
theorem d_PS_isVariable_6 : decode b_PS_isVariable 6 = .ok (.iload_n 0, 1) := by decide +kernel
theorem d_PS_isVariable_7 : decode b_PS_isVariable 7 = .ok (.bipush 122, 2) := by decide +kernel
theorem d_PS_isVariable_9 : decode b_PS_isVariable 9 = .ok (.if_icmp .gt 7, 3) := by decide +kernel
theorem d_PS_isVariable_12 : decode b_PS_isVariable 12 = .ok (.iconst 1, 1) := by decide +kernel
theorem d_PS_isVariable_13 : decode b_PS_isVariable 13 = .ok (.goto 4, 3) := by decide +kernel
theorem d_PS_isVariable_16 : decode b_PS_isVariable 16 = .ok (.iconst 0, 1) := by decide +kernel
theorem d_PS_isVariable_17 : decode b_PS_isVariable 17 = .ok (.ireturn, 1) := by decide +kernel
theorem d_PS_length_0 : decode b_PS_length 0 = .ok (.aload_n 0, 1) := by decide +kernel
theorem d_PS_length_1 : decode b_PS_length 1 = .ok (.getfield 28, 3) := by decide +kernel
theorem d_PS_length_4 : decode b_PS_length 4 = .ok (.getfield 94, 3) := by decide +kernel
theorem d_PS_length_7 : decode b_PS_length 7 = .ok (.iconst 0, 1) := by decide +kernel
theorem d_PS_length_8 : decode b_PS_length 8 = .ok (.invokevirtual 98, 3) := by decide +kernel
theorem d_PS_length_11 : decode b_PS_length 11 = .ok (.ireturn, 1) := by decide +kernel
theorem d_PS_letter_0 : decode b_PS_letter 0 = .ok (.aload_n 0, 1) := by decide +kernel
theorem d_PS_letter_1 : decode b_PS_letter 1 = .ok (.getfield 28, 3) := by decide +kernel
theorem d_PS_letter_4 : decode b_PS_letter 4 = .ok (.getfield 48, 3) := by decide +kernel
theorem d_PS_letter_7 : decode b_PS_letter 7 = .ok (.iconst 0, 1) := by decide +kernel
theorem d_PS_letter_8 : decode b_PS_letter 8 = .ok (.iload_n 1, 1) := by decide +kernel
theorem d_PS_letter_9 : decode b_PS_letter 9 = .ok (.invokevirtual 107, 3) := by decide +kernel
theorem d_PS_letter_12 : decode b_PS_letter 12 = .ok (.iload_n 1, 1) := by decide +kernel
theorem d_PS_letter_13 : decode b_PS_letter 13 = .ok (.iload_n 2, 1) := by decide +kernel
theorem d_PS_letter_14 : decode b_PS_letter 14 = .ok (.invokevirtual 103, 3) := by decide +kernel
theorem d_PS_letter_17 : decode b_PS_letter 17 = .ok (.ireturn, 1) := by decide +kernel
theorem d_PS_peer_0 : decode b_PS_peer 0 = .ok (.aload_n 0, 1) := by decide +kernel
theorem d_PS_peer_1 : decode b_PS_peer 1 = .ok (.getfield 19, 3) := by decide +kernel
theorem d_PS_peer_4 : decode b_PS_peer 4 = .ok (.getfield 114, 3) := by decide +kernel
theorem d_PS_peer_7 : decode b_PS_peer 7 = .ok (.ireturn, 1) := by decide +kernel
theorem d_PS_pending_0 : decode b_PS_pending 0 = .ok (.aload_n 0, 1) := by decide +kernel
theorem d_PS_pending_1 : decode b_PS_pending 1 = .ok (.getfield 19, 3) := by decide +kernel
theorem d_PS_pending_4 : decode b_PS_pending 4 = .ok (.getfield 117, 3) := by decide +kernel
theorem d_PS_pending_7 : decode b_PS_pending 7 = .ok (.ireturn, 1) := by decide +kernel
theorem d_PS_put_0 : decode b_PS_put 0 = .ok (.iload_n 1, 1) := by decide +kernel
theorem d_PS_put_1 : decode b_PS_put 1 = .ok (.invokestatic 32, 3) := by decide +kernel
theorem d_PS_put_4 : decode b_PS_put 4 = .ok (.ifCond .ne 9, 3) := by decide +kernel
theorem d_PS_put_7 : decode b_PS_put 7 = .ok (.iload_n 1, 1) := by decide +kernel
theorem d_PS_put_8 : decode b_PS_put 8 = .ok (.bipush 10, 2) := by decide +kernel
theorem d_PS_put_10 : decode b_PS_put 10 = .ok (.if_icmp .ne 7, 3) := by decide +kernel
theorem d_PS_put_13 : decode b_PS_put 13 = .ok (.iconst 1, 1) := by decide +kernel
theorem d_PS_put_14 : decode b_PS_put 14 = .ok (.goto 4, 3) := by decide +kernel
theorem d_PS_put_17 : decode b_PS_put 17 = .ok (.iconst 0, 1) := by decide +kernel
theorem d_PS_put_18 : decode b_PS_put 18 = .ok (.istore_n 2, 1) := by decide +kernel
theorem d_PS_put_19 : decode b_PS_put 19 = .ok (.iload_n 2, 1) := by decide +kernel
theorem d_PS_put_20 : decode b_PS_put 20 = .ok (.ifCond .eq 26, 3) := by decide +kernel
theorem d_PS_put_23 : decode b_PS_put 23 = .ok (.aload_n 0, 1) := by decide +kernel
theorem d_PS_put_24 : decode b_PS_put 24 = .ok (.getfield 10, 3) := by decide +kernel
theorem d_PS_put_27 : decode b_PS_put 27 = .ok (.getfield 36, 3) := by decide +kernel
theorem d_PS_put_30 : decode b_PS_put 30 = .ok (.ifCond .ne 16, 3) := by decide +kernel
theorem d_PS_put_33 : decode b_PS_put 33 = .ok (.aload_n 0, 1) := by decide +kernel
theorem d_PS_put_34 : decode b_PS_put 34 = .ok (.getfield 10, 3) := by decide +kernel
theorem d_PS_put_37 : decode b_PS_put 37 = .ok (.getfield 40, 3) := by decide +kernel
theorem d_PS_put_40 : decode b_PS_put 40 = .ok (.sipush 200, 3) := by decide +kernel
theorem d_PS_put_43 : decode b_PS_put 43 = .ok (.if_icmp .lt 5, 3) := by decide +kernel
theorem d_PS_put_46 : decode b_PS_put 46 = .ok (.iconst 0, 1) := by decide +kernel
theorem d_PS_put_47 : decode b_PS_put 47 = .ok (.ireturn, 1) := by decide +kernel
theorem d_PS_put_48 : decode b_PS_put 48 = .ok (.aload_n 0, 1) := by decide +kernel
theorem d_PS_put_49 : decode b_PS_put 49 = .ok (.getfield 10, 3) := by decide +kernel
theorem d_PS_put_52 : decode b_PS_put 52 = .ok (.getfield 44, 3) := by decide +kernel
theorem d_PS_put_55 : decode b_PS_put 55 = .ok (.aload_n 0, 1) := by decide +kernel
theorem d_PS_put_56 : decode b_PS_put 56 = .ok (.getfield 10, 3) := by decide +kernel
theorem d_PS_put_59 : decode b_PS_put 59 = .ok (.getfield 40, 3) := by decide +kernel
theorem d_PS_put_62 : decode b_PS_put 62 = .ok (.iload_n 1, 1) := by decide +kernel
theorem d_PS_put_63 : decode b_PS_put 63 = .ok (.castore, 1) := by decide +kernel
theorem d_PS_put_64 : decode b_PS_put 64 = .ok (.aload_n 0, 1) := by decide +kernel
theorem d_PS_put_65 : decode b_PS_put 65 = .ok (.getfield 10, 3) := by decide +kernel
theorem d_PS_put_68 : decode b_PS_put 68 = .ok (.dup, 1) := by decide +kernel
theorem d_PS_put_69 : decode b_PS_put 69 = .ok (.getfield 40, 3) := by decide +kernel
theorem d_PS_put_72 : decode b_PS_put 72 = .ok (.iconst 1, 1) := by decide +kernel
theorem d_PS_put_73 : decode b_PS_put 73 = .ok (.iadd, 1) := by decide +kernel
theorem d_PS_put_74 : decode b_PS_put 74 = .ok (.putfield 40, 3) := by decide +kernel
theorem d_PS_put_77 : decode b_PS_put 77 = .ok (.iconst 1, 1) := by decide +kernel
theorem d_PS_put_78 : decode b_PS_put 78 = .ok (.ireturn, 1) := by decide +kernel
theorem d_PS_reset_0 : decode b_PS_reset 0 = .ok (.aload_n 0, 1) := by decide +kernel
theorem d_PS_reset_1 : decode b_PS_reset 1 = .ok (.getfield 19, 3) := by decide +kernel
theorem d_PS_reset_4 : decode b_PS_reset 4 = .ok (.invokevirtual 77, 3) := by decide +kernel
theorem d_PS_reset_7 : decode b_PS_reset 7 = .ok (.return_, 1) := by decide +kernel
theorem d_PS_rule_0 : decode b_PS_rule 0 = .ok (.iload_n 1, 1) := by decide +kernel
theorem d_PS_rule_1 : decode b_PS_rule 1 = .ok (.invokestatic 67, 3) := by decide +kernel
theorem d_PS_rule_4 : decode b_PS_rule 4 = .ok (.ifCond .eq 29, 3) := by decide +kernel
theorem d_PS_rule_7 : decode b_PS_rule 7 = .ok (.iload_n 2, 1) := by decide +kernel
theorem d_PS_rule_8 : decode b_PS_rule 8 = .ok (.invokestatic 70, 3) := by decide +kernel
theorem d_PS_rule_11 : decode b_PS_rule 11 = .ok (.ifCond .eq 22, 3) := by decide +kernel
theorem d_PS_rule_14 : decode b_PS_rule 14 = .ok (.iload_n 3, 1) := by decide +kernel
theorem d_PS_rule_15 : decode b_PS_rule 15 = .ok (.invokestatic 70, 3) := by decide +kernel
theorem d_PS_rule_18 : decode b_PS_rule 18 = .ok (.ifCond .eq 15, 3) := by decide +kernel
theorem d_PS_rule_21 : decode b_PS_rule 21 = .ok (.iload 4, 2) := by decide +kernel
theorem d_PS_rule_23 : decode b_PS_rule 23 = .ok (.invokestatic 67, 3) := by decide +kernel
theorem d_PS_rule_26 : decode b_PS_rule 26 = .ok (.ifCond .eq 7, 3) := by decide +kernel
theorem d_PS_rule_29 : decode b_PS_rule 29 = .ok (.iconst 1, 1) := by decide +kernel
theorem d_PS_rule_30 : decode b_PS_rule 30 = .ok (.goto 4, 3) := by decide +kernel
theorem d_PS_rule_33 : decode b_PS_rule 33 = .ok (.iconst 0, 1) := by decide +kernel
theorem d_PS_rule_34 : decode b_PS_rule 34 = .ok (.istore 5, 2) := by decide +kernel
theorem d_PS_rule_36 : decode b_PS_rule 36 = .ok (.iload 5, 2) := by decide +kernel
theorem d_PS_rule_38 : decode b_PS_rule 38 = .ok (.ifCond .eq 22, 3) := by decide +kernel
theorem d_PS_rule_41 : decode b_PS_rule 41 = .ok (.aload_n 0, 1) := by decide +kernel
theorem d_PS_rule_42 : decode b_PS_rule 42 = .ok (.getfield 19, 3) := by decide +kernel
theorem d_PS_rule_45 : decode b_PS_rule 45 = .ok (.iload_n 1, 1) := by decide +kernel
theorem d_PS_rule_46 : decode b_PS_rule 46 = .ok (.iload_n 2, 1) := by decide +kernel
theorem d_PS_rule_47 : decode b_PS_rule 47 = .ok (.iload_n 3, 1) := by decide +kernel
theorem d_PS_rule_48 : decode b_PS_rule 48 = .ok (.iload 4, 2) := by decide +kernel
theorem d_PS_rule_50 : decode b_PS_rule 50 = .ok (.invokevirtual 73, 3) := by decide +kernel
theorem d_PS_rule_53 : decode b_PS_rule 53 = .ok (.ifCond .eq 7, 3) := by decide +kernel
theorem d_PS_rule_56 : decode b_PS_rule 56 = .ok (.iconst 1, 1) := by decide +kernel
theorem d_PS_rule_57 : decode b_PS_rule 57 = .ok (.goto 4, 3) := by decide +kernel
theorem d_PS_rule_60 : decode b_PS_rule 60 = .ok (.iconst 0, 1) := by decide +kernel
theorem d_PS_rule_61 : decode b_PS_rule 61 = .ok (.ireturn, 1) := by decide +kernel
theorem d_PS_run_0 : decode b_PS_run 0 = .ok (.iload_n 1, 1) := by decide +kernel
theorem d_PS_run_1 : decode b_PS_run 1 = .ok (.iconst 1, 1) := by decide +kernel
theorem d_PS_run_2 : decode b_PS_run 2 = .ok (.if_icmp .lt 9, 3) := by decide +kernel
theorem d_PS_run_5 : decode b_PS_run 5 = .ok (.iload_n 1, 1) := by decide +kernel
theorem d_PS_run_6 : decode b_PS_run 6 = .ok (.bipush 100, 2) := by decide +kernel
theorem d_PS_run_8 : decode b_PS_run 8 = .ok (.if_icmp .le 5, 3) := by decide +kernel
theorem d_PS_run_11 : decode b_PS_run 11 = .ok (.iconst (-1), 1) := by decide +kernel
theorem d_PS_run_12 : decode b_PS_run 12 = .ok (.ireturn, 1) := by decide +kernel
theorem d_PS_run_13 : decode b_PS_run 13 = .ok (.aload_n 0, 1) := by decide +kernel
theorem d_PS_run_14 : decode b_PS_run 14 = .ok (.getfield 10, 3) := by decide +kernel
theorem d_PS_run_17 : decode b_PS_run 17 = .ok (.iconst 1, 1) := by decide +kernel
theorem d_PS_run_18 : decode b_PS_run 18 = .ok (.putfield 36, 3) := by decide +kernel
theorem d_PS_run_21 : decode b_PS_run 21 = .ok (.aload_n 0, 1) := by decide +kernel
theorem d_PS_run_22 : decode b_PS_run 22 = .ok (.getfield 28, 3) := by decide +kernel
theorem d_PS_run_25 : decode b_PS_run 25 = .ok (.iload_n 1, 1) := by decide +kernel
theorem d_PS_run_26 : decode b_PS_run 26 = .ok (.putfield 80, 3) := by decide +kernel
theorem d_PS_run_29 : decode b_PS_run 29 = .ok (.aload_n 0, 1) := by decide +kernel
theorem d_PS_run_30 : decode b_PS_run 30 = .ok (.getfield 28, 3) := by decide +kernel
theorem d_PS_run_33 : decode b_PS_run 33 = .ok (.iload_n 1, 1) := by decide +kernel
theorem d_PS_run_34 : decode b_PS_run 34 = .ok (.putfield 83, 3) := by decide +kernel
theorem d_PS_run_37 : decode b_PS_run 37 = .ok (.aload_n 0, 1) := by decide +kernel
theorem d_PS_run_38 : decode b_PS_run 38 = .ok (.getfield 28, 3) := by decide +kernel
theorem d_PS_run_41 : decode b_PS_run 41 = .ok (.aload_n 0, 1) := by decide +kernel
theorem d_PS_run_42 : decode b_PS_run 42 = .ok (.getfield 28, 3) := by decide +kernel
theorem d_PS_run_45 : decode b_PS_run 45 = .ok (.iconst 0, 1) := by decide +kernel
theorem d_PS_run_46 : decode b_PS_run 46 = .ok (.aload_n 0, 1) := by decide +kernel
theorem d_PS_run_47 : decode b_PS_run 47 = .ok (.getfield 10, 3) := by decide +kernel
theorem d_PS_run_50 : decode b_PS_run 50 = .ok (.getfield 40, 3) := by decide +kernel
theorem d_PS_run_53 : decode b_PS_run 53 = .ok (.iconst 0, 1) := by decide +kernel
theorem d_PS_run_54 : decode b_PS_run 54 = .ok (.iconst 0, 1) := by decide +kernel
theorem d_PS_run_55 : decode b_PS_run 55 = .ok (.iconst 0, 1) := by decide +kernel
theorem d_PS_run_56 : decode b_PS_run 56 = .ok (.invokevirtual 86, 3) := by decide +kernel
theorem d_PS_run_59 : decode b_PS_run 59 = .ok (.invokevirtual 90, 3) := by decide +kernel
theorem d_PS_run_62 : decode b_PS_run 62 = .ok (.ireturn, 1) := by decide +kernel
theorem d_PS_size_0 : decode b_PS_size 0 = .ok (.aload_n 0, 1) := by decide +kernel
theorem d_PS_size_1 : decode b_PS_size 1 = .ok (.getfield 28, 3) := by decide +kernel
theorem d_PS_size_4 : decode b_PS_size 4 = .ok (.getfield 48, 3) := by decide +kernel
theorem d_PS_size_7 : decode b_PS_size 7 = .ok (.iconst 0, 1) := by decide +kernel
theorem d_PS_size_8 : decode b_PS_size 8 = .ok (.iload_n 1, 1) := by decide +kernel
theorem d_PS_size_9 : decode b_PS_size 9 = .ok (.invokevirtual 107, 3) := by decide +kernel
theorem d_PS_size_12 : decode b_PS_size 12 = .ok (.iload_n 1, 1) := by decide +kernel
theorem d_PS_size_13 : decode b_PS_size 13 = .ok (.invokevirtual 98, 3) := by decide +kernel
theorem d_PS_size_16 : decode b_PS_size 16 = .ok (.ireturn, 1) := by decide +kernel
theorem d_PS_talk_0 : decode b_PS_talk 0 = .ok (.aload_n 0, 1) := by decide +kernel
theorem d_PS_talk_1 : decode b_PS_talk 1 = .ok (.getfield 19, 3) := by decide +kernel
theorem d_PS_talk_4 : decode b_PS_talk 4 = .ok (.getfield 123, 3) := by decide +kernel
theorem d_PS_talk_7 : decode b_PS_talk 7 = .ok (.getfield 127, 3) := by decide +kernel
theorem d_PS_talk_10 : decode b_PS_talk 10 = .ok (.ireturn, 1) := by decide +kernel
theorem d_PS_talked_0 : decode b_PS_talked 0 = .ok (.aload_n 0, 1) := by decide +kernel
theorem d_PS_talked_1 : decode b_PS_talked 1 = .ok (.getfield 19, 3) := by decide +kernel
theorem d_PS_talked_4 : decode b_PS_talked 4 = .ok (.getfield 123, 3) := by decide +kernel
theorem d_PS_talked_7 : decode b_PS_talked 7 = .ok (.iload_n 1, 1) := by decide +kernel
theorem d_PS_talked_8 : decode b_PS_talked 8 = .ok (.invokevirtual 130, 3) := by decide +kernel
theorem d_PS_talked_11 : decode b_PS_talked 11 = .ok (.ireturn, 1) := by decide +kernel
theorem d_PS_used_0 : decode b_PS_used 0 = .ok (.aload_n 0, 1) := by decide +kernel
theorem d_PS_used_1 : decode b_PS_used 1 = .ok (.getfield 28, 3) := by decide +kernel
theorem d_PS_used_4 : decode b_PS_used 4 = .ok (.getfield 80, 3) := by decide +kernel
theorem d_PS_used_7 : decode b_PS_used 7 = .ok (.aload_n 0, 1) := by decide +kernel
theorem d_PS_used_8 : decode b_PS_used 8 = .ok (.getfield 28, 3) := by decide +kernel
theorem d_PS_used_11 : decode b_PS_used 11 = .ok (.getfield 83, 3) := by decide +kernel
theorem d_PS_used_14 : decode b_PS_used 14 = .ok (.isub, 1) := by decide +kernel
theorem d_PS_used_15 : decode b_PS_used 15 = .ok (.ireturn, 1) := by decide +kernel
theorem d_PS_wipe_0 : decode b_PS_wipe 0 = .ok (.aload_n 0, 1) := by decide +kernel
theorem d_PS_wipe_1 : decode b_PS_wipe 1 = .ok (.getfield 10, 3) := by decide +kernel
theorem d_PS_wipe_4 : decode b_PS_wipe 4 = .ok (.iconst 0, 1) := by decide +kernel
theorem d_PS_wipe_5 : decode b_PS_wipe 5 = .ok (.putfield 40, 3) := by decide +kernel
theorem d_PS_wipe_8 : decode b_PS_wipe 8 = .ok (.aload_n 0, 1) := by decide +kernel
theorem d_PS_wipe_9 : decode b_PS_wipe 9 = .ok (.getfield 10, 3) := by decide +kernel
theorem d_PS_wipe_12 : decode b_PS_wipe 12 = .ok (.iconst 0, 1) := by decide +kernel
theorem d_PS_wipe_13 : decode b_PS_wipe 13 = .ok (.putfield 36, 3) := by decide +kernel
theorem d_PS_wipe_16 : decode b_PS_wipe 16 = .ok (.aload_n 0, 1) := by decide +kernel
theorem d_PS_wipe_17 : decode b_PS_wipe 17 = .ok (.getfield 28, 3) := by decide +kernel
theorem d_PS_wipe_20 : decode b_PS_wipe 20 = .ok (.getfield 48, 3) := by decide +kernel
theorem d_PS_wipe_23 : decode b_PS_wipe 23 = .ok (.iconst 0, 1) := by decide +kernel
theorem d_PS_wipe_24 : decode b_PS_wipe 24 = .ok (.invokevirtual 52, 3) := by decide +kernel
theorem d_PS_wipe_27 : decode b_PS_wipe 27 = .ok (.aload_n 0, 1) := by decide +kernel
theorem d_PS_wipe_28 : decode b_PS_wipe 28 = .ok (.getfield 28, 3) := by decide +kernel
theorem d_PS_wipe_31 : decode b_PS_wipe 31 = .ok (.getfield 58, 3) := by decide +kernel
theorem d_PS_wipe_34 : decode b_PS_wipe 34 = .ok (.invokevirtual 62, 3) := by decide +kernel
theorem d_PS_wipe_37 : decode b_PS_wipe 37 = .ok (.return_, 1) := by decide +kernel
