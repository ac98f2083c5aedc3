/-! decode rows; written by wip/gen/names.py -/
theorem d_S1_canEncode_0 : decode b_S1_canEncode 0 = .ok (.iload_n 0, 1) := by decide +kernel
theorem d_S1_canEncode_1 : decode b_S1_canEncode 1 = .ok (.ifCond .lt 14, 3) := by decide +kernel
theorem d_S1_canEncode_4 : decode b_S1_canEncode 4 = .ok (.iload_n 0, 1) := by decide +kernel
theorem d_S1_canEncode_5 : decode b_S1_canEncode 5 = .ok (.sipush 255, 3) := by decide +kernel
theorem d_S1_canEncode_8 : decode b_S1_canEncode 8 = .ok (.if_icmp .gt 7, 3) := by decide +kernel
theorem d_S1_canEncode_11 : decode b_S1_canEncode 11 = .ok (.iconst 1, 1) := by decide +kernel
theorem d_S1_canEncode_12 : decode b_S1_canEncode 12 = .ok (.goto 4, 3) := by decide +kernel
theorem d_S1_canEncode_15 : decode b_S1_canEncode 15 = .ok (.iconst 0, 1) := by decide +kernel
theorem d_S1_canEncode_16 : decode b_S1_canEncode 16 = .ok (.ireturn, 1) := by decide +kernel
theorem d_S1_charAt_0 : decode b_S1_charAt 0 = .ok (.iload_n 1, 1) := by decide +kernel
theorem d_S1_charAt_1 : decode b_S1_charAt 1 = .ok (.aload_n 0, 1) := by decide +kernel
theorem d_S1_charAt_2 : decode b_S1_charAt 2 = .ok (.arraylength, 1) := by decide +kernel
theorem d_S1_charAt_3 : decode b_S1_charAt 3 = .ok (.invokestatic 9, 3) := by decide +kernel
theorem d_S1_charAt_6 : decode b_S1_charAt 6 = .ok (.aload_n 0, 1) := by decide +kernel
theorem d_S1_charAt_7 : decode b_S1_charAt 7 = .ok (.iload_n 1, 1) := by decide +kernel
theorem d_S1_charAt_8 : decode b_S1_charAt 8 = .ok (.baload, 1) := by decide +kernel
theorem d_S1_charAt_9 : decode b_S1_charAt 9 = .ok (.sipush 255, 3) := by decide +kernel
theorem d_S1_charAt_12 : decode b_S1_charAt 12 = .ok (.iand, 1) := by decide +kernel
theorem d_S1_charAt_13 : decode b_S1_charAt 13 = .ok (.i2c, 1) := by decide +kernel
theorem d_S1_charAt_14 : decode b_S1_charAt 14 = .ok (.ireturn, 1) := by decide +kernel
theorem d_S1_indexOf_0 : decode b_S1_indexOf 0 = .ok (.iload_n 1, 1) := by decide +kernel
theorem d_S1_indexOf_1 : decode b_S1_indexOf 1 = .ok (.invokestatic 88, 3) := by decide +kernel
theorem d_S1_indexOf_4 : decode b_S1_indexOf 4 = .ok (.ifCond .ne 5, 3) := by decide +kernel
theorem d_S1_indexOf_7 : decode b_S1_indexOf 7 = .ok (.iconst (-1), 1) := by decide +kernel
theorem d_S1_indexOf_8 : decode b_S1_indexOf 8 = .ok (.ireturn, 1) := by decide +kernel
theorem d_S1_indexOf_9 : decode b_S1_indexOf 9 = .ok (.iload_n 2, 1) := by decide +kernel
theorem d_S1_indexOf_10 : decode b_S1_indexOf 10 = .ok (.iconst 0, 1) := by decide +kernel
theorem d_S1_indexOf_11 : decode b_S1_indexOf 11 = .ok (.invokestatic 92, 3) := by decide +kernel
theorem d_S1_indexOf_14 : decode b_S1_indexOf 14 = .ok (.istore_n 2, 1) := by decide +kernel
theorem d_S1_indexOf_15 : decode b_S1_indexOf 15 = .ok (.iload_n 3, 1) := by decide +kernel
theorem d_S1_indexOf_16 : decode b_S1_indexOf 16 = .ok (.aload_n 0, 1) := by decide +kernel
theorem d_S1_indexOf_17 : decode b_S1_indexOf 17 = .ok (.arraylength, 1) := by decide +kernel
theorem d_S1_indexOf_18 : decode b_S1_indexOf 18 = .ok (.invokestatic 38, 3) := by decide +kernel
theorem d_S1_indexOf_21 : decode b_S1_indexOf 21 = .ok (.istore_n 3, 1) := by decide +kernel
theorem d_S1_indexOf_22 : decode b_S1_indexOf 22 = .ok (.iload_n 2, 1) := by decide +kernel
theorem d_S1_indexOf_23 : decode b_S1_indexOf 23 = .ok (.iload_n 3, 1) := by decide +kernel
theorem d_S1_indexOf_24 : decode b_S1_indexOf 24 = .ok (.if_icmp .lt 5, 3) := by decide +kernel
theorem d_S1_indexOf_27 : decode b_S1_indexOf 27 = .ok (.iconst (-1), 1) := by decide +kernel
theorem d_S1_indexOf_28 : decode b_S1_indexOf 28 = .ok (.ireturn, 1) := by decide +kernel
theorem d_S1_indexOf_29 : decode b_S1_indexOf 29 = .ok (.aload_n 0, 1) := by decide +kernel
theorem d_S1_indexOf_30 : decode b_S1_indexOf 30 = .ok (.iload_n 1, 1) := by decide +kernel
theorem d_S1_indexOf_31 : decode b_S1_indexOf 31 = .ok (.iload_n 2, 1) := by decide +kernel
theorem d_S1_indexOf_32 : decode b_S1_indexOf 32 = .ok (.iload_n 3, 1) := by decide +kernel
theorem d_S1_indexOf_33 : decode b_S1_indexOf 33 = .ok (.invokestatic 95, 3) := by decide +kernel
theorem d_S1_indexOf_36 : decode b_S1_indexOf 36 = .ok (.ireturn, 1) := by decide +kernel
theorem d_S1_indexOfChar_0 : decode b_S1_indexOfChar 0 = .ok (.iload_n 1, 1) := by decide +kernel
theorem d_S1_indexOfChar_1 : decode b_S1_indexOfChar 1 = .ok (.i2b, 1) := by decide +kernel
theorem d_S1_indexOfChar_2 : decode b_S1_indexOfChar 2 = .ok (.istore 4, 2) := by decide +kernel
theorem d_S1_indexOfChar_4 : decode b_S1_indexOfChar 4 = .ok (.iload_n 2, 1) := by decide +kernel
theorem d_S1_indexOfChar_5 : decode b_S1_indexOfChar 5 = .ok (.istore 5, 2) := by decide +kernel
theorem d_S1_indexOfChar_7 : decode b_S1_indexOfChar 7 = .ok (.iload 5, 2) := by decide +kernel
theorem d_S1_indexOfChar_9 : decode b_S1_indexOfChar 9 = .ok (.iload_n 3, 1) := by decide +kernel
theorem d_S1_indexOfChar_10 : decode b_S1_indexOfChar 10 = .ok (.if_icmp .ge 21, 3) := by decide +kernel
theorem d_S1_indexOfChar_13 : decode b_S1_indexOfChar 13 = .ok (.aload_n 0, 1) := by decide +kernel
theorem d_S1_indexOfChar_14 : decode b_S1_indexOfChar 14 = .ok (.iload 5, 2) := by decide +kernel
theorem d_S1_indexOfChar_16 : decode b_S1_indexOfChar 16 = .ok (.baload, 1) := by decide +kernel
theorem d_S1_indexOfChar_17 : decode b_S1_indexOfChar 17 = .ok (.iload 4, 2) := by decide +kernel
theorem d_S1_indexOfChar_19 : decode b_S1_indexOfChar 19 = .ok (.if_icmp .ne 6, 3) := by decide +kernel
theorem d_S1_indexOfChar_22 : decode b_S1_indexOfChar 22 = .ok (.iload 5, 2) := by decide +kernel
theorem d_S1_indexOfChar_24 : decode b_S1_indexOfChar 24 = .ok (.ireturn, 1) := by decide +kernel
theorem d_S1_indexOfChar_25 : decode b_S1_indexOfChar 25 = .ok (.iinc 5 1, 3) := by decide +kernel
theorem d_S1_indexOfChar_28 : decode b_S1_indexOfChar 28 = .ok (.goto (-21), 3) := by decide +kernel
theorem d_S1_indexOfChar_31 : decode b_S1_indexOfChar 31 = .ok (.iconst (-1), 1) := by decide +kernel
theorem d_S1_indexOfChar_32 : decode b_S1_indexOfChar 32 = .ok (.ireturn, 1) := by decide +kernel
