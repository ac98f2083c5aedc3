/-! decode rows; written by wip/gen/names.py -/
theorem d_Pp_checkFromToIndex_0 : decode b_Pp_checkFromToIndex 0 = .ok (.iload_n 0, 1) := by decide +kernel
theorem d_Pp_checkFromToIndex_1 : decode b_Pp_checkFromToIndex 1 = .ok (.ifCond .lt 13, 3) := by decide +kernel
theorem d_Pp_checkFromToIndex_4 : decode b_Pp_checkFromToIndex 4 = .ok (.iload_n 0, 1) := by decide +kernel
theorem d_Pp_checkFromToIndex_5 : decode b_Pp_checkFromToIndex 5 = .ok (.iload_n 1, 1) := by decide +kernel
theorem d_Pp_checkFromToIndex_6 : decode b_Pp_checkFromToIndex 6 = .ok (.if_icmp .gt 8, 3) := by decide +kernel
theorem d_Pp_checkFromToIndex_9 : decode b_Pp_checkFromToIndex 9 = .ok (.iload_n 1, 1) := by decide +kernel
theorem d_Pp_checkFromToIndex_10 : decode b_Pp_checkFromToIndex 10 = .ok (.iload_n 2, 1) := by decide +kernel
theorem d_Pp_checkFromToIndex_11 : decode b_Pp_checkFromToIndex 11 = .ok (.if_icmp .le 11, 3) := by decide +kernel
theorem d_Pp_checkFromToIndex_14 : decode b_Pp_checkFromToIndex 14 = .ok (.aload_n 3, 1) := by decide +kernel
theorem d_Pp_checkFromToIndex_15 : decode b_Pp_checkFromToIndex 15 = .ok (.iload_n 0, 1) := by decide +kernel
theorem d_Pp_checkFromToIndex_16 : decode b_Pp_checkFromToIndex 16 = .ok (.iload_n 1, 1) := by decide +kernel
theorem d_Pp_checkFromToIndex_17 : decode b_Pp_checkFromToIndex 17 = .ok (.iload_n 2, 1) := by decide +kernel
theorem d_Pp_checkFromToIndex_18 : decode b_Pp_checkFromToIndex 18 = .ok (.invokestatic 99, 3) := by decide +kernel
theorem d_Pp_checkFromToIndex_21 : decode b_Pp_checkFromToIndex 21 = .ok (.athrow, 1) := by decide +kernel
theorem d_Pp_checkFromToIndex_22 : decode b_Pp_checkFromToIndex 22 = .ok (.iload_n 0, 1) := by decide +kernel
theorem d_Pp_checkFromToIndex_23 : decode b_Pp_checkFromToIndex 23 = .ok (.ireturn, 1) := by decide +kernel
theorem d_Pp_checkIndex_0 : decode b_Pp_checkIndex 0 = .ok (.iload_n 0, 1) := by decide +kernel
theorem d_Pp_checkIndex_1 : decode b_Pp_checkIndex 1 = .ok (.ifCond .lt 8, 3) := by decide +kernel
theorem d_Pp_checkIndex_4 : decode b_Pp_checkIndex 4 = .ok (.iload_n 0, 1) := by decide +kernel
theorem d_Pp_checkIndex_5 : decode b_Pp_checkIndex 5 = .ok (.iload_n 1, 1) := by decide +kernel
theorem d_Pp_checkIndex_6 : decode b_Pp_checkIndex 6 = .ok (.if_icmp .lt 10, 3) := by decide +kernel
theorem d_Pp_checkIndex_9 : decode b_Pp_checkIndex 9 = .ok (.aload_n 2, 1) := by decide +kernel
theorem d_Pp_checkIndex_10 : decode b_Pp_checkIndex 10 = .ok (.iload_n 0, 1) := by decide +kernel
theorem d_Pp_checkIndex_11 : decode b_Pp_checkIndex 11 = .ok (.iload_n 1, 1) := by decide +kernel
theorem d_Pp_checkIndex_12 : decode b_Pp_checkIndex 12 = .ok (.invokestatic 95, 3) := by decide +kernel
theorem d_Pp_checkIndex_15 : decode b_Pp_checkIndex 15 = .ok (.athrow, 1) := by decide +kernel
theorem d_Pp_checkIndex_16 : decode b_Pp_checkIndex 16 = .ok (.iload_n 0, 1) := by decide +kernel
theorem d_Pp_checkIndex_17 : decode b_Pp_checkIndex 17 = .ok (.ireturn, 1) := by decide +kernel
