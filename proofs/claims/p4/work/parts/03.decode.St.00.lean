/-! decode rows; written by wip/gen/names.py -/
theorem d_St_charAt_0 : decode b_St_charAt 0 = .ok (.aload_n 0, 1) := by decide +kernel
theorem d_St_charAt_1 : decode b_St_charAt 1 = .ok (.invokevirtual 492, 3) := by decide +kernel
theorem d_St_charAt_4 : decode b_St_charAt 4 = .ok (.ifCond .eq 12, 3) := by decide +kernel
theorem d_St_charAt_7 : decode b_St_charAt 7 = .ok (.aload_n 0, 1) := by decide +kernel
theorem d_St_charAt_8 : decode b_St_charAt 8 = .ok (.getfield 9, 3) := by decide +kernel
theorem d_St_charAt_11 : decode b_St_charAt 11 = .ok (.iload_n 1, 1) := by decide +kernel
theorem d_St_charAt_12 : decode b_St_charAt 12 = .ok (.invokestatic 495, 3) := by decide +kernel
theorem d_St_charAt_15 : decode b_St_charAt 15 = .ok (.ireturn, 1) := by decide +kernel
theorem d_St_charAt_16 : decode b_St_charAt 16 = .ok (.aload_n 0, 1) := by decide +kernel
theorem d_St_charAt_17 : decode b_St_charAt 17 = .ok (.getfield 9, 3) := by decide +kernel
theorem d_St_charAt_20 : decode b_St_charAt 20 = .ok (.iload_n 1, 1) := by decide +kernel
theorem d_St_charAt_21 : decode b_St_charAt 21 = .ok (.invokestatic 498, 3) := by decide +kernel
theorem d_St_charAt_24 : decode b_St_charAt 24 = .ok (.ireturn, 1) := by decide +kernel
theorem d_St_checkBoundsBeginEnd_0 : decode b_St_checkBoundsBeginEnd 0 = .ok (.iload_n 0, 1) := by decide +kernel
theorem d_St_checkBoundsBeginEnd_1 : decode b_St_checkBoundsBeginEnd 1 = .ok (.iload_n 1, 1) := by decide +kernel
theorem d_St_checkBoundsBeginEnd_2 : decode b_St_checkBoundsBeginEnd 2 = .ok (.iload_n 2, 1) := by decide +kernel
theorem d_St_checkBoundsBeginEnd_3 : decode b_St_checkBoundsBeginEnd 3 = .ok (.getstatic 1053, 3) := by decide +kernel
theorem d_St_checkBoundsBeginEnd_6 : decode b_St_checkBoundsBeginEnd 6 = .ok (.invokestatic 1062, 3) := by decide +kernel
theorem d_St_checkBoundsBeginEnd_9 : decode b_St_checkBoundsBeginEnd 9 = .ok (.pop, 1) := by decide +kernel
theorem d_St_checkBoundsBeginEnd_10 : decode b_St_checkBoundsBeginEnd 10 = .ok (.return_, 1) := by decide +kernel
theorem d_St_checkIndex_0 : decode b_St_checkIndex 0 = .ok (.iload_n 0, 1) := by decide +kernel
theorem d_St_checkIndex_1 : decode b_St_checkIndex 1 = .ok (.iload_n 1, 1) := by decide +kernel
theorem d_St_checkIndex_2 : decode b_St_checkIndex 2 = .ok (.getstatic 1053, 3) := by decide +kernel
theorem d_St_checkIndex_5 : decode b_St_checkIndex 5 = .ok (.invokestatic 1059, 3) := by decide +kernel
theorem d_St_checkIndex_8 : decode b_St_checkIndex 8 = .ok (.pop, 1) := by decide +kernel
theorem d_St_checkIndex_9 : decode b_St_checkIndex 9 = .ok (.return_, 1) := by decide +kernel
theorem d_St_coder_0 : decode b_St_coder 0 = .ok (.getstatic 38, 3) := by decide +kernel
theorem d_St_coder_3 : decode b_St_coder 3 = .ok (.ifCond .eq 10, 3) := by decide +kernel
theorem d_St_coder_6 : decode b_St_coder 6 = .ok (.aload_n 0, 1) := by decide +kernel
theorem d_St_coder_7 : decode b_St_coder 7 = .ok (.getfield 15, 3) := by decide +kernel
theorem d_St_coder_10 : decode b_St_coder 10 = .ok (.goto 4, 3) := by decide +kernel
theorem d_St_coder_13 : decode b_St_coder 13 = .ok (.iconst 1, 1) := by decide +kernel
theorem d_St_coder_14 : decode b_St_coder 14 = .ok (.ireturn, 1) := by decide +kernel
theorem d_St_indexOf_0_0 : decode b_St_indexOf_0 0 = .ok (.aload_n 0, 1) := by decide +kernel
theorem d_St_indexOf_0_1 : decode b_St_indexOf_0 1 = .ok (.iload_n 1, 1) := by decide +kernel
theorem d_St_indexOf_0_2 : decode b_St_indexOf_0 2 = .ok (.iconst 0, 1) := by decide +kernel
theorem d_St_indexOf_0_3 : decode b_St_indexOf_0 3 = .ok (.invokevirtual 633, 3) := by decide +kernel
theorem d_St_indexOf_0_6 : decode b_St_indexOf_0 6 = .ok (.ireturn, 1) := by decide +kernel
theorem d_St_indexOf_1_0 : decode b_St_indexOf_1 0 = .ok (.aload_n 0, 1) := by decide +kernel
theorem d_St_indexOf_1_1 : decode b_St_indexOf_1 1 = .ok (.invokevirtual 492, 3) := by decide +kernel
theorem d_St_indexOf_1_4 : decode b_St_indexOf_1 4 = .ok (.ifCond .eq 19, 3) := by decide +kernel
theorem d_St_indexOf_1_7 : decode b_St_indexOf_1 7 = .ok (.aload_n 0, 1) := by decide +kernel
theorem d_St_indexOf_1_8 : decode b_St_indexOf_1 8 = .ok (.getfield 9, 3) := by decide +kernel
theorem d_St_indexOf_1_11 : decode b_St_indexOf_1 11 = .ok (.iload_n 1, 1) := by decide +kernel
theorem d_St_indexOf_1_12 : decode b_St_indexOf_1 12 = .ok (.iload_n 2, 1) := by decide +kernel
theorem d_St_indexOf_1_13 : decode b_St_indexOf_1 13 = .ok (.aload_n 0, 1) := by decide +kernel
theorem d_St_indexOf_1_14 : decode b_St_indexOf_1 14 = .ok (.invokevirtual 505, 3) := by decide +kernel
theorem d_St_indexOf_1_17 : decode b_St_indexOf_1 17 = .ok (.invokestatic 637, 3) := by decide +kernel
theorem d_St_indexOf_1_20 : decode b_St_indexOf_1 20 = .ok (.goto 16, 3) := by decide +kernel
theorem d_St_indexOf_1_23 : decode b_St_indexOf_1 23 = .ok (.aload_n 0, 1) := by decide +kernel
theorem d_St_indexOf_1_24 : decode b_St_indexOf_1 24 = .ok (.getfield 9, 3) := by decide +kernel
theorem d_St_indexOf_1_27 : decode b_St_indexOf_1 27 = .ok (.iload_n 1, 1) := by decide +kernel
theorem d_St_indexOf_1_28 : decode b_St_indexOf_1 28 = .ok (.iload_n 2, 1) := by decide +kernel
theorem d_St_indexOf_1_29 : decode b_St_indexOf_1 29 = .ok (.aload_n 0, 1) := by decide +kernel
theorem d_St_indexOf_1_30 : decode b_St_indexOf_1 30 = .ok (.invokevirtual 505, 3) := by decide +kernel
theorem d_St_indexOf_1_33 : decode b_St_indexOf_1 33 = .ok (.invokestatic 640, 3) := by decide +kernel
theorem d_St_indexOf_1_36 : decode b_St_indexOf_1 36 = .ok (.ireturn, 1) := by decide +kernel
theorem d_St_isLatin1_0 : decode b_St_isLatin1 0 = .ok (.getstatic 38, 3) := by decide +kernel
theorem d_St_isLatin1_3 : decode b_St_isLatin1 3 = .ok (.ifCond .eq 14, 3) := by decide +kernel
theorem d_St_isLatin1_6 : decode b_St_isLatin1 6 = .ok (.aload_n 0, 1) := by decide +kernel
theorem d_St_isLatin1_7 : decode b_St_isLatin1 7 = .ok (.getfield 15, 3) := by decide +kernel
theorem d_St_isLatin1_10 : decode b_St_isLatin1 10 = .ok (.ifCond .ne 7, 3) := by decide +kernel
theorem d_St_isLatin1_13 : decode b_St_isLatin1 13 = .ok (.iconst 1, 1) := by decide +kernel
theorem d_St_isLatin1_14 : decode b_St_isLatin1 14 = .ok (.goto 4, 3) := by decide +kernel
theorem d_St_isLatin1_17 : decode b_St_isLatin1 17 = .ok (.iconst 0, 1) := by decide +kernel
theorem d_St_isLatin1_18 : decode b_St_isLatin1 18 = .ok (.ireturn, 1) := by decide +kernel
theorem d_St_length_0 : decode b_St_length 0 = .ok (.aload_n 0, 1) := by decide +kernel
theorem d_St_length_1 : decode b_St_length 1 = .ok (.getfield 9, 3) := by decide +kernel
theorem d_St_length_4 : decode b_St_length 4 = .ok (.arraylength, 1) := by decide +kernel
theorem d_St_length_5 : decode b_St_length 5 = .ok (.aload_n 0, 1) := by decide +kernel
theorem d_St_length_6 : decode b_St_length 6 = .ok (.invokevirtual 335, 3) := by decide +kernel
theorem d_St_length_9 : decode b_St_length 9 = .ok (.ishr, 1) := by decide +kernel
theorem d_St_length_10 : decode b_St_length 10 = .ok (.ireturn, 1) := by decide +kernel
