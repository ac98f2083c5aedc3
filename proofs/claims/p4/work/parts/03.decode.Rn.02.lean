/-! decode rows; written by wip/gen/names.py -/
theorem d_Rn_runWord_1 : decode b_Rn_runWord 1 = .ok (.aload_n 1, 1) := by decide +kernel
theorem d_Rn_runWord_2 : decode b_Rn_runWord 2 = .ok (.iload_n 2, 1) := by decide +kernel
theorem d_Rn_runWord_3 : decode b_Rn_runWord 3 = .ok (.invokevirtual 264, 3) := by decide +kernel
theorem d_Rn_runWord_6 : decode b_Rn_runWord 6 = .ok (.aload_n 1, 1) := by decide +kernel
theorem d_Rn_runWord_7 : decode b_Rn_runWord 7 = .ok (.iload_n 2, 1) := by decide +kernel
theorem d_Rn_runWord_8 : decode b_Rn_runWord 8 = .ok (.invokevirtual 267, 3) := by decide +kernel
theorem d_Rn_runWord_11 : decode b_Rn_runWord 11 = .ok (.aload_n 1, 1) := by decide +kernel
theorem d_Rn_runWord_12 : decode b_Rn_runWord 12 = .ok (.getfield 138, 3) := by decide +kernel
theorem d_Rn_runWord_15 : decode b_Rn_runWord 15 = .ok (.iload_n 3, 1) := by decide +kernel
theorem d_Rn_runWord_16 : decode b_Rn_runWord 16 = .ok (.iconst 1, 1) := by decide +kernel
theorem d_Rn_runWord_17 : decode b_Rn_runWord 17 = .ok (.iadd, 1) := by decide +kernel
theorem d_Rn_runWord_18 : decode b_Rn_runWord 18 = .ok (.iconst 0, 1) := by decide +kernel
theorem d_Rn_runWord_19 : decode b_Rn_runWord 19 = .ok (.invokevirtual 141, 3) := by decide +kernel
theorem d_Rn_runWord_22 : decode b_Rn_runWord 22 = .ok (.ireturn, 1) := by decide +kernel
theorem d_Rn_setOrShow_0 : decode b_Rn_setOrShow 0 = .ok (.aload_n 1, 1) := by decide +kernel
theorem d_Rn_setOrShow_1 : decode b_Rn_setOrShow 1 = .ok (.getfield 145, 3) := by decide +kernel
theorem d_Rn_setOrShow_4 : decode b_Rn_setOrShow 4 = .ok (.iconst 1, 1) := by decide +kernel
theorem d_Rn_setOrShow_5 : decode b_Rn_setOrShow 5 = .ok (.invokevirtual 171, 3) := by decide +kernel
theorem d_Rn_setOrShow_8 : decode b_Rn_setOrShow 8 = .ok (.bipush 97, 2) := by decide +kernel
theorem d_Rn_setOrShow_10 : decode b_Rn_setOrShow 10 = .ok (.isub, 1) := by decide +kernel
theorem d_Rn_setOrShow_11 : decode b_Rn_setOrShow 11 = .ok (.istore_n 2, 1) := by decide +kernel
theorem d_Rn_setOrShow_12 : decode b_Rn_setOrShow 12 = .ok (.aload_n 0, 1) := by decide +kernel
theorem d_Rn_setOrShow_13 : decode b_Rn_setOrShow 13 = .ok (.getfield 12, 3) := by decide +kernel
theorem d_Rn_setOrShow_16 : decode b_Rn_setOrShow 16 = .ok (.aload_n 1, 1) := by decide +kernel
theorem d_Rn_setOrShow_17 : decode b_Rn_setOrShow 17 = .ok (.getfield 138, 3) := by decide +kernel
theorem d_Rn_setOrShow_20 : decode b_Rn_setOrShow 20 = .ok (.iload_n 2, 1) := by decide +kernel
theorem d_Rn_setOrShow_21 : decode b_Rn_setOrShow 21 = .ok (.invokevirtual 156, 3) := by decide +kernel
theorem d_Rn_setOrShow_24 : decode b_Rn_setOrShow 24 = .ok (.astore_n 3, 1) := by decide +kernel
theorem d_Rn_setOrShow_25 : decode b_Rn_setOrShow 25 = .ok (.aload_n 1, 1) := by decide +kernel
theorem d_Rn_setOrShow_26 : decode b_Rn_setOrShow 26 = .ok (.getfield 83, 3) := by decide +kernel
theorem d_Rn_setOrShow_29 : decode b_Rn_setOrShow 29 = .ok (.iconst 2, 1) := by decide +kernel
theorem d_Rn_setOrShow_30 : decode b_Rn_setOrShow 30 = .ok (.if_icmp .le 13, 3) := by decide +kernel
theorem d_Rn_setOrShow_33 : decode b_Rn_setOrShow 33 = .ok (.aload_n 3, 1) := by decide +kernel
theorem d_Rn_setOrShow_34 : decode b_Rn_setOrShow 34 = .ok (.iload_n 2, 1) := by decide +kernel
theorem d_Rn_setOrShow_35 : decode b_Rn_setOrShow 35 = .ok (.aload_n 1, 1) := by decide +kernel
theorem d_Rn_setOrShow_36 : decode b_Rn_setOrShow 36 = .ok (.getfield 145, 3) := by decide +kernel
theorem d_Rn_setOrShow_39 : decode b_Rn_setOrShow 39 = .ok (.iconst 2, 1) := by decide +kernel
theorem d_Rn_setOrShow_40 : decode b_Rn_setOrShow 40 = .ok (.invokevirtual 277, 3) := by decide +kernel
theorem d_Rn_setOrShow_43 : decode b_Rn_setOrShow 43 = .ok (.aload_n 3, 1) := by decide +kernel
theorem d_Rn_setOrShow_44 : decode b_Rn_setOrShow 44 = .ok (.iload_n 2, 1) := by decide +kernel
theorem d_Rn_setOrShow_45 : decode b_Rn_setOrShow 45 = .ok (.invokevirtual 160, 3) := by decide +kernel
theorem d_Rn_setOrShow_48 : decode b_Rn_setOrShow 48 = .ok (.iconst (-1), 1) := by decide +kernel
theorem d_Rn_setOrShow_49 : decode b_Rn_setOrShow 49 = .ok (.if_icmp .ne 9, 3) := by decide +kernel
theorem d_Rn_setOrShow_52 : decode b_Rn_setOrShow 52 = .ok (.aload_n 0, 1) := by decide +kernel
theorem d_Rn_setOrShow_53 : decode b_Rn_setOrShow 53 = .ok (.iconst 4, 1) := by decide +kernel
theorem d_Rn_setOrShow_54 : decode b_Rn_setOrShow 54 = .ok (.invokevirtual 64, 3) := by decide +kernel
theorem d_Rn_setOrShow_57 : decode b_Rn_setOrShow 57 = .ok (.ireturn, 1) := by decide +kernel
theorem d_Rn_setOrShow_58 : decode b_Rn_setOrShow 58 = .ok (.aload_n 0, 1) := by decide +kernel
theorem d_Rn_setOrShow_59 : decode b_Rn_setOrShow 59 = .ok (.getfield 36, 3) := by decide +kernel
theorem d_Rn_setOrShow_62 : decode b_Rn_setOrShow 62 = .ok (.iconst 0, 1) := by decide +kernel
theorem d_Rn_setOrShow_63 : decode b_Rn_setOrShow 63 = .ok (.aload_n 3, 1) := by decide +kernel
theorem d_Rn_setOrShow_64 : decode b_Rn_setOrShow 64 = .ok (.iload_n 2, 1) := by decide +kernel
theorem d_Rn_setOrShow_65 : decode b_Rn_setOrShow 65 = .ok (.invokevirtual 277, 3) := by decide +kernel
theorem d_Rn_setOrShow_68 : decode b_Rn_setOrShow 68 = .ok (.iconst 0, 1) := by decide +kernel
theorem d_Rn_setOrShow_69 : decode b_Rn_setOrShow 69 = .ok (.ireturn, 1) := by decide +kernel
theorem d_Rn_showSum_0 : decode b_Rn_showSum 0 = .ok (.aload_n 0, 1) := by decide +kernel
theorem d_Rn_showSum_1 : decode b_Rn_showSum 1 = .ok (.getfield 59, 3) := by decide +kernel
theorem d_Rn_showSum_4 : decode b_Rn_showSum 4 = .ok (.aload_n 1, 1) := by decide +kernel
theorem d_Rn_showSum_5 : decode b_Rn_showSum 5 = .ok (.iconst 1, 1) := by decide +kernel
theorem d_Rn_showSum_6 : decode b_Rn_showSum 6 = .ok (.invokevirtual 264, 3) := by decide +kernel
theorem d_Rn_showSum_9 : decode b_Rn_showSum 9 = .ok (.aload_n 1, 1) := by decide +kernel
theorem d_Rn_showSum_10 : decode b_Rn_showSum 10 = .ok (.iconst 1, 1) := by decide +kernel
theorem d_Rn_showSum_11 : decode b_Rn_showSum 11 = .ok (.invokevirtual 267, 3) := by decide +kernel
theorem d_Rn_showSum_14 : decode b_Rn_showSum 14 = .ok (.aload_n 1, 1) := by decide +kernel
theorem d_Rn_showSum_15 : decode b_Rn_showSum 15 = .ok (.getfield 138, 3) := by decide +kernel
theorem d_Rn_showSum_18 : decode b_Rn_showSum 18 = .ok (.invokevirtual 300, 3) := by decide +kernel
theorem d_Rn_showSum_21 : decode b_Rn_showSum 21 = .ok (.istore_n 2, 1) := by decide +kernel
theorem d_Rn_showSum_22 : decode b_Rn_showSum 22 = .ok (.iload_n 2, 1) := by decide +kernel
theorem d_Rn_showSum_23 : decode b_Rn_showSum 23 = .ok (.ifCond .eq 9, 3) := by decide +kernel
theorem d_Rn_showSum_26 : decode b_Rn_showSum 26 = .ok (.aload_n 0, 1) := by decide +kernel
theorem d_Rn_showSum_27 : decode b_Rn_showSum 27 = .ok (.iload_n 2, 1) := by decide +kernel
theorem d_Rn_showSum_28 : decode b_Rn_showSum 28 = .ok (.invokevirtual 64, 3) := by decide +kernel
theorem d_Rn_showSum_31 : decode b_Rn_showSum 31 = .ok (.ireturn, 1) := by decide +kernel
theorem d_Rn_showSum_32 : decode b_Rn_showSum 32 = .ok (.aload_n 0, 1) := by decide +kernel
theorem d_Rn_showSum_33 : decode b_Rn_showSum 33 = .ok (.getfield 36, 3) := by decide +kernel
theorem d_Rn_showSum_36 : decode b_Rn_showSum 36 = .ok (.iconst 0, 1) := by decide +kernel
theorem d_Rn_showSum_37 : decode b_Rn_showSum 37 = .ok (.aload_n 0, 1) := by decide +kernel
theorem d_Rn_showSum_38 : decode b_Rn_showSum 38 = .ok (.getfield 59, 3) := by decide +kernel
theorem d_Rn_showSum_41 : decode b_Rn_showSum 41 = .ok (.getfield 304, 3) := by decide +kernel
theorem d_Rn_showSum_44 : decode b_Rn_showSum 44 = .ok (.invokevirtual 250, 3) := by decide +kernel
theorem d_Rn_showSum_47 : decode b_Rn_showSum 47 = .ok (.iconst 0, 1) := by decide +kernel
theorem d_Rn_showSum_48 : decode b_Rn_showSum 48 = .ok (.ireturn, 1) := by decide +kernel
theorem d_Rn_takeFitting_0 : decode b_Rn_takeFitting 0 = .ok (.iconst (-1), 1) := by decide +kernel
theorem d_Rn_takeFitting_1 : decode b_Rn_takeFitting 1 = .ok (.istore_n 2, 1) := by decide +kernel
theorem d_Rn_takeFitting_2 : decode b_Rn_takeFitting 2 = .ok (.bipush 21, 2) := by decide +kernel
theorem d_Rn_takeFitting_4 : decode b_Rn_takeFitting 4 = .ok (.istore_n 3, 1) := by decide +kernel
theorem d_Rn_takeFitting_5 : decode b_Rn_takeFitting 5 = .ok (.iconst 2, 1) := by decide +kernel
theorem d_Rn_takeFitting_6 : decode b_Rn_takeFitting 6 = .ok (.istore 4, 2) := by decide +kernel
theorem d_Rn_takeFitting_8 : decode b_Rn_takeFitting 8 = .ok (.iload 4, 2) := by decide +kernel
theorem d_Rn_takeFitting_10 : decode b_Rn_takeFitting 10 = .ok (.aload_n 1, 1) := by decide +kernel
theorem d_Rn_takeFitting_11 : decode b_Rn_takeFitting 11 = .ok (.getfield 83, 3) := by decide +kernel
theorem d_Rn_takeFitting_14 : decode b_Rn_takeFitting 14 = .ok (.if_icmp .ge 60, 3) := by decide +kernel
theorem d_Rn_takeFitting_17 : decode b_Rn_takeFitting 17 = .ok (.aload_n 0, 1) := by decide +kernel
theorem d_Rn_takeFitting_18 : decode b_Rn_takeFitting 18 = .ok (.getfield 44, 3) := by decide +kernel
theorem d_Rn_takeFitting_21 : decode b_Rn_takeFitting 21 = .ok (.getfield 332, 3) := by decide +kernel
theorem d_Rn_takeFitting_24 : decode b_Rn_takeFitting 24 = .ok (.iconst 0, 1) := by decide +kernel
theorem d_Rn_takeFitting_25 : decode b_Rn_takeFitting 25 = .ok (.aload_n 1, 1) := by decide +kernel
theorem d_Rn_takeFitting_26 : decode b_Rn_takeFitting 26 = .ok (.getfield 145, 3) := by decide +kernel
theorem d_Rn_takeFitting_29 : decode b_Rn_takeFitting 29 = .ok (.iload 4, 2) := by decide +kernel
theorem d_Rn_takeFitting_31 : decode b_Rn_takeFitting 31 = .ok (.invokevirtual 254, 3) := by decide +kernel
theorem d_Rn_takeFitting_34 : decode b_Rn_takeFitting 34 = .ok (.istore 5, 2) := by decide +kernel
theorem d_Rn_takeFitting_36 : decode b_Rn_takeFitting 36 = .ok (.iconst 0, 1) := by decide +kernel
theorem d_Rn_takeFitting_37 : decode b_Rn_takeFitting 37 = .ok (.istore 6, 2) := by decide +kernel
theorem d_Rn_takeFitting_39 : decode b_Rn_takeFitting 39 = .ok (.iload 6, 2) := by decide +kernel
theorem d_Rn_takeFitting_41 : decode b_Rn_takeFitting 41 = .ok (.iload_n 3, 1) := by decide +kernel
theorem d_Rn_takeFitting_42 : decode b_Rn_takeFitting 42 = .ok (.if_icmp .ge 26, 3) := by decide +kernel
theorem d_Rn_takeFitting_45 : decode b_Rn_takeFitting 45 = .ok (.iload 5, 2) := by decide +kernel
theorem d_Rn_takeFitting_47 : decode b_Rn_takeFitting 47 = .ok (.iload 6, 2) := by decide +kernel
theorem d_Rn_takeFitting_49 : decode b_Rn_takeFitting 49 = .ok (.ishr, 1) := by decide +kernel
theorem d_Rn_takeFitting_50 : decode b_Rn_takeFitting 50 = .ok (.iconst 1, 1) := by decide +kernel
theorem d_Rn_takeFitting_51 : decode b_Rn_takeFitting 51 = .ok (.iand, 1) := by decide +kernel
theorem d_Rn_takeFitting_52 : decode b_Rn_takeFitting 52 = .ok (.iconst 1, 1) := by decide +kernel
theorem d_Rn_takeFitting_53 : decode b_Rn_takeFitting 53 = .ok (.if_icmp .ne 9, 3) := by decide +kernel
theorem d_Rn_takeFitting_56 : decode b_Rn_takeFitting 56 = .ok (.iload 4, 2) := by decide +kernel
theorem d_Rn_takeFitting_58 : decode b_Rn_takeFitting 58 = .ok (.istore_n 2, 1) := by decide +kernel
theorem d_Rn_takeFitting_59 : decode b_Rn_takeFitting 59 = .ok (.iload 6, 2) := by decide +kernel
theorem d_Rn_takeFitting_61 : decode b_Rn_takeFitting 61 = .ok (.istore_n 3, 1) := by decide +kernel
theorem d_Rn_takeFitting_62 : decode b_Rn_takeFitting 62 = .ok (.iinc 6 1, 3) := by decide +kernel
theorem d_Rn_takeFitting_65 : decode b_Rn_takeFitting 65 = .ok (.goto (-26), 3) := by decide +kernel
theorem d_Rn_takeFitting_68 : decode b_Rn_takeFitting 68 = .ok (.iinc 4 2, 3) := by decide +kernel
theorem d_Rn_takeFitting_71 : decode b_Rn_takeFitting 71 = .ok (.goto (-63), 3) := by decide +kernel
theorem d_Rn_takeFitting_74 : decode b_Rn_takeFitting 74 = .ok (.iload_n 2, 1) := by decide +kernel
theorem d_Rn_takeFitting_75 : decode b_Rn_takeFitting 75 = .ok (.iconst (-1), 1) := by decide +kernel
theorem d_Rn_takeFitting_76 : decode b_Rn_takeFitting 76 = .ok (.if_icmp .eq 15, 3) := by decide +kernel
theorem d_Rn_takeFitting_79 : decode b_Rn_takeFitting 79 = .ok (.aload_n 0, 1) := by decide +kernel
theorem d_Rn_takeFitting_80 : decode b_Rn_takeFitting 80 = .ok (.getfield 44, 3) := by decide +kernel
theorem d_Rn_takeFitting_83 : decode b_Rn_takeFitting 83 = .ok (.getfield 332, 3) := by decide +kernel
theorem d_Rn_takeFitting_86 : decode b_Rn_takeFitting 86 = .ok (.iconst 0, 1) := by decide +kernel
theorem d_Rn_takeFitting_87 : decode b_Rn_takeFitting 87 = .ok (.iload_n 3, 1) := by decide +kernel
theorem d_Rn_takeFitting_88 : decode b_Rn_takeFitting 88 = .ok (.invokevirtual 335, 3) := by decide +kernel
theorem d_Rn_takeFitting_91 : decode b_Rn_takeFitting 91 = .ok (.iload_n 2, 1) := by decide +kernel
theorem d_Rn_takeFitting_92 : decode b_Rn_takeFitting 92 = .ok (.ireturn, 1) := by decide +kernel
theorem d_Rn_takeFuel_0 : decode b_Rn_takeFuel 0 = .ok (.aload_n 0, 1) := by decide +kernel
theorem d_Rn_takeFuel_1 : decode b_Rn_takeFuel 1 = .ok (.getfield 98, 3) := by decide +kernel
theorem d_Rn_takeFuel_4 : decode b_Rn_takeFuel 4 = .ok (.ifCond .gt 5, 3) := by decide +kernel
theorem d_Rn_takeFuel_7 : decode b_Rn_takeFuel 7 = .ok (.iconst 0, 1) := by decide +kernel
theorem d_Rn_takeFuel_8 : decode b_Rn_takeFuel 8 = .ok (.ireturn, 1) := by decide +kernel
theorem d_Rn_takeFuel_9 : decode b_Rn_takeFuel 9 = .ok (.aload_n 0, 1) := by decide +kernel
theorem d_Rn_takeFuel_10 : decode b_Rn_takeFuel 10 = .ok (.dup, 1) := by decide +kernel
theorem d_Rn_takeFuel_11 : decode b_Rn_takeFuel 11 = .ok (.getfield 98, 3) := by decide +kernel
theorem d_Rn_takeFuel_14 : decode b_Rn_takeFuel 14 = .ok (.iconst 1, 1) := by decide +kernel
theorem d_Rn_takeFuel_15 : decode b_Rn_takeFuel 15 = .ok (.isub, 1) := by decide +kernel
theorem d_Rn_takeFuel_16 : decode b_Rn_takeFuel 16 = .ok (.putfield 98, 3) := by decide +kernel
theorem d_Rn_takeFuel_19 : decode b_Rn_takeFuel 19 = .ok (.iconst 1, 1) := by decide +kernel
theorem d_Rn_takeFuel_20 : decode b_Rn_takeFuel 20 = .ok (.ireturn, 1) := by decide +kernel
theorem d_Rn_waitForPeer_0 : decode b_Rn_waitForPeer 0 = .ok (.aload_n 1, 1) := by decide +kernel
theorem d_Rn_waitForPeer_1 : decode b_Rn_waitForPeer 1 = .ok (.getfield 145, 3) := by decide +kernel
theorem d_Rn_waitForPeer_4 : decode b_Rn_waitForPeer 4 = .ok (.iconst 1, 1) := by decide +kernel
theorem d_Rn_waitForPeer_5 : decode b_Rn_waitForPeer 5 = .ok (.invokevirtual 297, 3) := by decide +kernel
theorem d_Rn_waitForPeer_8 : decode b_Rn_waitForPeer 8 = .ok (.istore_n 3, 1) := by decide +kernel
theorem d_Rn_waitForPeer_9 : decode b_Rn_waitForPeer 9 = .ok (.iconst 0, 1) := by decide +kernel
theorem d_Rn_waitForPeer_10 : decode b_Rn_waitForPeer 10 = .ok (.istore 4, 2) := by decide +kernel
theorem d_Rn_waitForPeer_12 : decode b_Rn_waitForPeer 12 = .ok (.iload 4, 2) := by decide +kernel
theorem d_Rn_waitForPeer_14 : decode b_Rn_waitForPeer 14 = .ok (.bipush 100, 2) := by decide +kernel
theorem d_Rn_waitForPeer_16 : decode b_Rn_waitForPeer 16 = .ok (.if_icmp .gt 71, 3) := by decide +kernel
theorem d_Rn_waitForPeer_19 : decode b_Rn_waitForPeer 19 = .ok (.aload_n 0, 1) := by decide +kernel
theorem d_Rn_waitForPeer_20 : decode b_Rn_waitForPeer 20 = .ok (.aload_n 1, 1) := by decide +kernel
theorem d_Rn_waitForPeer_21 : decode b_Rn_waitForPeer 21 = .ok (.invokevirtual 326, 3) := by decide +kernel
theorem d_Rn_waitForPeer_24 : decode b_Rn_waitForPeer 24 = .ok (.istore 5, 2) := by decide +kernel
theorem d_Rn_waitForPeer_26 : decode b_Rn_waitForPeer 26 = .ok (.iload 5, 2) := by decide +kernel
theorem d_Rn_waitForPeer_28 : decode b_Rn_waitForPeer 28 = .ok (.iconst (-1), 1) := by decide +kernel
theorem d_Rn_waitForPeer_29 : decode b_Rn_waitForPeer 29 = .ok (.if_icmp .eq 14, 3) := by decide +kernel
theorem d_Rn_waitForPeer_32 : decode b_Rn_waitForPeer 32 = .ok (.aload_n 0, 1) := by decide +kernel
theorem d_Rn_waitForPeer_33 : decode b_Rn_waitForPeer 33 = .ok (.aload_n 1, 1) := by decide +kernel
theorem d_Rn_waitForPeer_34 : decode b_Rn_waitForPeer 34 = .ok (.iload 5, 2) := by decide +kernel
theorem d_Rn_waitForPeer_36 : decode b_Rn_waitForPeer 36 = .ok (.iconst 1, 1) := by decide +kernel
theorem d_Rn_waitForPeer_37 : decode b_Rn_waitForPeer 37 = .ok (.iadd, 1) := by decide +kernel
theorem d_Rn_waitForPeer_38 : decode b_Rn_waitForPeer 38 = .ok (.iload_n 2, 1) := by decide +kernel
theorem d_Rn_waitForPeer_39 : decode b_Rn_waitForPeer 39 = .ok (.invokevirtual 307, 3) := by decide +kernel
theorem d_Rn_waitForPeer_42 : decode b_Rn_waitForPeer 42 = .ok (.ireturn, 1) := by decide +kernel
theorem d_Rn_waitForPeer_43 : decode b_Rn_waitForPeer 43 = .ok (.iload 4, 2) := by decide +kernel
theorem d_Rn_waitForPeer_45 : decode b_Rn_waitForPeer 45 = .ok (.iload_n 3, 1) := by decide +kernel
theorem d_Rn_waitForPeer_46 : decode b_Rn_waitForPeer 46 = .ok (.if_icmp .lt 16, 3) := by decide +kernel
theorem d_Rn_waitForPeer_49 : decode b_Rn_waitForPeer 49 = .ok (.aload_n 0, 1) := by decide +kernel
theorem d_Rn_waitForPeer_50 : decode b_Rn_waitForPeer 50 = .ok (.getfield 36, 3) := by decide +kernel
theorem d_Rn_waitForPeer_53 : decode b_Rn_waitForPeer 53 = .ok (.iconst 0, 1) := by decide +kernel
theorem d_Rn_waitForPeer_54 : decode b_Rn_waitForPeer 54 = .ok (.bipush 84, 2) := by decide +kernel
theorem d_Rn_waitForPeer_56 : decode b_Rn_waitForPeer 56 = .ok (.invokevirtual 94, 3) := by decide +kernel
theorem d_Rn_waitForPeer_59 : decode b_Rn_waitForPeer 59 = .ok (.pop, 1) := by decide +kernel
theorem d_Rn_waitForPeer_60 : decode b_Rn_waitForPeer 60 = .ok (.iconst 0, 1) := by decide +kernel
theorem d_Rn_waitForPeer_61 : decode b_Rn_waitForPeer 61 = .ok (.ireturn, 1) := by decide +kernel
theorem d_Rn_waitForPeer_62 : decode b_Rn_waitForPeer 62 = .ok (.aload_n 0, 1) := by decide +kernel
theorem d_Rn_waitForPeer_63 : decode b_Rn_waitForPeer 63 = .ok (.invokevirtual 163, 3) := by decide +kernel
theorem d_Rn_waitForPeer_66 : decode b_Rn_waitForPeer 66 = .ok (.ifCond .ne 8, 3) := by decide +kernel
theorem d_Rn_waitForPeer_69 : decode b_Rn_waitForPeer 69 = .ok (.aload_n 0, 1) := by decide +kernel
theorem d_Rn_waitForPeer_70 : decode b_Rn_waitForPeer 70 = .ok (.invokevirtual 167, 3) := by decide +kernel
theorem d_Rn_waitForPeer_73 : decode b_Rn_waitForPeer 73 = .ok (.ireturn, 1) := by decide +kernel
theorem d_Rn_waitForPeer_74 : decode b_Rn_waitForPeer 74 = .ok (.aload_n 0, 1) := by decide +kernel
theorem d_Rn_waitForPeer_75 : decode b_Rn_waitForPeer 75 = .ok (.getfield 44, 3) := by decide +kernel
theorem d_Rn_waitForPeer_78 : decode b_Rn_waitForPeer 78 = .ok (.invokevirtual 329, 3) := by decide +kernel
theorem d_Rn_waitForPeer_81 : decode b_Rn_waitForPeer 81 = .ok (.iinc 4 1, 3) := by decide +kernel
theorem d_Rn_waitForPeer_84 : decode b_Rn_waitForPeer 84 = .ok (.goto (-72), 3) := by decide +kernel
theorem d_Rn_waitForPeer_87 : decode b_Rn_waitForPeer 87 = .ok (.aload_n 0, 1) := by decide +kernel
theorem d_Rn_waitForPeer_88 : decode b_Rn_waitForPeer 88 = .ok (.invokevirtual 167, 3) := by decide +kernel
theorem d_Rn_waitForPeer_91 : decode b_Rn_waitForPeer 91 = .ok (.ireturn, 1) := by decide +kernel
