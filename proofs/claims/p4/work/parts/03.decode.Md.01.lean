/-! decode rows; written by wip/gen/names.py -/
theorem d_Md_between_138 : decode b_Md_between 138 = .ok (.if_icmp .ge 29, 3) := by decide +kernel
theorem d_Md_between_141 : decode b_Md_between 141 = .ok (.aload_n 0, 1) := by decide +kernel
theorem d_Md_between_142 : decode b_Md_between 142 = .ok (.getfield 76, 3) := by decide +kernel
theorem d_Md_between_145 : decode b_Md_between 145 = .ok (.iload_n 2, 1) := by decide +kernel
theorem d_Md_between_146 : decode b_Md_between 146 = .ok (.aload_n 0, 1) := by decide +kernel
theorem d_Md_between_147 : decode b_Md_between 147 = .ok (.getfield 61, 3) := by decide +kernel
theorem d_Md_between_150 : decode b_Md_between 150 = .ok (.bipush 20, 2) := by decide +kernel
theorem d_Md_between_152 : decode b_Md_between 152 = .ok (.aload_n 0, 1) := by decide +kernel
theorem d_Md_between_153 : decode b_Md_between 153 = .ok (.getfield 36, 3) := by decide +kernel
theorem d_Md_between_156 : decode b_Md_between 156 = .ok (.imul, 1) := by decide +kernel
theorem d_Md_between_157 : decode b_Md_between 157 = .ok (.iload_n 2, 1) := by decide +kernel
theorem d_Md_between_158 : decode b_Md_between 158 = .ok (.iadd, 1) := by decide +kernel
theorem d_Md_between_159 : decode b_Md_between 159 = .ok (.caload, 1) := by decide +kernel
theorem d_Md_between_160 : decode b_Md_between 160 = .ok (.castore, 1) := by decide +kernel
theorem d_Md_between_161 : decode b_Md_between 161 = .ok (.iinc 2 1, 3) := by decide +kernel
theorem d_Md_between_164 : decode b_Md_between 164 = .ok (.goto (-31), 3) := by decide +kernel
theorem d_Md_between_167 : decode b_Md_between 167 = .ok (.aload_n 0, 1) := by decide +kernel
theorem d_Md_between_168 : decode b_Md_between 168 = .ok (.iconst 2, 1) := by decide +kernel
theorem d_Md_between_169 : decode b_Md_between 169 = .ok (.putfield 152, 3) := by decide +kernel
theorem d_Md_between_172 : decode b_Md_between 172 = .ok (.goto 16, 3) := by decide +kernel
theorem d_Md_between_175 : decode b_Md_between 175 = .ok (.aload_n 0, 1) := by decide +kernel
theorem d_Md_between_176 : decode b_Md_between 176 = .ok (.getfield 40, 3) := by decide +kernel
theorem d_Md_between_179 : decode b_Md_between 179 = .ok (.aload_n 0, 1) := by decide +kernel
theorem d_Md_between_180 : decode b_Md_between 180 = .ok (.getfield 36, 3) := by decide +kernel
theorem d_Md_between_183 : decode b_Md_between 183 = .ok (.dup2, 1) := by decide +kernel
theorem d_Md_between_184 : decode b_Md_between 184 = .ok (.iaload, 1) := by decide +kernel
theorem d_Md_between_185 : decode b_Md_between 185 = .ok (.iconst 1, 1) := by decide +kernel
theorem d_Md_between_186 : decode b_Md_between 186 = .ok (.iadd, 1) := by decide +kernel
theorem d_Md_between_187 : decode b_Md_between 187 = .ok (.iastore, 1) := by decide +kernel
theorem d_Md_between_188 : decode b_Md_between 188 = .ok (.return_, 1) := by decide +kernel
theorem d_Md_buffered_0 : decode b_Md_buffered 0 = .ok (.aload_n 0, 1) := by decide +kernel
theorem d_Md_buffered_1 : decode b_Md_buffered 1 = .ok (.getfield 132, 3) := by decide +kernel
theorem d_Md_buffered_4 : decode b_Md_buffered 4 = .ok (.ireturn, 1) := by decide +kernel
theorem d_Md_call_0 : decode b_Md_call 0 = .ok (.aload_n 0, 1) := by decide +kernel
theorem d_Md_call_1 : decode b_Md_call 1 = .ok (.iconst 1, 1) := by decide +kernel
theorem d_Md_call_2 : decode b_Md_call 2 = .ok (.invokevirtual 302, 3) := by decide +kernel
theorem d_Md_call_5 : decode b_Md_call 5 = .ok (.aload_n 0, 1) := by decide +kernel
theorem d_Md_call_6 : decode b_Md_call 6 = .ok (.aload_n 0, 1) := by decide +kernel
theorem d_Md_call_7 : decode b_Md_call 7 = .ok (.getfield 27, 3) := by decide +kernel
theorem d_Md_call_10 : decode b_Md_call 10 = .ok (.iload_n 1, 1) := by decide +kernel
theorem d_Md_call_11 : decode b_Md_call 11 = .ok (.iaload, 1) := by decide +kernel
theorem d_Md_call_12 : decode b_Md_call 12 = .ok (.aload_n 0, 1) := by decide +kernel
theorem d_Md_call_13 : decode b_Md_call 13 = .ok (.getfield 30, 3) := by decide +kernel
theorem d_Md_call_16 : decode b_Md_call 16 = .ok (.iload_n 1, 1) := by decide +kernel
theorem d_Md_call_17 : decode b_Md_call 17 = .ok (.iaload, 1) := by decide +kernel
theorem d_Md_call_18 : decode b_Md_call 18 = .ok (.iconst 4, 1) := by decide +kernel
theorem d_Md_call_19 : decode b_Md_call 19 = .ok (.invokevirtual 173, 3) := by decide +kernel
theorem d_Md_call_22 : decode b_Md_call 22 = .ok (.ifCond .ne 4, 3) := by decide +kernel
theorem d_Md_call_25 : decode b_Md_call 25 = .ok (.return_, 1) := by decide +kernel
theorem d_Md_call_26 : decode b_Md_call 26 = .ok (.aload_n 0, 1) := by decide +kernel
theorem d_Md_call_27 : decode b_Md_call 27 = .ok (.getfield 49, 3) := by decide +kernel
theorem d_Md_call_30 : decode b_Md_call 30 = .ok (.aload_n 0, 1) := by decide +kernel
theorem d_Md_call_31 : decode b_Md_call 31 = .ok (.getfield 36, 3) := by decide +kernel
theorem d_Md_call_34 : decode b_Md_call 34 = .ok (.aload_n 0, 1) := by decide +kernel
theorem d_Md_call_35 : decode b_Md_call 35 = .ok (.getfield 36, 3) := by decide +kernel
theorem d_Md_call_38 : decode b_Md_call 38 = .ok (.iastore, 1) := by decide +kernel
theorem d_Md_call_39 : decode b_Md_call 39 = .ok (.iconst 0, 1) := by decide +kernel
theorem d_Md_call_40 : decode b_Md_call 40 = .ok (.istore_n 2, 1) := by decide +kernel
theorem d_Md_call_41 : decode b_Md_call 41 = .ok (.iload_n 2, 1) := by decide +kernel
theorem d_Md_call_42 : decode b_Md_call 42 = .ok (.bipush 26, 2) := by decide +kernel
theorem d_Md_call_44 : decode b_Md_call 44 = .ok (.if_icmp .ge 39, 3) := by decide +kernel
theorem d_Md_call_47 : decode b_Md_call 47 = .ok (.aload_n 0, 1) := by decide +kernel
theorem d_Md_call_48 : decode b_Md_call 48 = .ok (.getfield 13, 3) := by decide +kernel
theorem d_Md_call_51 : decode b_Md_call 51 = .ok (.bipush 26, 2) := by decide +kernel
theorem d_Md_call_53 : decode b_Md_call 53 = .ok (.aload_n 0, 1) := by decide +kernel
theorem d_Md_call_54 : decode b_Md_call 54 = .ok (.getfield 36, 3) := by decide +kernel
theorem d_Md_call_57 : decode b_Md_call 57 = .ok (.imul, 1) := by decide +kernel
theorem d_Md_call_58 : decode b_Md_call 58 = .ok (.iload_n 2, 1) := by decide +kernel
theorem d_Md_call_59 : decode b_Md_call 59 = .ok (.iadd, 1) := by decide +kernel
theorem d_Md_call_60 : decode b_Md_call 60 = .ok (.iconst (-1), 1) := by decide +kernel
theorem d_Md_call_61 : decode b_Md_call 61 = .ok (.iastore, 1) := by decide +kernel
theorem d_Md_call_62 : decode b_Md_call 62 = .ok (.aload_n 0, 1) := by decide +kernel
theorem d_Md_call_63 : decode b_Md_call 63 = .ok (.getfield 20, 3) := by decide +kernel
theorem d_Md_call_66 : decode b_Md_call 66 = .ok (.bipush 26, 2) := by decide +kernel
theorem d_Md_call_68 : decode b_Md_call 68 = .ok (.aload_n 0, 1) := by decide +kernel
theorem d_Md_call_69 : decode b_Md_call 69 = .ok (.getfield 36, 3) := by decide +kernel
theorem d_Md_call_72 : decode b_Md_call 72 = .ok (.imul, 1) := by decide +kernel
theorem d_Md_call_73 : decode b_Md_call 73 = .ok (.iload_n 2, 1) := by decide +kernel
theorem d_Md_call_74 : decode b_Md_call 74 = .ok (.iadd, 1) := by decide +kernel
theorem d_Md_call_75 : decode b_Md_call 75 = .ok (.iconst 0, 1) := by decide +kernel
theorem d_Md_call_76 : decode b_Md_call 76 = .ok (.bastore, 1) := by decide +kernel
theorem d_Md_call_77 : decode b_Md_call 77 = .ok (.iinc 2 1, 3) := by decide +kernel
theorem d_Md_call_80 : decode b_Md_call 80 = .ok (.goto (-39), 3) := by decide +kernel
theorem d_Md_call_83 : decode b_Md_call 83 = .ok (.aload_n 0, 1) := by decide +kernel
theorem d_Md_call_84 : decode b_Md_call 84 = .ok (.bipush 26, 2) := by decide +kernel
theorem d_Md_call_86 : decode b_Md_call 86 = .ok (.aload_n 0, 1) := by decide +kernel
theorem d_Md_call_87 : decode b_Md_call 87 = .ok (.getfield 36, 3) := by decide +kernel
theorem d_Md_call_90 : decode b_Md_call 90 = .ok (.imul, 1) := by decide +kernel
theorem d_Md_call_91 : decode b_Md_call 91 = .ok (.aload_n 0, 1) := by decide +kernel
theorem d_Md_call_92 : decode b_Md_call 92 = .ok (.getfield 33, 3) := by decide +kernel
theorem d_Md_call_95 : decode b_Md_call 95 = .ok (.iload_n 1, 1) := by decide +kernel
theorem d_Md_call_96 : decode b_Md_call 96 = .ok (.iaload, 1) := by decide +kernel
theorem d_Md_call_97 : decode b_Md_call 97 = .ok (.iadd, 1) := by decide +kernel
theorem d_Md_call_98 : decode b_Md_call 98 = .ok (.invokevirtual 223, 3) := by decide +kernel
theorem d_Md_call_101 : decode b_Md_call 101 = .ok (.return_, 1) := by decide +kernel
theorem d_Md_caught_0 : decode b_Md_caught 0 = .ok (.aload_n 0, 1) := by decide +kernel
theorem d_Md_caught_1 : decode b_Md_caught 1 = .ok (.getfield 55, 3) := by decide +kernel
theorem d_Md_caught_4 : decode b_Md_caught 4 = .ok (.aload_n 0, 1) := by decide +kernel
theorem d_Md_caught_5 : decode b_Md_caught 5 = .ok (.getfield 36, 3) := by decide +kernel
theorem d_Md_caught_8 : decode b_Md_caught 8 = .ok (.iaload, 1) := by decide +kernel
theorem d_Md_caught_9 : decode b_Md_caught 9 = .ok (.iconst 3, 1) := by decide +kernel
theorem d_Md_caught_10 : decode b_Md_caught 10 = .ok (.if_icmp .ne 18, 3) := by decide +kernel
theorem d_Md_caught_13 : decode b_Md_caught 13 = .ok (.aload_n 0, 1) := by decide +kernel
theorem d_Md_caught_14 : decode b_Md_caught 14 = .ok (.aload_n 0, 1) := by decide +kernel
theorem d_Md_caught_15 : decode b_Md_caught 15 = .ok (.aload_n 0, 1) := by decide +kernel
theorem d_Md_caught_16 : decode b_Md_caught 16 = .ok (.iconst 2, 1) := by decide +kernel
theorem d_Md_caught_17 : decode b_Md_caught 17 = .ok (.bipush 97, 2) := by decide +kernel
theorem d_Md_caught_19 : decode b_Md_caught 19 = .ok (.invokevirtual 219, 3) := by decide +kernel
theorem d_Md_caught_22 : decode b_Md_caught 22 = .ok (.invokevirtual 213, 3) := by decide +kernel
theorem d_Md_caught_25 : decode b_Md_caught 25 = .ok (.invokevirtual 223, 3) := by decide +kernel
theorem d_Md_caught_28 : decode b_Md_caught 28 = .ok (.aload_n 0, 1) := by decide +kernel
theorem d_Md_caught_29 : decode b_Md_caught 29 = .ok (.aload_n 0, 1) := by decide +kernel
theorem d_Md_caught_30 : decode b_Md_caught 30 = .ok (.getfield 149, 3) := by decide +kernel
theorem d_Md_caught_33 : decode b_Md_caught 33 = .ok (.invokevirtual 226, 3) := by decide +kernel
theorem d_Md_caught_36 : decode b_Md_caught 36 = .ok (.aload_n 0, 1) := by decide +kernel
theorem d_Md_caught_37 : decode b_Md_caught 37 = .ok (.iconst 0, 1) := by decide +kernel
theorem d_Md_caught_38 : decode b_Md_caught 38 = .ok (.putfield 149, 3) := by decide +kernel
theorem d_Md_caught_41 : decode b_Md_caught 41 = .ok (.return_, 1) := by decide +kernel
theorem d_Md_charOf_0 : decode b_Md_charOf 0 = .ok (.aload_n 0, 1) := by decide +kernel
theorem d_Md_charOf_1 : decode b_Md_charOf 1 = .ok (.iload_n 1, 1) := by decide +kernel
theorem d_Md_charOf_2 : decode b_Md_charOf 2 = .ok (.invokevirtual 155, 3) := by decide +kernel
theorem d_Md_charOf_5 : decode b_Md_charOf 5 = .ok (.istore_n 3, 1) := by decide +kernel
theorem d_Md_charOf_6 : decode b_Md_charOf 6 = .ok (.aload_n 0, 1) := by decide +kernel
theorem d_Md_charOf_7 : decode b_Md_charOf 7 = .ok (.getfield 64, 3) := by decide +kernel
theorem d_Md_charOf_10 : decode b_Md_charOf 10 = .ok (.iload_n 3, 1) := by decide +kernel
theorem d_Md_charOf_11 : decode b_Md_charOf 11 = .ok (.baload, 1) := by decide +kernel
theorem d_Md_charOf_12 : decode b_Md_charOf 12 = .ok (.ifCond .eq 19, 3) := by decide +kernel
theorem d_Md_charOf_15 : decode b_Md_charOf 15 = .ok (.aload_n 0, 1) := by decide +kernel
theorem d_Md_charOf_16 : decode b_Md_charOf 16 = .ok (.getfield 7, 3) := by decide +kernel
theorem d_Md_charOf_19 : decode b_Md_charOf 19 = .ok (.aload_n 0, 1) := by decide +kernel
theorem d_Md_charOf_20 : decode b_Md_charOf 20 = .ok (.getfield 67, 3) := by decide +kernel
theorem d_Md_charOf_23 : decode b_Md_charOf 23 = .ok (.iload_n 3, 1) := by decide +kernel
theorem d_Md_charOf_24 : decode b_Md_charOf 24 = .ok (.iaload, 1) := by decide +kernel
theorem d_Md_charOf_25 : decode b_Md_charOf 25 = .ok (.iload_n 2, 1) := by decide +kernel
theorem d_Md_charOf_26 : decode b_Md_charOf 26 = .ok (.iadd, 1) := by decide +kernel
theorem d_Md_charOf_27 : decode b_Md_charOf 27 = .ok (.caload, 1) := by decide +kernel
theorem d_Md_charOf_28 : decode b_Md_charOf 28 = .ok (.goto 14, 3) := by decide +kernel
theorem d_Md_charOf_31 : decode b_Md_charOf 31 = .ok (.aload_n 0, 1) := by decide +kernel
theorem d_Md_charOf_32 : decode b_Md_charOf 32 = .ok (.getfield 73, 3) := by decide +kernel
theorem d_Md_charOf_35 : decode b_Md_charOf 35 = .ok (.bipush 20, 2) := by decide +kernel
theorem d_Md_charOf_37 : decode b_Md_charOf 37 = .ok (.iload_n 3, 1) := by decide +kernel
theorem d_Md_charOf_38 : decode b_Md_charOf 38 = .ok (.imul, 1) := by decide +kernel
theorem d_Md_charOf_39 : decode b_Md_charOf 39 = .ok (.iload_n 2, 1) := by decide +kernel
theorem d_Md_charOf_40 : decode b_Md_charOf 40 = .ok (.iadd, 1) := by decide +kernel
theorem d_Md_charOf_41 : decode b_Md_charOf 41 = .ok (.caload, 1) := by decide +kernel
theorem d_Md_charOf_42 : decode b_Md_charOf 42 = .ok (.ireturn, 1) := by decide +kernel
theorem d_Md_choose_0 : decode b_Md_choose 0 = .ok (.aload_n 0, 1) := by decide +kernel
theorem d_Md_choose_1 : decode b_Md_choose 1 = .ok (.iconst 1, 1) := by decide +kernel
theorem d_Md_choose_2 : decode b_Md_choose 2 = .ok (.invokevirtual 322, 3) := by decide +kernel
theorem d_Md_choose_5 : decode b_Md_choose 5 = .ok (.istore_n 1, 1) := by decide +kernel
theorem d_Md_choose_6 : decode b_Md_choose 6 = .ok (.aload_n 0, 1) := by decide +kernel
theorem d_Md_choose_7 : decode b_Md_choose 7 = .ok (.getfield 152, 3) := by decide +kernel
theorem d_Md_choose_10 : decode b_Md_choose 10 = .ok (.iconst 1, 1) := by decide +kernel
theorem d_Md_choose_11 : decode b_Md_choose 11 = .ok (.if_icmp .ne 4, 3) := by decide +kernel
theorem d_Md_choose_14 : decode b_Md_choose 14 = .ok (.return_, 1) := by decide +kernel
theorem d_Md_choose_15 : decode b_Md_choose 15 = .ok (.iload_n 1, 1) := by decide +kernel
theorem d_Md_choose_16 : decode b_Md_choose 16 = .ok (.ifCond .eq 13, 3) := by decide +kernel
theorem d_Md_choose_19 : decode b_Md_choose 19 = .ok (.aload_n 0, 1) := by decide +kernel
theorem d_Md_choose_20 : decode b_Md_choose 20 = .ok (.iconst 2, 1) := by decide +kernel
theorem d_Md_choose_21 : decode b_Md_choose 21 = .ok (.iconst 2, 1) := by decide +kernel
theorem d_Md_choose_22 : decode b_Md_choose 22 = .ok (.invokevirtual 284, 3) := by decide +kernel
theorem d_Md_choose_25 : decode b_Md_choose 25 = .ok (.pop, 1) := by decide +kernel
theorem d_Md_choose_26 : decode b_Md_choose 26 = .ok (.goto 35, 3) := by decide +kernel
theorem d_Md_choose_29 : decode b_Md_choose 29 = .ok (.aload_n 0, 1) := by decide +kernel
theorem d_Md_choose_30 : decode b_Md_choose 30 = .ok (.getfield 55, 3) := by decide +kernel
theorem d_Md_choose_33 : decode b_Md_choose 33 = .ok (.aload_n 0, 1) := by decide +kernel
theorem d_Md_choose_34 : decode b_Md_choose 34 = .ok (.getfield 36, 3) := by decide +kernel
theorem d_Md_choose_37 : decode b_Md_choose 37 = .ok (.iaload, 1) := by decide +kernel
theorem d_Md_choose_38 : decode b_Md_choose 38 = .ok (.iconst 4, 1) := by decide +kernel
theorem d_Md_choose_39 : decode b_Md_choose 39 = .ok (.if_icmp .ne 13, 3) := by decide +kernel
theorem d_Md_choose_42 : decode b_Md_choose 42 = .ok (.aload_n 0, 1) := by decide +kernel
theorem d_Md_choose_43 : decode b_Md_choose 43 = .ok (.iconst 3, 1) := by decide +kernel
theorem d_Md_choose_44 : decode b_Md_choose 44 = .ok (.iconst 2, 1) := by decide +kernel
theorem d_Md_choose_45 : decode b_Md_choose 45 = .ok (.invokevirtual 284, 3) := by decide +kernel
theorem d_Md_choose_48 : decode b_Md_choose 48 = .ok (.pop, 1) := by decide +kernel
theorem d_Md_choose_49 : decode b_Md_choose 49 = .ok (.goto 12, 3) := by decide +kernel
theorem d_Md_choose_52 : decode b_Md_choose 52 = .ok (.aload_n 0, 1) := by decide +kernel
theorem d_Md_choose_53 : decode b_Md_choose 53 = .ok (.invokevirtual 138, 3) := by decide +kernel
theorem d_Md_choose_56 : decode b_Md_choose 56 = .ok (.aload_n 0, 1) := by decide +kernel
theorem d_Md_choose_57 : decode b_Md_choose 57 = .ok (.iconst 0, 1) := by decide +kernel
theorem d_Md_choose_58 : decode b_Md_choose 58 = .ok (.invokevirtual 235, 3) := by decide +kernel
theorem d_Md_choose_61 : decode b_Md_choose 61 = .ok (.return_, 1) := by decide +kernel
theorem d_Md_closes_0 : decode b_Md_closes 0 = .ok (.aload_n 0, 1) := by decide +kernel
theorem d_Md_closes_1 : decode b_Md_closes 1 = .ok (.invokevirtual 176, 3) := by decide +kernel
theorem d_Md_closes_4 : decode b_Md_closes 4 = .ok (.ifCond .ne 43, 3) := by decide +kernel
theorem d_Md_closes_7 : decode b_Md_closes 7 = .ok (.aload_n 0, 1) := by decide +kernel
theorem d_Md_closes_8 : decode b_Md_closes 8 = .ok (.invokevirtual 180, 3) := by decide +kernel
theorem d_Md_closes_11 : decode b_Md_closes 11 = .ok (.bipush 10, 2) := by decide +kernel
theorem d_Md_closes_13 : decode b_Md_closes 13 = .ok (.if_icmp .eq 34, 3) := by decide +kernel
theorem d_Md_closes_16 : decode b_Md_closes 16 = .ok (.aload_n 0, 1) := by decide +kernel
theorem d_Md_closes_17 : decode b_Md_closes 17 = .ok (.invokevirtual 180, 3) := by decide +kernel
theorem d_Md_closes_20 : decode b_Md_closes 20 = .ok (.bipush 59, 2) := by decide +kernel
theorem d_Md_closes_22 : decode b_Md_closes 22 = .ok (.if_icmp .eq 25, 3) := by decide +kernel
theorem d_Md_closes_25 : decode b_Md_closes 25 = .ok (.aload_n 0, 1) := by decide +kernel
theorem d_Md_closes_26 : decode b_Md_closes 26 = .ok (.getfield 46, 3) := by decide +kernel
theorem d_Md_closes_29 : decode b_Md_closes 29 = .ok (.aload_n 0, 1) := by decide +kernel
theorem d_Md_closes_30 : decode b_Md_closes 30 = .ok (.getfield 36, 3) := by decide +kernel
theorem d_Md_closes_33 : decode b_Md_closes 33 = .ok (.iaload, 1) := by decide +kernel
theorem d_Md_closes_34 : decode b_Md_closes 34 = .ok (.iconst 1, 1) := by decide +kernel
theorem d_Md_closes_35 : decode b_Md_closes 35 = .ok (.if_icmp .ne 16, 3) := by decide +kernel
theorem d_Md_closes_38 : decode b_Md_closes 38 = .ok (.aload_n 0, 1) := by decide +kernel
theorem d_Md_closes_39 : decode b_Md_closes 39 = .ok (.invokevirtual 180, 3) := by decide +kernel
theorem d_Md_closes_42 : decode b_Md_closes 42 = .ok (.bipush 93, 2) := by decide +kernel
theorem d_Md_closes_44 : decode b_Md_closes 44 = .ok (.if_icmp .ne 7, 3) := by decide +kernel
theorem d_Md_closes_47 : decode b_Md_closes 47 = .ok (.iconst 1, 1) := by decide +kernel
theorem d_Md_closes_48 : decode b_Md_closes 48 = .ok (.goto 4, 3) := by decide +kernel
theorem d_Md_closes_51 : decode b_Md_closes 51 = .ok (.iconst 0, 1) := by decide +kernel
theorem d_Md_closes_52 : decode b_Md_closes 52 = .ok (.ireturn, 1) := by decide +kernel
theorem d_Md_command_0 : decode b_Md_command 0 = .ok (.aload_n 0, 1) := by decide +kernel
theorem d_Md_command_1 : decode b_Md_command 1 = .ok (.invokevirtual 246, 3) := by decide +kernel
theorem d_Md_command_4 : decode b_Md_command 4 = .ok (.ifCond .ne 4, 3) := by decide +kernel
theorem d_Md_command_7 : decode b_Md_command 7 = .ok (.return_, 1) := by decide +kernel
theorem d_Md_command_8 : decode b_Md_command 8 = .ok (.aload_n 0, 1) := by decide +kernel
theorem d_Md_command_9 : decode b_Md_command 9 = .ok (.iconst 0, 1) := by decide +kernel
theorem d_Md_command_10 : decode b_Md_command 10 = .ok (.invokevirtual 159, 3) := by decide +kernel
theorem d_Md_command_13 : decode b_Md_command 13 = .ok (.iconst 1, 1) := by decide +kernel
theorem d_Md_command_14 : decode b_Md_command 14 = .ok (.if_icmp .ne 12, 3) := by decide +kernel
theorem d_Md_command_17 : decode b_Md_command 17 = .ok (.aload_n 0, 1) := by decide +kernel
theorem d_Md_command_18 : decode b_Md_command 18 = .ok (.iconst 0, 1) := by decide +kernel
theorem d_Md_command_19 : decode b_Md_command 19 = .ok (.iconst 0, 1) := by decide +kernel
theorem d_Md_command_20 : decode b_Md_command 20 = .ok (.invokevirtual 162, 3) := by decide +kernel
theorem d_Md_command_23 : decode b_Md_command 23 = .ok (.goto 4, 3) := by decide +kernel
theorem d_Md_command_26 : decode b_Md_command 26 = .ok (.iconst 0, 1) := by decide +kernel
theorem d_Md_command_27 : decode b_Md_command 27 = .ok (.istore_n 1, 1) := by decide +kernel
theorem d_Md_command_28 : decode b_Md_command 28 = .ok (.aload_n 0, 1) := by decide +kernel
theorem d_Md_command_29 : decode b_Md_command 29 = .ok (.invokevirtual 138, 3) := by decide +kernel
theorem d_Md_command_32 : decode b_Md_command 32 = .ok (.iload_n 1, 1) := by decide +kernel
theorem d_Md_command_33 : decode b_Md_command 33 = .ok (.lookupswitch 605 #[(42, 335), (60, 591), (62, 562), (63, 306), (98, 496), (99, 513), (101, 219), (103, 400), (105, 179), (107, 530), (108, 248), (109, 277), (112, 364), (114, 436), (115, 139), (120, 466)], 139) := by decide +kernel
theorem d_Md_command_172 : decode b_Md_command 172 = .ok (.aload_n 0, 1) := by decide +kernel
theorem d_Md_command_173 : decode b_Md_command 173 = .ok (.iconst 1, 1) := by decide +kernel
theorem d_Md_command_174 : decode b_Md_command 174 = .ok (.iconst 2, 1) := by decide +kernel
theorem d_Md_command_175 : decode b_Md_command 175 = .ok (.invokevirtual 249, 3) := by decide +kernel
theorem d_Md_command_178 : decode b_Md_command 178 = .ok (.ifCond .eq 465, 3) := by decide +kernel
theorem d_Md_command_181 : decode b_Md_command 181 = .ok (.aload_n 0, 1) := by decide +kernel
theorem d_Md_command_182 : decode b_Md_command 182 = .ok (.bipush 118, 2) := by decide +kernel
theorem d_Md_command_184 : decode b_Md_command 184 = .ok (.bipush 120, 2) := by decide +kernel
theorem d_Md_command_186 : decode b_Md_command 186 = .ok (.bipush 32, 2) := by decide +kernel
theorem d_Md_command_188 : decode b_Md_command 188 = .ok (.invokevirtual 253, 3) := by decide +kernel
theorem d_Md_command_191 : decode b_Md_command 191 = .ok (.ifCond .eq 452, 3) := by decide +kernel
theorem d_Md_command_194 : decode b_Md_command 194 = .ok (.aload_n 0, 1) := by decide +kernel
theorem d_Md_command_195 : decode b_Md_command 195 = .ok (.aload_n 0, 1) := by decide +kernel
theorem d_Md_command_196 : decode b_Md_command 196 = .ok (.aload_n 0, 1) := by decide +kernel
theorem d_Md_command_197 : decode b_Md_command 197 = .ok (.iconst 1, 1) := by decide +kernel
theorem d_Md_command_198 : decode b_Md_command 198 = .ok (.bipush 97, 2) := by decide +kernel
theorem d_Md_command_200 : decode b_Md_command 200 = .ok (.invokevirtual 219, 3) := by decide +kernel
theorem d_Md_command_203 : decode b_Md_command 203 = .ok (.invokevirtual 213, 3) := by decide +kernel
theorem d_Md_command_206 : decode b_Md_command 206 = .ok (.invokevirtual 257, 3) := by decide +kernel
theorem d_Md_command_209 : decode b_Md_command 209 = .ok (.goto 434, 3) := by decide +kernel
theorem d_Md_command_212 : decode b_Md_command 212 = .ok (.aload_n 0, 1) := by decide +kernel
theorem d_Md_command_213 : decode b_Md_command 213 = .ok (.iconst 1, 1) := by decide +kernel
theorem d_Md_command_214 : decode b_Md_command 214 = .ok (.iconst 2, 1) := by decide +kernel
theorem d_Md_command_215 : decode b_Md_command 215 = .ok (.invokevirtual 249, 3) := by decide +kernel
theorem d_Md_command_218 : decode b_Md_command 218 = .ok (.ifCond .eq 425, 3) := by decide +kernel
theorem d_Md_command_221 : decode b_Md_command 221 = .ok (.aload_n 0, 1) := by decide +kernel
theorem d_Md_command_222 : decode b_Md_command 222 = .ok (.bipush 118, 2) := by decide +kernel
theorem d_Md_command_224 : decode b_Md_command 224 = .ok (.bipush 110, 2) := by decide +kernel
theorem d_Md_command_226 : decode b_Md_command 226 = .ok (.bipush 32, 2) := by decide +kernel
theorem d_Md_command_228 : decode b_Md_command 228 = .ok (.invokevirtual 253, 3) := by decide +kernel
theorem d_Md_command_231 : decode b_Md_command 231 = .ok (.ifCond .eq 412, 3) := by decide +kernel
theorem d_Md_command_234 : decode b_Md_command 234 = .ok (.aload_n 0, 1) := by decide +kernel
theorem d_Md_command_235 : decode b_Md_command 235 = .ok (.aload_n 0, 1) := by decide +kernel
theorem d_Md_command_236 : decode b_Md_command 236 = .ok (.aload_n 0, 1) := by decide +kernel
theorem d_Md_command_237 : decode b_Md_command 237 = .ok (.iconst 1, 1) := by decide +kernel
theorem d_Md_command_238 : decode b_Md_command 238 = .ok (.bipush 97, 2) := by decide +kernel
theorem d_Md_command_240 : decode b_Md_command 240 = .ok (.invokevirtual 219, 3) := by decide +kernel
theorem d_Md_command_243 : decode b_Md_command 243 = .ok (.invokevirtual 213, 3) := by decide +kernel
theorem d_Md_command_246 : decode b_Md_command 246 = .ok (.invokevirtual 260, 3) := by decide +kernel
theorem d_Md_command_249 : decode b_Md_command 249 = .ok (.goto 394, 3) := by decide +kernel
theorem d_Md_command_252 : decode b_Md_command 252 = .ok (.aload_n 0, 1) := by decide +kernel
theorem d_Md_command_253 : decode b_Md_command 253 = .ok (.iconst 1, 1) := by decide +kernel
theorem d_Md_command_254 : decode b_Md_command 254 = .ok (.iconst 1, 1) := by decide +kernel
theorem d_Md_command_255 : decode b_Md_command 255 = .ok (.invokevirtual 249, 3) := by decide +kernel
theorem d_Md_command_258 : decode b_Md_command 258 = .ok (.ifCond .eq 385, 3) := by decide +kernel
theorem d_Md_command_261 : decode b_Md_command 261 = .ok (.aload_n 0, 1) := by decide +kernel
theorem d_Md_command_262 : decode b_Md_command 262 = .ok (.bipush 119, 2) := by decide +kernel
theorem d_Md_command_264 : decode b_Md_command 264 = .ok (.bipush 32, 2) := by decide +kernel
theorem d_Md_command_266 : decode b_Md_command 266 = .ok (.bipush 32, 2) := by decide +kernel
theorem d_Md_command_268 : decode b_Md_command 268 = .ok (.invokevirtual 253, 3) := by decide +kernel
theorem d_Md_command_271 : decode b_Md_command 271 = .ok (.ifCond .eq 372, 3) := by decide +kernel
theorem d_Md_command_274 : decode b_Md_command 274 = .ok (.aload_n 0, 1) := by decide +kernel
theorem d_Md_command_275 : decode b_Md_command 275 = .ok (.invokevirtual 263, 3) := by decide +kernel
theorem d_Md_command_278 : decode b_Md_command 278 = .ok (.goto 365, 3) := by decide +kernel
theorem d_Md_command_281 : decode b_Md_command 281 = .ok (.aload_n 0, 1) := by decide +kernel
theorem d_Md_command_282 : decode b_Md_command 282 = .ok (.iconst 1, 1) := by decide +kernel
theorem d_Md_command_283 : decode b_Md_command 283 = .ok (.iconst 1, 1) := by decide +kernel
theorem d_Md_command_284 : decode b_Md_command 284 = .ok (.invokevirtual 249, 3) := by decide +kernel
theorem d_Md_command_287 : decode b_Md_command 287 = .ok (.ifCond .eq 356, 3) := by decide +kernel
theorem d_Md_command_290 : decode b_Md_command 290 = .ok (.aload_n 0, 1) := by decide +kernel
theorem d_Md_command_291 : decode b_Md_command 291 = .ok (.bipush 120, 2) := by decide +kernel
theorem d_Md_command_293 : decode b_Md_command 293 = .ok (.bipush 32, 2) := by decide +kernel
theorem d_Md_command_295 : decode b_Md_command 295 = .ok (.bipush 32, 2) := by decide +kernel
theorem d_Md_command_297 : decode b_Md_command 297 = .ok (.invokevirtual 253, 3) := by decide +kernel
theorem d_Md_command_300 : decode b_Md_command 300 = .ok (.ifCond .eq 343, 3) := by decide +kernel
theorem d_Md_command_303 : decode b_Md_command 303 = .ok (.aload_n 0, 1) := by decide +kernel
theorem d_Md_command_304 : decode b_Md_command 304 = .ok (.invokevirtual 266, 3) := by decide +kernel
theorem d_Md_command_307 : decode b_Md_command 307 = .ok (.goto 336, 3) := by decide +kernel
theorem d_Md_command_310 : decode b_Md_command 310 = .ok (.aload_n 0, 1) := by decide +kernel
theorem d_Md_command_311 : decode b_Md_command 311 = .ok (.iconst 2, 1) := by decide +kernel
theorem d_Md_command_312 : decode b_Md_command 312 = .ok (.iconst 2, 1) := by decide +kernel
theorem d_Md_command_313 : decode b_Md_command 313 = .ok (.invokevirtual 249, 3) := by decide +kernel
theorem d_Md_command_316 : decode b_Md_command 316 = .ok (.ifCond .eq 327, 3) := by decide +kernel
theorem d_Md_command_319 : decode b_Md_command 319 = .ok (.aload_n 0, 1) := by decide +kernel
theorem d_Md_command_320 : decode b_Md_command 320 = .ok (.bipush 120, 2) := by decide +kernel
theorem d_Md_command_322 : decode b_Md_command 322 = .ok (.bipush 120, 2) := by decide +kernel
theorem d_Md_command_324 : decode b_Md_command 324 = .ok (.bipush 32, 2) := by decide +kernel
theorem d_Md_command_326 : decode b_Md_command 326 = .ok (.invokevirtual 253, 3) := by decide +kernel
theorem d_Md_command_329 : decode b_Md_command 329 = .ok (.ifCond .eq 314, 3) := by decide +kernel
theorem d_Md_command_332 : decode b_Md_command 332 = .ok (.aload_n 0, 1) := by decide +kernel
theorem d_Md_command_333 : decode b_Md_command 333 = .ok (.invokevirtual 269, 3) := by decide +kernel
theorem d_Md_command_336 : decode b_Md_command 336 = .ok (.goto 307, 3) := by decide +kernel
theorem d_Md_command_339 : decode b_Md_command 339 = .ok (.aload_n 0, 1) := by decide +kernel
theorem d_Md_command_340 : decode b_Md_command 340 = .ok (.iconst 2, 1) := by decide +kernel
theorem d_Md_command_341 : decode b_Md_command 341 = .ok (.iconst 3, 1) := by decide +kernel
theorem d_Md_command_342 : decode b_Md_command 342 = .ok (.invokevirtual 249, 3) := by decide +kernel
theorem d_Md_command_345 : decode b_Md_command 345 = .ok (.ifCond .eq 298, 3) := by decide +kernel
theorem d_Md_command_348 : decode b_Md_command 348 = .ok (.aload_n 0, 1) := by decide +kernel
theorem d_Md_command_349 : decode b_Md_command 349 = .ok (.bipush 119, 2) := by decide +kernel
theorem d_Md_command_351 : decode b_Md_command 351 = .ok (.bipush 119, 2) := by decide +kernel
theorem d_Md_command_353 : decode b_Md_command 353 = .ok (.bipush 119, 2) := by decide +kernel
theorem d_Md_command_355 : decode b_Md_command 355 = .ok (.invokevirtual 253, 3) := by decide +kernel
theorem d_Md_command_358 : decode b_Md_command 358 = .ok (.ifCond .eq 285, 3) := by decide +kernel
theorem d_Md_command_361 : decode b_Md_command 361 = .ok (.aload_n 0, 1) := by decide +kernel
theorem d_Md_command_362 : decode b_Md_command 362 = .ok (.invokevirtual 272, 3) := by decide +kernel
theorem d_Md_command_365 : decode b_Md_command 365 = .ok (.goto 278, 3) := by decide +kernel
theorem d_Md_command_368 : decode b_Md_command 368 = .ok (.aload_n 0, 1) := by decide +kernel
theorem d_Md_command_369 : decode b_Md_command 369 = .ok (.iconst 2, 1) := by decide +kernel
theorem d_Md_command_370 : decode b_Md_command 370 = .ok (.iconst 2, 1) := by decide +kernel
theorem d_Md_command_371 : decode b_Md_command 371 = .ok (.invokevirtual 249, 3) := by decide +kernel
theorem d_Md_command_374 : decode b_Md_command 374 = .ok (.ifCond .eq 269, 3) := by decide +kernel
theorem d_Md_command_377 : decode b_Md_command 377 = .ok (.aload_n 0, 1) := by decide +kernel
theorem d_Md_command_378 : decode b_Md_command 378 = .ok (.bipush 119, 2) := by decide +kernel
theorem d_Md_command_380 : decode b_Md_command 380 = .ok (.bipush 119, 2) := by decide +kernel
theorem d_Md_command_382 : decode b_Md_command 382 = .ok (.bipush 32, 2) := by decide +kernel
theorem d_Md_command_384 : decode b_Md_command 384 = .ok (.invokevirtual 253, 3) := by decide +kernel
theorem d_Md_command_387 : decode b_Md_command 387 = .ok (.ifCond .eq 256, 3) := by decide +kernel
theorem d_Md_command_390 : decode b_Md_command 390 = .ok (.aload_n 0, 1) := by decide +kernel
theorem d_Md_command_391 : decode b_Md_command 391 = .ok (.invokevirtual 216, 3) := by decide +kernel
theorem d_Md_command_394 : decode b_Md_command 394 = .ok (.goto 249, 3) := by decide +kernel
theorem d_Md_command_397 : decode b_Md_command 397 = .ok (.aload_n 0, 1) := by decide +kernel
theorem d_Md_command_398 : decode b_Md_command 398 = .ok (.iconst 3, 1) := by decide +kernel
theorem d_Md_command_399 : decode b_Md_command 399 = .ok (.iconst 3, 1) := by decide +kernel
theorem d_Md_command_400 : decode b_Md_command 400 = .ok (.invokevirtual 249, 3) := by decide +kernel
theorem d_Md_command_403 : decode b_Md_command 403 = .ok (.ifCond .eq 240, 3) := by decide +kernel
theorem d_Md_command_406 : decode b_Md_command 406 = .ok (.aload_n 0, 1) := by decide +kernel
theorem d_Md_command_407 : decode b_Md_command 407 = .ok (.bipush 112, 2) := by decide +kernel
theorem d_Md_command_409 : decode b_Md_command 409 = .ok (.bipush 118, 2) := by decide +kernel
theorem d_Md_command_411 : decode b_Md_command 411 = .ok (.bipush 119, 2) := by decide +kernel
theorem d_Md_command_413 : decode b_Md_command 413 = .ok (.invokevirtual 253, 3) := by decide +kernel
theorem d_Md_command_416 : decode b_Md_command 416 = .ok (.ifCond .eq 227, 3) := by decide +kernel
theorem d_Md_command_419 : decode b_Md_command 419 = .ok (.aload_n 0, 1) := by decide +kernel
theorem d_Md_command_420 : decode b_Md_command 420 = .ok (.aload_n 0, 1) := by decide +kernel
theorem d_Md_command_421 : decode b_Md_command 421 = .ok (.iconst 1, 1) := by decide +kernel
theorem d_Md_command_422 : decode b_Md_command 422 = .ok (.bipush 65, 2) := by decide +kernel
theorem d_Md_command_424 : decode b_Md_command 424 = .ok (.invokevirtual 219, 3) := by decide +kernel
theorem d_Md_command_427 : decode b_Md_command 427 = .ok (.invokevirtual 275, 3) := by decide +kernel
theorem d_Md_command_430 : decode b_Md_command 430 = .ok (.goto 213, 3) := by decide +kernel
theorem d_Md_command_433 : decode b_Md_command 433 = .ok (.aload_n 0, 1) := by decide +kernel
theorem d_Md_command_434 : decode b_Md_command 434 = .ok (.iconst 1, 1) := by decide +kernel
theorem d_Md_command_435 : decode b_Md_command 435 = .ok (.iconst 1, 1) := by decide +kernel
theorem d_Md_command_436 : decode b_Md_command 436 = .ok (.invokevirtual 249, 3) := by decide +kernel
theorem d_Md_command_439 : decode b_Md_command 439 = .ok (.ifCond .eq 204, 3) := by decide +kernel
theorem d_Md_command_442 : decode b_Md_command 442 = .ok (.aload_n 0, 1) := by decide +kernel
theorem d_Md_command_443 : decode b_Md_command 443 = .ok (.bipush 118, 2) := by decide +kernel
theorem d_Md_command_445 : decode b_Md_command 445 = .ok (.bipush 32, 2) := by decide +kernel
theorem d_Md_command_447 : decode b_Md_command 447 = .ok (.bipush 32, 2) := by decide +kernel
theorem d_Md_command_449 : decode b_Md_command 449 = .ok (.invokevirtual 253, 3) := by decide +kernel
theorem d_Md_command_452 : decode b_Md_command 452 = .ok (.ifCond .eq 191, 3) := by decide +kernel
theorem d_Md_command_455 : decode b_Md_command 455 = .ok (.aload_n 0, 1) := by decide +kernel
theorem d_Md_command_456 : decode b_Md_command 456 = .ok (.aload_n 0, 1) := by decide +kernel
theorem d_Md_command_457 : decode b_Md_command 457 = .ok (.iconst 1, 1) := by decide +kernel
theorem d_Md_command_458 : decode b_Md_command 458 = .ok (.bipush 97, 2) := by decide +kernel
theorem d_Md_command_460 : decode b_Md_command 460 = .ok (.invokevirtual 219, 3) := by decide +kernel
theorem d_Md_command_463 : decode b_Md_command 463 = .ok (.invokevirtual 278, 3) := by decide +kernel
theorem d_Md_command_466 : decode b_Md_command 466 = .ok (.goto 177, 3) := by decide +kernel
theorem d_Md_command_469 : decode b_Md_command 469 = .ok (.aload_n 0, 1) := by decide +kernel
theorem d_Md_command_470 : decode b_Md_command 470 = .ok (.iconst 1, 1) := by decide +kernel
theorem d_Md_command_471 : decode b_Md_command 471 = .ok (.iconst 1, 1) := by decide +kernel
theorem d_Md_command_472 : decode b_Md_command 472 = .ok (.invokevirtual 249, 3) := by decide +kernel
theorem d_Md_command_475 : decode b_Md_command 475 = .ok (.ifCond .eq 168, 3) := by decide +kernel
theorem d_Md_command_478 : decode b_Md_command 478 = .ok (.aload_n 0, 1) := by decide +kernel
theorem d_Md_command_479 : decode b_Md_command 479 = .ok (.bipush 120, 2) := by decide +kernel
theorem d_Md_command_481 : decode b_Md_command 481 = .ok (.bipush 32, 2) := by decide +kernel
theorem d_Md_command_483 : decode b_Md_command 483 = .ok (.bipush 32, 2) := by decide +kernel
theorem d_Md_command_485 : decode b_Md_command 485 = .ok (.invokevirtual 253, 3) := by decide +kernel
theorem d_Md_command_488 : decode b_Md_command 488 = .ok (.ifCond .eq 155, 3) := by decide +kernel
theorem d_Md_command_491 : decode b_Md_command 491 = .ok (.aload_n 0, 1) := by decide +kernel
theorem d_Md_command_492 : decode b_Md_command 492 = .ok (.iconst 2, 1) := by decide +kernel
theorem d_Md_command_493 : decode b_Md_command 493 = .ok (.invokevirtual 281, 3) := by decide +kernel
theorem d_Md_command_496 : decode b_Md_command 496 = .ok (.goto 147, 3) := by decide +kernel
theorem d_Md_command_499 : decode b_Md_command 499 = .ok (.aload_n 0, 1) := by decide +kernel
theorem d_Md_command_500 : decode b_Md_command 500 = .ok (.iconst 1, 1) := by decide +kernel
theorem d_Md_command_501 : decode b_Md_command 501 = .ok (.iconst 1, 1) := by decide +kernel
theorem d_Md_command_502 : decode b_Md_command 502 = .ok (.invokevirtual 249, 3) := by decide +kernel
theorem d_Md_command_505 : decode b_Md_command 505 = .ok (.ifCond .eq 138, 3) := by decide +kernel
theorem d_Md_command_508 : decode b_Md_command 508 = .ok (.aload_n 0, 1) := by decide +kernel
theorem d_Md_command_509 : decode b_Md_command 509 = .ok (.bipush 120, 2) := by decide +kernel
theorem d_Md_command_511 : decode b_Md_command 511 = .ok (.bipush 32, 2) := by decide +kernel
theorem d_Md_command_513 : decode b_Md_command 513 = .ok (.bipush 32, 2) := by decide +kernel
theorem d_Md_command_515 : decode b_Md_command 515 = .ok (.invokevirtual 253, 3) := by decide +kernel
theorem d_Md_command_518 : decode b_Md_command 518 = .ok (.ifCond .eq 125, 3) := by decide +kernel
theorem d_Md_command_521 : decode b_Md_command 521 = .ok (.aload_n 0, 1) := by decide +kernel
theorem d_Md_command_522 : decode b_Md_command 522 = .ok (.iconst 1, 1) := by decide +kernel
theorem d_Md_command_523 : decode b_Md_command 523 = .ok (.invokevirtual 281, 3) := by decide +kernel
theorem d_Md_command_526 : decode b_Md_command 526 = .ok (.goto 117, 3) := by decide +kernel
theorem d_Md_command_529 : decode b_Md_command 529 = .ok (.aload_n 0, 1) := by decide +kernel
theorem d_Md_command_530 : decode b_Md_command 530 = .ok (.iconst 0, 1) := by decide +kernel
theorem d_Md_command_531 : decode b_Md_command 531 = .ok (.iconst 0, 1) := by decide +kernel
theorem d_Md_command_532 : decode b_Md_command 532 = .ok (.invokevirtual 249, 3) := by decide +kernel
theorem d_Md_command_535 : decode b_Md_command 535 = .ok (.ifCond .eq 108, 3) := by decide +kernel
theorem d_Md_command_538 : decode b_Md_command 538 = .ok (.aload_n 0, 1) := by decide +kernel
theorem d_Md_command_539 : decode b_Md_command 539 = .ok (.iconst 3, 1) := by decide +kernel
theorem d_Md_command_540 : decode b_Md_command 540 = .ok (.invokevirtual 235, 3) := by decide +kernel
theorem d_Md_command_543 : decode b_Md_command 543 = .ok (.goto 100, 3) := by decide +kernel
theorem d_Md_command_546 : decode b_Md_command 546 = .ok (.aload_n 0, 1) := by decide +kernel
theorem d_Md_command_547 : decode b_Md_command 547 = .ok (.iconst 0, 1) := by decide +kernel
theorem d_Md_command_548 : decode b_Md_command 548 = .ok (.iconst 0, 1) := by decide +kernel
theorem d_Md_command_549 : decode b_Md_command 549 = .ok (.invokevirtual 249, 3) := by decide +kernel
theorem d_Md_command_552 : decode b_Md_command 552 = .ok (.ifCond .eq 91, 3) := by decide +kernel
theorem d_Md_command_555 : decode b_Md_command 555 = .ok (.aload_n 0, 1) := by decide +kernel
theorem d_Md_command_556 : decode b_Md_command 556 = .ok (.iconst 4, 1) := by decide +kernel
theorem d_Md_command_557 : decode b_Md_command 557 = .ok (.invokevirtual 235, 3) := by decide +kernel
theorem d_Md_command_560 : decode b_Md_command 560 = .ok (.goto 83, 3) := by decide +kernel
theorem d_Md_command_563 : decode b_Md_command 563 = .ok (.aload_n 0, 1) := by decide +kernel
theorem d_Md_command_564 : decode b_Md_command 564 = .ok (.iconst 1, 1) := by decide +kernel
theorem d_Md_command_565 : decode b_Md_command 565 = .ok (.iconst 2, 1) := by decide +kernel
theorem d_Md_command_566 : decode b_Md_command 566 = .ok (.invokevirtual 249, 3) := by decide +kernel
theorem d_Md_command_569 : decode b_Md_command 569 = .ok (.ifCond .eq 74, 3) := by decide +kernel
theorem d_Md_command_572 : decode b_Md_command 572 = .ok (.aload_n 0, 1) := by decide +kernel
theorem d_Md_command_573 : decode b_Md_command 573 = .ok (.bipush 119, 2) := by decide +kernel
theorem d_Md_command_575 : decode b_Md_command 575 = .ok (.bipush 118, 2) := by decide +kernel
theorem d_Md_command_577 : decode b_Md_command 577 = .ok (.bipush 32, 2) := by decide +kernel
theorem d_Md_command_579 : decode b_Md_command 579 = .ok (.invokevirtual 253, 3) := by decide +kernel
theorem d_Md_command_582 : decode b_Md_command 582 = .ok (.ifCond .eq 61, 3) := by decide +kernel
theorem d_Md_command_585 : decode b_Md_command 585 = .ok (.aload_n 0, 1) := by decide +kernel
theorem d_Md_command_586 : decode b_Md_command 586 = .ok (.iconst 1, 1) := by decide +kernel
theorem d_Md_command_587 : decode b_Md_command 587 = .ok (.iconst 5, 1) := by decide +kernel
theorem d_Md_command_588 : decode b_Md_command 588 = .ok (.invokevirtual 284, 3) := by decide +kernel
theorem d_Md_command_591 : decode b_Md_command 591 = .ok (.pop, 1) := by decide +kernel
theorem d_Md_command_592 : decode b_Md_command 592 = .ok (.goto 51, 3) := by decide +kernel
theorem d_Md_command_595 : decode b_Md_command 595 = .ok (.aload_n 0, 1) := by decide +kernel
theorem d_Md_command_596 : decode b_Md_command 596 = .ok (.iconst 1, 1) := by decide +kernel
theorem d_Md_command_597 : decode b_Md_command 597 = .ok (.iconst 1, 1) := by decide +kernel
theorem d_Md_command_598 : decode b_Md_command 598 = .ok (.invokevirtual 249, 3) := by decide +kernel
theorem d_Md_command_601 : decode b_Md_command 601 = .ok (.ifCond .eq 42, 3) := by decide +kernel
theorem d_Md_command_604 : decode b_Md_command 604 = .ok (.aload_n 0, 1) := by decide +kernel
theorem d_Md_command_605 : decode b_Md_command 605 = .ok (.bipush 120, 2) := by decide +kernel
theorem d_Md_command_607 : decode b_Md_command 607 = .ok (.bipush 32, 2) := by decide +kernel
theorem d_Md_command_609 : decode b_Md_command 609 = .ok (.bipush 32, 2) := by decide +kernel
theorem d_Md_command_611 : decode b_Md_command 611 = .ok (.invokevirtual 253, 3) := by decide +kernel
theorem d_Md_command_614 : decode b_Md_command 614 = .ok (.ifCond .eq 29, 3) := by decide +kernel
theorem d_Md_command_617 : decode b_Md_command 617 = .ok (.aload_n 0, 1) := by decide +kernel
theorem d_Md_command_618 : decode b_Md_command 618 = .ok (.invokevirtual 287, 3) := by decide +kernel
theorem d_Md_command_621 : decode b_Md_command 621 = .ok (.goto 22, 3) := by decide +kernel
theorem d_Md_command_624 : decode b_Md_command 624 = .ok (.aload_n 0, 1) := by decide +kernel
theorem d_Md_command_625 : decode b_Md_command 625 = .ok (.invokevirtual 290, 3) := by decide +kernel
theorem d_Md_command_628 : decode b_Md_command 628 = .ok (.ifCond .eq 15, 3) := by decide +kernel
theorem d_Md_command_631 : decode b_Md_command 631 = .ok (.aload_n 0, 1) := by decide +kernel
theorem d_Md_command_632 : decode b_Md_command 632 = .ok (.invokevirtual 293, 3) := by decide +kernel
theorem d_Md_command_635 : decode b_Md_command 635 = .ok (.goto 8, 3) := by decide +kernel
theorem d_Md_command_638 : decode b_Md_command 638 = .ok (.aload_n 0, 1) := by decide +kernel
theorem d_Md_command_639 : decode b_Md_command 639 = .ok (.iload_n 1, 1) := by decide +kernel
theorem d_Md_command_640 : decode b_Md_command 640 = .ok (.invokevirtual 296, 3) := by decide +kernel
theorem d_Md_command_643 : decode b_Md_command 643 = .ok (.return_, 1) := by decide +kernel
theorem d_Md_commandEnded_0 : decode b_Md_commandEnded 0 = .ok (.aload_n 0, 1) := by decide +kernel
theorem d_Md_commandEnded_1 : decode b_Md_commandEnded 1 = .ok (.getfield 149, 3) := by decide +kernel
theorem d_Md_commandEnded_4 : decode b_Md_commandEnded 4 = .ok (.ifCond .eq 9, 3) := by decide +kernel
theorem d_Md_commandEnded_7 : decode b_Md_commandEnded 7 = .ok (.aload_n 0, 1) := by decide +kernel
theorem d_Md_commandEnded_8 : decode b_Md_commandEnded 8 = .ok (.iconst 2, 1) := by decide +kernel
theorem d_Md_commandEnded_9 : decode b_Md_commandEnded 9 = .ok (.putfield 152, 3) := by decide +kernel
theorem d_Md_commandEnded_12 : decode b_Md_commandEnded 12 = .ok (.return_, 1) := by decide +kernel
theorem d_Md_commandEnded_13 : decode b_Md_commandEnded 13 = .ok (.aload_n 0, 1) := by decide +kernel
theorem d_Md_commandEnded_14 : decode b_Md_commandEnded 14 = .ok (.getfield 58, 3) := by decide +kernel
theorem d_Md_commandEnded_17 : decode b_Md_commandEnded 17 = .ok (.aload_n 0, 1) := by decide +kernel
theorem d_Md_commandEnded_18 : decode b_Md_commandEnded 18 = .ok (.getfield 36, 3) := by decide +kernel
theorem d_Md_commandEnded_21 : decode b_Md_commandEnded 21 = .ok (.aload_n 0, 1) := by decide +kernel
theorem d_Md_commandEnded_22 : decode b_Md_commandEnded 22 = .ok (.getfield 135, 3) := by decide +kernel
theorem d_Md_commandEnded_25 : decode b_Md_commandEnded 25 = .ok (.iastore, 1) := by decide +kernel
theorem d_Md_commandEnded_26 : decode b_Md_commandEnded 26 = .ok (.iconst 0, 1) := by decide +kernel
theorem d_Md_commandEnded_27 : decode b_Md_commandEnded 27 = .ok (.istore_n 1, 1) := by decide +kernel
theorem d_Md_commandEnded_28 : decode b_Md_commandEnded 28 = .ok (.iload_n 1, 1) := by decide +kernel
theorem d_Md_commandEnded_29 : decode b_Md_commandEnded 29 = .ok (.aload_n 0, 1) := by decide +kernel
theorem d_Md_commandEnded_30 : decode b_Md_commandEnded 30 = .ok (.getfield 135, 3) := by decide +kernel
theorem d_Md_commandEnded_33 : decode b_Md_commandEnded 33 = .ok (.if_icmp .ge 29, 3) := by decide +kernel
theorem d_Md_commandEnded_36 : decode b_Md_commandEnded 36 = .ok (.aload_n 0, 1) := by decide +kernel
theorem d_Md_commandEnded_37 : decode b_Md_commandEnded 37 = .ok (.getfield 61, 3) := by decide +kernel
theorem d_Md_commandEnded_40 : decode b_Md_commandEnded 40 = .ok (.bipush 20, 2) := by decide +kernel
theorem d_Md_commandEnded_42 : decode b_Md_commandEnded 42 = .ok (.aload_n 0, 1) := by decide +kernel
theorem d_Md_commandEnded_43 : decode b_Md_commandEnded 43 = .ok (.getfield 36, 3) := by decide +kernel
theorem d_Md_commandEnded_46 : decode b_Md_commandEnded 46 = .ok (.imul, 1) := by decide +kernel
theorem d_Md_commandEnded_47 : decode b_Md_commandEnded 47 = .ok (.iload_n 1, 1) := by decide +kernel
theorem d_Md_commandEnded_48 : decode b_Md_commandEnded 48 = .ok (.iadd, 1) := by decide +kernel
theorem d_Md_commandEnded_49 : decode b_Md_commandEnded 49 = .ok (.aload_n 0, 1) := by decide +kernel
theorem d_Md_commandEnded_50 : decode b_Md_commandEnded 50 = .ok (.getfield 76, 3) := by decide +kernel
theorem d_Md_commandEnded_53 : decode b_Md_commandEnded 53 = .ok (.iload_n 1, 1) := by decide +kernel
theorem d_Md_commandEnded_54 : decode b_Md_commandEnded 54 = .ok (.caload, 1) := by decide +kernel
theorem d_Md_commandEnded_55 : decode b_Md_commandEnded 55 = .ok (.castore, 1) := by decide +kernel
theorem d_Md_commandEnded_56 : decode b_Md_commandEnded 56 = .ok (.iinc 1 1, 3) := by decide +kernel
theorem d_Md_commandEnded_59 : decode b_Md_commandEnded 59 = .ok (.goto (-31), 3) := by decide +kernel
theorem d_Md_commandEnded_62 : decode b_Md_commandEnded 62 = .ok (.aload_n 0, 1) := by decide +kernel
theorem d_Md_commandEnded_63 : decode b_Md_commandEnded 63 = .ok (.getfield 55, 3) := by decide +kernel
theorem d_Md_commandEnded_66 : decode b_Md_commandEnded 66 = .ok (.aload_n 0, 1) := by decide +kernel
theorem d_Md_commandEnded_67 : decode b_Md_commandEnded 67 = .ok (.getfield 36, 3) := by decide +kernel
theorem d_Md_commandEnded_70 : decode b_Md_commandEnded 70 = .ok (.iconst 0, 1) := by decide +kernel
theorem d_Md_commandEnded_71 : decode b_Md_commandEnded 71 = .ok (.iastore, 1) := by decide +kernel
theorem d_Md_commandEnded_72 : decode b_Md_commandEnded 72 = .ok (.aload_n 0, 1) := by decide +kernel
theorem d_Md_commandEnded_73 : decode b_Md_commandEnded 73 = .ok (.iconst 0, 1) := by decide +kernel
theorem d_Md_commandEnded_74 : decode b_Md_commandEnded 74 = .ok (.putfield 152, 3) := by decide +kernel
theorem d_Md_commandEnded_77 : decode b_Md_commandEnded 77 = .ok (.return_, 1) := by decide +kernel
theorem d_Md_define_0 : decode b_Md_define 0 = .ok (.aload_n 0, 1) := by decide +kernel
theorem d_Md_define_1 : decode b_Md_define 1 = .ok (.iconst 3, 1) := by decide +kernel
theorem d_Md_define_2 : decode b_Md_define 2 = .ok (.invokevirtual 155, 3) := by decide +kernel
theorem d_Md_define_5 : decode b_Md_define 5 = .ok (.istore_n 2, 1) := by decide +kernel
theorem d_Md_define_6 : decode b_Md_define 6 = .ok (.aload_n 0, 1) := by decide +kernel
theorem d_Md_define_7 : decode b_Md_define 7 = .ok (.getfield 24, 3) := by decide +kernel
theorem d_Md_define_10 : decode b_Md_define 10 = .ok (.iload_n 1, 1) := by decide +kernel
theorem d_Md_define_11 : decode b_Md_define 11 = .ok (.iconst 1, 1) := by decide +kernel
theorem d_Md_define_12 : decode b_Md_define 12 = .ok (.bastore, 1) := by decide +kernel
theorem d_Md_define_13 : decode b_Md_define 13 = .ok (.aload_n 0, 1) := by decide +kernel
theorem d_Md_define_14 : decode b_Md_define 14 = .ok (.getfield 27, 3) := by decide +kernel
theorem d_Md_define_17 : decode b_Md_define 17 = .ok (.iload_n 1, 1) := by decide +kernel
theorem d_Md_define_18 : decode b_Md_define 18 = .ok (.aload_n 0, 1) := by decide +kernel
theorem d_Md_define_19 : decode b_Md_define 19 = .ok (.getfield 67, 3) := by decide +kernel
theorem d_Md_define_22 : decode b_Md_define 22 = .ok (.iload_n 2, 1) := by decide +kernel
theorem d_Md_define_23 : decode b_Md_define 23 = .ok (.iaload, 1) := by decide +kernel
theorem d_Md_define_24 : decode b_Md_define 24 = .ok (.iastore, 1) := by decide +kernel
theorem d_Md_define_25 : decode b_Md_define 25 = .ok (.aload_n 0, 1) := by decide +kernel
theorem d_Md_define_26 : decode b_Md_define 26 = .ok (.getfield 30, 3) := by decide +kernel
theorem d_Md_define_29 : decode b_Md_define 29 = .ok (.iload_n 1, 1) := by decide +kernel
theorem d_Md_define_30 : decode b_Md_define 30 = .ok (.aload_n 0, 1) := by decide +kernel
theorem d_Md_define_31 : decode b_Md_define 31 = .ok (.getfield 67, 3) := by decide +kernel
theorem d_Md_define_34 : decode b_Md_define 34 = .ok (.iload_n 2, 1) := by decide +kernel
theorem d_Md_define_35 : decode b_Md_define 35 = .ok (.iaload, 1) := by decide +kernel
theorem d_Md_define_36 : decode b_Md_define 36 = .ok (.aload_n 0, 1) := by decide +kernel
theorem d_Md_define_37 : decode b_Md_define 37 = .ok (.getfield 70, 3) := by decide +kernel
theorem d_Md_define_40 : decode b_Md_define 40 = .ok (.iload_n 2, 1) := by decide +kernel
theorem d_Md_define_41 : decode b_Md_define 41 = .ok (.iaload, 1) := by decide +kernel
theorem d_Md_define_42 : decode b_Md_define 42 = .ok (.iadd, 1) := by decide +kernel
theorem d_Md_define_43 : decode b_Md_define 43 = .ok (.iastore, 1) := by decide +kernel
theorem d_Md_define_44 : decode b_Md_define 44 = .ok (.aload_n 0, 1) := by decide +kernel
theorem d_Md_define_45 : decode b_Md_define 45 = .ok (.getfield 33, 3) := by decide +kernel
theorem d_Md_define_48 : decode b_Md_define 48 = .ok (.iload_n 1, 1) := by decide +kernel
theorem d_Md_define_49 : decode b_Md_define 49 = .ok (.aload_n 0, 1) := by decide +kernel
theorem d_Md_define_50 : decode b_Md_define 50 = .ok (.iconst 2, 1) := by decide +kernel
theorem d_Md_define_51 : decode b_Md_define 51 = .ok (.bipush 97, 2) := by decide +kernel
theorem d_Md_define_53 : decode b_Md_define 53 = .ok (.invokevirtual 219, 3) := by decide +kernel
theorem d_Md_define_56 : decode b_Md_define 56 = .ok (.iastore, 1) := by decide +kernel
theorem d_Md_define_57 : decode b_Md_define 57 = .ok (.aload_n 0, 1) := by decide +kernel
theorem d_Md_define_58 : decode b_Md_define 58 = .ok (.iconst 0, 1) := by decide +kernel
theorem d_Md_define_59 : decode b_Md_define 59 = .ok (.invokevirtual 235, 3) := by decide +kernel
theorem d_Md_define_62 : decode b_Md_define 62 = .ok (.return_, 1) := by decide +kernel
theorem d_Md_defined_0 : decode b_Md_defined 0 = .ok (.iload_n 1, 1) := by decide +kernel
theorem d_Md_defined_1 : decode b_Md_defined 1 = .ok (.iconst 0, 1) := by decide +kernel
theorem d_Md_defined_2 : decode b_Md_defined 2 = .ok (.bipush 25, 2) := by decide +kernel
theorem d_Md_defined_4 : decode b_Md_defined 4 = .ok (.invokestatic 119, 3) := by decide +kernel
theorem d_Md_defined_7 : decode b_Md_defined 7 = .ok (.ifCond .ne 16, 3) := by decide +kernel
theorem d_Md_defined_10 : decode b_Md_defined 10 = .ok (.aload_n 0, 1) := by decide +kernel
theorem d_Md_defined_11 : decode b_Md_defined 11 = .ok (.getfield 24, 3) := by decide +kernel
theorem d_Md_defined_14 : decode b_Md_defined 14 = .ok (.iload_n 1, 1) := by decide +kernel
theorem d_Md_defined_15 : decode b_Md_defined 15 = .ok (.baload, 1) := by decide +kernel
theorem d_Md_defined_16 : decode b_Md_defined 16 = .ok (.ifCond .eq 7, 3) := by decide +kernel
theorem d_Md_defined_19 : decode b_Md_defined 19 = .ok (.iconst 1, 1) := by decide +kernel
theorem d_Md_defined_20 : decode b_Md_defined 20 = .ok (.goto 4, 3) := by decide +kernel
theorem d_Md_defined_23 : decode b_Md_defined 23 = .ok (.iconst 0, 1) := by decide +kernel
theorem d_Md_defined_24 : decode b_Md_defined 24 = .ok (.ireturn, 1) := by decide +kernel
theorem d_Md_digitAt_0 : decode b_Md_digitAt 0 = .ok (.iload_n 1, 1) := by decide +kernel
theorem d_Md_digitAt_1 : decode b_Md_digitAt 1 = .ok (.ifCond .ge 12, 3) := by decide +kernel
theorem d_Md_digitAt_4 : decode b_Md_digitAt 4 = .ok (.aload_n 0, 1) := by decide +kernel
theorem d_Md_digitAt_5 : decode b_Md_digitAt 5 = .ok (.iload_n 2, 1) := by decide +kernel
theorem d_Md_digitAt_6 : decode b_Md_digitAt 6 = .ok (.iload_n 3, 1) := by decide +kernel
theorem d_Md_digitAt_7 : decode b_Md_digitAt 7 = .ok (.invokevirtual 162, 3) := by decide +kernel
theorem d_Md_digitAt_10 : decode b_Md_digitAt 10 = .ok (.goto 14, 3) := by decide +kernel
theorem d_Md_digitAt_13 : decode b_Md_digitAt 13 = .ok (.aload_n 0, 1) := by decide +kernel
theorem d_Md_digitAt_14 : decode b_Md_digitAt 14 = .ok (.getfield 17, 3) := by decide +kernel
theorem d_Md_digitAt_17 : decode b_Md_digitAt 17 = .ok (.bipush 20, 2) := by decide +kernel
theorem d_Md_digitAt_19 : decode b_Md_digitAt 19 = .ok (.iload_n 1, 1) := by decide +kernel
theorem d_Md_digitAt_20 : decode b_Md_digitAt 20 = .ok (.imul, 1) := by decide +kernel
theorem d_Md_digitAt_21 : decode b_Md_digitAt 21 = .ok (.iload_n 3, 1) := by decide +kernel
theorem d_Md_digitAt_22 : decode b_Md_digitAt 22 = .ok (.iadd, 1) := by decide +kernel
theorem d_Md_digitAt_23 : decode b_Md_digitAt 23 = .ok (.caload, 1) := by decide +kernel
theorem d_Md_digitAt_24 : decode b_Md_digitAt 24 = .ok (.ireturn, 1) := by decide +kernel
theorem d_Md_digits_0 : decode b_Md_digits 0 = .ok (.iload_n 1, 1) := by decide +kernel
theorem d_Md_digits_1 : decode b_Md_digits 1 = .ok (.ifCond .ge 11, 3) := by decide +kernel
theorem d_Md_digits_4 : decode b_Md_digits 4 = .ok (.aload_n 0, 1) := by decide +kernel
theorem d_Md_digits_5 : decode b_Md_digits 5 = .ok (.iload_n 2, 1) := by decide +kernel
theorem d_Md_digits_6 : decode b_Md_digits 6 = .ok (.invokevirtual 159, 3) := by decide +kernel
theorem d_Md_digits_9 : decode b_Md_digits 9 = .ok (.goto 9, 3) := by decide +kernel
theorem d_Md_digits_12 : decode b_Md_digits 12 = .ok (.aload_n 0, 1) := by decide +kernel
theorem d_Md_digits_13 : decode b_Md_digits 13 = .ok (.getfield 13, 3) := by decide +kernel
theorem d_Md_digits_16 : decode b_Md_digits 16 = .ok (.iload_n 1, 1) := by decide +kernel
theorem d_Md_digits_17 : decode b_Md_digits 17 = .ok (.iaload, 1) := by decide +kernel
theorem d_Md_digits_18 : decode b_Md_digits 18 = .ok (.istore_n 3, 1) := by decide +kernel
theorem d_Md_digits_19 : decode b_Md_digits 19 = .ok (.iload_n 3, 1) := by decide +kernel
theorem d_Md_digits_20 : decode b_Md_digits 20 = .ok (.ifCond .le 19, 3) := by decide +kernel
theorem d_Md_digits_23 : decode b_Md_digits 23 = .ok (.aload_n 0, 1) := by decide +kernel
theorem d_Md_digits_24 : decode b_Md_digits 24 = .ok (.iload_n 1, 1) := by decide +kernel
theorem d_Md_digits_25 : decode b_Md_digits 25 = .ok (.iload_n 2, 1) := by decide +kernel
theorem d_Md_digits_26 : decode b_Md_digits 26 = .ok (.iconst 0, 1) := by decide +kernel
theorem d_Md_digits_27 : decode b_Md_digits 27 = .ok (.invokevirtual 312, 3) := by decide +kernel
theorem d_Md_digits_30 : decode b_Md_digits 30 = .ok (.bipush 45, 2) := by decide +kernel
theorem d_Md_digits_32 : decode b_Md_digits 32 = .ok (.if_icmp .ne 7, 3) := by decide +kernel
