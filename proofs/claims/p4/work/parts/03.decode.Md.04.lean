/-! decode rows; written by wip/gen/names.py -/
theorem d_Md_piece_44 : decode b_Md_piece 44 = .ok (.goto 145, 3) := by decide +kernel
theorem d_Md_piece_47 : decode b_Md_piece 47 = .ok (.iload_n 1, 1) := by decide +kernel
theorem d_Md_piece_48 : decode b_Md_piece 48 = .ok (.bipush 36, 2) := by decide +kernel
theorem d_Md_piece_50 : decode b_Md_piece 50 = .ok (.if_icmp .ne 118, 3) := by decide +kernel
theorem d_Md_piece_53 : decode b_Md_piece 53 = .ok (.iload_n 2, 1) := by decide +kernel
theorem d_Md_piece_54 : decode b_Md_piece 54 = .ok (.bipush 97, 2) := by decide +kernel
theorem d_Md_piece_56 : decode b_Md_piece 56 = .ok (.if_icmp .lt 112, 3) := by decide +kernel
theorem d_Md_piece_59 : decode b_Md_piece 59 = .ok (.iload_n 2, 1) := by decide +kernel
theorem d_Md_piece_60 : decode b_Md_piece 60 = .ok (.bipush 122, 2) := by decide +kernel
theorem d_Md_piece_62 : decode b_Md_piece 62 = .ok (.if_icmp .gt 106, 3) := by decide +kernel
theorem d_Md_piece_65 : decode b_Md_piece 65 = .ok (.aload_n 0, 1) := by decide +kernel
theorem d_Md_piece_66 : decode b_Md_piece 66 = .ok (.iload_n 2, 1) := by decide +kernel
theorem d_Md_piece_67 : decode b_Md_piece 67 = .ok (.bipush 97, 2) := by decide +kernel
theorem d_Md_piece_69 : decode b_Md_piece 69 = .ok (.isub, 1) := by decide +kernel
theorem d_Md_piece_70 : decode b_Md_piece 70 = .ok (.invokevirtual 213, 3) := by decide +kernel
theorem d_Md_piece_73 : decode b_Md_piece 73 = .ok (.istore_n 3, 1) := by decide +kernel
theorem d_Md_piece_74 : decode b_Md_piece 74 = .ok (.aload_n 0, 1) := by decide +kernel
theorem d_Md_piece_75 : decode b_Md_piece 75 = .ok (.getfield 13, 3) := by decide +kernel
theorem d_Md_piece_78 : decode b_Md_piece 78 = .ok (.iload_n 3, 1) := by decide +kernel
theorem d_Md_piece_79 : decode b_Md_piece 79 = .ok (.iaload, 1) := by decide +kernel
theorem d_Md_piece_80 : decode b_Md_piece 80 = .ok (.ifCond .ge 8, 3) := by decide +kernel
theorem d_Md_piece_83 : decode b_Md_piece 83 = .ok (.aload_n 0, 1) := by decide +kernel
theorem d_Md_piece_84 : decode b_Md_piece 84 = .ok (.iconst 4, 1) := by decide +kernel
theorem d_Md_piece_85 : decode b_Md_piece 85 = .ok (.invokevirtual 166, 3) := by decide +kernel
theorem d_Md_piece_88 : decode b_Md_piece 88 = .ok (.aload_n 0, 1) := by decide +kernel
theorem d_Md_piece_89 : decode b_Md_piece 89 = .ok (.getfield 13, 3) := by decide +kernel
theorem d_Md_piece_92 : decode b_Md_piece 92 = .ok (.iload_n 3, 1) := by decide +kernel
theorem d_Md_piece_93 : decode b_Md_piece 93 = .ok (.iaload, 1) := by decide +kernel
theorem d_Md_piece_94 : decode b_Md_piece 94 = .ok (.ifCond .lt 7, 3) := by decide +kernel
theorem d_Md_piece_97 : decode b_Md_piece 97 = .ok (.iconst 1, 1) := by decide +kernel
theorem d_Md_piece_98 : decode b_Md_piece 98 = .ok (.goto 4, 3) := by decide +kernel
theorem d_Md_piece_101 : decode b_Md_piece 101 = .ok (.iconst 0, 1) := by decide +kernel
theorem d_Md_piece_102 : decode b_Md_piece 102 = .ok (.istore 4, 2) := by decide +kernel
theorem d_Md_piece_104 : decode b_Md_piece 104 = .ok (.iconst 0, 1) := by decide +kernel
theorem d_Md_piece_105 : decode b_Md_piece 105 = .ok (.istore 5, 2) := by decide +kernel
theorem d_Md_piece_107 : decode b_Md_piece 107 = .ok (.iload 5, 2) := by decide +kernel
theorem d_Md_piece_109 : decode b_Md_piece 109 = .ok (.aload_n 0, 1) := by decide +kernel
theorem d_Md_piece_110 : decode b_Md_piece 110 = .ok (.getfield 13, 3) := by decide +kernel
theorem d_Md_piece_113 : decode b_Md_piece 113 = .ok (.iload_n 3, 1) := by decide +kernel
theorem d_Md_piece_114 : decode b_Md_piece 114 = .ok (.iaload, 1) := by decide +kernel
theorem d_Md_piece_115 : decode b_Md_piece 115 = .ok (.if_icmp .ge 32, 3) := by decide +kernel
theorem d_Md_piece_118 : decode b_Md_piece 118 = .ok (.iload 4, 2) := by decide +kernel
theorem d_Md_piece_120 : decode b_Md_piece 120 = .ok (.ifCond .eq 27, 3) := by decide +kernel
theorem d_Md_piece_123 : decode b_Md_piece 123 = .ok (.aload_n 0, 1) := by decide +kernel
theorem d_Md_piece_124 : decode b_Md_piece 124 = .ok (.aload_n 0, 1) := by decide +kernel
theorem d_Md_piece_125 : decode b_Md_piece 125 = .ok (.getfield 17, 3) := by decide +kernel
theorem d_Md_piece_128 : decode b_Md_piece 128 = .ok (.bipush 20, 2) := by decide +kernel
theorem d_Md_piece_130 : decode b_Md_piece 130 = .ok (.iload_n 3, 1) := by decide +kernel
theorem d_Md_piece_131 : decode b_Md_piece 131 = .ok (.imul, 1) := by decide +kernel
theorem d_Md_piece_132 : decode b_Md_piece 132 = .ok (.iload 5, 2) := by decide +kernel
theorem d_Md_piece_134 : decode b_Md_piece 134 = .ok (.iadd, 1) := by decide +kernel
theorem d_Md_piece_135 : decode b_Md_piece 135 = .ok (.caload, 1) := by decide +kernel
theorem d_Md_piece_136 : decode b_Md_piece 136 = .ok (.invokevirtual 209, 3) := by decide +kernel
theorem d_Md_piece_139 : decode b_Md_piece 139 = .ok (.istore 4, 2) := by decide +kernel
theorem d_Md_piece_141 : decode b_Md_piece 141 = .ok (.iinc 5 1, 3) := by decide +kernel
theorem d_Md_piece_144 : decode b_Md_piece 144 = .ok (.goto (-37), 3) := by decide +kernel
theorem d_Md_piece_147 : decode b_Md_piece 147 = .ok (.iload 4, 2) := by decide +kernel
theorem d_Md_piece_149 : decode b_Md_piece 149 = .ok (.ifCond .eq 16, 3) := by decide +kernel
theorem d_Md_piece_152 : decode b_Md_piece 152 = .ok (.aload_n 0, 1) := by decide +kernel
theorem d_Md_piece_153 : decode b_Md_piece 153 = .ok (.getfield 40, 3) := by decide +kernel
theorem d_Md_piece_156 : decode b_Md_piece 156 = .ok (.aload_n 0, 1) := by decide +kernel
theorem d_Md_piece_157 : decode b_Md_piece 157 = .ok (.getfield 36, 3) := by decide +kernel
theorem d_Md_piece_160 : decode b_Md_piece 160 = .ok (.dup2, 1) := by decide +kernel
theorem d_Md_piece_161 : decode b_Md_piece 161 = .ok (.iaload, 1) := by decide +kernel
theorem d_Md_piece_162 : decode b_Md_piece 162 = .ok (.iconst 2, 1) := by decide +kernel
theorem d_Md_piece_163 : decode b_Md_piece 163 = .ok (.iadd, 1) := by decide +kernel
theorem d_Md_piece_164 : decode b_Md_piece 164 = .ok (.iastore, 1) := by decide +kernel
theorem d_Md_piece_165 : decode b_Md_piece 165 = .ok (.goto 24, 3) := by decide +kernel
theorem d_Md_piece_168 : decode b_Md_piece 168 = .ok (.aload_n 0, 1) := by decide +kernel
theorem d_Md_piece_169 : decode b_Md_piece 169 = .ok (.iload_n 1, 1) := by decide +kernel
theorem d_Md_piece_170 : decode b_Md_piece 170 = .ok (.invokevirtual 209, 3) := by decide +kernel
theorem d_Md_piece_173 : decode b_Md_piece 173 = .ok (.ifCond .eq 16, 3) := by decide +kernel
theorem d_Md_piece_176 : decode b_Md_piece 176 = .ok (.aload_n 0, 1) := by decide +kernel
theorem d_Md_piece_177 : decode b_Md_piece 177 = .ok (.getfield 40, 3) := by decide +kernel
theorem d_Md_piece_180 : decode b_Md_piece 180 = .ok (.aload_n 0, 1) := by decide +kernel
theorem d_Md_piece_181 : decode b_Md_piece 181 = .ok (.getfield 36, 3) := by decide +kernel
theorem d_Md_piece_184 : decode b_Md_piece 184 = .ok (.dup2, 1) := by decide +kernel
theorem d_Md_piece_185 : decode b_Md_piece 185 = .ok (.iaload, 1) := by decide +kernel
theorem d_Md_piece_186 : decode b_Md_piece 186 = .ok (.iconst 1, 1) := by decide +kernel
theorem d_Md_piece_187 : decode b_Md_piece 187 = .ok (.iadd, 1) := by decide +kernel
theorem d_Md_piece_188 : decode b_Md_piece 188 = .ok (.iastore, 1) := by decide +kernel
theorem d_Md_piece_189 : decode b_Md_piece 189 = .ok (.return_, 1) := by decide +kernel
theorem d_Md_put_0 : decode b_Md_put 0 = .ok (.iload_n 1, 1) := by decide +kernel
theorem d_Md_put_1 : decode b_Md_put 1 = .ok (.bipush 10, 2) := by decide +kernel
theorem d_Md_put_3 : decode b_Md_put 3 = .ok (.if_icmp .eq 15, 3) := by decide +kernel
theorem d_Md_put_6 : decode b_Md_put 6 = .ok (.iload_n 1, 1) := by decide +kernel
theorem d_Md_put_7 : decode b_Md_put 7 = .ok (.bipush 32, 2) := by decide +kernel
theorem d_Md_put_9 : decode b_Md_put 9 = .ok (.if_icmp .lt 26, 3) := by decide +kernel
theorem d_Md_put_12 : decode b_Md_put 12 = .ok (.iload_n 1, 1) := by decide +kernel
theorem d_Md_put_13 : decode b_Md_put 13 = .ok (.bipush 126, 2) := by decide +kernel
theorem d_Md_put_15 : decode b_Md_put 15 = .ok (.if_icmp .gt 20, 3) := by decide +kernel
theorem d_Md_put_18 : decode b_Md_put 18 = .ok (.aload_n 0, 1) := by decide +kernel
theorem d_Md_put_19 : decode b_Md_put 19 = .ok (.getfield 112, 3) := by decide +kernel
theorem d_Md_put_22 : decode b_Md_put 22 = .ok (.sipush 200, 3) := by decide +kernel
theorem d_Md_put_25 : decode b_Md_put 25 = .ok (.if_icmp .ge 10, 3) := by decide +kernel
theorem d_Md_put_28 : decode b_Md_put 28 = .ok (.aload_n 0, 1) := by decide +kernel
theorem d_Md_put_29 : decode b_Md_put 29 = .ok (.getfield 115, 3) := by decide +kernel
theorem d_Md_put_32 : decode b_Md_put 32 = .ok (.ifCond .eq 5, 3) := by decide +kernel
theorem d_Md_put_35 : decode b_Md_put 35 = .ok (.iconst 0, 1) := by decide +kernel
theorem d_Md_put_36 : decode b_Md_put 36 = .ok (.ireturn, 1) := by decide +kernel
theorem d_Md_put_37 : decode b_Md_put 37 = .ok (.aload_n 0, 1) := by decide +kernel
theorem d_Md_put_38 : decode b_Md_put 38 = .ok (.getfield 7, 3) := by decide +kernel
theorem d_Md_put_41 : decode b_Md_put 41 = .ok (.aload_n 0, 1) := by decide +kernel
theorem d_Md_put_42 : decode b_Md_put 42 = .ok (.getfield 112, 3) := by decide +kernel
theorem d_Md_put_45 : decode b_Md_put 45 = .ok (.iload_n 1, 1) := by decide +kernel
theorem d_Md_put_46 : decode b_Md_put 46 = .ok (.castore, 1) := by decide +kernel
theorem d_Md_put_47 : decode b_Md_put 47 = .ok (.aload_n 0, 1) := by decide +kernel
theorem d_Md_put_48 : decode b_Md_put 48 = .ok (.dup, 1) := by decide +kernel
theorem d_Md_put_49 : decode b_Md_put 49 = .ok (.getfield 112, 3) := by decide +kernel
theorem d_Md_put_52 : decode b_Md_put 52 = .ok (.iconst 1, 1) := by decide +kernel
theorem d_Md_put_53 : decode b_Md_put 53 = .ok (.iadd, 1) := by decide +kernel
theorem d_Md_put_54 : decode b_Md_put 54 = .ok (.putfield 112, 3) := by decide +kernel
theorem d_Md_put_57 : decode b_Md_put 57 = .ok (.iconst 1, 1) := by decide +kernel
theorem d_Md_put_58 : decode b_Md_put 58 = .ok (.ireturn, 1) := by decide +kernel
theorem d_Md_quotient_0 : decode b_Md_quotient 0 = .ok (.iload_n 2, 1) := by decide +kernel
theorem d_Md_quotient_1 : decode b_Md_quotient 1 = .ok (.ifCond .ne 10, 3) := by decide +kernel
theorem d_Md_quotient_4 : decode b_Md_quotient 4 = .ok (.aload_n 0, 1) := by decide +kernel
theorem d_Md_quotient_5 : decode b_Md_quotient 5 = .ok (.iconst 1, 1) := by decide +kernel
theorem d_Md_quotient_6 : decode b_Md_quotient 6 = .ok (.putfield 331, 3) := by decide +kernel
theorem d_Md_quotient_9 : decode b_Md_quotient 9 = .ok (.iconst 0, 1) := by decide +kernel
theorem d_Md_quotient_10 : decode b_Md_quotient 10 = .ok (.ireturn, 1) := by decide +kernel
theorem d_Md_quotient_11 : decode b_Md_quotient 11 = .ok (.iload_n 3, 1) := by decide +kernel
theorem d_Md_quotient_12 : decode b_Md_quotient 12 = .ok (.ifCond .eq 9, 3) := by decide +kernel
theorem d_Md_quotient_15 : decode b_Md_quotient 15 = .ok (.iload_n 1, 1) := by decide +kernel
theorem d_Md_quotient_16 : decode b_Md_quotient 16 = .ok (.iload_n 2, 1) := by decide +kernel
theorem d_Md_quotient_17 : decode b_Md_quotient 17 = .ok (.irem, 1) := by decide +kernel
theorem d_Md_quotient_18 : decode b_Md_quotient 18 = .ok (.goto 6, 3) := by decide +kernel
theorem d_Md_quotient_21 : decode b_Md_quotient 21 = .ok (.iload_n 1, 1) := by decide +kernel
theorem d_Md_quotient_22 : decode b_Md_quotient 22 = .ok (.iload_n 2, 1) := by decide +kernel
theorem d_Md_quotient_23 : decode b_Md_quotient 23 = .ok (.idiv, 1) := by decide +kernel
theorem d_Md_quotient_24 : decode b_Md_quotient 24 = .ok (.ireturn, 1) := by decide +kernel
theorem d_Md_rankOf_0 : decode b_Md_rankOf 0 = .ok (.iload_n 0, 1) := by decide +kernel
theorem d_Md_rankOf_1 : decode b_Md_rankOf 1 = .ok (.lookupswitch 121 #[(33, 107), (37, 110), (38, 117), (42, 110), (43, 113), (45, 113), (47, 110), (60, 115), (61, 115), (62, 115), (110, 107), (124, 119)], 107) := by decide +kernel
theorem d_Md_rankOf_108 : decode b_Md_rankOf 108 = .ok (.bipush 7, 2) := by decide +kernel
theorem d_Md_rankOf_110 : decode b_Md_rankOf 110 = .ok (.ireturn, 1) := by decide +kernel
theorem d_Md_rankOf_111 : decode b_Md_rankOf 111 = .ok (.bipush 6, 2) := by decide +kernel
theorem d_Md_rankOf_113 : decode b_Md_rankOf 113 = .ok (.ireturn, 1) := by decide +kernel
theorem d_Md_rankOf_114 : decode b_Md_rankOf 114 = .ok (.iconst 5, 1) := by decide +kernel
theorem d_Md_rankOf_115 : decode b_Md_rankOf 115 = .ok (.ireturn, 1) := by decide +kernel
theorem d_Md_rankOf_116 : decode b_Md_rankOf 116 = .ok (.iconst 4, 1) := by decide +kernel
theorem d_Md_rankOf_117 : decode b_Md_rankOf 117 = .ok (.ireturn, 1) := by decide +kernel
theorem d_Md_rankOf_118 : decode b_Md_rankOf 118 = .ok (.iconst 3, 1) := by decide +kernel
theorem d_Md_rankOf_119 : decode b_Md_rankOf 119 = .ok (.ireturn, 1) := by decide +kernel
theorem d_Md_rankOf_120 : decode b_Md_rankOf 120 = .ok (.iconst 2, 1) := by decide +kernel
theorem d_Md_rankOf_121 : decode b_Md_rankOf 121 = .ok (.ireturn, 1) := by decide +kernel
theorem d_Md_rankOf_122 : decode b_Md_rankOf 122 = .ok (.iconst 0, 1) := by decide +kernel
theorem d_Md_rankOf_123 : decode b_Md_rankOf 123 = .ok (.ireturn, 1) := by decide +kernel
theorem d_Md_read_0 : decode b_Md_read 0 = .ok (.aload_n 0, 1) := by decide +kernel
theorem d_Md_read_1 : decode b_Md_read 1 = .ok (.getfield 52, 3) := by decide +kernel
theorem d_Md_read_4 : decode b_Md_read 4 = .ok (.aload_n 0, 1) := by decide +kernel
theorem d_Md_read_5 : decode b_Md_read 5 = .ok (.getfield 36, 3) := by decide +kernel
theorem d_Md_read_8 : decode b_Md_read 8 = .ok (.iaload, 1) := by decide +kernel
theorem d_Md_read_9 : decode b_Md_read 9 = .ok (.ifCond .ne 10, 3) := by decide +kernel
theorem d_Md_read_12 : decode b_Md_read 12 = .ok (.aload_n 0, 1) := by decide +kernel
theorem d_Md_read_13 : decode b_Md_read 13 = .ok (.invokevirtual 184, 3) := by decide +kernel
theorem d_Md_read_16 : decode b_Md_read 16 = .ok (.goto 7, 3) := by decide +kernel
theorem d_Md_read_19 : decode b_Md_read 19 = .ok (.aload_n 0, 1) := by decide +kernel
theorem d_Md_read_20 : decode b_Md_read 20 = .ok (.invokevirtual 187, 3) := by decide +kernel
theorem d_Md_read_23 : decode b_Md_read 23 = .ok (.return_, 1) := by decide +kernel
theorem d_Md_recall_0 : decode b_Md_recall 0 = .ok (.aload_n 0, 1) := by decide +kernel
theorem d_Md_recall_1 : decode b_Md_recall 1 = .ok (.invokevirtual 138, 3) := by decide +kernel
theorem d_Md_recall_4 : decode b_Md_recall 4 = .ok (.iconst 0, 1) := by decide +kernel
theorem d_Md_recall_5 : decode b_Md_recall 5 = .ok (.istore_n 2, 1) := by decide +kernel
theorem d_Md_recall_6 : decode b_Md_recall 6 = .ok (.iload_n 2, 1) := by decide +kernel
theorem d_Md_recall_7 : decode b_Md_recall 7 = .ok (.aload_n 0, 1) := by decide +kernel
theorem d_Md_recall_8 : decode b_Md_recall 8 = .ok (.getfield 13, 3) := by decide +kernel
theorem d_Md_recall_11 : decode b_Md_recall 11 = .ok (.iload_n 1, 1) := by decide +kernel
theorem d_Md_recall_12 : decode b_Md_recall 12 = .ok (.iaload, 1) := by decide +kernel
theorem d_Md_recall_13 : decode b_Md_recall 13 = .ok (.if_icmp .ge 24, 3) := by decide +kernel
theorem d_Md_recall_16 : decode b_Md_recall 16 = .ok (.aload_n 0, 1) := by decide +kernel
theorem d_Md_recall_17 : decode b_Md_recall 17 = .ok (.aload_n 0, 1) := by decide +kernel
theorem d_Md_recall_18 : decode b_Md_recall 18 = .ok (.getfield 17, 3) := by decide +kernel
theorem d_Md_recall_21 : decode b_Md_recall 21 = .ok (.bipush 20, 2) := by decide +kernel
theorem d_Md_recall_23 : decode b_Md_recall 23 = .ok (.iload_n 1, 1) := by decide +kernel
theorem d_Md_recall_24 : decode b_Md_recall 24 = .ok (.imul, 1) := by decide +kernel
theorem d_Md_recall_25 : decode b_Md_recall 25 = .ok (.iload_n 2, 1) := by decide +kernel
theorem d_Md_recall_26 : decode b_Md_recall 26 = .ok (.iadd, 1) := by decide +kernel
theorem d_Md_recall_27 : decode b_Md_recall 27 = .ok (.caload, 1) := by decide +kernel
theorem d_Md_recall_28 : decode b_Md_recall 28 = .ok (.invokevirtual 143, 3) := by decide +kernel
theorem d_Md_recall_31 : decode b_Md_recall 31 = .ok (.iinc 2 1, 3) := by decide +kernel
theorem d_Md_recall_34 : decode b_Md_recall 34 = .ok (.goto (-28), 3) := by decide +kernel
theorem d_Md_recall_37 : decode b_Md_recall 37 = .ok (.return_, 1) := by decide +kernel
theorem d_Md_reset_0 : decode b_Md_reset 0 = .ok (.aload_n 0, 1) := by decide +kernel
theorem d_Md_reset_1 : decode b_Md_reset 1 = .ok (.iconst 0, 1) := by decide +kernel
theorem d_Md_reset_2 : decode b_Md_reset 2 = .ok (.putfield 123, 3) := by decide +kernel
theorem d_Md_reset_5 : decode b_Md_reset 5 = .ok (.aload_n 0, 1) := by decide +kernel
theorem d_Md_reset_6 : decode b_Md_reset 6 = .ok (.iconst 0, 1) := by decide +kernel
theorem d_Md_reset_7 : decode b_Md_reset 7 = .ok (.putfield 126, 3) := by decide +kernel
theorem d_Md_reset_10 : decode b_Md_reset 10 = .ok (.aload_n 0, 1) := by decide +kernel
theorem d_Md_reset_11 : decode b_Md_reset 11 = .ok (.iconst 0, 1) := by decide +kernel
theorem d_Md_reset_12 : decode b_Md_reset 12 = .ok (.putfield 129, 3) := by decide +kernel
theorem d_Md_reset_15 : decode b_Md_reset 15 = .ok (.aload_n 0, 1) := by decide +kernel
theorem d_Md_reset_16 : decode b_Md_reset 16 = .ok (.iconst 0, 1) := by decide +kernel
theorem d_Md_reset_17 : decode b_Md_reset 17 = .ok (.putfield 132, 3) := by decide +kernel
theorem d_Md_reset_20 : decode b_Md_reset 20 = .ok (.return_, 1) := by decide +kernel
theorem d_Md_rule_0 : decode b_Md_rule 0 = .ok (.iload_n 1, 1) := by decide +kernel
theorem d_Md_rule_1 : decode b_Md_rule 1 = .ok (.iconst 0, 1) := by decide +kernel
theorem d_Md_rule_2 : decode b_Md_rule 2 = .ok (.bipush 7, 2) := by decide +kernel
theorem d_Md_rule_4 : decode b_Md_rule 4 = .ok (.invokestatic 119, 3) := by decide +kernel
theorem d_Md_rule_7 : decode b_Md_rule 7 = .ok (.ifCond .ne 23, 3) := by decide +kernel
theorem d_Md_rule_10 : decode b_Md_rule 10 = .ok (.iload 4, 2) := by decide +kernel
theorem d_Md_rule_12 : decode b_Md_rule 12 = .ok (.iconst 0, 1) := by decide +kernel
theorem d_Md_rule_13 : decode b_Md_rule 13 = .ok (.bipush 7, 2) := by decide +kernel
theorem d_Md_rule_15 : decode b_Md_rule 15 = .ok (.invokestatic 119, 3) := by decide +kernel
theorem d_Md_rule_18 : decode b_Md_rule 18 = .ok (.ifCond .ne 12, 3) := by decide +kernel
theorem d_Md_rule_21 : decode b_Md_rule 21 = .ok (.aload_n 0, 1) := by decide +kernel
theorem d_Md_rule_22 : decode b_Md_rule 22 = .ok (.getfield 123, 3) := by decide +kernel
theorem d_Md_rule_25 : decode b_Md_rule 25 = .ok (.bipush 20, 2) := by decide +kernel
theorem d_Md_rule_27 : decode b_Md_rule 27 = .ok (.if_icmp .lt 5, 3) := by decide +kernel
theorem d_Md_rule_30 : decode b_Md_rule 30 = .ok (.iconst 0, 1) := by decide +kernel
theorem d_Md_rule_31 : decode b_Md_rule 31 = .ok (.ireturn, 1) := by decide +kernel
theorem d_Md_rule_32 : decode b_Md_rule 32 = .ok (.iload_n 2, 1) := by decide +kernel
theorem d_Md_rule_33 : decode b_Md_rule 33 = .ok (.ifCond .eq 14, 3) := by decide +kernel
theorem d_Md_rule_36 : decode b_Md_rule 36 = .ok (.iload_n 2, 1) := by decide +kernel
theorem d_Md_rule_37 : decode b_Md_rule 37 = .ok (.bipush 32, 2) := by decide +kernel
theorem d_Md_rule_39 : decode b_Md_rule 39 = .ok (.bipush 126, 2) := by decide +kernel
theorem d_Md_rule_41 : decode b_Md_rule 41 = .ok (.invokestatic 119, 3) := by decide +kernel
theorem d_Md_rule_44 : decode b_Md_rule 44 = .ok (.ifCond .ne 18, 3) := by decide +kernel
theorem d_Md_rule_47 : decode b_Md_rule 47 = .ok (.iload_n 3, 1) := by decide +kernel
theorem d_Md_rule_48 : decode b_Md_rule 48 = .ok (.ifCond .eq 16, 3) := by decide +kernel
theorem d_Md_rule_51 : decode b_Md_rule 51 = .ok (.iload_n 3, 1) := by decide +kernel
theorem d_Md_rule_52 : decode b_Md_rule 52 = .ok (.bipush 32, 2) := by decide +kernel
theorem d_Md_rule_54 : decode b_Md_rule 54 = .ok (.bipush 126, 2) := by decide +kernel
theorem d_Md_rule_56 : decode b_Md_rule 56 = .ok (.invokestatic 119, 3) := by decide +kernel
theorem d_Md_rule_59 : decode b_Md_rule 59 = .ok (.ifCond .eq 5, 3) := by decide +kernel
theorem d_Md_rule_62 : decode b_Md_rule 62 = .ok (.iconst 0, 1) := by decide +kernel
theorem d_Md_rule_63 : decode b_Md_rule 63 = .ok (.ireturn, 1) := by decide +kernel
theorem d_Md_rule_64 : decode b_Md_rule 64 = .ok (.aload_n 0, 1) := by decide +kernel
theorem d_Md_rule_65 : decode b_Md_rule 65 = .ok (.getfield 91, 3) := by decide +kernel
theorem d_Md_rule_68 : decode b_Md_rule 68 = .ok (.aload_n 0, 1) := by decide +kernel
theorem d_Md_rule_69 : decode b_Md_rule 69 = .ok (.getfield 123, 3) := by decide +kernel
theorem d_Md_rule_72 : decode b_Md_rule 72 = .ok (.iload_n 1, 1) := by decide +kernel
theorem d_Md_rule_73 : decode b_Md_rule 73 = .ok (.iastore, 1) := by decide +kernel
theorem d_Md_rule_74 : decode b_Md_rule 74 = .ok (.aload_n 0, 1) := by decide +kernel
theorem d_Md_rule_75 : decode b_Md_rule 75 = .ok (.getfield 94, 3) := by decide +kernel
theorem d_Md_rule_78 : decode b_Md_rule 78 = .ok (.aload_n 0, 1) := by decide +kernel
theorem d_Md_rule_79 : decode b_Md_rule 79 = .ok (.getfield 123, 3) := by decide +kernel
theorem d_Md_rule_82 : decode b_Md_rule 82 = .ok (.iload_n 2, 1) := by decide +kernel
theorem d_Md_rule_83 : decode b_Md_rule 83 = .ok (.iastore, 1) := by decide +kernel
theorem d_Md_rule_84 : decode b_Md_rule 84 = .ok (.aload_n 0, 1) := by decide +kernel
theorem d_Md_rule_85 : decode b_Md_rule 85 = .ok (.getfield 97, 3) := by decide +kernel
theorem d_Md_rule_88 : decode b_Md_rule 88 = .ok (.aload_n 0, 1) := by decide +kernel
theorem d_Md_rule_89 : decode b_Md_rule 89 = .ok (.getfield 123, 3) := by decide +kernel
theorem d_Md_rule_92 : decode b_Md_rule 92 = .ok (.iload_n 3, 1) := by decide +kernel
theorem d_Md_rule_93 : decode b_Md_rule 93 = .ok (.iastore, 1) := by decide +kernel
theorem d_Md_rule_94 : decode b_Md_rule 94 = .ok (.aload_n 0, 1) := by decide +kernel
theorem d_Md_rule_95 : decode b_Md_rule 95 = .ok (.getfield 100, 3) := by decide +kernel
theorem d_Md_rule_98 : decode b_Md_rule 98 = .ok (.aload_n 0, 1) := by decide +kernel
theorem d_Md_rule_99 : decode b_Md_rule 99 = .ok (.getfield 123, 3) := by decide +kernel
theorem d_Md_rule_102 : decode b_Md_rule 102 = .ok (.iload 4, 2) := by decide +kernel
theorem d_Md_rule_104 : decode b_Md_rule 104 = .ok (.iastore, 1) := by decide +kernel
theorem d_Md_rule_105 : decode b_Md_rule 105 = .ok (.aload_n 0, 1) := by decide +kernel
theorem d_Md_rule_106 : decode b_Md_rule 106 = .ok (.dup, 1) := by decide +kernel
theorem d_Md_rule_107 : decode b_Md_rule 107 = .ok (.getfield 123, 3) := by decide +kernel
theorem d_Md_rule_110 : decode b_Md_rule 110 = .ok (.iconst 1, 1) := by decide +kernel
theorem d_Md_rule_111 : decode b_Md_rule 111 = .ok (.iadd, 1) := by decide +kernel
theorem d_Md_rule_112 : decode b_Md_rule 112 = .ok (.putfield 123, 3) := by decide +kernel
theorem d_Md_rule_115 : decode b_Md_rule 115 = .ok (.iconst 1, 1) := by decide +kernel
theorem d_Md_rule_116 : decode b_Md_rule 116 = .ok (.ireturn, 1) := by decide +kernel
theorem d_Md_run_0 : decode b_Md_run 0 = .ok (.iload_n 1, 1) := by decide +kernel
theorem d_Md_run_1 : decode b_Md_run 1 = .ok (.iconst 1, 1) := by decide +kernel
theorem d_Md_run_2 : decode b_Md_run 2 = .ok (.bipush 100, 2) := by decide +kernel
theorem d_Md_run_4 : decode b_Md_run 4 = .ok (.invokestatic 119, 3) := by decide +kernel
theorem d_Md_run_7 : decode b_Md_run 7 = .ok (.ifCond .eq 5, 3) := by decide +kernel
theorem d_Md_run_10 : decode b_Md_run 10 = .ok (.iconst (-1), 1) := by decide +kernel
theorem d_Md_run_11 : decode b_Md_run 11 = .ok (.ireturn, 1) := by decide +kernel
theorem d_Md_run_12 : decode b_Md_run 12 = .ok (.aload_n 0, 1) := by decide +kernel
theorem d_Md_run_13 : decode b_Md_run 13 = .ok (.iload_n 1, 1) := by decide +kernel
theorem d_Md_run_14 : decode b_Md_run 14 = .ok (.putfield 229, 3) := by decide +kernel
theorem d_Md_run_17 : decode b_Md_run 17 = .ok (.aload_n 0, 1) := by decide +kernel
theorem d_Md_run_18 : decode b_Md_run 18 = .ok (.iconst 0, 1) := by decide +kernel
theorem d_Md_run_19 : decode b_Md_run 19 = .ok (.putfield 232, 3) := by decide +kernel
theorem d_Md_run_22 : decode b_Md_run 22 = .ok (.aload_n 0, 1) := by decide +kernel
theorem d_Md_run_23 : decode b_Md_run 23 = .ok (.iconst 1, 1) := by decide +kernel
theorem d_Md_run_24 : decode b_Md_run 24 = .ok (.putfield 115, 3) := by decide +kernel
theorem d_Md_run_27 : decode b_Md_run 27 = .ok (.aload_n 0, 1) := by decide +kernel
theorem d_Md_run_28 : decode b_Md_run 28 = .ok (.iconst (-1), 1) := by decide +kernel
theorem d_Md_run_29 : decode b_Md_run 29 = .ok (.putfield 36, 3) := by decide +kernel
theorem d_Md_run_32 : decode b_Md_run 32 = .ok (.aload_n 0, 1) := by decide +kernel
theorem d_Md_run_33 : decode b_Md_run 33 = .ok (.iconst 0, 1) := by decide +kernel
theorem d_Md_run_34 : decode b_Md_run 34 = .ok (.aload_n 0, 1) := by decide +kernel
theorem d_Md_run_35 : decode b_Md_run 35 = .ok (.getfield 112, 3) := by decide +kernel
theorem d_Md_run_38 : decode b_Md_run 38 = .ok (.iconst 0, 1) := by decide +kernel
theorem d_Md_run_39 : decode b_Md_run 39 = .ok (.invokevirtual 173, 3) := by decide +kernel
theorem d_Md_run_42 : decode b_Md_run 42 = .ok (.istore_n 2, 1) := by decide +kernel
theorem d_Md_run_43 : decode b_Md_run 43 = .ok (.iconst 0, 1) := by decide +kernel
theorem d_Md_run_44 : decode b_Md_run 44 = .ok (.istore_n 3, 1) := by decide +kernel
theorem d_Md_run_45 : decode b_Md_run 45 = .ok (.iload_n 3, 1) := by decide +kernel
theorem d_Md_run_46 : decode b_Md_run 46 = .ok (.ldc_w 383, 3) := by decide +kernel
theorem d_Md_run_49 : decode b_Md_run 49 = .ok (.if_icmp .ge 53, 3) := by decide +kernel
theorem d_Md_run_52 : decode b_Md_run 52 = .ok (.iload_n 2, 1) := by decide +kernel
theorem d_Md_run_53 : decode b_Md_run 53 = .ok (.ifCond .eq 49, 3) := by decide +kernel
theorem d_Md_run_56 : decode b_Md_run 56 = .ok (.aload_n 0, 1) := by decide +kernel
theorem d_Md_run_57 : decode b_Md_run 57 = .ok (.getfield 36, 3) := by decide +kernel
theorem d_Md_run_60 : decode b_Md_run 60 = .ok (.ifCond .lt 42, 3) := by decide +kernel
theorem d_Md_run_63 : decode b_Md_run 63 = .ok (.aload_n 0, 1) := by decide +kernel
theorem d_Md_run_64 : decode b_Md_run 64 = .ok (.getfield 152, 3) := by decide +kernel
theorem d_Md_run_67 : decode b_Md_run 67 = .ok (.ifCond .ne 10, 3) := by decide +kernel
theorem d_Md_run_70 : decode b_Md_run 70 = .ok (.aload_n 0, 1) := by decide +kernel
theorem d_Md_run_71 : decode b_Md_run 71 = .ok (.invokevirtual 384, 3) := by decide +kernel
theorem d_Md_run_74 : decode b_Md_run 74 = .ok (.goto 22, 3) := by decide +kernel
theorem d_Md_run_77 : decode b_Md_run 77 = .ok (.aload_n 0, 1) := by decide +kernel
theorem d_Md_run_78 : decode b_Md_run 78 = .ok (.getfield 152, 3) := by decide +kernel
theorem d_Md_run_81 : decode b_Md_run 81 = .ok (.iconst 1, 1) := by decide +kernel
theorem d_Md_run_82 : decode b_Md_run 82 = .ok (.if_icmp .ne 10, 3) := by decide +kernel
theorem d_Md_run_85 : decode b_Md_run 85 = .ok (.aload_n 0, 1) := by decide +kernel
theorem d_Md_run_86 : decode b_Md_run 86 = .ok (.invokevirtual 387, 3) := by decide +kernel
theorem d_Md_run_89 : decode b_Md_run 89 = .ok (.goto 7, 3) := by decide +kernel
theorem d_Md_run_92 : decode b_Md_run 92 = .ok (.aload_n 0, 1) := by decide +kernel
theorem d_Md_run_93 : decode b_Md_run 93 = .ok (.invokevirtual 390, 3) := by decide +kernel
theorem d_Md_run_96 : decode b_Md_run 96 = .ok (.iinc 3 1, 3) := by decide +kernel
theorem d_Md_run_99 : decode b_Md_run 99 = .ok (.goto (-54), 3) := by decide +kernel
theorem d_Md_run_102 : decode b_Md_run 102 = .ok (.aload_n 0, 1) := by decide +kernel
theorem d_Md_run_103 : decode b_Md_run 103 = .ok (.getfield 149, 3) := by decide +kernel
theorem d_Md_run_106 : decode b_Md_run 106 = .ok (.iconst 3, 1) := by decide +kernel
theorem d_Md_run_107 : decode b_Md_run 107 = .ok (.if_icmp .eq 11, 3) := by decide +kernel
theorem d_Md_run_110 : decode b_Md_run 110 = .ok (.aload_n 0, 1) := by decide +kernel
theorem d_Md_run_111 : decode b_Md_run 111 = .ok (.getfield 149, 3) := by decide +kernel
theorem d_Md_run_114 : decode b_Md_run 114 = .ok (.iconst 4, 1) := by decide +kernel
theorem d_Md_run_115 : decode b_Md_run 115 = .ok (.if_icmp .ne 9, 3) := by decide +kernel
theorem d_Md_run_118 : decode b_Md_run 118 = .ok (.aload_n 0, 1) := by decide +kernel
theorem d_Md_run_119 : decode b_Md_run 119 = .ok (.bipush 9, 2) := by decide +kernel
theorem d_Md_run_121 : decode b_Md_run 121 = .ok (.invokevirtual 166, 3) := by decide +kernel
theorem d_Md_run_124 : decode b_Md_run 124 = .ok (.aload_n 0, 1) := by decide +kernel
theorem d_Md_run_125 : decode b_Md_run 125 = .ok (.getfield 149, 3) := by decide +kernel
theorem d_Md_run_128 : decode b_Md_run 128 = .ok (.iconst 2, 1) := by decide +kernel
theorem d_Md_run_129 : decode b_Md_run 129 = .ok (.if_icmp .ne 7, 3) := by decide +kernel
theorem d_Md_run_132 : decode b_Md_run 132 = .ok (.iconst 0, 1) := by decide +kernel
theorem d_Md_run_133 : decode b_Md_run 133 = .ok (.goto 7, 3) := by decide +kernel
theorem d_Md_run_136 : decode b_Md_run 136 = .ok (.aload_n 0, 1) := by decide +kernel
theorem d_Md_run_137 : decode b_Md_run 137 = .ok (.getfield 149, 3) := by decide +kernel
theorem d_Md_run_140 : decode b_Md_run 140 = .ok (.ireturn, 1) := by decide +kernel
theorem d_Md_say_0 : decode b_Md_say 0 = .ok (.aload_n 0, 1) := by decide +kernel
theorem d_Md_say_1 : decode b_Md_say 1 = .ok (.getfield 76, 3) := by decide +kernel
theorem d_Md_say_4 : decode b_Md_say 4 = .ok (.aload_n 0, 1) := by decide +kernel
theorem d_Md_say_5 : decode b_Md_say 5 = .ok (.getfield 135, 3) := by decide +kernel
theorem d_Md_say_8 : decode b_Md_say 8 = .ok (.iload_n 1, 1) := by decide +kernel
theorem d_Md_say_9 : decode b_Md_say 9 = .ok (.castore, 1) := by decide +kernel
theorem d_Md_say_10 : decode b_Md_say 10 = .ok (.aload_n 0, 1) := by decide +kernel
theorem d_Md_say_11 : decode b_Md_say 11 = .ok (.dup, 1) := by decide +kernel
theorem d_Md_say_12 : decode b_Md_say 12 = .ok (.getfield 135, 3) := by decide +kernel
theorem d_Md_say_15 : decode b_Md_say 15 = .ok (.iconst 1, 1) := by decide +kernel
theorem d_Md_say_16 : decode b_Md_say 16 = .ok (.iadd, 1) := by decide +kernel
theorem d_Md_say_17 : decode b_Md_say 17 = .ok (.putfield 135, 3) := by decide +kernel
theorem d_Md_say_20 : decode b_Md_say 20 = .ok (.return_, 1) := by decide +kernel
theorem d_Md_scriptEnded_0 : decode b_Md_scriptEnded 0 = .ok (.aload_n 0, 1) := by decide +kernel
theorem d_Md_scriptEnded_1 : decode b_Md_scriptEnded 1 = .ok (.getfield 46, 3) := by decide +kernel
theorem d_Md_scriptEnded_4 : decode b_Md_scriptEnded 4 = .ok (.aload_n 0, 1) := by decide +kernel
theorem d_Md_scriptEnded_5 : decode b_Md_scriptEnded 5 = .ok (.getfield 36, 3) := by decide +kernel
theorem d_Md_scriptEnded_8 : decode b_Md_scriptEnded 8 = .ok (.iaload, 1) := by decide +kernel
theorem d_Md_scriptEnded_9 : decode b_Md_scriptEnded 9 = .ok (.istore_n 1, 1) := by decide +kernel
theorem d_Md_scriptEnded_10 : decode b_Md_scriptEnded 10 = .ok (.aload_n 0, 1) := by decide +kernel
theorem d_Md_scriptEnded_11 : decode b_Md_scriptEnded 11 = .ok (.getfield 40, 3) := by decide +kernel
theorem d_Md_scriptEnded_14 : decode b_Md_scriptEnded 14 = .ok (.aload_n 0, 1) := by decide +kernel
theorem d_Md_scriptEnded_15 : decode b_Md_scriptEnded 15 = .ok (.getfield 36, 3) := by decide +kernel
theorem d_Md_scriptEnded_18 : decode b_Md_scriptEnded 18 = .ok (.iaload, 1) := by decide +kernel
theorem d_Md_scriptEnded_19 : decode b_Md_scriptEnded 19 = .ok (.istore_n 2, 1) := by decide +kernel
theorem d_Md_scriptEnded_20 : decode b_Md_scriptEnded 20 = .ok (.aload_n 0, 1) := by decide +kernel
theorem d_Md_scriptEnded_21 : decode b_Md_scriptEnded 21 = .ok (.dup, 1) := by decide +kernel
theorem d_Md_scriptEnded_22 : decode b_Md_scriptEnded 22 = .ok (.getfield 36, 3) := by decide +kernel
theorem d_Md_scriptEnded_25 : decode b_Md_scriptEnded 25 = .ok (.iconst 1, 1) := by decide +kernel
theorem d_Md_scriptEnded_26 : decode b_Md_scriptEnded 26 = .ok (.isub, 1) := by decide +kernel
theorem d_Md_scriptEnded_27 : decode b_Md_scriptEnded 27 = .ok (.putfield 36, 3) := by decide +kernel
theorem d_Md_scriptEnded_30 : decode b_Md_scriptEnded 30 = .ok (.aload_n 0, 1) := by decide +kernel
theorem d_Md_scriptEnded_31 : decode b_Md_scriptEnded 31 = .ok (.getfield 36, 3) := by decide +kernel
theorem d_Md_scriptEnded_34 : decode b_Md_scriptEnded 34 = .ok (.ifCond .ge 4, 3) := by decide +kernel
theorem d_Md_scriptEnded_37 : decode b_Md_scriptEnded 37 = .ok (.return_, 1) := by decide +kernel
theorem d_Md_scriptEnded_38 : decode b_Md_scriptEnded 38 = .ok (.iload_n 1, 1) := by decide +kernel
theorem d_Md_scriptEnded_39 : decode b_Md_scriptEnded 39 = .ok (.iconst 1, 1) := by decide +kernel
theorem d_Md_scriptEnded_40 : decode b_Md_scriptEnded 40 = .ok (.if_icmp .ne 61, 3) := by decide +kernel
theorem d_Md_scriptEnded_43 : decode b_Md_scriptEnded 43 = .ok (.aload_n 0, 1) := by decide +kernel
theorem d_Md_scriptEnded_44 : decode b_Md_scriptEnded 44 = .ok (.getfield 149, 3) := by decide +kernel
theorem d_Md_scriptEnded_47 : decode b_Md_scriptEnded 47 = .ok (.ifCond .eq 4, 3) := by decide +kernel
theorem d_Md_scriptEnded_50 : decode b_Md_scriptEnded 50 = .ok (.return_, 1) := by decide +kernel
theorem d_Md_scriptEnded_51 : decode b_Md_scriptEnded 51 = .ok (.aload_n 0, 1) := by decide +kernel
theorem d_Md_scriptEnded_52 : decode b_Md_scriptEnded 52 = .ok (.getfield 40, 3) := by decide +kernel
theorem d_Md_scriptEnded_55 : decode b_Md_scriptEnded 55 = .ok (.aload_n 0, 1) := by decide +kernel
theorem d_Md_scriptEnded_56 : decode b_Md_scriptEnded 56 = .ok (.getfield 36, 3) := by decide +kernel
theorem d_Md_scriptEnded_59 : decode b_Md_scriptEnded 59 = .ok (.iload_n 2, 1) := by decide +kernel
theorem d_Md_scriptEnded_60 : decode b_Md_scriptEnded 60 = .ok (.iastore, 1) := by decide +kernel
theorem d_Md_scriptEnded_61 : decode b_Md_scriptEnded 61 = .ok (.aload_n 0, 1) := by decide +kernel
theorem d_Md_scriptEnded_62 : decode b_Md_scriptEnded 62 = .ok (.iconst 0, 1) := by decide +kernel
theorem d_Md_scriptEnded_63 : decode b_Md_scriptEnded 63 = .ok (.putfield 152, 3) := by decide +kernel
theorem d_Md_scriptEnded_66 : decode b_Md_scriptEnded 66 = .ok (.iconst 0, 1) := by decide +kernel
theorem d_Md_scriptEnded_67 : decode b_Md_scriptEnded 67 = .ok (.istore_n 3, 1) := by decide +kernel
theorem d_Md_scriptEnded_68 : decode b_Md_scriptEnded 68 = .ok (.iload_n 3, 1) := by decide +kernel
theorem d_Md_scriptEnded_69 : decode b_Md_scriptEnded 69 = .ok (.aload_n 0, 1) := by decide +kernel
theorem d_Md_scriptEnded_70 : decode b_Md_scriptEnded 70 = .ok (.getfield 135, 3) := by decide +kernel
theorem d_Md_scriptEnded_73 : decode b_Md_scriptEnded 73 = .ok (.if_icmp .ge 27, 3) := by decide +kernel
theorem d_Md_scriptEnded_76 : decode b_Md_scriptEnded 76 = .ok (.aload_n 0, 1) := by decide +kernel
theorem d_Md_scriptEnded_77 : decode b_Md_scriptEnded 77 = .ok (.getfield 152, 3) := by decide +kernel
theorem d_Md_scriptEnded_80 : decode b_Md_scriptEnded 80 = .ok (.ifCond .ne 20, 3) := by decide +kernel
theorem d_Md_scriptEnded_83 : decode b_Md_scriptEnded 83 = .ok (.aload_n 0, 1) := by decide +kernel
theorem d_Md_scriptEnded_84 : decode b_Md_scriptEnded 84 = .ok (.aload_n 0, 1) := by decide +kernel
theorem d_Md_scriptEnded_85 : decode b_Md_scriptEnded 85 = .ok (.getfield 76, 3) := by decide +kernel
theorem d_Md_scriptEnded_88 : decode b_Md_scriptEnded 88 = .ok (.iload_n 3, 1) := by decide +kernel
theorem d_Md_scriptEnded_89 : decode b_Md_scriptEnded 89 = .ok (.caload, 1) := by decide +kernel
theorem d_Md_scriptEnded_90 : decode b_Md_scriptEnded 90 = .ok (.invokevirtual 209, 3) := by decide +kernel
theorem d_Md_scriptEnded_93 : decode b_Md_scriptEnded 93 = .ok (.pop, 1) := by decide +kernel
theorem d_Md_scriptEnded_94 : decode b_Md_scriptEnded 94 = .ok (.iinc 3 1, 3) := by decide +kernel
theorem d_Md_scriptEnded_97 : decode b_Md_scriptEnded 97 = .ok (.goto (-29), 3) := by decide +kernel
theorem d_Md_scriptEnded_100 : decode b_Md_scriptEnded 100 = .ok (.return_, 1) := by decide +kernel
theorem d_Md_scriptEnded_101 : decode b_Md_scriptEnded 101 = .ok (.aload_n 0, 1) := by decide +kernel
theorem d_Md_scriptEnded_102 : decode b_Md_scriptEnded 102 = .ok (.iconst 1, 1) := by decide +kernel
theorem d_Md_scriptEnded_103 : decode b_Md_scriptEnded 103 = .ok (.putfield 152, 3) := by decide +kernel
theorem d_Md_scriptEnded_106 : decode b_Md_scriptEnded 106 = .ok (.iload_n 1, 1) := by decide +kernel
theorem d_Md_scriptEnded_107 : decode b_Md_scriptEnded 107 = .ok (.iconst 3, 1) := by decide +kernel
theorem d_Md_scriptEnded_108 : decode b_Md_scriptEnded 108 = .ok (.if_icmp .ne 25, 3) := by decide +kernel
theorem d_Md_scriptEnded_111 : decode b_Md_scriptEnded 111 = .ok (.aload_n 0, 1) := by decide +kernel
theorem d_Md_scriptEnded_112 : decode b_Md_scriptEnded 112 = .ok (.getfield 149, 3) := by decide +kernel
theorem d_Md_scriptEnded_115 : decode b_Md_scriptEnded 115 = .ok (.ifCond .eq 11, 3) := by decide +kernel
theorem d_Md_scriptEnded_118 : decode b_Md_scriptEnded 118 = .ok (.aload_n 0, 1) := by decide +kernel
theorem d_Md_scriptEnded_119 : decode b_Md_scriptEnded 119 = .ok (.getfield 149, 3) := by decide +kernel
theorem d_Md_scriptEnded_122 : decode b_Md_scriptEnded 122 = .ok (.iconst 4, 1) := by decide +kernel
theorem d_Md_scriptEnded_123 : decode b_Md_scriptEnded 123 = .ok (.if_icmp .ne 10, 3) := by decide +kernel
theorem d_Md_scriptEnded_126 : decode b_Md_scriptEnded 126 = .ok (.aload_n 0, 1) := by decide +kernel
theorem d_Md_scriptEnded_127 : decode b_Md_scriptEnded 127 = .ok (.invokevirtual 216, 3) := by decide +kernel
theorem d_Md_scriptEnded_130 : decode b_Md_scriptEnded 130 = .ok (.goto 96, 3) := by decide +kernel
theorem d_Md_scriptEnded_133 : decode b_Md_scriptEnded 133 = .ok (.iload_n 1, 1) := by decide +kernel
theorem d_Md_scriptEnded_134 : decode b_Md_scriptEnded 134 = .ok (.iconst 3, 1) := by decide +kernel
theorem d_Md_scriptEnded_135 : decode b_Md_scriptEnded 135 = .ok (.if_icmp .ne 23, 3) := by decide +kernel
theorem d_Md_scriptEnded_138 : decode b_Md_scriptEnded 138 = .ok (.aload_n 0, 1) := by decide +kernel
theorem d_Md_scriptEnded_139 : decode b_Md_scriptEnded 139 = .ok (.getfield 149, 3) := by decide +kernel
theorem d_Md_scriptEnded_142 : decode b_Md_scriptEnded 142 = .ok (.iconst 3, 1) := by decide +kernel
theorem d_Md_scriptEnded_143 : decode b_Md_scriptEnded 143 = .ok (.if_icmp .ne 15, 3) := by decide +kernel
theorem d_Md_scriptEnded_146 : decode b_Md_scriptEnded 146 = .ok (.aload_n 0, 1) := by decide +kernel
theorem d_Md_scriptEnded_147 : decode b_Md_scriptEnded 147 = .ok (.invokevirtual 138, 3) := by decide +kernel
theorem d_Md_scriptEnded_150 : decode b_Md_scriptEnded 150 = .ok (.aload_n 0, 1) := by decide +kernel
theorem d_Md_scriptEnded_151 : decode b_Md_scriptEnded 151 = .ok (.iconst 0, 1) := by decide +kernel
theorem d_Md_scriptEnded_152 : decode b_Md_scriptEnded 152 = .ok (.putfield 149, 3) := by decide +kernel
theorem d_Md_scriptEnded_155 : decode b_Md_scriptEnded 155 = .ok (.goto 71, 3) := by decide +kernel
theorem d_Md_scriptEnded_158 : decode b_Md_scriptEnded 158 = .ok (.iload_n 1, 1) := by decide +kernel
theorem d_Md_scriptEnded_159 : decode b_Md_scriptEnded 159 = .ok (.iconst 4, 1) := by decide +kernel
theorem d_Md_scriptEnded_160 : decode b_Md_scriptEnded 160 = .ok (.if_icmp .ne 28, 3) := by decide +kernel
theorem d_Md_scriptEnded_163 : decode b_Md_scriptEnded 163 = .ok (.aload_n 0, 1) := by decide +kernel
theorem d_Md_scriptEnded_164 : decode b_Md_scriptEnded 164 = .ok (.getfield 149, 3) := by decide +kernel
theorem d_Md_scriptEnded_167 : decode b_Md_scriptEnded 167 = .ok (.iconst 3, 1) := by decide +kernel
theorem d_Md_scriptEnded_168 : decode b_Md_scriptEnded 168 = .ok (.if_icmp .eq 11, 3) := by decide +kernel
theorem d_Md_scriptEnded_171 : decode b_Md_scriptEnded 171 = .ok (.aload_n 0, 1) := by decide +kernel
theorem d_Md_scriptEnded_172 : decode b_Md_scriptEnded 172 = .ok (.getfield 149, 3) := by decide +kernel
theorem d_Md_scriptEnded_175 : decode b_Md_scriptEnded 175 = .ok (.iconst 4, 1) := by decide +kernel
theorem d_Md_scriptEnded_176 : decode b_Md_scriptEnded 176 = .ok (.if_icmp .ne 12, 3) := by decide +kernel
theorem d_Md_scriptEnded_179 : decode b_Md_scriptEnded 179 = .ok (.aload_n 0, 1) := by decide +kernel
theorem d_Md_scriptEnded_180 : decode b_Md_scriptEnded 180 = .ok (.bipush 9, 2) := by decide +kernel
theorem d_Md_scriptEnded_182 : decode b_Md_scriptEnded 182 = .ok (.invokevirtual 166, 3) := by decide +kernel
theorem d_Md_scriptEnded_185 : decode b_Md_scriptEnded 185 = .ok (.goto 41, 3) := by decide +kernel
theorem d_Md_scriptEnded_188 : decode b_Md_scriptEnded 188 = .ok (.iload_n 1, 1) := by decide +kernel
theorem d_Md_scriptEnded_189 : decode b_Md_scriptEnded 189 = .ok (.iconst 4, 1) := by decide +kernel
theorem d_Md_scriptEnded_190 : decode b_Md_scriptEnded 190 = .ok (.if_icmp .ne 19, 3) := by decide +kernel
theorem d_Md_scriptEnded_193 : decode b_Md_scriptEnded 193 = .ok (.aload_n 0, 1) := by decide +kernel
theorem d_Md_scriptEnded_194 : decode b_Md_scriptEnded 194 = .ok (.getfield 149, 3) := by decide +kernel
theorem d_Md_scriptEnded_197 : decode b_Md_scriptEnded 197 = .ok (.iconst 2, 1) := by decide +kernel
theorem d_Md_scriptEnded_198 : decode b_Md_scriptEnded 198 = .ok (.if_icmp .ne 11, 3) := by decide +kernel
theorem d_Md_scriptEnded_201 : decode b_Md_scriptEnded 201 = .ok (.aload_n 0, 1) := by decide +kernel
theorem d_Md_scriptEnded_202 : decode b_Md_scriptEnded 202 = .ok (.iconst 0, 1) := by decide +kernel
theorem d_Md_scriptEnded_203 : decode b_Md_scriptEnded 203 = .ok (.putfield 149, 3) := by decide +kernel
theorem d_Md_scriptEnded_206 : decode b_Md_scriptEnded 206 = .ok (.goto 20, 3) := by decide +kernel
theorem d_Md_scriptEnded_209 : decode b_Md_scriptEnded 209 = .ok (.iload_n 1, 1) := by decide +kernel
theorem d_Md_scriptEnded_210 : decode b_Md_scriptEnded 210 = .ok (.iconst 5, 1) := by decide +kernel
theorem d_Md_scriptEnded_211 : decode b_Md_scriptEnded 211 = .ok (.if_icmp .ne 15, 3) := by decide +kernel
theorem d_Md_scriptEnded_214 : decode b_Md_scriptEnded 214 = .ok (.aload_n 0, 1) := by decide +kernel
theorem d_Md_scriptEnded_215 : decode b_Md_scriptEnded 215 = .ok (.getfield 149, 3) := by decide +kernel
theorem d_Md_scriptEnded_218 : decode b_Md_scriptEnded 218 = .ok (.iconst 5, 1) := by decide +kernel
theorem d_Md_scriptEnded_219 : decode b_Md_scriptEnded 219 = .ok (.if_icmp .eq 7, 3) := by decide +kernel
theorem d_Md_scriptEnded_222 : decode b_Md_scriptEnded 222 = .ok (.aload_n 0, 1) := by decide +kernel
theorem d_Md_scriptEnded_223 : decode b_Md_scriptEnded 223 = .ok (.invokevirtual 170, 3) := by decide +kernel
theorem d_Md_scriptEnded_226 : decode b_Md_scriptEnded 226 = .ok (.return_, 1) := by decide +kernel
theorem d_Md_send_0 : decode b_Md_send 0 = .ok (.aload_n 0, 1) := by decide +kernel
theorem d_Md_send_1 : decode b_Md_send 1 = .ok (.iconst 1, 1) := by decide +kernel
theorem d_Md_send_2 : decode b_Md_send 2 = .ok (.invokevirtual 159, 3) := by decide +kernel
theorem d_Md_send_5 : decode b_Md_send 5 = .ok (.istore_n 1, 1) := by decide +kernel
theorem d_Md_send_6 : decode b_Md_send 6 = .ok (.aload_n 0, 1) := by decide +kernel
theorem d_Md_send_7 : decode b_Md_send 7 = .ok (.getfield 129, 3) := by decide +kernel
theorem d_Md_send_10 : decode b_Md_send 10 = .ok (.iload_n 1, 1) := by decide +kernel
theorem d_Md_send_11 : decode b_Md_send 11 = .ok (.iadd, 1) := by decide +kernel
theorem d_Md_send_12 : decode b_Md_send 12 = .ok (.bipush 40, 2) := by decide +kernel
theorem d_Md_send_14 : decode b_Md_send 14 = .ok (.if_icmp .le 10, 3) := by decide +kernel
theorem d_Md_send_17 : decode b_Md_send 17 = .ok (.aload_n 0, 1) := by decide +kernel
theorem d_Md_send_18 : decode b_Md_send 18 = .ok (.bipush 7, 2) := by decide +kernel
theorem d_Md_send_20 : decode b_Md_send 20 = .ok (.invokevirtual 166, 3) := by decide +kernel
theorem d_Md_send_23 : decode b_Md_send 23 = .ok (.return_, 1) := by decide +kernel
theorem d_Md_send_24 : decode b_Md_send 24 = .ok (.iconst 0, 1) := by decide +kernel
theorem d_Md_send_25 : decode b_Md_send 25 = .ok (.istore_n 2, 1) := by decide +kernel
theorem d_Md_send_26 : decode b_Md_send 26 = .ok (.iload_n 2, 1) := by decide +kernel
theorem d_Md_send_27 : decode b_Md_send 27 = .ok (.iload_n 1, 1) := by decide +kernel
theorem d_Md_send_28 : decode b_Md_send 28 = .ok (.if_icmp .ge 44, 3) := by decide +kernel
theorem d_Md_send_31 : decode b_Md_send 31 = .ok (.aload_n 0, 1) := by decide +kernel
theorem d_Md_send_32 : decode b_Md_send 32 = .ok (.getfield 103, 3) := by decide +kernel
theorem d_Md_send_35 : decode b_Md_send 35 = .ok (.aload_n 0, 1) := by decide +kernel
theorem d_Md_send_36 : decode b_Md_send 36 = .ok (.getfield 129, 3) := by decide +kernel
theorem d_Md_send_39 : decode b_Md_send 39 = .ok (.aload_n 0, 1) := by decide +kernel
theorem d_Md_send_40 : decode b_Md_send 40 = .ok (.iconst 1, 1) := by decide +kernel
theorem d_Md_send_41 : decode b_Md_send 41 = .ok (.iload_n 2, 1) := by decide +kernel
theorem d_Md_send_42 : decode b_Md_send 42 = .ok (.invokevirtual 162, 3) := by decide +kernel
theorem d_Md_send_45 : decode b_Md_send 45 = .ok (.castore, 1) := by decide +kernel
theorem d_Md_send_46 : decode b_Md_send 46 = .ok (.aload_n 0, 1) := by decide +kernel
theorem d_Md_send_47 : decode b_Md_send 47 = .ok (.dup, 1) := by decide +kernel
theorem d_Md_send_48 : decode b_Md_send 48 = .ok (.getfield 129, 3) := by decide +kernel
theorem d_Md_send_51 : decode b_Md_send 51 = .ok (.iconst 1, 1) := by decide +kernel
theorem d_Md_send_52 : decode b_Md_send 52 = .ok (.iadd, 1) := by decide +kernel
theorem d_Md_send_53 : decode b_Md_send 53 = .ok (.putfield 129, 3) := by decide +kernel
theorem d_Md_send_56 : decode b_Md_send 56 = .ok (.aload_n 0, 1) := by decide +kernel
theorem d_Md_send_57 : decode b_Md_send 57 = .ok (.aload_n 0, 1) := by decide +kernel
theorem d_Md_send_58 : decode b_Md_send 58 = .ok (.iconst 1, 1) := by decide +kernel
theorem d_Md_send_59 : decode b_Md_send 59 = .ok (.iload_n 2, 1) := by decide +kernel
theorem d_Md_send_60 : decode b_Md_send 60 = .ok (.invokevirtual 162, 3) := by decide +kernel
theorem d_Md_send_63 : decode b_Md_send 63 = .ok (.invokevirtual 373, 3) := by decide +kernel
theorem d_Md_send_66 : decode b_Md_send 66 = .ok (.iinc 2 1, 3) := by decide +kernel
theorem d_Md_send_69 : decode b_Md_send 69 = .ok (.goto (-43), 3) := by decide +kernel
theorem d_Md_send_72 : decode b_Md_send 72 = .ok (.aload_n 0, 1) := by decide +kernel
theorem d_Md_send_73 : decode b_Md_send 73 = .ok (.iconst 0, 1) := by decide +kernel
theorem d_Md_send_74 : decode b_Md_send 74 = .ok (.invokevirtual 235, 3) := by decide +kernel
theorem d_Md_send_77 : decode b_Md_send 77 = .ok (.return_, 1) := by decide +kernel
theorem d_Md_set_0 : decode b_Md_set 0 = .ok (.aload_n 0, 1) := by decide +kernel
theorem d_Md_set_1 : decode b_Md_set 1 = .ok (.getfield 55, 3) := by decide +kernel
theorem d_Md_set_4 : decode b_Md_set 4 = .ok (.aload_n 0, 1) := by decide +kernel
theorem d_Md_set_5 : decode b_Md_set 5 = .ok (.getfield 36, 3) := by decide +kernel
theorem d_Md_set_8 : decode b_Md_set 8 = .ok (.iaload, 1) := by decide +kernel
theorem d_Md_set_9 : decode b_Md_set 9 = .ok (.iconst 3, 1) := by decide +kernel
theorem d_Md_set_10 : decode b_Md_set 10 = .ok (.if_icmp .ne 12, 3) := by decide +kernel
theorem d_Md_set_13 : decode b_Md_set 13 = .ok (.aload_n 0, 1) := by decide +kernel
theorem d_Md_set_14 : decode b_Md_set 14 = .ok (.iload_n 1, 1) := by decide +kernel
theorem d_Md_set_15 : decode b_Md_set 15 = .ok (.iconst 2, 1) := by decide +kernel
theorem d_Md_set_16 : decode b_Md_set 16 = .ok (.invokevirtual 305, 3) := by decide +kernel
theorem d_Md_set_19 : decode b_Md_set 19 = .ok (.goto 18, 3) := by decide +kernel
theorem d_Md_set_22 : decode b_Md_set 22 = .ok (.aload_n 0, 1) := by decide +kernel
theorem d_Md_set_23 : decode b_Md_set 23 = .ok (.getfield 13, 3) := by decide +kernel
theorem d_Md_set_26 : decode b_Md_set 26 = .ok (.iload_n 1, 1) := by decide +kernel
theorem d_Md_set_27 : decode b_Md_set 27 = .ok (.iaload, 1) := by decide +kernel
theorem d_Md_set_28 : decode b_Md_set 28 = .ok (.ifCond .ge 9, 3) := by decide +kernel
theorem d_Md_set_31 : decode b_Md_set 31 = .ok (.aload_n 0, 1) := by decide +kernel
theorem d_Md_set_32 : decode b_Md_set 32 = .ok (.iconst 4, 1) := by decide +kernel
theorem d_Md_set_33 : decode b_Md_set 33 = .ok (.invokevirtual 166, 3) := by decide +kernel
theorem d_Md_set_36 : decode b_Md_set 36 = .ok (.return_, 1) := by decide +kernel
theorem d_Md_set_37 : decode b_Md_set 37 = .ok (.aload_n 0, 1) := by decide +kernel
theorem d_Md_set_38 : decode b_Md_set 38 = .ok (.iload_n 1, 1) := by decide +kernel
theorem d_Md_set_39 : decode b_Md_set 39 = .ok (.invokevirtual 309, 3) := by decide +kernel
theorem d_Md_set_42 : decode b_Md_set 42 = .ok (.aload_n 0, 1) := by decide +kernel
theorem d_Md_set_43 : decode b_Md_set 43 = .ok (.iconst 0, 1) := by decide +kernel
theorem d_Md_set_44 : decode b_Md_set 44 = .ok (.invokevirtual 235, 3) := by decide +kernel
theorem d_Md_set_47 : decode b_Md_set 47 = .ok (.return_, 1) := by decide +kernel
theorem d_Md_sign_0 : decode b_Md_sign 0 = .ok (.aload_n 0, 1) := by decide +kernel
theorem d_Md_sign_1 : decode b_Md_sign 1 = .ok (.getfield 79, 3) := by decide +kernel
theorem d_Md_sign_4 : decode b_Md_sign 4 = .ok (.aload_n 0, 1) := by decide +kernel
theorem d_Md_sign_5 : decode b_Md_sign 5 = .ok (.getfield 338, 3) := by decide +kernel
theorem d_Md_sign_8 : decode b_Md_sign 8 = .ok (.iload_n 1, 1) := by decide +kernel
theorem d_Md_sign_9 : decode b_Md_sign 9 = .ok (.iastore, 1) := by decide +kernel
theorem d_Md_sign_10 : decode b_Md_sign 10 = .ok (.aload_n 0, 1) := by decide +kernel
theorem d_Md_sign_11 : decode b_Md_sign 11 = .ok (.dup, 1) := by decide +kernel
theorem d_Md_sign_12 : decode b_Md_sign 12 = .ok (.getfield 338, 3) := by decide +kernel
theorem d_Md_sign_15 : decode b_Md_sign 15 = .ok (.iconst 1, 1) := by decide +kernel
theorem d_Md_sign_16 : decode b_Md_sign 16 = .ok (.iadd, 1) := by decide +kernel
theorem d_Md_sign_17 : decode b_Md_sign 17 = .ok (.putfield 338, 3) := by decide +kernel
theorem d_Md_sign_20 : decode b_Md_sign 20 = .ok (.return_, 1) := by decide +kernel
theorem d_Md_size_0 : decode b_Md_size 0 = .ok (.iload_n 1, 1) := by decide +kernel
theorem d_Md_size_1 : decode b_Md_size 1 = .ok (.iconst 0, 1) := by decide +kernel
theorem d_Md_size_2 : decode b_Md_size 2 = .ok (.bipush 25, 2) := by decide +kernel
theorem d_Md_size_4 : decode b_Md_size 4 = .ok (.invokestatic 119, 3) := by decide +kernel
theorem d_Md_size_7 : decode b_Md_size 7 = .ok (.ifCond .eq 7, 3) := by decide +kernel
theorem d_Md_size_10 : decode b_Md_size 10 = .ok (.iconst (-1), 1) := by decide +kernel
theorem d_Md_size_11 : decode b_Md_size 11 = .ok (.goto 9, 3) := by decide +kernel
theorem d_Md_size_14 : decode b_Md_size 14 = .ok (.aload_n 0, 1) := by decide +kernel
theorem d_Md_size_15 : decode b_Md_size 15 = .ok (.getfield 13, 3) := by decide +kernel
theorem d_Md_size_18 : decode b_Md_size 18 = .ok (.iload_n 1, 1) := by decide +kernel
theorem d_Md_size_19 : decode b_Md_size 19 = .ok (.iaload, 1) := by decide +kernel
theorem d_Md_size_20 : decode b_Md_size 20 = .ok (.ireturn, 1) := by decide +kernel
theorem d_Md_sizeOf_0 : decode b_Md_sizeOf 0 = .ok (.aload_n 0, 1) := by decide +kernel
theorem d_Md_sizeOf_1 : decode b_Md_sizeOf 1 = .ok (.getfield 70, 3) := by decide +kernel
theorem d_Md_sizeOf_4 : decode b_Md_sizeOf 4 = .ok (.aload_n 0, 1) := by decide +kernel
theorem d_Md_sizeOf_5 : decode b_Md_sizeOf 5 = .ok (.iload_n 1, 1) := by decide +kernel
theorem d_Md_sizeOf_6 : decode b_Md_sizeOf 6 = .ok (.invokevirtual 155, 3) := by decide +kernel
theorem d_Md_sizeOf_9 : decode b_Md_sizeOf 9 = .ok (.iaload, 1) := by decide +kernel
theorem d_Md_sizeOf_10 : decode b_Md_sizeOf 10 = .ok (.ireturn, 1) := by decide +kernel
theorem d_Md_spend_0 : decode b_Md_spend 0 = .ok (.aload_n 0, 1) := by decide +kernel
theorem d_Md_spend_1 : decode b_Md_spend 1 = .ok (.getfield 229, 3) := by decide +kernel
theorem d_Md_spend_4 : decode b_Md_spend 4 = .ok (.aload_n 0, 1) := by decide +kernel
theorem d_Md_spend_5 : decode b_Md_spend 5 = .ok (.getfield 232, 3) := by decide +kernel
theorem d_Md_spend_8 : decode b_Md_spend 8 = .ok (.if_icmp .ne 14, 3) := by decide +kernel
theorem d_Md_spend_11 : decode b_Md_spend 11 = .ok (.aload_n 0, 1) := by decide +kernel
theorem d_Md_spend_12 : decode b_Md_spend 12 = .ok (.invokevirtual 138, 3) := by decide +kernel
theorem d_Md_spend_15 : decode b_Md_spend 15 = .ok (.aload_n 0, 1) := by decide +kernel
theorem d_Md_spend_16 : decode b_Md_spend 16 = .ok (.iconst 5, 1) := by decide +kernel
theorem d_Md_spend_17 : decode b_Md_spend 17 = .ok (.invokevirtual 235, 3) := by decide +kernel
theorem d_Md_spend_20 : decode b_Md_spend 20 = .ok (.iconst 0, 1) := by decide +kernel
theorem d_Md_spend_21 : decode b_Md_spend 21 = .ok (.ireturn, 1) := by decide +kernel
theorem d_Md_spend_22 : decode b_Md_spend 22 = .ok (.aload_n 0, 1) := by decide +kernel
theorem d_Md_spend_23 : decode b_Md_spend 23 = .ok (.dup, 1) := by decide +kernel
theorem d_Md_spend_24 : decode b_Md_spend 24 = .ok (.getfield 232, 3) := by decide +kernel
theorem d_Md_spend_27 : decode b_Md_spend 27 = .ok (.iconst 1, 1) := by decide +kernel
theorem d_Md_spend_28 : decode b_Md_spend 28 = .ok (.iadd, 1) := by decide +kernel
theorem d_Md_spend_29 : decode b_Md_spend 29 = .ok (.putfield 232, 3) := by decide +kernel
theorem d_Md_spend_32 : decode b_Md_spend 32 = .ok (.iconst 1, 1) := by decide +kernel
theorem d_Md_spend_33 : decode b_Md_spend 33 = .ok (.ireturn, 1) := by decide +kernel
theorem d_Md_store_0 : decode b_Md_store 0 = .ok (.aload_n 0, 1) := by decide +kernel
theorem d_Md_store_1 : decode b_Md_store 1 = .ok (.getfield 13, 3) := by decide +kernel
theorem d_Md_store_4 : decode b_Md_store 4 = .ok (.iload_n 1, 1) := by decide +kernel
theorem d_Md_store_5 : decode b_Md_store 5 = .ok (.aload_n 0, 1) := by decide +kernel
theorem d_Md_store_6 : decode b_Md_store 6 = .ok (.getfield 135, 3) := by decide +kernel
theorem d_Md_store_9 : decode b_Md_store 9 = .ok (.iastore, 1) := by decide +kernel
theorem d_Md_store_10 : decode b_Md_store 10 = .ok (.iconst 0, 1) := by decide +kernel
