/-! decode rows; written by wip/gen/names.py -/
theorem d_Md_inWord_9 : decode b_Md_inWord 9 = .ok (.aload_n 0, 1) := by decide +kernel
theorem d_Md_inWord_10 : decode b_Md_inWord 10 = .ok (.getfield 36, 3) := by decide +kernel
theorem d_Md_inWord_13 : decode b_Md_inWord 13 = .ok (.iaload, 1) := by decide +kernel
theorem d_Md_inWord_14 : decode b_Md_inWord 14 = .ok (.iconst 1, 1) := by decide +kernel
theorem d_Md_inWord_15 : decode b_Md_inWord 15 = .ok (.if_icmp .ne 7, 3) := by decide +kernel
theorem d_Md_inWord_18 : decode b_Md_inWord 18 = .ok (.iconst 1, 1) := by decide +kernel
theorem d_Md_inWord_19 : decode b_Md_inWord 19 = .ok (.goto 4, 3) := by decide +kernel
theorem d_Md_inWord_22 : decode b_Md_inWord 22 = .ok (.iconst 0, 1) := by decide +kernel
theorem d_Md_inWord_23 : decode b_Md_inWord 23 = .ok (.istore_n 2, 1) := by decide +kernel
theorem d_Md_inWord_24 : decode b_Md_inWord 24 = .ok (.iload_n 2, 1) := by decide +kernel
theorem d_Md_inWord_25 : decode b_Md_inWord 25 = .ok (.ifCond .eq 24, 3) := by decide +kernel
theorem d_Md_inWord_28 : decode b_Md_inWord 28 = .ok (.aload_n 0, 1) := by decide +kernel
theorem d_Md_inWord_29 : decode b_Md_inWord 29 = .ok (.invokevirtual 190, 3) := by decide +kernel
theorem d_Md_inWord_32 : decode b_Md_inWord 32 = .ok (.ifCond .ne 9, 3) := by decide +kernel
theorem d_Md_inWord_35 : decode b_Md_inWord 35 = .ok (.iload_n 1, 1) := by decide +kernel
theorem d_Md_inWord_36 : decode b_Md_inWord 36 = .ok (.bipush 32, 2) := by decide +kernel
theorem d_Md_inWord_38 : decode b_Md_inWord 38 = .ok (.if_icmp .ne 11, 3) := by decide +kernel
theorem d_Md_inWord_41 : decode b_Md_inWord 41 = .ok (.aload_n 0, 1) := by decide +kernel
theorem d_Md_inWord_42 : decode b_Md_inWord 42 = .ok (.iconst 0, 1) := by decide +kernel
theorem d_Md_inWord_43 : decode b_Md_inWord 43 = .ok (.invokevirtual 199, 3) := by decide +kernel
theorem d_Md_inWord_46 : decode b_Md_inWord 46 = .ok (.goto 100, 3) := by decide +kernel
theorem d_Md_inWord_49 : decode b_Md_inWord 49 = .ok (.aload_n 0, 1) := by decide +kernel
theorem d_Md_inWord_50 : decode b_Md_inWord 50 = .ok (.invokevirtual 176, 3) := by decide +kernel
theorem d_Md_inWord_53 : decode b_Md_inWord 53 = .ok (.ifCond .eq 11, 3) := by decide +kernel
theorem d_Md_inWord_56 : decode b_Md_inWord 56 = .ok (.aload_n 0, 1) := by decide +kernel
theorem d_Md_inWord_57 : decode b_Md_inWord 57 = .ok (.iconst 1, 1) := by decide +kernel
theorem d_Md_inWord_58 : decode b_Md_inWord 58 = .ok (.invokevirtual 166, 3) := by decide +kernel
theorem d_Md_inWord_61 : decode b_Md_inWord 61 = .ok (.goto 85, 3) := by decide +kernel
theorem d_Md_inWord_64 : decode b_Md_inWord 64 = .ok (.iload_n 2, 1) := by decide +kernel
theorem d_Md_inWord_65 : decode b_Md_inWord 65 = .ok (.ifCond .ne 30, 3) := by decide +kernel
theorem d_Md_inWord_68 : decode b_Md_inWord 68 = .ok (.iload_n 1, 1) := by decide +kernel
theorem d_Md_inWord_69 : decode b_Md_inWord 69 = .ok (.bipush 34, 2) := by decide +kernel
theorem d_Md_inWord_71 : decode b_Md_inWord 71 = .ok (.if_icmp .ne 24, 3) := by decide +kernel
theorem d_Md_inWord_74 : decode b_Md_inWord 74 = .ok (.aload_n 0, 1) := by decide +kernel
theorem d_Md_inWord_75 : decode b_Md_inWord 75 = .ok (.getfield 40, 3) := by decide +kernel
theorem d_Md_inWord_78 : decode b_Md_inWord 78 = .ok (.aload_n 0, 1) := by decide +kernel
theorem d_Md_inWord_79 : decode b_Md_inWord 79 = .ok (.getfield 36, 3) := by decide +kernel
theorem d_Md_inWord_82 : decode b_Md_inWord 82 = .ok (.dup2, 1) := by decide +kernel
theorem d_Md_inWord_83 : decode b_Md_inWord 83 = .ok (.iaload, 1) := by decide +kernel
theorem d_Md_inWord_84 : decode b_Md_inWord 84 = .ok (.iconst 1, 1) := by decide +kernel
theorem d_Md_inWord_85 : decode b_Md_inWord 85 = .ok (.iadd, 1) := by decide +kernel
theorem d_Md_inWord_86 : decode b_Md_inWord 86 = .ok (.iastore, 1) := by decide +kernel
theorem d_Md_inWord_87 : decode b_Md_inWord 87 = .ok (.aload_n 0, 1) := by decide +kernel
theorem d_Md_inWord_88 : decode b_Md_inWord 88 = .ok (.iconst 1, 1) := by decide +kernel
theorem d_Md_inWord_89 : decode b_Md_inWord 89 = .ok (.invokevirtual 199, 3) := by decide +kernel
theorem d_Md_inWord_92 : decode b_Md_inWord 92 = .ok (.goto 54, 3) := by decide +kernel
theorem d_Md_inWord_95 : decode b_Md_inWord 95 = .ok (.iload_n 1, 1) := by decide +kernel
theorem d_Md_inWord_96 : decode b_Md_inWord 96 = .ok (.bipush 91, 2) := by decide +kernel
theorem d_Md_inWord_98 : decode b_Md_inWord 98 = .ok (.if_icmp .ne 43, 3) := by decide +kernel
theorem d_Md_inWord_101 : decode b_Md_inWord 101 = .ok (.aload_n 0, 1) := by decide +kernel
theorem d_Md_inWord_102 : decode b_Md_inWord 102 = .ok (.getfield 40, 3) := by decide +kernel
theorem d_Md_inWord_105 : decode b_Md_inWord 105 = .ok (.aload_n 0, 1) := by decide +kernel
theorem d_Md_inWord_106 : decode b_Md_inWord 106 = .ok (.getfield 36, 3) := by decide +kernel
theorem d_Md_inWord_109 : decode b_Md_inWord 109 = .ok (.dup2, 1) := by decide +kernel
theorem d_Md_inWord_110 : decode b_Md_inWord 110 = .ok (.iaload, 1) := by decide +kernel
theorem d_Md_inWord_111 : decode b_Md_inWord 111 = .ok (.iconst 1, 1) := by decide +kernel
theorem d_Md_inWord_112 : decode b_Md_inWord 112 = .ok (.iadd, 1) := by decide +kernel
theorem d_Md_inWord_113 : decode b_Md_inWord 113 = .ok (.iastore, 1) := by decide +kernel
theorem d_Md_inWord_114 : decode b_Md_inWord 114 = .ok (.aload_n 0, 1) := by decide +kernel
theorem d_Md_inWord_115 : decode b_Md_inWord 115 = .ok (.aload_n 0, 1) := by decide +kernel
theorem d_Md_inWord_116 : decode b_Md_inWord 116 = .ok (.getfield 40, 3) := by decide +kernel
theorem d_Md_inWord_119 : decode b_Md_inWord 119 = .ok (.aload_n 0, 1) := by decide +kernel
theorem d_Md_inWord_120 : decode b_Md_inWord 120 = .ok (.getfield 36, 3) := by decide +kernel
theorem d_Md_inWord_123 : decode b_Md_inWord 123 = .ok (.iaload, 1) := by decide +kernel
theorem d_Md_inWord_124 : decode b_Md_inWord 124 = .ok (.aload_n 0, 1) := by decide +kernel
theorem d_Md_inWord_125 : decode b_Md_inWord 125 = .ok (.getfield 43, 3) := by decide +kernel
theorem d_Md_inWord_128 : decode b_Md_inWord 128 = .ok (.aload_n 0, 1) := by decide +kernel
theorem d_Md_inWord_129 : decode b_Md_inWord 129 = .ok (.getfield 36, 3) := by decide +kernel
theorem d_Md_inWord_132 : decode b_Md_inWord 132 = .ok (.iaload, 1) := by decide +kernel
theorem d_Md_inWord_133 : decode b_Md_inWord 133 = .ok (.iconst 1, 1) := by decide +kernel
theorem d_Md_inWord_134 : decode b_Md_inWord 134 = .ok (.invokevirtual 173, 3) := by decide +kernel
theorem d_Md_inWord_137 : decode b_Md_inWord 137 = .ok (.pop, 1) := by decide +kernel
theorem d_Md_inWord_138 : decode b_Md_inWord 138 = .ok (.goto 8, 3) := by decide +kernel
theorem d_Md_inWord_141 : decode b_Md_inWord 141 = .ok (.aload_n 0, 1) := by decide +kernel
theorem d_Md_inWord_142 : decode b_Md_inWord 142 = .ok (.iload_n 1, 1) := by decide +kernel
theorem d_Md_inWord_143 : decode b_Md_inWord 143 = .ok (.invokevirtual 203, 3) := by decide +kernel
theorem d_Md_inWord_146 : decode b_Md_inWord 146 = .ok (.return_, 1) := by decide +kernel
theorem d_Md_isNumber_0 : decode b_Md_isNumber 0 = .ok (.aload_n 0, 1) := by decide +kernel
theorem d_Md_isNumber_1 : decode b_Md_isNumber 1 = .ok (.iconst (-1), 1) := by decide +kernel
theorem d_Md_isNumber_2 : decode b_Md_isNumber 2 = .ok (.iload_n 1, 1) := by decide +kernel
theorem d_Md_isNumber_3 : decode b_Md_isNumber 3 = .ok (.invokevirtual 319, 3) := by decide +kernel
theorem d_Md_isNumber_6 : decode b_Md_isNumber 6 = .ok (.ireturn, 1) := by decide +kernel
theorem d_Md_joined_0 : decode b_Md_joined 0 = .ok (.iload_n 1, 1) := by decide +kernel
theorem d_Md_joined_1 : decode b_Md_joined 1 = .ok (.tableswitch 194 37 62 #[131, 180, 194, 194, 194, 119, 139, 194, 143, 194, 123, 194, 194, 194, 194, 194, 194, 194, 194, 194, 194, 194, 194, 147, 169, 158], 119) := by decide +kernel
theorem d_Md_joined_120 : decode b_Md_joined 120 = .ok (.iload_n 2, 1) := by decide +kernel
theorem d_Md_joined_121 : decode b_Md_joined 121 = .ok (.iload_n 3, 1) := by decide +kernel
theorem d_Md_joined_122 : decode b_Md_joined 122 = .ok (.imul, 1) := by decide +kernel
theorem d_Md_joined_123 : decode b_Md_joined 123 = .ok (.ireturn, 1) := by decide +kernel
theorem d_Md_joined_124 : decode b_Md_joined 124 = .ok (.aload_n 0, 1) := by decide +kernel
theorem d_Md_joined_125 : decode b_Md_joined 125 = .ok (.iload_n 2, 1) := by decide +kernel
theorem d_Md_joined_126 : decode b_Md_joined 126 = .ok (.iload_n 3, 1) := by decide +kernel
theorem d_Md_joined_127 : decode b_Md_joined 127 = .ok (.iconst 0, 1) := by decide +kernel
theorem d_Md_joined_128 : decode b_Md_joined 128 = .ok (.invokevirtual 334, 3) := by decide +kernel
theorem d_Md_joined_131 : decode b_Md_joined 131 = .ok (.ireturn, 1) := by decide +kernel
theorem d_Md_joined_132 : decode b_Md_joined 132 = .ok (.aload_n 0, 1) := by decide +kernel
theorem d_Md_joined_133 : decode b_Md_joined 133 = .ok (.iload_n 2, 1) := by decide +kernel
theorem d_Md_joined_134 : decode b_Md_joined 134 = .ok (.iload_n 3, 1) := by decide +kernel
theorem d_Md_joined_135 : decode b_Md_joined 135 = .ok (.iconst 1, 1) := by decide +kernel
theorem d_Md_joined_136 : decode b_Md_joined 136 = .ok (.invokevirtual 334, 3) := by decide +kernel
theorem d_Md_joined_139 : decode b_Md_joined 139 = .ok (.ireturn, 1) := by decide +kernel
theorem d_Md_joined_140 : decode b_Md_joined 140 = .ok (.iload_n 2, 1) := by decide +kernel
theorem d_Md_joined_141 : decode b_Md_joined 141 = .ok (.iload_n 3, 1) := by decide +kernel
theorem d_Md_joined_142 : decode b_Md_joined 142 = .ok (.iadd, 1) := by decide +kernel
theorem d_Md_joined_143 : decode b_Md_joined 143 = .ok (.ireturn, 1) := by decide +kernel
theorem d_Md_joined_144 : decode b_Md_joined 144 = .ok (.iload_n 2, 1) := by decide +kernel
theorem d_Md_joined_145 : decode b_Md_joined 145 = .ok (.iload_n 3, 1) := by decide +kernel
theorem d_Md_joined_146 : decode b_Md_joined 146 = .ok (.isub, 1) := by decide +kernel
theorem d_Md_joined_147 : decode b_Md_joined 147 = .ok (.ireturn, 1) := by decide +kernel
theorem d_Md_joined_148 : decode b_Md_joined 148 = .ok (.iload_n 2, 1) := by decide +kernel
theorem d_Md_joined_149 : decode b_Md_joined 149 = .ok (.iload_n 3, 1) := by decide +kernel
theorem d_Md_joined_150 : decode b_Md_joined 150 = .ok (.if_icmp .ge 7, 3) := by decide +kernel
theorem d_Md_joined_153 : decode b_Md_joined 153 = .ok (.iconst 1, 1) := by decide +kernel
theorem d_Md_joined_154 : decode b_Md_joined 154 = .ok (.goto 4, 3) := by decide +kernel
theorem d_Md_joined_157 : decode b_Md_joined 157 = .ok (.iconst 0, 1) := by decide +kernel
theorem d_Md_joined_158 : decode b_Md_joined 158 = .ok (.ireturn, 1) := by decide +kernel
theorem d_Md_joined_159 : decode b_Md_joined 159 = .ok (.iload_n 2, 1) := by decide +kernel
theorem d_Md_joined_160 : decode b_Md_joined 160 = .ok (.iload_n 3, 1) := by decide +kernel
theorem d_Md_joined_161 : decode b_Md_joined 161 = .ok (.if_icmp .le 7, 3) := by decide +kernel
theorem d_Md_joined_164 : decode b_Md_joined 164 = .ok (.iconst 1, 1) := by decide +kernel
theorem d_Md_joined_165 : decode b_Md_joined 165 = .ok (.goto 4, 3) := by decide +kernel
theorem d_Md_joined_168 : decode b_Md_joined 168 = .ok (.iconst 0, 1) := by decide +kernel
theorem d_Md_joined_169 : decode b_Md_joined 169 = .ok (.ireturn, 1) := by decide +kernel
theorem d_Md_joined_170 : decode b_Md_joined 170 = .ok (.iload_n 2, 1) := by decide +kernel
theorem d_Md_joined_171 : decode b_Md_joined 171 = .ok (.iload_n 3, 1) := by decide +kernel
theorem d_Md_joined_172 : decode b_Md_joined 172 = .ok (.if_icmp .ne 7, 3) := by decide +kernel
theorem d_Md_joined_175 : decode b_Md_joined 175 = .ok (.iconst 1, 1) := by decide +kernel
theorem d_Md_joined_176 : decode b_Md_joined 176 = .ok (.goto 4, 3) := by decide +kernel
theorem d_Md_joined_179 : decode b_Md_joined 179 = .ok (.iconst 0, 1) := by decide +kernel
theorem d_Md_joined_180 : decode b_Md_joined 180 = .ok (.ireturn, 1) := by decide +kernel
theorem d_Md_joined_181 : decode b_Md_joined 181 = .ok (.iload_n 2, 1) := by decide +kernel
theorem d_Md_joined_182 : decode b_Md_joined 182 = .ok (.ifCond .eq 11, 3) := by decide +kernel
theorem d_Md_joined_185 : decode b_Md_joined 185 = .ok (.iload_n 3, 1) := by decide +kernel
theorem d_Md_joined_186 : decode b_Md_joined 186 = .ok (.ifCond .eq 7, 3) := by decide +kernel
theorem d_Md_joined_189 : decode b_Md_joined 189 = .ok (.iconst 1, 1) := by decide +kernel
theorem d_Md_joined_190 : decode b_Md_joined 190 = .ok (.goto 4, 3) := by decide +kernel
theorem d_Md_joined_193 : decode b_Md_joined 193 = .ok (.iconst 0, 1) := by decide +kernel
theorem d_Md_joined_194 : decode b_Md_joined 194 = .ok (.ireturn, 1) := by decide +kernel
theorem d_Md_joined_195 : decode b_Md_joined 195 = .ok (.iload_n 2, 1) := by decide +kernel
theorem d_Md_joined_196 : decode b_Md_joined 196 = .ok (.ifCond .ne 7, 3) := by decide +kernel
theorem d_Md_joined_199 : decode b_Md_joined 199 = .ok (.iload_n 3, 1) := by decide +kernel
theorem d_Md_joined_200 : decode b_Md_joined 200 = .ok (.ifCond .eq 7, 3) := by decide +kernel
theorem d_Md_joined_203 : decode b_Md_joined 203 = .ok (.iconst 1, 1) := by decide +kernel
theorem d_Md_joined_204 : decode b_Md_joined 204 = .ok (.goto 4, 3) := by decide +kernel
theorem d_Md_joined_207 : decode b_Md_joined 207 = .ok (.iconst 0, 1) := by decide +kernel
theorem d_Md_joined_208 : decode b_Md_joined 208 = .ok (.ireturn, 1) := by decide +kernel
theorem d_Md_length_0 : decode b_Md_length 0 = .ok (.aload_n 0, 1) := by decide +kernel
theorem d_Md_length_1 : decode b_Md_length 1 = .ok (.getfield 135, 3) := by decide +kernel
theorem d_Md_length_4 : decode b_Md_length 4 = .ok (.ireturn, 1) := by decide +kernel
theorem d_Md_letter_0 : decode b_Md_letter 0 = .ok (.aload_n 0, 1) := by decide +kernel
theorem d_Md_letter_1 : decode b_Md_letter 1 = .ok (.iload_n 1, 1) := by decide +kernel
theorem d_Md_letter_2 : decode b_Md_letter 2 = .ok (.invokevirtual 393, 3) := by decide +kernel
theorem d_Md_letter_5 : decode b_Md_letter 5 = .ok (.iload_n 2, 1) := by decide +kernel
theorem d_Md_letter_6 : decode b_Md_letter 6 = .ok (.if_icmp .le 21, 3) := by decide +kernel
theorem d_Md_letter_9 : decode b_Md_letter 9 = .ok (.iload_n 2, 1) := by decide +kernel
theorem d_Md_letter_10 : decode b_Md_letter 10 = .ok (.ifCond .lt 17, 3) := by decide +kernel
theorem d_Md_letter_13 : decode b_Md_letter 13 = .ok (.aload_n 0, 1) := by decide +kernel
theorem d_Md_letter_14 : decode b_Md_letter 14 = .ok (.getfield 17, 3) := by decide +kernel
theorem d_Md_letter_17 : decode b_Md_letter 17 = .ok (.bipush 20, 2) := by decide +kernel
theorem d_Md_letter_19 : decode b_Md_letter 19 = .ok (.iload_n 1, 1) := by decide +kernel
theorem d_Md_letter_20 : decode b_Md_letter 20 = .ok (.imul, 1) := by decide +kernel
theorem d_Md_letter_21 : decode b_Md_letter 21 = .ok (.iload_n 2, 1) := by decide +kernel
theorem d_Md_letter_22 : decode b_Md_letter 22 = .ok (.iadd, 1) := by decide +kernel
theorem d_Md_letter_23 : decode b_Md_letter 23 = .ok (.caload, 1) := by decide +kernel
theorem d_Md_letter_24 : decode b_Md_letter 24 = .ok (.goto 4, 3) := by decide +kernel
theorem d_Md_letter_27 : decode b_Md_letter 27 = .ok (.iconst 0, 1) := by decide +kernel
theorem d_Md_letter_28 : decode b_Md_letter 28 = .ok (.ireturn, 1) := by decide +kernel
theorem d_Md_link_0 : decode b_Md_link 0 = .ok (.aload_n 0, 1) := by decide +kernel
theorem d_Md_link_1 : decode b_Md_link 1 = .ok (.getfield 49, 3) := by decide +kernel
theorem d_Md_link_4 : decode b_Md_link 4 = .ok (.aload_n 0, 1) := by decide +kernel
theorem d_Md_link_5 : decode b_Md_link 5 = .ok (.getfield 36, 3) := by decide +kernel
theorem d_Md_link_8 : decode b_Md_link 8 = .ok (.iaload, 1) := by decide +kernel
theorem d_Md_link_9 : decode b_Md_link 9 = .ok (.ifCond .le 23, 3) := by decide +kernel
theorem d_Md_link_12 : decode b_Md_link 12 = .ok (.aload_n 0, 1) := by decide +kernel
theorem d_Md_link_13 : decode b_Md_link 13 = .ok (.getfield 20, 3) := by decide +kernel
theorem d_Md_link_16 : decode b_Md_link 16 = .ok (.bipush 26, 2) := by decide +kernel
theorem d_Md_link_18 : decode b_Md_link 18 = .ok (.aload_n 0, 1) := by decide +kernel
theorem d_Md_link_19 : decode b_Md_link 19 = .ok (.getfield 49, 3) := by decide +kernel
theorem d_Md_link_22 : decode b_Md_link 22 = .ok (.aload_n 0, 1) := by decide +kernel
theorem d_Md_link_23 : decode b_Md_link 23 = .ok (.getfield 36, 3) := by decide +kernel
theorem d_Md_link_26 : decode b_Md_link 26 = .ok (.iaload, 1) := by decide +kernel
theorem d_Md_link_27 : decode b_Md_link 27 = .ok (.imul, 1) := by decide +kernel
theorem d_Md_link_28 : decode b_Md_link 28 = .ok (.iload_n 1, 1) := by decide +kernel
theorem d_Md_link_29 : decode b_Md_link 29 = .ok (.iadd, 1) := by decide +kernel
theorem d_Md_link_30 : decode b_Md_link 30 = .ok (.iconst 1, 1) := by decide +kernel
theorem d_Md_link_31 : decode b_Md_link 31 = .ok (.bastore, 1) := by decide +kernel
theorem d_Md_link_32 : decode b_Md_link 32 = .ok (.aload_n 0, 1) := by decide +kernel
theorem d_Md_link_33 : decode b_Md_link 33 = .ok (.iconst 0, 1) := by decide +kernel
theorem d_Md_link_34 : decode b_Md_link 34 = .ok (.invokevirtual 235, 3) := by decide +kernel
theorem d_Md_link_37 : decode b_Md_link 37 = .ok (.return_, 1) := by decide +kernel
theorem d_Md_listen_0 : decode b_Md_listen 0 = .ok (.aload_n 0, 1) := by decide +kernel
theorem d_Md_listen_1 : decode b_Md_listen 1 = .ok (.iconst (-1), 1) := by decide +kernel
theorem d_Md_listen_2 : decode b_Md_listen 2 = .ok (.iconst 1, 1) := by decide +kernel
theorem d_Md_listen_3 : decode b_Md_listen 3 = .ok (.invokevirtual 319, 3) := by decide +kernel
theorem d_Md_listen_6 : decode b_Md_listen 6 = .ok (.istore_n 1, 1) := by decide +kernel
theorem d_Md_listen_7 : decode b_Md_listen 7 = .ok (.iload_n 1, 1) := by decide +kernel
theorem d_Md_listen_8 : decode b_Md_listen 8 = .ok (.ifCond .eq 10, 3) := by decide +kernel
theorem d_Md_listen_11 : decode b_Md_listen 11 = .ok (.aload_n 0, 1) := by decide +kernel
theorem d_Md_listen_12 : decode b_Md_listen 12 = .ok (.getfield 316, 3) := by decide +kernel
theorem d_Md_listen_15 : decode b_Md_listen 15 = .ok (.goto 4, 3) := by decide +kernel
theorem d_Md_listen_18 : decode b_Md_listen 18 = .ok (.iconst 0, 1) := by decide +kernel
theorem d_Md_listen_19 : decode b_Md_listen 19 = .ok (.istore_n 2, 1) := by decide +kernel
theorem d_Md_listen_20 : decode b_Md_listen 20 = .ok (.aload_n 0, 1) := by decide +kernel
theorem d_Md_listen_21 : decode b_Md_listen 21 = .ok (.invokevirtual 376, 3) := by decide +kernel
theorem d_Md_listen_24 : decode b_Md_listen 24 = .ok (.istore_n 3, 1) := by decide +kernel
theorem d_Md_listen_25 : decode b_Md_listen 25 = .ok (.iconst 0, 1) := by decide +kernel
theorem d_Md_listen_26 : decode b_Md_listen 26 = .ok (.istore 4, 2) := by decide +kernel
theorem d_Md_listen_28 : decode b_Md_listen 28 = .ok (.iload_n 3, 1) := by decide +kernel
theorem d_Md_listen_29 : decode b_Md_listen 29 = .ok (.ifCond .ne 32, 3) := by decide +kernel
theorem d_Md_listen_32 : decode b_Md_listen 32 = .ok (.iload 4, 2) := by decide +kernel
theorem d_Md_listen_34 : decode b_Md_listen 34 = .ok (.iload_n 2, 1) := by decide +kernel
theorem d_Md_listen_35 : decode b_Md_listen 35 = .ok (.if_icmp .ge 26, 3) := by decide +kernel
theorem d_Md_listen_38 : decode b_Md_listen 38 = .ok (.aload_n 0, 1) := by decide +kernel
theorem d_Md_listen_39 : decode b_Md_listen 39 = .ok (.invokevirtual 246, 3) := by decide +kernel
theorem d_Md_listen_42 : decode b_Md_listen 42 = .ok (.ifCond .ne 4, 3) := by decide +kernel
theorem d_Md_listen_45 : decode b_Md_listen 45 = .ok (.return_, 1) := by decide +kernel
theorem d_Md_listen_46 : decode b_Md_listen 46 = .ok (.aload_n 0, 1) := by decide +kernel
theorem d_Md_listen_47 : decode b_Md_listen 47 = .ok (.invokevirtual 380, 3) := by decide +kernel
theorem d_Md_listen_50 : decode b_Md_listen 50 = .ok (.aload_n 0, 1) := by decide +kernel
theorem d_Md_listen_51 : decode b_Md_listen 51 = .ok (.invokevirtual 376, 3) := by decide +kernel
theorem d_Md_listen_54 : decode b_Md_listen 54 = .ok (.istore_n 3, 1) := by decide +kernel
theorem d_Md_listen_55 : decode b_Md_listen 55 = .ok (.iinc 4 1, 3) := by decide +kernel
theorem d_Md_listen_58 : decode b_Md_listen 58 = .ok (.goto (-30), 3) := by decide +kernel
theorem d_Md_listen_61 : decode b_Md_listen 61 = .ok (.iload_n 3, 1) := by decide +kernel
theorem d_Md_listen_62 : decode b_Md_listen 62 = .ok (.ifCond .le 13, 3) := by decide +kernel
theorem d_Md_listen_65 : decode b_Md_listen 65 = .ok (.aload_n 0, 1) := by decide +kernel
theorem d_Md_listen_66 : decode b_Md_listen 66 = .ok (.iload_n 3, 1) := by decide +kernel
theorem d_Md_listen_67 : decode b_Md_listen 67 = .ok (.iconst 2, 1) := by decide +kernel
theorem d_Md_listen_68 : decode b_Md_listen 68 = .ok (.invokevirtual 284, 3) := by decide +kernel
theorem d_Md_listen_71 : decode b_Md_listen 71 = .ok (.pop, 1) := by decide +kernel
theorem d_Md_listen_72 : decode b_Md_listen 72 = .ok (.goto 18, 3) := by decide +kernel
theorem d_Md_listen_75 : decode b_Md_listen 75 = .ok (.aload_n 0, 1) := by decide +kernel
theorem d_Md_listen_76 : decode b_Md_listen 76 = .ok (.invokevirtual 138, 3) := by decide +kernel
theorem d_Md_listen_79 : decode b_Md_listen 79 = .ok (.aload_n 0, 1) := by decide +kernel
theorem d_Md_listen_80 : decode b_Md_listen 80 = .ok (.bipush 84, 2) := by decide +kernel
theorem d_Md_listen_82 : decode b_Md_listen 82 = .ok (.invokevirtual 143, 3) := by decide +kernel
theorem d_Md_listen_85 : decode b_Md_listen 85 = .ok (.aload_n 0, 1) := by decide +kernel
theorem d_Md_listen_86 : decode b_Md_listen 86 = .ok (.iconst 0, 1) := by decide +kernel
theorem d_Md_listen_87 : decode b_Md_listen 87 = .ok (.invokevirtual 235, 3) := by decide +kernel
theorem d_Md_listen_90 : decode b_Md_listen 90 = .ok (.return_, 1) := by decide +kernel
theorem d_Md_match_0 : decode b_Md_match 0 = .ok (.aload_n 0, 1) := by decide +kernel
theorem d_Md_match_1 : decode b_Md_match 1 = .ok (.iconst 2, 1) := by decide +kernel
theorem d_Md_match_2 : decode b_Md_match 2 = .ok (.invokevirtual 159, 3) := by decide +kernel
theorem d_Md_match_5 : decode b_Md_match 5 = .ok (.istore_n 1, 1) := by decide +kernel
theorem d_Md_match_6 : decode b_Md_match 6 = .ok (.iconst 0, 1) := by decide +kernel
theorem d_Md_match_7 : decode b_Md_match 7 = .ok (.istore_n 2, 1) := by decide +kernel
theorem d_Md_match_8 : decode b_Md_match 8 = .ok (.iload_n 2, 1) := by decide +kernel
theorem d_Md_match_9 : decode b_Md_match 9 = .ok (.iload_n 1, 1) := by decide +kernel
theorem d_Md_match_10 : decode b_Md_match 10 = .ok (.if_icmp .ge 21, 3) := by decide +kernel
theorem d_Md_match_13 : decode b_Md_match 13 = .ok (.aload_n 0, 1) := by decide +kernel
theorem d_Md_match_14 : decode b_Md_match 14 = .ok (.getfield 85, 3) := by decide +kernel
theorem d_Md_match_17 : decode b_Md_match 17 = .ok (.iload_n 2, 1) := by decide +kernel
theorem d_Md_match_18 : decode b_Md_match 18 = .ok (.aload_n 0, 1) := by decide +kernel
theorem d_Md_match_19 : decode b_Md_match 19 = .ok (.iconst 2, 1) := by decide +kernel
theorem d_Md_match_20 : decode b_Md_match 20 = .ok (.iload_n 2, 1) := by decide +kernel
theorem d_Md_match_21 : decode b_Md_match 21 = .ok (.invokevirtual 162, 3) := by decide +kernel
theorem d_Md_match_24 : decode b_Md_match 24 = .ok (.castore, 1) := by decide +kernel
theorem d_Md_match_25 : decode b_Md_match 25 = .ok (.iinc 2 1, 3) := by decide +kernel
theorem d_Md_match_28 : decode b_Md_match 28 = .ok (.goto (-20), 3) := by decide +kernel
theorem d_Md_match_31 : decode b_Md_match 31 = .ok (.aload_n 0, 1) := by decide +kernel
theorem d_Md_match_32 : decode b_Md_match 32 = .ok (.iconst 1, 1) := by decide +kernel
theorem d_Md_match_33 : decode b_Md_match 33 = .ok (.iload_n 1, 1) := by decide +kernel
theorem d_Md_match_34 : decode b_Md_match 34 = .ok (.invokevirtual 325, 3) := by decide +kernel
theorem d_Md_match_37 : decode b_Md_match 37 = .ok (.istore_n 2, 1) := by decide +kernel
theorem d_Md_match_38 : decode b_Md_match 38 = .ok (.aload_n 0, 1) := by decide +kernel
theorem d_Md_match_39 : decode b_Md_match 39 = .ok (.iload_n 2, 1) := by decide +kernel
theorem d_Md_match_40 : decode b_Md_match 40 = .ok (.ifCond .eq 7, 3) := by decide +kernel
theorem d_Md_match_43 : decode b_Md_match 43 = .ok (.iconst 1, 1) := by decide +kernel
theorem d_Md_match_44 : decode b_Md_match 44 = .ok (.goto 4, 3) := by decide +kernel
theorem d_Md_match_47 : decode b_Md_match 47 = .ok (.iconst 0, 1) := by decide +kernel
theorem d_Md_match_48 : decode b_Md_match 48 = .ok (.invokevirtual 226, 3) := by decide +kernel
theorem d_Md_match_51 : decode b_Md_match 51 = .ok (.aload_n 0, 1) := by decide +kernel
theorem d_Md_match_52 : decode b_Md_match 52 = .ok (.iconst 0, 1) := by decide +kernel
theorem d_Md_match_53 : decode b_Md_match 53 = .ok (.invokevirtual 235, 3) := by decide +kernel
theorem d_Md_match_56 : decode b_Md_match 56 = .ok (.return_, 1) := by decide +kernel
theorem d_Md_measure_0 : decode b_Md_measure 0 = .ok (.aload_n 0, 1) := by decide +kernel
theorem d_Md_measure_1 : decode b_Md_measure 1 = .ok (.iconst 1, 1) := by decide +kernel
theorem d_Md_measure_2 : decode b_Md_measure 2 = .ok (.invokevirtual 159, 3) := by decide +kernel
theorem d_Md_measure_5 : decode b_Md_measure 5 = .ok (.istore_n 1, 1) := by decide +kernel
theorem d_Md_measure_6 : decode b_Md_measure 6 = .ok (.aload_n 0, 1) := by decide +kernel
theorem d_Md_measure_7 : decode b_Md_measure 7 = .ok (.iload_n 1, 1) := by decide +kernel
theorem d_Md_measure_8 : decode b_Md_measure 8 = .ok (.invokevirtual 226, 3) := by decide +kernel
theorem d_Md_measure_11 : decode b_Md_measure 11 = .ok (.aload_n 0, 1) := by decide +kernel
theorem d_Md_measure_12 : decode b_Md_measure 12 = .ok (.iconst 0, 1) := by decide +kernel
theorem d_Md_measure_13 : decode b_Md_measure 13 = .ok (.invokevirtual 235, 3) := by decide +kernel
theorem d_Md_measure_16 : decode b_Md_measure 16 = .ok (.return_, 1) := by decide +kernel
theorem d_Md_name_0 : decode b_Md_name 0 = .ok (.aload_n 0, 1) := by decide +kernel
theorem d_Md_name_1 : decode b_Md_name 1 = .ok (.iload_n 1, 1) := by decide +kernel
theorem d_Md_name_2 : decode b_Md_name 2 = .ok (.invokevirtual 159, 3) := by decide +kernel
theorem d_Md_name_5 : decode b_Md_name 5 = .ok (.iconst 1, 1) := by decide +kernel
theorem d_Md_name_6 : decode b_Md_name 6 = .ok (.if_icmp .ne 12, 3) := by decide +kernel
theorem d_Md_name_9 : decode b_Md_name 9 = .ok (.aload_n 0, 1) := by decide +kernel
theorem d_Md_name_10 : decode b_Md_name 10 = .ok (.iload_n 1, 1) := by decide +kernel
theorem d_Md_name_11 : decode b_Md_name 11 = .ok (.iconst 0, 1) := by decide +kernel
theorem d_Md_name_12 : decode b_Md_name 12 = .ok (.invokevirtual 162, 3) := by decide +kernel
theorem d_Md_name_15 : decode b_Md_name 15 = .ok (.goto 4, 3) := by decide +kernel
theorem d_Md_name_18 : decode b_Md_name 18 = .ok (.iconst 0, 1) := by decide +kernel
theorem d_Md_name_19 : decode b_Md_name 19 = .ok (.istore_n 3, 1) := by decide +kernel
theorem d_Md_name_20 : decode b_Md_name 20 = .ok (.iload_n 3, 1) := by decide +kernel
theorem d_Md_name_21 : decode b_Md_name 21 = .ok (.iload_n 2, 1) := by decide +kernel
theorem d_Md_name_22 : decode b_Md_name 22 = .ok (.if_icmp .lt 17, 3) := by decide +kernel
theorem d_Md_name_25 : decode b_Md_name 25 = .ok (.iload_n 3, 1) := by decide +kernel
theorem d_Md_name_26 : decode b_Md_name 26 = .ok (.iload_n 2, 1) := by decide +kernel
theorem d_Md_name_27 : decode b_Md_name 27 = .ok (.bipush 26, 2) := by decide +kernel
theorem d_Md_name_29 : decode b_Md_name 29 = .ok (.iadd, 1) := by decide +kernel
theorem d_Md_name_30 : decode b_Md_name 30 = .ok (.if_icmp .ge 9, 3) := by decide +kernel
theorem d_Md_name_33 : decode b_Md_name 33 = .ok (.iload_n 3, 1) := by decide +kernel
theorem d_Md_name_34 : decode b_Md_name 34 = .ok (.iload_n 2, 1) := by decide +kernel
theorem d_Md_name_35 : decode b_Md_name 35 = .ok (.isub, 1) := by decide +kernel
theorem d_Md_name_36 : decode b_Md_name 36 = .ok (.goto 4, 3) := by decide +kernel
theorem d_Md_name_39 : decode b_Md_name 39 = .ok (.iconst (-1), 1) := by decide +kernel
theorem d_Md_name_40 : decode b_Md_name 40 = .ok (.ireturn, 1) := by decide +kernel
theorem d_Md_note_0 : decode b_Md_note 0 = .ok (.aload_n 0, 1) := by decide +kernel
theorem d_Md_note_1 : decode b_Md_note 1 = .ok (.getfield 109, 3) := by decide +kernel
theorem d_Md_note_4 : decode b_Md_note 4 = .ok (.aload_n 0, 1) := by decide +kernel
theorem d_Md_note_5 : decode b_Md_note 5 = .ok (.getfield 370, 3) := by decide +kernel
theorem d_Md_note_8 : decode b_Md_note 8 = .ok (.bipush 40, 2) := by decide +kernel
theorem d_Md_note_10 : decode b_Md_note 10 = .ok (.irem, 1) := by decide +kernel
theorem d_Md_note_11 : decode b_Md_note 11 = .ok (.iload_n 1, 1) := by decide +kernel
theorem d_Md_note_12 : decode b_Md_note 12 = .ok (.iastore, 1) := by decide +kernel
theorem d_Md_note_13 : decode b_Md_note 13 = .ok (.aload_n 0, 1) := by decide +kernel
theorem d_Md_note_14 : decode b_Md_note 14 = .ok (.dup, 1) := by decide +kernel
theorem d_Md_note_15 : decode b_Md_note 15 = .ok (.getfield 370, 3) := by decide +kernel
theorem d_Md_note_18 : decode b_Md_note 18 = .ok (.iconst 1, 1) := by decide +kernel
theorem d_Md_note_19 : decode b_Md_note 19 = .ok (.iadd, 1) := by decide +kernel
theorem d_Md_note_20 : decode b_Md_note 20 = .ok (.putfield 370, 3) := by decide +kernel
theorem d_Md_note_23 : decode b_Md_note 23 = .ok (.return_, 1) := by decide +kernel
theorem d_Md_nothing_0 : decode b_Md_nothing 0 = .ok (.aload_n 0, 1) := by decide +kernel
theorem d_Md_nothing_1 : decode b_Md_nothing 1 = .ok (.iconst 0, 1) := by decide +kernel
theorem d_Md_nothing_2 : decode b_Md_nothing 2 = .ok (.putfield 135, 3) := by decide +kernel
theorem d_Md_nothing_5 : decode b_Md_nothing 5 = .ok (.return_, 1) := by decide +kernel
theorem d_Md_number_0 : decode b_Md_number 0 = .ok (.aload_n 0, 1) := by decide +kernel
theorem d_Md_number_1 : decode b_Md_number 1 = .ok (.invokevirtual 138, 3) := by decide +kernel
theorem d_Md_number_4 : decode b_Md_number 4 = .ok (.iload_n 1, 1) := by decide +kernel
theorem d_Md_number_5 : decode b_Md_number 5 = .ok (.ifCond .ge 9, 3) := by decide +kernel
theorem d_Md_number_8 : decode b_Md_number 8 = .ok (.iload_n 1, 1) := by decide +kernel
theorem d_Md_number_9 : decode b_Md_number 9 = .ok (.i2l, 1) := by decide +kernel
theorem d_Md_number_10 : decode b_Md_number 10 = .ok (.lneg, 1) := by decide +kernel
theorem d_Md_number_11 : decode b_Md_number 11 = .ok (.goto 5, 3) := by decide +kernel
theorem d_Md_number_14 : decode b_Md_number 14 = .ok (.iload_n 1, 1) := by decide +kernel
theorem d_Md_number_15 : decode b_Md_number 15 = .ok (.i2l, 1) := by decide +kernel
theorem d_Md_number_16 : decode b_Md_number 16 = .ok (.lstore_n 2, 1) := by decide +kernel
theorem d_Md_number_17 : decode b_Md_number 17 = .ok (.lconst 1, 1) := by decide +kernel
theorem d_Md_number_18 : decode b_Md_number 18 = .ok (.lstore 4, 2) := by decide +kernel
theorem d_Md_number_20 : decode b_Md_number 20 = .ok (.lload 4, 2) := by decide +kernel
theorem d_Md_number_22 : decode b_Md_number 22 = .ok (.lload_n 2, 1) := by decide +kernel
theorem d_Md_number_23 : decode b_Md_number 23 = .ok (.ldc2_w 141, 3) := by decide +kernel
theorem d_Md_number_26 : decode b_Md_number 26 = .ok (.ldiv, 1) := by decide +kernel
theorem d_Md_number_27 : decode b_Md_number 27 = .ok (.lcmp, 1) := by decide +kernel
theorem d_Md_number_28 : decode b_Md_number 28 = .ok (.ifCond .gt 14, 3) := by decide +kernel
theorem d_Md_number_31 : decode b_Md_number 31 = .ok (.lload 4, 2) := by decide +kernel
theorem d_Md_number_33 : decode b_Md_number 33 = .ok (.ldc2_w 141, 3) := by decide +kernel
theorem d_Md_number_36 : decode b_Md_number 36 = .ok (.lmul, 1) := by decide +kernel
theorem d_Md_number_37 : decode b_Md_number 37 = .ok (.lstore 4, 2) := by decide +kernel
theorem d_Md_number_39 : decode b_Md_number 39 = .ok (.goto (-19), 3) := by decide +kernel
theorem d_Md_number_42 : decode b_Md_number 42 = .ok (.iload_n 1, 1) := by decide +kernel
theorem d_Md_number_43 : decode b_Md_number 43 = .ok (.ifCond .ge 9, 3) := by decide +kernel
theorem d_Md_number_46 : decode b_Md_number 46 = .ok (.aload_n 0, 1) := by decide +kernel
theorem d_Md_number_47 : decode b_Md_number 47 = .ok (.bipush 45, 2) := by decide +kernel
theorem d_Md_number_49 : decode b_Md_number 49 = .ok (.invokevirtual 143, 3) := by decide +kernel
theorem d_Md_number_52 : decode b_Md_number 52 = .ok (.iconst 0, 1) := by decide +kernel
theorem d_Md_number_53 : decode b_Md_number 53 = .ok (.istore 6, 2) := by decide +kernel
theorem d_Md_number_55 : decode b_Md_number 55 = .ok (.iload 6, 2) := by decide +kernel
theorem d_Md_number_57 : decode b_Md_number 57 = .ok (.bipush 10, 2) := by decide +kernel
theorem d_Md_number_59 : decode b_Md_number 59 = .ok (.if_icmp .ge 42, 3) := by decide +kernel
theorem d_Md_number_62 : decode b_Md_number 62 = .ok (.lload 4, 2) := by decide +kernel
theorem d_Md_number_64 : decode b_Md_number 64 = .ok (.lconst 0, 1) := by decide +kernel
theorem d_Md_number_65 : decode b_Md_number 65 = .ok (.lcmp, 1) := by decide +kernel
theorem d_Md_number_66 : decode b_Md_number 66 = .ok (.ifCond .le 35, 3) := by decide +kernel
theorem d_Md_number_69 : decode b_Md_number 69 = .ok (.aload_n 0, 1) := by decide +kernel
theorem d_Md_number_70 : decode b_Md_number 70 = .ok (.ldc2_w 147, 3) := by decide +kernel
theorem d_Md_number_73 : decode b_Md_number 73 = .ok (.lload_n 2, 1) := by decide +kernel
theorem d_Md_number_74 : decode b_Md_number 74 = .ok (.lload 4, 2) := by decide +kernel
theorem d_Md_number_76 : decode b_Md_number 76 = .ok (.ldiv, 1) := by decide +kernel
theorem d_Md_number_77 : decode b_Md_number 77 = .ok (.ldc2_w 141, 3) := by decide +kernel
theorem d_Md_number_80 : decode b_Md_number 80 = .ok (.lrem, 1) := by decide +kernel
theorem d_Md_number_81 : decode b_Md_number 81 = .ok (.ladd, 1) := by decide +kernel
theorem d_Md_number_82 : decode b_Md_number 82 = .ok (.l2i, 1) := by decide +kernel
theorem d_Md_number_83 : decode b_Md_number 83 = .ok (.i2c, 1) := by decide +kernel
theorem d_Md_number_84 : decode b_Md_number 84 = .ok (.invokevirtual 143, 3) := by decide +kernel
theorem d_Md_number_87 : decode b_Md_number 87 = .ok (.lload 4, 2) := by decide +kernel
theorem d_Md_number_89 : decode b_Md_number 89 = .ok (.ldc2_w 141, 3) := by decide +kernel
theorem d_Md_number_92 : decode b_Md_number 92 = .ok (.ldiv, 1) := by decide +kernel
theorem d_Md_number_93 : decode b_Md_number 93 = .ok (.lstore 4, 2) := by decide +kernel
theorem d_Md_number_95 : decode b_Md_number 95 = .ok (.iinc 6 1, 3) := by decide +kernel
theorem d_Md_number_98 : decode b_Md_number 98 = .ok (.goto (-43), 3) := by decide +kernel
theorem d_Md_number_101 : decode b_Md_number 101 = .ok (.return_, 1) := by decide +kernel
theorem d_Md_ofVariable_0 : decode b_Md_ofVariable 0 = .ok (.aload_n 0, 1) := by decide +kernel
theorem d_Md_ofVariable_1 : decode b_Md_ofVariable 1 = .ok (.getfield 13, 3) := by decide +kernel
theorem d_Md_ofVariable_4 : decode b_Md_ofVariable 4 = .ok (.iload_n 1, 1) := by decide +kernel
theorem d_Md_ofVariable_5 : decode b_Md_ofVariable 5 = .ok (.iaload, 1) := by decide +kernel
theorem d_Md_ofVariable_6 : decode b_Md_ofVariable 6 = .ok (.ifCond .ge 10, 3) := by decide +kernel
theorem d_Md_ofVariable_9 : decode b_Md_ofVariable 9 = .ok (.aload_n 0, 1) := by decide +kernel
theorem d_Md_ofVariable_10 : decode b_Md_ofVariable 10 = .ok (.iconst 4, 1) := by decide +kernel
theorem d_Md_ofVariable_11 : decode b_Md_ofVariable 11 = .ok (.invokevirtual 354, 3) := by decide +kernel
theorem d_Md_ofVariable_14 : decode b_Md_ofVariable 14 = .ok (.iconst 0, 1) := by decide +kernel
theorem d_Md_ofVariable_15 : decode b_Md_ofVariable 15 = .ok (.ireturn, 1) := by decide +kernel
theorem d_Md_ofVariable_16 : decode b_Md_ofVariable 16 = .ok (.aload_n 0, 1) := by decide +kernel
theorem d_Md_ofVariable_17 : decode b_Md_ofVariable 17 = .ok (.iload_n 1, 1) := by decide +kernel
theorem d_Md_ofVariable_18 : decode b_Md_ofVariable 18 = .ok (.iconst 0, 1) := by decide +kernel
theorem d_Md_ofVariable_19 : decode b_Md_ofVariable 19 = .ok (.invokevirtual 319, 3) := by decide +kernel
theorem d_Md_ofVariable_22 : decode b_Md_ofVariable 22 = .ok (.ifCond .ne 10, 3) := by decide +kernel
theorem d_Md_ofVariable_25 : decode b_Md_ofVariable 25 = .ok (.aload_n 0, 1) := by decide +kernel
theorem d_Md_ofVariable_26 : decode b_Md_ofVariable 26 = .ok (.iconst 5, 1) := by decide +kernel
theorem d_Md_ofVariable_27 : decode b_Md_ofVariable 27 = .ok (.invokevirtual 354, 3) := by decide +kernel
theorem d_Md_ofVariable_30 : decode b_Md_ofVariable 30 = .ok (.iconst 0, 1) := by decide +kernel
theorem d_Md_ofVariable_31 : decode b_Md_ofVariable 31 = .ok (.ireturn, 1) := by decide +kernel
theorem d_Md_ofVariable_32 : decode b_Md_ofVariable 32 = .ok (.aload_n 0, 1) := by decide +kernel
theorem d_Md_ofVariable_33 : decode b_Md_ofVariable 33 = .ok (.getfield 316, 3) := by decide +kernel
theorem d_Md_ofVariable_36 : decode b_Md_ofVariable 36 = .ok (.ireturn, 1) := by decide +kernel
theorem d_Md_operand_0 : decode b_Md_operand 0 = .ok (.aload_n 0, 1) := by decide +kernel
theorem d_Md_operand_1 : decode b_Md_operand 1 = .ok (.getfield 7, 3) := by decide +kernel
theorem d_Md_operand_4 : decode b_Md_operand 4 = .ok (.iload_n 1, 1) := by decide +kernel
theorem d_Md_operand_5 : decode b_Md_operand 5 = .ok (.caload, 1) := by decide +kernel
theorem d_Md_operand_6 : decode b_Md_operand 6 = .ok (.istore_n 3, 1) := by decide +kernel
theorem d_Md_operand_7 : decode b_Md_operand 7 = .ok (.iconst 0, 1) := by decide +kernel
theorem d_Md_operand_8 : decode b_Md_operand 8 = .ok (.istore 4, 2) := by decide +kernel
theorem d_Md_operand_10 : decode b_Md_operand 10 = .ok (.iload_n 1, 1) := by decide +kernel
theorem d_Md_operand_11 : decode b_Md_operand 11 = .ok (.istore 5, 2) := by decide +kernel
theorem d_Md_operand_13 : decode b_Md_operand 13 = .ok (.iload_n 3, 1) := by decide +kernel
theorem d_Md_operand_14 : decode b_Md_operand 14 = .ok (.bipush 36, 2) := by decide +kernel
theorem d_Md_operand_16 : decode b_Md_operand 16 = .ok (.if_icmp .ne 69, 3) := by decide +kernel
theorem d_Md_operand_19 : decode b_Md_operand 19 = .ok (.iload_n 1, 1) := by decide +kernel
theorem d_Md_operand_20 : decode b_Md_operand 20 = .ok (.iconst 1, 1) := by decide +kernel
theorem d_Md_operand_21 : decode b_Md_operand 21 = .ok (.iadd, 1) := by decide +kernel
theorem d_Md_operand_22 : decode b_Md_operand 22 = .ok (.iload_n 2, 1) := by decide +kernel
theorem d_Md_operand_23 : decode b_Md_operand 23 = .ok (.if_icmp .ge 14, 3) := by decide +kernel
theorem d_Md_operand_26 : decode b_Md_operand 26 = .ok (.aload_n 0, 1) := by decide +kernel
theorem d_Md_operand_27 : decode b_Md_operand 27 = .ok (.getfield 7, 3) := by decide +kernel
theorem d_Md_operand_30 : decode b_Md_operand 30 = .ok (.iload_n 1, 1) := by decide +kernel
theorem d_Md_operand_31 : decode b_Md_operand 31 = .ok (.iconst 1, 1) := by decide +kernel
theorem d_Md_operand_32 : decode b_Md_operand 32 = .ok (.iadd, 1) := by decide +kernel
theorem d_Md_operand_33 : decode b_Md_operand 33 = .ok (.caload, 1) := by decide +kernel
theorem d_Md_operand_34 : decode b_Md_operand 34 = .ok (.goto 4, 3) := by decide +kernel
theorem d_Md_operand_37 : decode b_Md_operand 37 = .ok (.iconst 0, 1) := by decide +kernel
theorem d_Md_operand_38 : decode b_Md_operand 38 = .ok (.istore 6, 2) := by decide +kernel
theorem d_Md_operand_40 : decode b_Md_operand 40 = .ok (.iload 6, 2) := by decide +kernel
theorem d_Md_operand_42 : decode b_Md_operand 42 = .ok (.bipush 97, 2) := by decide +kernel
theorem d_Md_operand_44 : decode b_Md_operand 44 = .ok (.if_icmp .lt 10, 3) := by decide +kernel
theorem d_Md_operand_47 : decode b_Md_operand 47 = .ok (.iload 6, 2) := by decide +kernel
theorem d_Md_operand_49 : decode b_Md_operand 49 = .ok (.bipush 122, 2) := by decide +kernel
theorem d_Md_operand_51 : decode b_Md_operand 51 = .ok (.if_icmp .le 11, 3) := by decide +kernel
theorem d_Md_operand_54 : decode b_Md_operand 54 = .ok (.aload_n 0, 1) := by decide +kernel
theorem d_Md_operand_55 : decode b_Md_operand 55 = .ok (.iconst 1, 1) := by decide +kernel
theorem d_Md_operand_56 : decode b_Md_operand 56 = .ok (.invokevirtual 354, 3) := by decide +kernel
theorem d_Md_operand_59 : decode b_Md_operand 59 = .ok (.goto 18, 3) := by decide +kernel
theorem d_Md_operand_62 : decode b_Md_operand 62 = .ok (.aload_n 0, 1) := by decide +kernel
theorem d_Md_operand_63 : decode b_Md_operand 63 = .ok (.aload_n 0, 1) := by decide +kernel
theorem d_Md_operand_64 : decode b_Md_operand 64 = .ok (.iload 6, 2) := by decide +kernel
theorem d_Md_operand_66 : decode b_Md_operand 66 = .ok (.bipush 97, 2) := by decide +kernel
theorem d_Md_operand_68 : decode b_Md_operand 68 = .ok (.isub, 1) := by decide +kernel
theorem d_Md_operand_69 : decode b_Md_operand 69 = .ok (.invokevirtual 213, 3) := by decide +kernel
theorem d_Md_operand_72 : decode b_Md_operand 72 = .ok (.invokevirtual 357, 3) := by decide +kernel
theorem d_Md_operand_75 : decode b_Md_operand 75 = .ok (.istore 4, 2) := by decide +kernel
theorem d_Md_operand_77 : decode b_Md_operand 77 = .ok (.iload_n 1, 1) := by decide +kernel
theorem d_Md_operand_78 : decode b_Md_operand 78 = .ok (.iconst 2, 1) := by decide +kernel
theorem d_Md_operand_79 : decode b_Md_operand 79 = .ok (.iadd, 1) := by decide +kernel
theorem d_Md_operand_80 : decode b_Md_operand 80 = .ok (.istore 5, 2) := by decide +kernel
theorem d_Md_operand_82 : decode b_Md_operand 82 = .ok (.goto 77, 3) := by decide +kernel
theorem d_Md_operand_85 : decode b_Md_operand 85 = .ok (.iload 5, 2) := by decide +kernel
theorem d_Md_operand_87 : decode b_Md_operand 87 = .ok (.iload_n 2, 1) := by decide +kernel
theorem d_Md_operand_88 : decode b_Md_operand 88 = .ok (.if_icmp .ge 60, 3) := by decide +kernel
theorem d_Md_operand_91 : decode b_Md_operand 91 = .ok (.iload 5, 2) := by decide +kernel
theorem d_Md_operand_93 : decode b_Md_operand 93 = .ok (.iload_n 1, 1) := by decide +kernel
theorem d_Md_operand_94 : decode b_Md_operand 94 = .ok (.bipush 10, 2) := by decide +kernel
theorem d_Md_operand_96 : decode b_Md_operand 96 = .ok (.iadd, 1) := by decide +kernel
theorem d_Md_operand_97 : decode b_Md_operand 97 = .ok (.if_icmp .ge 51, 3) := by decide +kernel
theorem d_Md_operand_100 : decode b_Md_operand 100 = .ok (.aload_n 0, 1) := by decide +kernel
theorem d_Md_operand_101 : decode b_Md_operand 101 = .ok (.getfield 7, 3) := by decide +kernel
theorem d_Md_operand_104 : decode b_Md_operand 104 = .ok (.iload 5, 2) := by decide +kernel
theorem d_Md_operand_106 : decode b_Md_operand 106 = .ok (.caload, 1) := by decide +kernel
theorem d_Md_operand_107 : decode b_Md_operand 107 = .ok (.bipush 48, 2) := by decide +kernel
theorem d_Md_operand_109 : decode b_Md_operand 109 = .ok (.if_icmp .lt 39, 3) := by decide +kernel
theorem d_Md_operand_112 : decode b_Md_operand 112 = .ok (.aload_n 0, 1) := by decide +kernel
theorem d_Md_operand_113 : decode b_Md_operand 113 = .ok (.getfield 7, 3) := by decide +kernel
theorem d_Md_operand_116 : decode b_Md_operand 116 = .ok (.iload 5, 2) := by decide +kernel
theorem d_Md_operand_118 : decode b_Md_operand 118 = .ok (.caload, 1) := by decide +kernel
theorem d_Md_operand_119 : decode b_Md_operand 119 = .ok (.bipush 57, 2) := by decide +kernel
theorem d_Md_operand_121 : decode b_Md_operand 121 = .ok (.if_icmp .gt 27, 3) := by decide +kernel
theorem d_Md_operand_124 : decode b_Md_operand 124 = .ok (.bipush 10, 2) := by decide +kernel
theorem d_Md_operand_126 : decode b_Md_operand 126 = .ok (.iload 4, 2) := by decide +kernel
theorem d_Md_operand_128 : decode b_Md_operand 128 = .ok (.imul, 1) := by decide +kernel
theorem d_Md_operand_129 : decode b_Md_operand 129 = .ok (.aload_n 0, 1) := by decide +kernel
theorem d_Md_operand_130 : decode b_Md_operand 130 = .ok (.getfield 7, 3) := by decide +kernel
theorem d_Md_operand_133 : decode b_Md_operand 133 = .ok (.iload 5, 2) := by decide +kernel
theorem d_Md_operand_135 : decode b_Md_operand 135 = .ok (.caload, 1) := by decide +kernel
theorem d_Md_operand_136 : decode b_Md_operand 136 = .ok (.iadd, 1) := by decide +kernel
theorem d_Md_operand_137 : decode b_Md_operand 137 = .ok (.bipush 48, 2) := by decide +kernel
theorem d_Md_operand_139 : decode b_Md_operand 139 = .ok (.isub, 1) := by decide +kernel
theorem d_Md_operand_140 : decode b_Md_operand 140 = .ok (.istore 4, 2) := by decide +kernel
theorem d_Md_operand_142 : decode b_Md_operand 142 = .ok (.iinc 5 1, 3) := by decide +kernel
theorem d_Md_operand_145 : decode b_Md_operand 145 = .ok (.goto (-60), 3) := by decide +kernel
theorem d_Md_operand_148 : decode b_Md_operand 148 = .ok (.iload 5, 2) := by decide +kernel
theorem d_Md_operand_150 : decode b_Md_operand 150 = .ok (.iload_n 1, 1) := by decide +kernel
theorem d_Md_operand_151 : decode b_Md_operand 151 = .ok (.if_icmp .ne 8, 3) := by decide +kernel
theorem d_Md_operand_154 : decode b_Md_operand 154 = .ok (.aload_n 0, 1) := by decide +kernel
theorem d_Md_operand_155 : decode b_Md_operand 155 = .ok (.iconst 1, 1) := by decide +kernel
theorem d_Md_operand_156 : decode b_Md_operand 156 = .ok (.invokevirtual 354, 3) := by decide +kernel
theorem d_Md_operand_159 : decode b_Md_operand 159 = .ok (.aload_n 0, 1) := by decide +kernel
theorem d_Md_operand_160 : decode b_Md_operand 160 = .ok (.getfield 82, 3) := by decide +kernel
theorem d_Md_operand_163 : decode b_Md_operand 163 = .ok (.aload_n 0, 1) := by decide +kernel
theorem d_Md_operand_164 : decode b_Md_operand 164 = .ok (.getfield 341, 3) := by decide +kernel
theorem d_Md_operand_167 : decode b_Md_operand 167 = .ok (.iload 4, 2) := by decide +kernel
theorem d_Md_operand_169 : decode b_Md_operand 169 = .ok (.iastore, 1) := by decide +kernel
theorem d_Md_operand_170 : decode b_Md_operand 170 = .ok (.aload_n 0, 1) := by decide +kernel
theorem d_Md_operand_171 : decode b_Md_operand 171 = .ok (.dup, 1) := by decide +kernel
theorem d_Md_operand_172 : decode b_Md_operand 172 = .ok (.getfield 341, 3) := by decide +kernel
theorem d_Md_operand_175 : decode b_Md_operand 175 = .ok (.iconst 1, 1) := by decide +kernel
theorem d_Md_operand_176 : decode b_Md_operand 176 = .ok (.iadd, 1) := by decide +kernel
theorem d_Md_operand_177 : decode b_Md_operand 177 = .ok (.putfield 341, 3) := by decide +kernel
theorem d_Md_operand_180 : decode b_Md_operand 180 = .ok (.iload 5, 2) := by decide +kernel
theorem d_Md_operand_182 : decode b_Md_operand 182 = .ok (.ireturn, 1) := by decide +kernel
theorem d_Md_other_0 : decode b_Md_other 0 = .ok (.iload_n 1, 1) := by decide +kernel
theorem d_Md_other_1 : decode b_Md_other 1 = .ok (.bipush 65, 2) := by decide +kernel
theorem d_Md_other_3 : decode b_Md_other 3 = .ok (.isub, 1) := by decide +kernel
theorem d_Md_other_4 : decode b_Md_other 4 = .ok (.istore_n 2, 1) := by decide +kernel
theorem d_Md_other_5 : decode b_Md_other 5 = .ok (.iload_n 2, 1) := by decide +kernel
theorem d_Md_other_6 : decode b_Md_other 6 = .ok (.ifCond .lt 18, 3) := by decide +kernel
theorem d_Md_other_9 : decode b_Md_other 9 = .ok (.iload_n 2, 1) := by decide +kernel
theorem d_Md_other_10 : decode b_Md_other 10 = .ok (.bipush 25, 2) := by decide +kernel
theorem d_Md_other_12 : decode b_Md_other 12 = .ok (.if_icmp .gt 12, 3) := by decide +kernel
theorem d_Md_other_15 : decode b_Md_other 15 = .ok (.aload_n 0, 1) := by decide +kernel
theorem d_Md_other_16 : decode b_Md_other 16 = .ok (.getfield 24, 3) := by decide +kernel
theorem d_Md_other_19 : decode b_Md_other 19 = .ok (.iload_n 2, 1) := by decide +kernel
theorem d_Md_other_20 : decode b_Md_other 20 = .ok (.baload, 1) := by decide +kernel
theorem d_Md_other_21 : decode b_Md_other 21 = .ok (.ifCond .ne 11, 3) := by decide +kernel
theorem d_Md_other_24 : decode b_Md_other 24 = .ok (.aload_n 0, 1) := by decide +kernel
theorem d_Md_other_25 : decode b_Md_other 25 = .ok (.iconst 2, 1) := by decide +kernel
theorem d_Md_other_26 : decode b_Md_other 26 = .ok (.invokevirtual 166, 3) := by decide +kernel
theorem d_Md_other_29 : decode b_Md_other 29 = .ok (.goto 30, 3) := by decide +kernel
theorem d_Md_other_32 : decode b_Md_other 32 = .ok (.aload_n 0, 1) := by decide +kernel
theorem d_Md_other_33 : decode b_Md_other 33 = .ok (.iconst 1, 1) := by decide +kernel
theorem d_Md_other_34 : decode b_Md_other 34 = .ok (.iconst 1, 1) := by decide +kernel
theorem d_Md_other_35 : decode b_Md_other 35 = .ok (.invokevirtual 249, 3) := by decide +kernel
theorem d_Md_other_38 : decode b_Md_other 38 = .ok (.ifCond .eq 21, 3) := by decide +kernel
theorem d_Md_other_41 : decode b_Md_other 41 = .ok (.aload_n 0, 1) := by decide +kernel
theorem d_Md_other_42 : decode b_Md_other 42 = .ok (.bipush 120, 2) := by decide +kernel
theorem d_Md_other_44 : decode b_Md_other 44 = .ok (.bipush 32, 2) := by decide +kernel
theorem d_Md_other_46 : decode b_Md_other 46 = .ok (.bipush 32, 2) := by decide +kernel
theorem d_Md_other_48 : decode b_Md_other 48 = .ok (.invokevirtual 253, 3) := by decide +kernel
theorem d_Md_other_51 : decode b_Md_other 51 = .ok (.ifCond .eq 8, 3) := by decide +kernel
theorem d_Md_other_54 : decode b_Md_other 54 = .ok (.aload_n 0, 1) := by decide +kernel
theorem d_Md_other_55 : decode b_Md_other 55 = .ok (.iload_n 2, 1) := by decide +kernel
theorem d_Md_other_56 : decode b_Md_other 56 = .ok (.invokevirtual 299, 3) := by decide +kernel
theorem d_Md_other_59 : decode b_Md_other 59 = .ok (.return_, 1) := by decide +kernel
theorem d_Md_outside_0 : decode b_Md_outside 0 = .ok (.iload_n 0, 1) := by decide +kernel
theorem d_Md_outside_1 : decode b_Md_outside 1 = .ok (.iload_n 1, 1) := by decide +kernel
theorem d_Md_outside_2 : decode b_Md_outside 2 = .ok (.if_icmp .lt 8, 3) := by decide +kernel
theorem d_Md_outside_5 : decode b_Md_outside 5 = .ok (.iload_n 0, 1) := by decide +kernel
theorem d_Md_outside_6 : decode b_Md_outside 6 = .ok (.iload_n 2, 1) := by decide +kernel
theorem d_Md_outside_7 : decode b_Md_outside 7 = .ok (.if_icmp .le 7, 3) := by decide +kernel
theorem d_Md_outside_10 : decode b_Md_outside 10 = .ok (.iconst 1, 1) := by decide +kernel
theorem d_Md_outside_11 : decode b_Md_outside 11 = .ok (.goto 4, 3) := by decide +kernel
theorem d_Md_outside_14 : decode b_Md_outside 14 = .ok (.iconst 0, 1) := by decide +kernel
theorem d_Md_outside_15 : decode b_Md_outside 15 = .ok (.ireturn, 1) := by decide +kernel
theorem d_Md_over_0 : decode b_Md_over 0 = .ok (.aload_n 0, 1) := by decide +kernel
theorem d_Md_over_1 : decode b_Md_over 1 = .ok (.getfield 40, 3) := by decide +kernel
theorem d_Md_over_4 : decode b_Md_over 4 = .ok (.aload_n 0, 1) := by decide +kernel
theorem d_Md_over_5 : decode b_Md_over 5 = .ok (.getfield 36, 3) := by decide +kernel
theorem d_Md_over_8 : decode b_Md_over 8 = .ok (.iaload, 1) := by decide +kernel
theorem d_Md_over_9 : decode b_Md_over 9 = .ok (.aload_n 0, 1) := by decide +kernel
theorem d_Md_over_10 : decode b_Md_over 10 = .ok (.getfield 43, 3) := by decide +kernel
theorem d_Md_over_13 : decode b_Md_over 13 = .ok (.aload_n 0, 1) := by decide +kernel
theorem d_Md_over_14 : decode b_Md_over 14 = .ok (.getfield 36, 3) := by decide +kernel
theorem d_Md_over_17 : decode b_Md_over 17 = .ok (.iaload, 1) := by decide +kernel
theorem d_Md_over_18 : decode b_Md_over 18 = .ok (.if_icmp .lt 7, 3) := by decide +kernel
theorem d_Md_over_21 : decode b_Md_over 21 = .ok (.iconst 1, 1) := by decide +kernel
theorem d_Md_over_22 : decode b_Md_over 22 = .ok (.goto 4, 3) := by decide +kernel
theorem d_Md_over_25 : decode b_Md_over 25 = .ok (.iconst 0, 1) := by decide +kernel
theorem d_Md_over_26 : decode b_Md_over 26 = .ok (.ireturn, 1) := by decide +kernel
theorem d_Md_peer_0 : decode b_Md_peer 0 = .ok (.aload_n 0, 1) := by decide +kernel
theorem d_Md_peer_1 : decode b_Md_peer 1 = .ok (.getfield 126, 3) := by decide +kernel
theorem d_Md_peer_4 : decode b_Md_peer 4 = .ok (.ireturn, 1) := by decide +kernel
theorem d_Md_pending_0 : decode b_Md_pending 0 = .ok (.aload_n 0, 1) := by decide +kernel
theorem d_Md_pending_1 : decode b_Md_pending 1 = .ok (.getfield 129, 3) := by decide +kernel
theorem d_Md_pending_4 : decode b_Md_pending 4 = .ok (.ireturn, 1) := by decide +kernel
theorem d_Md_piece_0 : decode b_Md_piece 0 = .ok (.aload_n 0, 1) := by decide +kernel
theorem d_Md_piece_1 : decode b_Md_piece 1 = .ok (.invokevirtual 206, 3) := by decide +kernel
theorem d_Md_piece_4 : decode b_Md_piece 4 = .ok (.istore_n 2, 1) := by decide +kernel
theorem d_Md_piece_5 : decode b_Md_piece 5 = .ok (.iload_n 1, 1) := by decide +kernel
theorem d_Md_piece_6 : decode b_Md_piece 6 = .ok (.bipush 92, 2) := by decide +kernel
theorem d_Md_piece_8 : decode b_Md_piece 8 = .ok (.if_icmp .ne 39, 3) := by decide +kernel
theorem d_Md_piece_11 : decode b_Md_piece 11 = .ok (.iload_n 2, 1) := by decide +kernel
theorem d_Md_piece_12 : decode b_Md_piece 12 = .ok (.ifCond .ne 11, 3) := by decide +kernel
theorem d_Md_piece_15 : decode b_Md_piece 15 = .ok (.aload_n 0, 1) := by decide +kernel
theorem d_Md_piece_16 : decode b_Md_piece 16 = .ok (.iconst 1, 1) := by decide +kernel
theorem d_Md_piece_17 : decode b_Md_piece 17 = .ok (.invokevirtual 166, 3) := by decide +kernel
theorem d_Md_piece_20 : decode b_Md_piece 20 = .ok (.goto 169, 3) := by decide +kernel
theorem d_Md_piece_23 : decode b_Md_piece 23 = .ok (.aload_n 0, 1) := by decide +kernel
theorem d_Md_piece_24 : decode b_Md_piece 24 = .ok (.iload_n 2, 1) := by decide +kernel
theorem d_Md_piece_25 : decode b_Md_piece 25 = .ok (.invokevirtual 209, 3) := by decide +kernel
theorem d_Md_piece_28 : decode b_Md_piece 28 = .ok (.ifCond .eq 161, 3) := by decide +kernel
theorem d_Md_piece_31 : decode b_Md_piece 31 = .ok (.aload_n 0, 1) := by decide +kernel
theorem d_Md_piece_32 : decode b_Md_piece 32 = .ok (.getfield 40, 3) := by decide +kernel
theorem d_Md_piece_35 : decode b_Md_piece 35 = .ok (.aload_n 0, 1) := by decide +kernel
theorem d_Md_piece_36 : decode b_Md_piece 36 = .ok (.getfield 36, 3) := by decide +kernel
theorem d_Md_piece_39 : decode b_Md_piece 39 = .ok (.dup2, 1) := by decide +kernel
theorem d_Md_piece_40 : decode b_Md_piece 40 = .ok (.iaload, 1) := by decide +kernel
theorem d_Md_piece_41 : decode b_Md_piece 41 = .ok (.iconst 2, 1) := by decide +kernel
theorem d_Md_piece_42 : decode b_Md_piece 42 = .ok (.iadd, 1) := by decide +kernel
theorem d_Md_piece_43 : decode b_Md_piece 43 = .ok (.iastore, 1) := by decide +kernel
