/-! decode rows; written by wip/gen/names.py -/
theorem d_Md_store_11 : decode b_Md_store 11 = .ok (.istore_n 2, 1) := by decide +kernel
theorem d_Md_store_12 : decode b_Md_store 12 = .ok (.iload_n 2, 1) := by decide +kernel
theorem d_Md_store_13 : decode b_Md_store 13 = .ok (.aload_n 0, 1) := by decide +kernel
theorem d_Md_store_14 : decode b_Md_store 14 = .ok (.getfield 135, 3) := by decide +kernel
theorem d_Md_store_17 : decode b_Md_store 17 = .ok (.if_icmp .ge 26, 3) := by decide +kernel
theorem d_Md_store_20 : decode b_Md_store 20 = .ok (.aload_n 0, 1) := by decide +kernel
theorem d_Md_store_21 : decode b_Md_store 21 = .ok (.getfield 17, 3) := by decide +kernel
theorem d_Md_store_24 : decode b_Md_store 24 = .ok (.bipush 20, 2) := by decide +kernel
theorem d_Md_store_26 : decode b_Md_store 26 = .ok (.iload_n 1, 1) := by decide +kernel
theorem d_Md_store_27 : decode b_Md_store 27 = .ok (.imul, 1) := by decide +kernel
theorem d_Md_store_28 : decode b_Md_store 28 = .ok (.iload_n 2, 1) := by decide +kernel
theorem d_Md_store_29 : decode b_Md_store 29 = .ok (.iadd, 1) := by decide +kernel
theorem d_Md_store_30 : decode b_Md_store 30 = .ok (.aload_n 0, 1) := by decide +kernel
theorem d_Md_store_31 : decode b_Md_store 31 = .ok (.getfield 76, 3) := by decide +kernel
theorem d_Md_store_34 : decode b_Md_store 34 = .ok (.iload_n 2, 1) := by decide +kernel
theorem d_Md_store_35 : decode b_Md_store 35 = .ok (.caload, 1) := by decide +kernel
theorem d_Md_store_36 : decode b_Md_store 36 = .ok (.castore, 1) := by decide +kernel
theorem d_Md_store_37 : decode b_Md_store 37 = .ok (.iinc 2 1, 3) := by decide +kernel
theorem d_Md_store_40 : decode b_Md_store 40 = .ok (.goto (-28), 3) := by decide +kernel
theorem d_Md_store_43 : decode b_Md_store 43 = .ok (.return_, 1) := by decide +kernel
theorem d_Md_take_0 : decode b_Md_take 0 = .ok (.aload_n 0, 1) := by decide +kernel
theorem d_Md_take_1 : decode b_Md_take 1 = .ok (.invokevirtual 138, 3) := by decide +kernel
theorem d_Md_take_4 : decode b_Md_take 4 = .ok (.aload_n 0, 1) := by decide +kernel
theorem d_Md_take_5 : decode b_Md_take 5 = .ok (.iload_n 1, 1) := by decide +kernel
theorem d_Md_take_6 : decode b_Md_take 6 = .ok (.invokevirtual 159, 3) := by decide +kernel
theorem d_Md_take_9 : decode b_Md_take 9 = .ok (.istore_n 2, 1) := by decide +kernel
theorem d_Md_take_10 : decode b_Md_take 10 = .ok (.iconst 0, 1) := by decide +kernel
theorem d_Md_take_11 : decode b_Md_take 11 = .ok (.istore_n 3, 1) := by decide +kernel
theorem d_Md_take_12 : decode b_Md_take 12 = .ok (.iload_n 3, 1) := by decide +kernel
theorem d_Md_take_13 : decode b_Md_take 13 = .ok (.iload_n 2, 1) := by decide +kernel
theorem d_Md_take_14 : decode b_Md_take 14 = .ok (.if_icmp .ge 19, 3) := by decide +kernel
theorem d_Md_take_17 : decode b_Md_take 17 = .ok (.aload_n 0, 1) := by decide +kernel
theorem d_Md_take_18 : decode b_Md_take 18 = .ok (.aload_n 0, 1) := by decide +kernel
theorem d_Md_take_19 : decode b_Md_take 19 = .ok (.iload_n 1, 1) := by decide +kernel
theorem d_Md_take_20 : decode b_Md_take 20 = .ok (.iload_n 3, 1) := by decide +kernel
theorem d_Md_take_21 : decode b_Md_take 21 = .ok (.invokevirtual 162, 3) := by decide +kernel
theorem d_Md_take_24 : decode b_Md_take 24 = .ok (.invokevirtual 143, 3) := by decide +kernel
theorem d_Md_take_27 : decode b_Md_take 27 = .ok (.iinc 3 1, 3) := by decide +kernel
theorem d_Md_take_30 : decode b_Md_take 30 = .ok (.goto (-18), 3) := by decide +kernel
theorem d_Md_take_33 : decode b_Md_take 33 = .ok (.return_, 1) := by decide +kernel
theorem d_Md_talk_0 : decode b_Md_talk 0 = .ok (.aload_n 0, 1) := by decide +kernel
theorem d_Md_talk_1 : decode b_Md_talk 1 = .ok (.getfield 370, 3) := by decide +kernel
theorem d_Md_talk_4 : decode b_Md_talk 4 = .ok (.ireturn, 1) := by decide +kernel
theorem d_Md_talked_0 : decode b_Md_talked 0 = .ok (.iload_n 1, 1) := by decide +kernel
theorem d_Md_talked_1 : decode b_Md_talked 1 = .ok (.iconst 0, 1) := by decide +kernel
theorem d_Md_talked_2 : decode b_Md_talked 2 = .ok (.bipush 39, 2) := by decide +kernel
theorem d_Md_talked_4 : decode b_Md_talked 4 = .ok (.invokestatic 119, 3) := by decide +kernel
theorem d_Md_talked_7 : decode b_Md_talked 7 = .ok (.ifCond .ne 11, 3) := by decide +kernel
theorem d_Md_talked_10 : decode b_Md_talked 10 = .ok (.iload_n 1, 1) := by decide +kernel
theorem d_Md_talked_11 : decode b_Md_talked 11 = .ok (.aload_n 0, 1) := by decide +kernel
theorem d_Md_talked_12 : decode b_Md_talked 12 = .ok (.getfield 370, 3) := by decide +kernel
theorem d_Md_talked_15 : decode b_Md_talked 15 = .ok (.if_icmp .lt 7, 3) := by decide +kernel
theorem d_Md_talked_18 : decode b_Md_talked 18 = .ok (.iconst 0, 1) := by decide +kernel
theorem d_Md_talked_19 : decode b_Md_talked 19 = .ok (.goto 19, 3) := by decide +kernel
theorem d_Md_talked_22 : decode b_Md_talked 22 = .ok (.aload_n 0, 1) := by decide +kernel
theorem d_Md_talked_23 : decode b_Md_talked 23 = .ok (.getfield 109, 3) := by decide +kernel
theorem d_Md_talked_26 : decode b_Md_talked 26 = .ok (.aload_n 0, 1) := by decide +kernel
theorem d_Md_talked_27 : decode b_Md_talked 27 = .ok (.getfield 370, 3) := by decide +kernel
theorem d_Md_talked_30 : decode b_Md_talked 30 = .ok (.iconst 1, 1) := by decide +kernel
theorem d_Md_talked_31 : decode b_Md_talked 31 = .ok (.isub, 1) := by decide +kernel
theorem d_Md_talked_32 : decode b_Md_talked 32 = .ok (.iload_n 1, 1) := by decide +kernel
theorem d_Md_talked_33 : decode b_Md_talked 33 = .ok (.isub, 1) := by decide +kernel
theorem d_Md_talked_34 : decode b_Md_talked 34 = .ok (.bipush 40, 2) := by decide +kernel
theorem d_Md_talked_36 : decode b_Md_talked 36 = .ok (.irem, 1) := by decide +kernel
theorem d_Md_talked_37 : decode b_Md_talked 37 = .ok (.iaload, 1) := by decide +kernel
theorem d_Md_talked_38 : decode b_Md_talked 38 = .ok (.ireturn, 1) := by decide +kernel
theorem d_Md_tick_0 : decode b_Md_tick 0 = .ok (.aload_n 0, 1) := by decide +kernel
theorem d_Md_tick_1 : decode b_Md_tick 1 = .ok (.getfield 129, 3) := by decide +kernel
theorem d_Md_tick_4 : decode b_Md_tick 4 = .ok (.ifCond .le 12, 3) := by decide +kernel
theorem d_Md_tick_7 : decode b_Md_tick 7 = .ok (.aload_n 0, 1) := by decide +kernel
theorem d_Md_tick_8 : decode b_Md_tick 8 = .ok (.getfield 103, 3) := by decide +kernel
theorem d_Md_tick_11 : decode b_Md_tick 11 = .ok (.iconst 0, 1) := by decide +kernel
theorem d_Md_tick_12 : decode b_Md_tick 12 = .ok (.caload, 1) := by decide +kernel
theorem d_Md_tick_13 : decode b_Md_tick 13 = .ok (.goto 4, 3) := by decide +kernel
theorem d_Md_tick_16 : decode b_Md_tick 16 = .ok (.iconst 0, 1) := by decide +kernel
theorem d_Md_tick_17 : decode b_Md_tick 17 = .ok (.istore_n 1, 1) := by decide +kernel
theorem d_Md_tick_18 : decode b_Md_tick 18 = .ok (.iconst 1, 1) := by decide +kernel
theorem d_Md_tick_19 : decode b_Md_tick 19 = .ok (.istore_n 2, 1) := by decide +kernel
theorem d_Md_tick_20 : decode b_Md_tick 20 = .ok (.iload_n 2, 1) := by decide +kernel
theorem d_Md_tick_21 : decode b_Md_tick 21 = .ok (.aload_n 0, 1) := by decide +kernel
theorem d_Md_tick_22 : decode b_Md_tick 22 = .ok (.getfield 129, 3) := by decide +kernel
theorem d_Md_tick_25 : decode b_Md_tick 25 = .ok (.if_icmp .ge 23, 3) := by decide +kernel
theorem d_Md_tick_28 : decode b_Md_tick 28 = .ok (.aload_n 0, 1) := by decide +kernel
theorem d_Md_tick_29 : decode b_Md_tick 29 = .ok (.getfield 103, 3) := by decide +kernel
theorem d_Md_tick_32 : decode b_Md_tick 32 = .ok (.iload_n 2, 1) := by decide +kernel
theorem d_Md_tick_33 : decode b_Md_tick 33 = .ok (.iconst 1, 1) := by decide +kernel
theorem d_Md_tick_34 : decode b_Md_tick 34 = .ok (.isub, 1) := by decide +kernel
theorem d_Md_tick_35 : decode b_Md_tick 35 = .ok (.aload_n 0, 1) := by decide +kernel
theorem d_Md_tick_36 : decode b_Md_tick 36 = .ok (.getfield 103, 3) := by decide +kernel
theorem d_Md_tick_39 : decode b_Md_tick 39 = .ok (.iload_n 2, 1) := by decide +kernel
theorem d_Md_tick_40 : decode b_Md_tick 40 = .ok (.caload, 1) := by decide +kernel
theorem d_Md_tick_41 : decode b_Md_tick 41 = .ok (.castore, 1) := by decide +kernel
theorem d_Md_tick_42 : decode b_Md_tick 42 = .ok (.iinc 2 1, 3) := by decide +kernel
theorem d_Md_tick_45 : decode b_Md_tick 45 = .ok (.goto (-25), 3) := by decide +kernel
theorem d_Md_tick_48 : decode b_Md_tick 48 = .ok (.aload_n 0, 1) := by decide +kernel
theorem d_Md_tick_49 : decode b_Md_tick 49 = .ok (.aload_n 0, 1) := by decide +kernel
theorem d_Md_tick_50 : decode b_Md_tick 50 = .ok (.getfield 129, 3) := by decide +kernel
theorem d_Md_tick_53 : decode b_Md_tick 53 = .ok (.ifCond .le 12, 3) := by decide +kernel
theorem d_Md_tick_56 : decode b_Md_tick 56 = .ok (.aload_n 0, 1) := by decide +kernel
theorem d_Md_tick_57 : decode b_Md_tick 57 = .ok (.getfield 129, 3) := by decide +kernel
theorem d_Md_tick_60 : decode b_Md_tick 60 = .ok (.iconst 1, 1) := by decide +kernel
theorem d_Md_tick_61 : decode b_Md_tick 61 = .ok (.isub, 1) := by decide +kernel
theorem d_Md_tick_62 : decode b_Md_tick 62 = .ok (.goto 4, 3) := by decide +kernel
theorem d_Md_tick_65 : decode b_Md_tick 65 = .ok (.iconst 0, 1) := by decide +kernel
theorem d_Md_tick_66 : decode b_Md_tick 66 = .ok (.putfield 129, 3) := by decide +kernel
theorem d_Md_tick_69 : decode b_Md_tick 69 = .ok (.iconst 0, 1) := by decide +kernel
theorem d_Md_tick_70 : decode b_Md_tick 70 = .ok (.istore_n 2, 1) := by decide +kernel
theorem d_Md_tick_71 : decode b_Md_tick 71 = .ok (.iload_n 2, 1) := by decide +kernel
theorem d_Md_tick_72 : decode b_Md_tick 72 = .ok (.aload_n 0, 1) := by decide +kernel
theorem d_Md_tick_73 : decode b_Md_tick 73 = .ok (.getfield 123, 3) := by decide +kernel
theorem d_Md_tick_76 : decode b_Md_tick 76 = .ok (.if_icmp .ge 139, 3) := by decide +kernel
theorem d_Md_tick_79 : decode b_Md_tick 79 = .ok (.aload_n 0, 1) := by decide +kernel
theorem d_Md_tick_80 : decode b_Md_tick 80 = .ok (.getfield 91, 3) := by decide +kernel
theorem d_Md_tick_83 : decode b_Md_tick 83 = .ok (.iload_n 2, 1) := by decide +kernel
theorem d_Md_tick_84 : decode b_Md_tick 84 = .ok (.iaload, 1) := by decide +kernel
theorem d_Md_tick_85 : decode b_Md_tick 85 = .ok (.aload_n 0, 1) := by decide +kernel
theorem d_Md_tick_86 : decode b_Md_tick 86 = .ok (.getfield 126, 3) := by decide +kernel
theorem d_Md_tick_89 : decode b_Md_tick 89 = .ok (.if_icmp .ne 120, 3) := by decide +kernel
theorem d_Md_tick_92 : decode b_Md_tick 92 = .ok (.aload_n 0, 1) := by decide +kernel
theorem d_Md_tick_93 : decode b_Md_tick 93 = .ok (.getfield 94, 3) := by decide +kernel
theorem d_Md_tick_96 : decode b_Md_tick 96 = .ok (.iload_n 2, 1) := by decide +kernel
theorem d_Md_tick_97 : decode b_Md_tick 97 = .ok (.iaload, 1) := by decide +kernel
theorem d_Md_tick_98 : decode b_Md_tick 98 = .ok (.iload_n 1, 1) := by decide +kernel
theorem d_Md_tick_99 : decode b_Md_tick 99 = .ok (.if_icmp .ne 110, 3) := by decide +kernel
theorem d_Md_tick_102 : decode b_Md_tick 102 = .ok (.aload_n 0, 1) := by decide +kernel
theorem d_Md_tick_103 : decode b_Md_tick 103 = .ok (.getfield 97, 3) := by decide +kernel
theorem d_Md_tick_106 : decode b_Md_tick 106 = .ok (.iload_n 2, 1) := by decide +kernel
theorem d_Md_tick_107 : decode b_Md_tick 107 = .ok (.iaload, 1) := by decide +kernel
theorem d_Md_tick_108 : decode b_Md_tick 108 = .ok (.ifCond .le 90, 3) := by decide +kernel
theorem d_Md_tick_111 : decode b_Md_tick 111 = .ok (.aload_n 0, 1) := by decide +kernel
theorem d_Md_tick_112 : decode b_Md_tick 112 = .ok (.aload_n 0, 1) := by decide +kernel
theorem d_Md_tick_113 : decode b_Md_tick 113 = .ok (.getfield 97, 3) := by decide +kernel
theorem d_Md_tick_116 : decode b_Md_tick 116 = .ok (.iload_n 2, 1) := by decide +kernel
theorem d_Md_tick_117 : decode b_Md_tick 117 = .ok (.iaload, 1) := by decide +kernel
theorem d_Md_tick_118 : decode b_Md_tick 118 = .ok (.sipush 256, 3) := by decide +kernel
theorem d_Md_tick_121 : decode b_Md_tick 121 = .ok (.iadd, 1) := by decide +kernel
theorem d_Md_tick_122 : decode b_Md_tick 122 = .ok (.invokevirtual 373, 3) := by decide +kernel
theorem d_Md_tick_125 : decode b_Md_tick 125 = .ok (.aload_n 0, 1) := by decide +kernel
theorem d_Md_tick_126 : decode b_Md_tick 126 = .ok (.getfield 106, 3) := by decide +kernel
theorem d_Md_tick_129 : decode b_Md_tick 129 = .ok (.aload_n 0, 1) := by decide +kernel
theorem d_Md_tick_130 : decode b_Md_tick 130 = .ok (.getfield 132, 3) := by decide +kernel
theorem d_Md_tick_133 : decode b_Md_tick 133 = .ok (.bipush 20, 2) := by decide +kernel
theorem d_Md_tick_135 : decode b_Md_tick 135 = .ok (.if_icmp .ge 10, 3) := by decide +kernel
theorem d_Md_tick_138 : decode b_Md_tick 138 = .ok (.aload_n 0, 1) := by decide +kernel
theorem d_Md_tick_139 : decode b_Md_tick 139 = .ok (.getfield 132, 3) := by decide +kernel
theorem d_Md_tick_142 : decode b_Md_tick 142 = .ok (.goto 5, 3) := by decide +kernel
theorem d_Md_tick_145 : decode b_Md_tick 145 = .ok (.bipush 19, 2) := by decide +kernel
theorem d_Md_tick_147 : decode b_Md_tick 147 = .ok (.aload_n 0, 1) := by decide +kernel
theorem d_Md_tick_148 : decode b_Md_tick 148 = .ok (.getfield 132, 3) := by decide +kernel
theorem d_Md_tick_151 : decode b_Md_tick 151 = .ok (.bipush 20, 2) := by decide +kernel
theorem d_Md_tick_153 : decode b_Md_tick 153 = .ok (.if_icmp .ge 13, 3) := by decide +kernel
theorem d_Md_tick_156 : decode b_Md_tick 156 = .ok (.aload_n 0, 1) := by decide +kernel
theorem d_Md_tick_157 : decode b_Md_tick 157 = .ok (.getfield 97, 3) := by decide +kernel
theorem d_Md_tick_160 : decode b_Md_tick 160 = .ok (.iload_n 2, 1) := by decide +kernel
theorem d_Md_tick_161 : decode b_Md_tick 161 = .ok (.iaload, 1) := by decide +kernel
theorem d_Md_tick_162 : decode b_Md_tick 162 = .ok (.i2c, 1) := by decide +kernel
theorem d_Md_tick_163 : decode b_Md_tick 163 = .ok (.goto 10, 3) := by decide +kernel
theorem d_Md_tick_166 : decode b_Md_tick 166 = .ok (.aload_n 0, 1) := by decide +kernel
theorem d_Md_tick_167 : decode b_Md_tick 167 = .ok (.getfield 106, 3) := by decide +kernel
theorem d_Md_tick_170 : decode b_Md_tick 170 = .ok (.bipush 19, 2) := by decide +kernel
theorem d_Md_tick_172 : decode b_Md_tick 172 = .ok (.caload, 1) := by decide +kernel
theorem d_Md_tick_173 : decode b_Md_tick 173 = .ok (.castore, 1) := by decide +kernel
theorem d_Md_tick_174 : decode b_Md_tick 174 = .ok (.aload_n 0, 1) := by decide +kernel
theorem d_Md_tick_175 : decode b_Md_tick 175 = .ok (.aload_n 0, 1) := by decide +kernel
theorem d_Md_tick_176 : decode b_Md_tick 176 = .ok (.getfield 132, 3) := by decide +kernel
theorem d_Md_tick_179 : decode b_Md_tick 179 = .ok (.bipush 20, 2) := by decide +kernel
theorem d_Md_tick_181 : decode b_Md_tick 181 = .ok (.if_icmp .ge 12, 3) := by decide +kernel
theorem d_Md_tick_184 : decode b_Md_tick 184 = .ok (.aload_n 0, 1) := by decide +kernel
theorem d_Md_tick_185 : decode b_Md_tick 185 = .ok (.getfield 132, 3) := by decide +kernel
theorem d_Md_tick_188 : decode b_Md_tick 188 = .ok (.iconst 1, 1) := by decide +kernel
theorem d_Md_tick_189 : decode b_Md_tick 189 = .ok (.iadd, 1) := by decide +kernel
theorem d_Md_tick_190 : decode b_Md_tick 190 = .ok (.goto 5, 3) := by decide +kernel
theorem d_Md_tick_193 : decode b_Md_tick 193 = .ok (.bipush 20, 2) := by decide +kernel
theorem d_Md_tick_195 : decode b_Md_tick 195 = .ok (.putfield 132, 3) := by decide +kernel
theorem d_Md_tick_198 : decode b_Md_tick 198 = .ok (.aload_n 0, 1) := by decide +kernel
theorem d_Md_tick_199 : decode b_Md_tick 199 = .ok (.aload_n 0, 1) := by decide +kernel
theorem d_Md_tick_200 : decode b_Md_tick 200 = .ok (.getfield 100, 3) := by decide +kernel
theorem d_Md_tick_203 : decode b_Md_tick 203 = .ok (.iload_n 2, 1) := by decide +kernel
theorem d_Md_tick_204 : decode b_Md_tick 204 = .ok (.iaload, 1) := by decide +kernel
theorem d_Md_tick_205 : decode b_Md_tick 205 = .ok (.putfield 126, 3) := by decide +kernel
theorem d_Md_tick_208 : decode b_Md_tick 208 = .ok (.return_, 1) := by decide +kernel
theorem d_Md_tick_209 : decode b_Md_tick 209 = .ok (.iinc 2 1, 3) := by decide +kernel
theorem d_Md_tick_212 : decode b_Md_tick 212 = .ok (.goto (-141), 3) := by decide +kernel
theorem d_Md_tick_215 : decode b_Md_tick 215 = .ok (.return_, 1) := by decide +kernel
theorem d_Md_used_0 : decode b_Md_used 0 = .ok (.aload_n 0, 1) := by decide +kernel
theorem d_Md_used_1 : decode b_Md_used 1 = .ok (.getfield 232, 3) := by decide +kernel
theorem d_Md_used_4 : decode b_Md_used 4 = .ok (.ireturn, 1) := by decide +kernel
theorem d_Md_value_0 : decode b_Md_value 0 = .ok (.aload_n 0, 1) := by decide +kernel
theorem d_Md_value_1 : decode b_Md_value 1 = .ok (.getfield 67, 3) := by decide +kernel
theorem d_Md_value_4 : decode b_Md_value 4 = .ok (.aload_n 0, 1) := by decide +kernel
theorem d_Md_value_5 : decode b_Md_value 5 = .ok (.iload_n 1, 1) := by decide +kernel
theorem d_Md_value_6 : decode b_Md_value 6 = .ok (.invokevirtual 155, 3) := by decide +kernel
theorem d_Md_value_9 : decode b_Md_value 9 = .ok (.iaload, 1) := by decide +kernel
theorem d_Md_value_10 : decode b_Md_value 10 = .ok (.istore_n 2, 1) := by decide +kernel
theorem d_Md_value_11 : decode b_Md_value 11 = .ok (.iload_n 2, 1) := by decide +kernel
theorem d_Md_value_12 : decode b_Md_value 12 = .ok (.aload_n 0, 1) := by decide +kernel
theorem d_Md_value_13 : decode b_Md_value 13 = .ok (.getfield 70, 3) := by decide +kernel
theorem d_Md_value_16 : decode b_Md_value 16 = .ok (.aload_n 0, 1) := by decide +kernel
theorem d_Md_value_17 : decode b_Md_value 17 = .ok (.iload_n 1, 1) := by decide +kernel
theorem d_Md_value_18 : decode b_Md_value 18 = .ok (.invokevirtual 155, 3) := by decide +kernel
theorem d_Md_value_21 : decode b_Md_value 21 = .ok (.iaload, 1) := by decide +kernel
theorem d_Md_value_22 : decode b_Md_value 22 = .ok (.iadd, 1) := by decide +kernel
theorem d_Md_value_23 : decode b_Md_value 23 = .ok (.istore_n 3, 1) := by decide +kernel
theorem d_Md_value_24 : decode b_Md_value 24 = .ok (.aload_n 0, 1) := by decide +kernel
theorem d_Md_value_25 : decode b_Md_value 25 = .ok (.iconst 0, 1) := by decide +kernel
theorem d_Md_value_26 : decode b_Md_value 26 = .ok (.putfield 338, 3) := by decide +kernel
theorem d_Md_value_29 : decode b_Md_value 29 = .ok (.aload_n 0, 1) := by decide +kernel
theorem d_Md_value_30 : decode b_Md_value 30 = .ok (.iconst 0, 1) := by decide +kernel
theorem d_Md_value_31 : decode b_Md_value 31 = .ok (.putfield 341, 3) := by decide +kernel
theorem d_Md_value_34 : decode b_Md_value 34 = .ok (.aload_n 0, 1) := by decide +kernel
theorem d_Md_value_35 : decode b_Md_value 35 = .ok (.iconst 0, 1) := by decide +kernel
theorem d_Md_value_36 : decode b_Md_value 36 = .ok (.putfield 331, 3) := by decide +kernel
theorem d_Md_value_39 : decode b_Md_value 39 = .ok (.aload_n 0, 1) := by decide +kernel
theorem d_Md_value_40 : decode b_Md_value 40 = .ok (.iconst 0, 1) := by decide +kernel
theorem d_Md_value_41 : decode b_Md_value 41 = .ok (.putfield 328, 3) := by decide +kernel
theorem d_Md_value_44 : decode b_Md_value 44 = .ok (.iconst 0, 1) := by decide +kernel
theorem d_Md_value_45 : decode b_Md_value 45 = .ok (.istore 4, 2) := by decide +kernel
theorem d_Md_value_47 : decode b_Md_value 47 = .ok (.iconst 1, 1) := by decide +kernel
theorem d_Md_value_48 : decode b_Md_value 48 = .ok (.istore 5, 2) := by decide +kernel
theorem d_Md_value_50 : decode b_Md_value 50 = .ok (.iload_n 2, 1) := by decide +kernel
theorem d_Md_value_51 : decode b_Md_value 51 = .ok (.iload_n 3, 1) := by decide +kernel
theorem d_Md_value_52 : decode b_Md_value 52 = .ok (.if_icmp .ge 219, 3) := by decide +kernel
theorem d_Md_value_55 : decode b_Md_value 55 = .ok (.aload_n 0, 1) := by decide +kernel
theorem d_Md_value_56 : decode b_Md_value 56 = .ok (.getfield 328, 3) := by decide +kernel
theorem d_Md_value_59 : decode b_Md_value 59 = .ok (.iconst 1, 1) := by decide +kernel
theorem d_Md_value_60 : decode b_Md_value 60 = .ok (.if_icmp .eq 211, 3) := by decide +kernel
theorem d_Md_value_63 : decode b_Md_value 63 = .ok (.aload_n 0, 1) := by decide +kernel
theorem d_Md_value_64 : decode b_Md_value 64 = .ok (.getfield 7, 3) := by decide +kernel
theorem d_Md_value_67 : decode b_Md_value 67 = .ok (.iload_n 2, 1) := by decide +kernel
theorem d_Md_value_68 : decode b_Md_value 68 = .ok (.caload, 1) := by decide +kernel
theorem d_Md_value_69 : decode b_Md_value 69 = .ok (.istore 6, 2) := by decide +kernel
theorem d_Md_value_71 : decode b_Md_value 71 = .ok (.iload 6, 2) := by decide +kernel
theorem d_Md_value_73 : decode b_Md_value 73 = .ok (.bipush 32, 2) := by decide +kernel
theorem d_Md_value_75 : decode b_Md_value 75 = .ok (.if_icmp .ne 9, 3) := by decide +kernel
theorem d_Md_value_78 : decode b_Md_value 78 = .ok (.iinc 2 1, 3) := by decide +kernel
theorem d_Md_value_81 : decode b_Md_value 81 = .ok (.goto 187, 3) := by decide +kernel
theorem d_Md_value_84 : decode b_Md_value 84 = .ok (.iload 5, 2) := by decide +kernel
theorem d_Md_value_86 : decode b_Md_value 86 = .ok (.ifCond .eq 41, 3) := by decide +kernel
theorem d_Md_value_89 : decode b_Md_value 89 = .ok (.iload 6, 2) := by decide +kernel
theorem d_Md_value_91 : decode b_Md_value 91 = .ok (.bipush 45, 2) := by decide +kernel
theorem d_Md_value_93 : decode b_Md_value 93 = .ok (.if_icmp .eq 10, 3) := by decide +kernel
theorem d_Md_value_96 : decode b_Md_value 96 = .ok (.iload 6, 2) := by decide +kernel
theorem d_Md_value_98 : decode b_Md_value 98 = .ok (.bipush 33, 2) := by decide +kernel
theorem d_Md_value_100 : decode b_Md_value 100 = .ok (.if_icmp .ne 27, 3) := by decide +kernel
theorem d_Md_value_103 : decode b_Md_value 103 = .ok (.aload_n 0, 1) := by decide +kernel
theorem d_Md_value_104 : decode b_Md_value 104 = .ok (.iload 6, 2) := by decide +kernel
theorem d_Md_value_106 : decode b_Md_value 106 = .ok (.bipush 45, 2) := by decide +kernel
theorem d_Md_value_108 : decode b_Md_value 108 = .ok (.if_icmp .ne 8, 3) := by decide +kernel
theorem d_Md_value_111 : decode b_Md_value 111 = .ok (.bipush 110, 2) := by decide +kernel
theorem d_Md_value_113 : decode b_Md_value 113 = .ok (.goto 5, 3) := by decide +kernel
theorem d_Md_value_116 : decode b_Md_value 116 = .ok (.bipush 33, 2) := by decide +kernel
theorem d_Md_value_118 : decode b_Md_value 118 = .ok (.invokevirtual 360, 3) := by decide +kernel
theorem d_Md_value_121 : decode b_Md_value 121 = .ok (.iinc 2 1, 3) := by decide +kernel
theorem d_Md_value_124 : decode b_Md_value 124 = .ok (.goto 144, 3) := by decide +kernel
theorem d_Md_value_127 : decode b_Md_value 127 = .ok (.iload 5, 2) := by decide +kernel
theorem d_Md_value_129 : decode b_Md_value 129 = .ok (.ifCond .eq 37, 3) := by decide +kernel
theorem d_Md_value_132 : decode b_Md_value 132 = .ok (.iload 6, 2) := by decide +kernel
theorem d_Md_value_134 : decode b_Md_value 134 = .ok (.bipush 40, 2) := by decide +kernel
theorem d_Md_value_136 : decode b_Md_value 136 = .ok (.if_icmp .ne 30, 3) := by decide +kernel
theorem d_Md_value_139 : decode b_Md_value 139 = .ok (.iinc 4 1, 3) := by decide +kernel
theorem d_Md_value_142 : decode b_Md_value 142 = .ok (.iload 4, 2) := by decide +kernel
theorem d_Md_value_144 : decode b_Md_value 144 = .ok (.bipush 8, 2) := by decide +kernel
theorem d_Md_value_146 : decode b_Md_value 146 = .ok (.if_icmp .le 8, 3) := by decide +kernel
theorem d_Md_value_149 : decode b_Md_value 149 = .ok (.aload_n 0, 1) := by decide +kernel
theorem d_Md_value_150 : decode b_Md_value 150 = .ok (.iconst 1, 1) := by decide +kernel
theorem d_Md_value_151 : decode b_Md_value 151 = .ok (.invokevirtual 354, 3) := by decide +kernel
theorem d_Md_value_154 : decode b_Md_value 154 = .ok (.aload_n 0, 1) := by decide +kernel
theorem d_Md_value_155 : decode b_Md_value 155 = .ok (.bipush 40, 2) := by decide +kernel
theorem d_Md_value_157 : decode b_Md_value 157 = .ok (.invokevirtual 360, 3) := by decide +kernel
theorem d_Md_value_160 : decode b_Md_value 160 = .ok (.iinc 2 1, 3) := by decide +kernel
theorem d_Md_value_163 : decode b_Md_value 163 = .ok (.goto 105, 3) := by decide +kernel
theorem d_Md_value_166 : decode b_Md_value 166 = .ok (.iload 5, 2) := by decide +kernel
theorem d_Md_value_168 : decode b_Md_value 168 = .ok (.ifCond .eq 16, 3) := by decide +kernel
theorem d_Md_value_171 : decode b_Md_value 171 = .ok (.aload_n 0, 1) := by decide +kernel
theorem d_Md_value_172 : decode b_Md_value 172 = .ok (.iload_n 2, 1) := by decide +kernel
theorem d_Md_value_173 : decode b_Md_value 173 = .ok (.iload_n 3, 1) := by decide +kernel
theorem d_Md_value_174 : decode b_Md_value 174 = .ok (.invokevirtual 363, 3) := by decide +kernel
theorem d_Md_value_177 : decode b_Md_value 177 = .ok (.istore_n 2, 1) := by decide +kernel
theorem d_Md_value_178 : decode b_Md_value 178 = .ok (.iconst 0, 1) := by decide +kernel
theorem d_Md_value_179 : decode b_Md_value 179 = .ok (.istore 5, 2) := by decide +kernel
theorem d_Md_value_181 : decode b_Md_value 181 = .ok (.goto 87, 3) := by decide +kernel
theorem d_Md_value_184 : decode b_Md_value 184 = .ok (.iload 6, 2) := by decide +kernel
theorem d_Md_value_186 : decode b_Md_value 186 = .ok (.bipush 41, 2) := by decide +kernel
theorem d_Md_value_188 : decode b_Md_value 188 = .ok (.if_icmp .ne 32, 3) := by decide +kernel
theorem d_Md_value_191 : decode b_Md_value 191 = .ok (.iload 4, 2) := by decide +kernel
theorem d_Md_value_193 : decode b_Md_value 193 = .ok (.ifCond .le 27, 3) := by decide +kernel
theorem d_Md_value_196 : decode b_Md_value 196 = .ok (.aload_n 0, 1) := by decide +kernel
theorem d_Md_value_197 : decode b_Md_value 197 = .ok (.iconst 1, 1) := by decide +kernel
theorem d_Md_value_198 : decode b_Md_value 198 = .ok (.invokevirtual 367, 3) := by decide +kernel
theorem d_Md_value_201 : decode b_Md_value 201 = .ok (.aload_n 0, 1) := by decide +kernel
theorem d_Md_value_202 : decode b_Md_value 202 = .ok (.dup, 1) := by decide +kernel
theorem d_Md_value_203 : decode b_Md_value 203 = .ok (.getfield 338, 3) := by decide +kernel
theorem d_Md_value_206 : decode b_Md_value 206 = .ok (.iconst 1, 1) := by decide +kernel
theorem d_Md_value_207 : decode b_Md_value 207 = .ok (.isub, 1) := by decide +kernel
theorem d_Md_value_208 : decode b_Md_value 208 = .ok (.putfield 338, 3) := by decide +kernel
theorem d_Md_value_211 : decode b_Md_value 211 = .ok (.iinc 4 (-1), 3) := by decide +kernel
theorem d_Md_value_214 : decode b_Md_value 214 = .ok (.iinc 2 1, 3) := by decide +kernel
theorem d_Md_value_217 : decode b_Md_value 217 = .ok (.goto 51, 3) := by decide +kernel
theorem d_Md_value_220 : decode b_Md_value 220 = .ok (.iload 6, 2) := by decide +kernel
theorem d_Md_value_222 : decode b_Md_value 222 = .ok (.invokestatic 348, 3) := by decide +kernel
theorem d_Md_value_225 : decode b_Md_value 225 = .ok (.iconst 1, 1) := by decide +kernel
theorem d_Md_value_226 : decode b_Md_value 226 = .ok (.if_icmp .le 37, 3) := by decide +kernel
theorem d_Md_value_229 : decode b_Md_value 229 = .ok (.iload 6, 2) := by decide +kernel
theorem d_Md_value_231 : decode b_Md_value 231 = .ok (.invokestatic 348, 3) := by decide +kernel
theorem d_Md_value_234 : decode b_Md_value 234 = .ok (.bipush 7, 2) := by decide +kernel
theorem d_Md_value_236 : decode b_Md_value 236 = .ok (.if_icmp .ge 27, 3) := by decide +kernel
theorem d_Md_value_239 : decode b_Md_value 239 = .ok (.aload_n 0, 1) := by decide +kernel
theorem d_Md_value_240 : decode b_Md_value 240 = .ok (.iload 6, 2) := by decide +kernel
theorem d_Md_value_242 : decode b_Md_value 242 = .ok (.invokestatic 348, 3) := by decide +kernel
theorem d_Md_value_245 : decode b_Md_value 245 = .ok (.invokevirtual 367, 3) := by decide +kernel
theorem d_Md_value_248 : decode b_Md_value 248 = .ok (.aload_n 0, 1) := by decide +kernel
theorem d_Md_value_249 : decode b_Md_value 249 = .ok (.iload 6, 2) := by decide +kernel
theorem d_Md_value_251 : decode b_Md_value 251 = .ok (.invokevirtual 360, 3) := by decide +kernel
theorem d_Md_value_254 : decode b_Md_value 254 = .ok (.iconst 1, 1) := by decide +kernel
theorem d_Md_value_255 : decode b_Md_value 255 = .ok (.istore 5, 2) := by decide +kernel
theorem d_Md_value_257 : decode b_Md_value 257 = .ok (.iinc 2 1, 3) := by decide +kernel
theorem d_Md_value_260 : decode b_Md_value 260 = .ok (.goto 8, 3) := by decide +kernel
theorem d_Md_value_263 : decode b_Md_value 263 = .ok (.aload_n 0, 1) := by decide +kernel
theorem d_Md_value_264 : decode b_Md_value 264 = .ok (.iconst 1, 1) := by decide +kernel
theorem d_Md_value_265 : decode b_Md_value 265 = .ok (.invokevirtual 354, 3) := by decide +kernel
theorem d_Md_value_268 : decode b_Md_value 268 = .ok (.goto (-218), 3) := by decide +kernel
theorem d_Md_value_271 : decode b_Md_value 271 = .ok (.iload 5, 2) := by decide +kernel
theorem d_Md_value_273 : decode b_Md_value 273 = .ok (.ifCond .ne 8, 3) := by decide +kernel
theorem d_Md_value_276 : decode b_Md_value 276 = .ok (.iload 4, 2) := by decide +kernel
theorem d_Md_value_278 : decode b_Md_value 278 = .ok (.ifCond .le 8, 3) := by decide +kernel
theorem d_Md_value_281 : decode b_Md_value 281 = .ok (.aload_n 0, 1) := by decide +kernel
theorem d_Md_value_282 : decode b_Md_value 282 = .ok (.iconst 1, 1) := by decide +kernel
theorem d_Md_value_283 : decode b_Md_value 283 = .ok (.invokevirtual 354, 3) := by decide +kernel
theorem d_Md_value_286 : decode b_Md_value 286 = .ok (.aload_n 0, 1) := by decide +kernel
theorem d_Md_value_287 : decode b_Md_value 287 = .ok (.getfield 328, 3) := by decide +kernel
theorem d_Md_value_290 : decode b_Md_value 290 = .ok (.ifCond .ne 8, 3) := by decide +kernel
theorem d_Md_value_293 : decode b_Md_value 293 = .ok (.aload_n 0, 1) := by decide +kernel
theorem d_Md_value_294 : decode b_Md_value 294 = .ok (.iconst 1, 1) := by decide +kernel
theorem d_Md_value_295 : decode b_Md_value 295 = .ok (.invokevirtual 367, 3) := by decide +kernel
theorem d_Md_value_298 : decode b_Md_value 298 = .ok (.aload_n 0, 1) := by decide +kernel
theorem d_Md_value_299 : decode b_Md_value 299 = .ok (.getfield 328, 3) := by decide +kernel
theorem d_Md_value_302 : decode b_Md_value 302 = .ok (.ifCond .gt 10, 3) := by decide +kernel
theorem d_Md_value_305 : decode b_Md_value 305 = .ok (.aload_n 0, 1) := by decide +kernel
theorem d_Md_value_306 : decode b_Md_value 306 = .ok (.getfield 331, 3) := by decide +kernel
theorem d_Md_value_309 : decode b_Md_value 309 = .ok (.ifCond .eq 25, 3) := by decide +kernel
theorem d_Md_value_312 : decode b_Md_value 312 = .ok (.aload_n 0, 1) := by decide +kernel
theorem d_Md_value_313 : decode b_Md_value 313 = .ok (.aload_n 0, 1) := by decide +kernel
theorem d_Md_value_314 : decode b_Md_value 314 = .ok (.getfield 328, 3) := by decide +kernel
theorem d_Md_value_317 : decode b_Md_value 317 = .ok (.ifCond .le 10, 3) := by decide +kernel
theorem d_Md_value_320 : decode b_Md_value 320 = .ok (.aload_n 0, 1) := by decide +kernel
theorem d_Md_value_321 : decode b_Md_value 321 = .ok (.getfield 328, 3) := by decide +kernel
theorem d_Md_value_324 : decode b_Md_value 324 = .ok (.goto 5, 3) := by decide +kernel
theorem d_Md_value_327 : decode b_Md_value 327 = .ok (.bipush 6, 2) := by decide +kernel
theorem d_Md_value_329 : decode b_Md_value 329 = .ok (.invokevirtual 166, 3) := by decide +kernel
theorem d_Md_value_332 : decode b_Md_value 332 = .ok (.iconst 0, 1) := by decide +kernel
theorem d_Md_value_333 : decode b_Md_value 333 = .ok (.ireturn, 1) := by decide +kernel
theorem d_Md_value_334 : decode b_Md_value 334 = .ok (.aload_n 0, 1) := by decide +kernel
theorem d_Md_value_335 : decode b_Md_value 335 = .ok (.getfield 82, 3) := by decide +kernel
theorem d_Md_value_338 : decode b_Md_value 338 = .ok (.iconst 0, 1) := by decide +kernel
theorem d_Md_value_339 : decode b_Md_value 339 = .ok (.iaload, 1) := by decide +kernel
theorem d_Md_value_340 : decode b_Md_value 340 = .ok (.ireturn, 1) := by decide +kernel
theorem d_Md_variable_0 : decode b_Md_variable 0 = .ok (.aload_n 0, 1) := by decide +kernel
theorem d_Md_variable_1 : decode b_Md_variable 1 = .ok (.getfield 49, 3) := by decide +kernel
theorem d_Md_variable_4 : decode b_Md_variable 4 = .ok (.aload_n 0, 1) := by decide +kernel
theorem d_Md_variable_5 : decode b_Md_variable 5 = .ok (.getfield 36, 3) := by decide +kernel
theorem d_Md_variable_8 : decode b_Md_variable 8 = .ok (.iaload, 1) := by decide +kernel
theorem d_Md_variable_9 : decode b_Md_variable 9 = .ok (.istore_n 2, 1) := by decide +kernel
theorem d_Md_variable_10 : decode b_Md_variable 10 = .ok (.iload_n 2, 1) := by decide +kernel
theorem d_Md_variable_11 : decode b_Md_variable 11 = .ok (.ifCond .le 26, 3) := by decide +kernel
theorem d_Md_variable_14 : decode b_Md_variable 14 = .ok (.aload_n 0, 1) := by decide +kernel
theorem d_Md_variable_15 : decode b_Md_variable 15 = .ok (.getfield 20, 3) := by decide +kernel
theorem d_Md_variable_18 : decode b_Md_variable 18 = .ok (.bipush 26, 2) := by decide +kernel
theorem d_Md_variable_20 : decode b_Md_variable 20 = .ok (.iload_n 2, 1) := by decide +kernel
theorem d_Md_variable_21 : decode b_Md_variable 21 = .ok (.imul, 1) := by decide +kernel
theorem d_Md_variable_22 : decode b_Md_variable 22 = .ok (.iload_n 1, 1) := by decide +kernel
theorem d_Md_variable_23 : decode b_Md_variable 23 = .ok (.iadd, 1) := by decide +kernel
theorem d_Md_variable_24 : decode b_Md_variable 24 = .ok (.baload, 1) := by decide +kernel
theorem d_Md_variable_25 : decode b_Md_variable 25 = .ok (.ifCond .ne 12, 3) := by decide +kernel
theorem d_Md_variable_28 : decode b_Md_variable 28 = .ok (.bipush 26, 2) := by decide +kernel
theorem d_Md_variable_30 : decode b_Md_variable 30 = .ok (.iload_n 2, 1) := by decide +kernel
theorem d_Md_variable_31 : decode b_Md_variable 31 = .ok (.imul, 1) := by decide +kernel
theorem d_Md_variable_32 : decode b_Md_variable 32 = .ok (.iload_n 1, 1) := by decide +kernel
theorem d_Md_variable_33 : decode b_Md_variable 33 = .ok (.iadd, 1) := by decide +kernel
theorem d_Md_variable_34 : decode b_Md_variable 34 = .ok (.goto 4, 3) := by decide +kernel
theorem d_Md_variable_37 : decode b_Md_variable 37 = .ok (.iload_n 1, 1) := by decide +kernel
theorem d_Md_variable_38 : decode b_Md_variable 38 = .ok (.ireturn, 1) := by decide +kernel
theorem d_Md_waits_0 : decode b_Md_waits 0 = .ok (.aload_n 0, 1) := by decide +kernel
theorem d_Md_waits_1 : decode b_Md_waits 1 = .ok (.getfield 55, 3) := by decide +kernel
theorem d_Md_waits_4 : decode b_Md_waits 4 = .ok (.aload_n 0, 1) := by decide +kernel
theorem d_Md_waits_5 : decode b_Md_waits 5 = .ok (.getfield 36, 3) := by decide +kernel
theorem d_Md_waits_8 : decode b_Md_waits 8 = .ok (.iaload, 1) := by decide +kernel
theorem d_Md_waits_9 : decode b_Md_waits 9 = .ok (.istore_n 1, 1) := by decide +kernel
theorem d_Md_waits_10 : decode b_Md_waits 10 = .ok (.iload_n 1, 1) := by decide +kernel
theorem d_Md_waits_11 : decode b_Md_waits 11 = .ok (.iconst 4, 1) := by decide +kernel
theorem d_Md_waits_12 : decode b_Md_waits 12 = .ok (.if_icmp .eq 22, 3) := by decide +kernel
theorem d_Md_waits_15 : decode b_Md_waits 15 = .ok (.iload_n 1, 1) := by decide +kernel
theorem d_Md_waits_16 : decode b_Md_waits 16 = .ok (.bipush 6, 2) := by decide +kernel
theorem d_Md_waits_18 : decode b_Md_waits 18 = .ok (.if_icmp .eq 16, 3) := by decide +kernel
theorem d_Md_waits_21 : decode b_Md_waits 21 = .ok (.iload_n 1, 1) := by decide +kernel
theorem d_Md_waits_22 : decode b_Md_waits 22 = .ok (.bipush 8, 2) := by decide +kernel
theorem d_Md_waits_24 : decode b_Md_waits 24 = .ok (.if_icmp .eq 10, 3) := by decide +kernel
theorem d_Md_waits_27 : decode b_Md_waits 27 = .ok (.aload_n 0, 1) := by decide +kernel
theorem d_Md_waits_28 : decode b_Md_waits 28 = .ok (.iconst 3, 1) := by decide +kernel
theorem d_Md_waits_29 : decode b_Md_waits 29 = .ok (.invokevirtual 166, 3) := by decide +kernel
theorem d_Md_waits_32 : decode b_Md_waits 32 = .ok (.iconst 0, 1) := by decide +kernel
theorem d_Md_waits_33 : decode b_Md_waits 33 = .ok (.ireturn, 1) := by decide +kernel
theorem d_Md_waits_34 : decode b_Md_waits 34 = .ok (.iconst 3, 1) := by decide +kernel
theorem d_Md_waits_35 : decode b_Md_waits 35 = .ok (.istore_n 2, 1) := by decide +kernel
theorem d_Md_waits_36 : decode b_Md_waits 36 = .ok (.iload_n 2, 1) := by decide +kernel
theorem d_Md_waits_37 : decode b_Md_waits 37 = .ok (.iload_n 1, 1) := by decide +kernel
theorem d_Md_waits_38 : decode b_Md_waits 38 = .ok (.if_icmp .ge 29, 3) := by decide +kernel
theorem d_Md_waits_41 : decode b_Md_waits 41 = .ok (.aload_n 0, 1) := by decide +kernel
theorem d_Md_waits_42 : decode b_Md_waits 42 = .ok (.getfield 64, 3) := by decide +kernel
theorem d_Md_waits_45 : decode b_Md_waits 45 = .ok (.aload_n 0, 1) := by decide +kernel
theorem d_Md_waits_46 : decode b_Md_waits 46 = .ok (.iload_n 2, 1) := by decide +kernel
theorem d_Md_waits_47 : decode b_Md_waits 47 = .ok (.invokevirtual 155, 3) := by decide +kernel
theorem d_Md_waits_50 : decode b_Md_waits 50 = .ok (.baload, 1) := by decide +kernel
theorem d_Md_waits_51 : decode b_Md_waits 51 = .ok (.ifCond .ne 10, 3) := by decide +kernel
theorem d_Md_waits_54 : decode b_Md_waits 54 = .ok (.aload_n 0, 1) := by decide +kernel
theorem d_Md_waits_55 : decode b_Md_waits 55 = .ok (.iconst 3, 1) := by decide +kernel
theorem d_Md_waits_56 : decode b_Md_waits 56 = .ok (.invokevirtual 166, 3) := by decide +kernel
theorem d_Md_waits_59 : decode b_Md_waits 59 = .ok (.iconst 0, 1) := by decide +kernel
theorem d_Md_waits_60 : decode b_Md_waits 60 = .ok (.ireturn, 1) := by decide +kernel
theorem d_Md_waits_61 : decode b_Md_waits 61 = .ok (.iinc 2 2, 3) := by decide +kernel
theorem d_Md_waits_64 : decode b_Md_waits 64 = .ok (.goto (-28), 3) := by decide +kernel
theorem d_Md_waits_67 : decode b_Md_waits 67 = .ok (.aload_n 0, 1) := by decide +kernel
theorem d_Md_waits_68 : decode b_Md_waits 68 = .ok (.bipush 110, 2) := by decide +kernel
theorem d_Md_waits_70 : decode b_Md_waits 70 = .ok (.iconst 1, 1) := by decide +kernel
theorem d_Md_waits_71 : decode b_Md_waits 71 = .ok (.invokevirtual 238, 3) := by decide +kernel
theorem d_Md_waits_74 : decode b_Md_waits 74 = .ok (.ifCond .ne 5, 3) := by decide +kernel
theorem d_Md_waits_77 : decode b_Md_waits 77 = .ok (.iconst 0, 1) := by decide +kernel
theorem d_Md_waits_78 : decode b_Md_waits 78 = .ok (.ireturn, 1) := by decide +kernel
theorem d_Md_waits_79 : decode b_Md_waits 79 = .ok (.iconst 2, 1) := by decide +kernel
theorem d_Md_waits_80 : decode b_Md_waits 80 = .ok (.istore_n 2, 1) := by decide +kernel
theorem d_Md_waits_81 : decode b_Md_waits 81 = .ok (.iload_n 2, 1) := by decide +kernel
theorem d_Md_waits_82 : decode b_Md_waits 82 = .ok (.iload_n 1, 1) := by decide +kernel
theorem d_Md_waits_83 : decode b_Md_waits 83 = .ok (.if_icmp .ge 21, 3) := by decide +kernel
theorem d_Md_waits_86 : decode b_Md_waits 86 = .ok (.aload_n 0, 1) := by decide +kernel
theorem d_Md_waits_87 : decode b_Md_waits 87 = .ok (.bipush 120, 2) := by decide +kernel
theorem d_Md_waits_89 : decode b_Md_waits 89 = .ok (.iload_n 2, 1) := by decide +kernel
theorem d_Md_waits_90 : decode b_Md_waits 90 = .ok (.invokevirtual 238, 3) := by decide +kernel
theorem d_Md_waits_93 : decode b_Md_waits 93 = .ok (.ifCond .ne 5, 3) := by decide +kernel
theorem d_Md_waits_96 : decode b_Md_waits 96 = .ok (.iconst 0, 1) := by decide +kernel
theorem d_Md_waits_97 : decode b_Md_waits 97 = .ok (.ireturn, 1) := by decide +kernel
theorem d_Md_waits_98 : decode b_Md_waits 98 = .ok (.iinc 2 2, 3) := by decide +kernel
theorem d_Md_waits_101 : decode b_Md_waits 101 = .ok (.goto (-20), 3) := by decide +kernel
theorem d_Md_waits_104 : decode b_Md_waits 104 = .ok (.iconst 1, 1) := by decide +kernel
theorem d_Md_waits_105 : decode b_Md_waits 105 = .ok (.ireturn, 1) := by decide +kernel
theorem d_Md_wipe_0 : decode b_Md_wipe 0 = .ok (.aload_n 0, 1) := by decide +kernel
theorem d_Md_wipe_1 : decode b_Md_wipe 1 = .ok (.iconst 0, 1) := by decide +kernel
theorem d_Md_wipe_2 : decode b_Md_wipe 2 = .ok (.putfield 112, 3) := by decide +kernel
theorem d_Md_wipe_5 : decode b_Md_wipe 5 = .ok (.aload_n 0, 1) := by decide +kernel
theorem d_Md_wipe_6 : decode b_Md_wipe 6 = .ok (.iconst 0, 1) := by decide +kernel
theorem d_Md_wipe_7 : decode b_Md_wipe 7 = .ok (.putfield 115, 3) := by decide +kernel
theorem d_Md_wipe_10 : decode b_Md_wipe 10 = .ok (.iconst 0, 1) := by decide +kernel
theorem d_Md_wipe_11 : decode b_Md_wipe 11 = .ok (.istore_n 1, 1) := by decide +kernel
theorem d_Md_wipe_12 : decode b_Md_wipe 12 = .ok (.iload_n 1, 1) := by decide +kernel
theorem d_Md_wipe_13 : decode b_Md_wipe 13 = .ok (.sipush 208, 3) := by decide +kernel
theorem d_Md_wipe_16 : decode b_Md_wipe 16 = .ok (.if_icmp .ge 16, 3) := by decide +kernel
theorem d_Md_wipe_19 : decode b_Md_wipe 19 = .ok (.aload_n 0, 1) := by decide +kernel
theorem d_Md_wipe_20 : decode b_Md_wipe 20 = .ok (.getfield 13, 3) := by decide +kernel
theorem d_Md_wipe_23 : decode b_Md_wipe 23 = .ok (.iload_n 1, 1) := by decide +kernel
theorem d_Md_wipe_24 : decode b_Md_wipe 24 = .ok (.iconst (-1), 1) := by decide +kernel
theorem d_Md_wipe_25 : decode b_Md_wipe 25 = .ok (.iastore, 1) := by decide +kernel
theorem d_Md_wipe_26 : decode b_Md_wipe 26 = .ok (.iinc 1 1, 3) := by decide +kernel
theorem d_Md_wipe_29 : decode b_Md_wipe 29 = .ok (.goto (-17), 3) := by decide +kernel
theorem d_Md_wipe_32 : decode b_Md_wipe 32 = .ok (.iconst 0, 1) := by decide +kernel
theorem d_Md_wipe_33 : decode b_Md_wipe 33 = .ok (.istore_n 1, 1) := by decide +kernel
theorem d_Md_wipe_34 : decode b_Md_wipe 34 = .ok (.iload_n 1, 1) := by decide +kernel
theorem d_Md_wipe_35 : decode b_Md_wipe 35 = .ok (.bipush 26, 2) := by decide +kernel
theorem d_Md_wipe_37 : decode b_Md_wipe 37 = .ok (.if_icmp .ge 16, 3) := by decide +kernel
theorem d_Md_wipe_40 : decode b_Md_wipe 40 = .ok (.aload_n 0, 1) := by decide +kernel
theorem d_Md_wipe_41 : decode b_Md_wipe 41 = .ok (.getfield 24, 3) := by decide +kernel
theorem d_Md_wipe_44 : decode b_Md_wipe 44 = .ok (.iload_n 1, 1) := by decide +kernel
theorem d_Md_wipe_45 : decode b_Md_wipe 45 = .ok (.iconst 0, 1) := by decide +kernel
theorem d_Md_wipe_46 : decode b_Md_wipe 46 = .ok (.bastore, 1) := by decide +kernel
theorem d_Md_wipe_47 : decode b_Md_wipe 47 = .ok (.iinc 1 1, 3) := by decide +kernel
theorem d_Md_wipe_50 : decode b_Md_wipe 50 = .ok (.goto (-16), 3) := by decide +kernel
theorem d_Md_wipe_53 : decode b_Md_wipe 53 = .ok (.return_, 1) := by decide +kernel
theorem d_Md_word_0 : decode b_Md_word 0 = .ok (.bipush 8, 2) := by decide +kernel
theorem d_Md_word_2 : decode b_Md_word 2 = .ok (.aload_n 0, 1) := by decide +kernel
theorem d_Md_word_3 : decode b_Md_word 3 = .ok (.getfield 36, 3) := by decide +kernel
theorem d_Md_word_6 : decode b_Md_word 6 = .ok (.imul, 1) := by decide +kernel
theorem d_Md_word_7 : decode b_Md_word 7 = .ok (.iload_n 1, 1) := by decide +kernel
theorem d_Md_word_8 : decode b_Md_word 8 = .ok (.iadd, 1) := by decide +kernel
theorem d_Md_word_9 : decode b_Md_word 9 = .ok (.ireturn, 1) := by decide +kernel
theorem d_Md_wordEnds_0 : decode b_Md_wordEnds 0 = .ok (.iload_n 1, 1) := by decide +kernel
theorem d_Md_wordEnds_1 : decode b_Md_wordEnds 1 = .ok (.ifCond .eq 25, 3) := by decide +kernel
theorem d_Md_wordEnds_4 : decode b_Md_wordEnds 4 = .ok (.aload_n 0, 1) := by decide +kernel
theorem d_Md_wordEnds_5 : decode b_Md_wordEnds 5 = .ok (.invokevirtual 190, 3) := by decide +kernel
theorem d_Md_wordEnds_8 : decode b_Md_wordEnds 8 = .ok (.ifCond .ne 18, 3) := by decide +kernel
theorem d_Md_wordEnds_11 : decode b_Md_wordEnds 11 = .ok (.aload_n 0, 1) := by decide +kernel
theorem d_Md_wordEnds_12 : decode b_Md_wordEnds 12 = .ok (.invokevirtual 180, 3) := by decide +kernel
theorem d_Md_wordEnds_15 : decode b_Md_wordEnds 15 = .ok (.bipush 32, 2) := by decide +kernel
theorem d_Md_wordEnds_17 : decode b_Md_wordEnds 17 = .ok (.if_icmp .eq 9, 3) := by decide +kernel
theorem d_Md_wordEnds_20 : decode b_Md_wordEnds 20 = .ok (.aload_n 0, 1) := by decide +kernel
theorem d_Md_wordEnds_21 : decode b_Md_wordEnds 21 = .ok (.iconst 1, 1) := by decide +kernel
theorem d_Md_wordEnds_22 : decode b_Md_wordEnds 22 = .ok (.invokevirtual 166, 3) := by decide +kernel
theorem d_Md_wordEnds_25 : decode b_Md_wordEnds 25 = .ok (.return_, 1) := by decide +kernel
theorem d_Md_wordEnds_26 : decode b_Md_wordEnds 26 = .ok (.aload_n 0, 1) := by decide +kernel
theorem d_Md_wordEnds_27 : decode b_Md_wordEnds 27 = .ok (.getfield 55, 3) := by decide +kernel
theorem d_Md_wordEnds_30 : decode b_Md_wordEnds 30 = .ok (.aload_n 0, 1) := by decide +kernel
theorem d_Md_wordEnds_31 : decode b_Md_wordEnds 31 = .ok (.getfield 36, 3) := by decide +kernel
theorem d_Md_wordEnds_34 : decode b_Md_wordEnds 34 = .ok (.dup2, 1) := by decide +kernel
theorem d_Md_wordEnds_35 : decode b_Md_wordEnds 35 = .ok (.iaload, 1) := by decide +kernel
theorem d_Md_wordEnds_36 : decode b_Md_wordEnds 36 = .ok (.iconst 1, 1) := by decide +kernel
theorem d_Md_wordEnds_37 : decode b_Md_wordEnds 37 = .ok (.iadd, 1) := by decide +kernel
theorem d_Md_wordEnds_38 : decode b_Md_wordEnds 38 = .ok (.iastore, 1) := by decide +kernel
theorem d_Md_wordEnds_39 : decode b_Md_wordEnds 39 = .ok (.aload_n 0, 1) := by decide +kernel
theorem d_Md_wordEnds_40 : decode b_Md_wordEnds 40 = .ok (.getfield 52, 3) := by decide +kernel
theorem d_Md_wordEnds_43 : decode b_Md_wordEnds 43 = .ok (.aload_n 0, 1) := by decide +kernel
theorem d_Md_wordEnds_44 : decode b_Md_wordEnds 44 = .ok (.getfield 36, 3) := by decide +kernel
theorem d_Md_wordEnds_47 : decode b_Md_wordEnds 47 = .ok (.iconst 0, 1) := by decide +kernel
theorem d_Md_wordEnds_48 : decode b_Md_wordEnds 48 = .ok (.iastore, 1) := by decide +kernel
theorem d_Md_wordEnds_49 : decode b_Md_wordEnds 49 = .ok (.return_, 1) := by decide +kernel
theorem d_Md_words_0 : decode b_Md_words 0 = .ok (.aload_n 0, 1) := by decide +kernel
theorem d_Md_words_1 : decode b_Md_words 1 = .ok (.getfield 55, 3) := by decide +kernel
theorem d_Md_words_4 : decode b_Md_words 4 = .ok (.aload_n 0, 1) := by decide +kernel
theorem d_Md_words_5 : decode b_Md_words 5 = .ok (.getfield 36, 3) := by decide +kernel
theorem d_Md_words_8 : decode b_Md_words 8 = .ok (.iaload, 1) := by decide +kernel
theorem d_Md_words_9 : decode b_Md_words 9 = .ok (.iconst 1, 1) := by decide +kernel
theorem d_Md_words_10 : decode b_Md_words 10 = .ok (.isub, 1) := by decide +kernel
theorem d_Md_words_11 : decode b_Md_words 11 = .ok (.istore_n 3, 1) := by decide +kernel
theorem d_Md_words_12 : decode b_Md_words 12 = .ok (.iload_n 3, 1) := by decide +kernel
theorem d_Md_words_13 : decode b_Md_words 13 = .ok (.iload_n 1, 1) := by decide +kernel
theorem d_Md_words_14 : decode b_Md_words 14 = .ok (.if_icmp .lt 10, 3) := by decide +kernel
theorem d_Md_words_17 : decode b_Md_words 17 = .ok (.iload_n 3, 1) := by decide +kernel
theorem d_Md_words_18 : decode b_Md_words 18 = .ok (.iload_n 2, 1) := by decide +kernel
theorem d_Md_words_19 : decode b_Md_words 19 = .ok (.if_icmp .gt 5, 3) := by decide +kernel
theorem d_Md_words_22 : decode b_Md_words 22 = .ok (.iconst 1, 1) := by decide +kernel
theorem d_Md_words_23 : decode b_Md_words 23 = .ok (.ireturn, 1) := by decide +kernel
theorem d_Md_words_24 : decode b_Md_words 24 = .ok (.aload_n 0, 1) := by decide +kernel
theorem d_Md_words_25 : decode b_Md_words 25 = .ok (.iconst 3, 1) := by decide +kernel
theorem d_Md_words_26 : decode b_Md_words 26 = .ok (.invokevirtual 166, 3) := by decide +kernel
theorem d_Md_words_29 : decode b_Md_words 29 = .ok (.iconst 0, 1) := by decide +kernel
theorem d_Md_words_30 : decode b_Md_words 30 = .ok (.ireturn, 1) := by decide +kernel
