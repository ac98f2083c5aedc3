/-! decode rows; written by wip/gen/names.py -/
theorem d_Md_init_0 : decode b_Md_init 0 = .ok (.aload_n 0, 1) := by decide +kernel
theorem d_Md_init_1 : decode b_Md_init 1 = .ok (.invokespecial 1, 3) := by decide +kernel
theorem d_Md_init_4 : decode b_Md_init 4 = .ok (.aload_n 0, 1) := by decide +kernel
theorem d_Md_init_5 : decode b_Md_init 5 = .ok (.sipush 200, 3) := by decide +kernel
theorem d_Md_init_8 : decode b_Md_init 8 = .ok (.newarray .char, 2) := by decide +kernel
theorem d_Md_init_10 : decode b_Md_init 10 = .ok (.putfield 7, 3) := by decide +kernel
theorem d_Md_init_13 : decode b_Md_init 13 = .ok (.aload_n 0, 1) := by decide +kernel
theorem d_Md_init_14 : decode b_Md_init 14 = .ok (.sipush 208, 3) := by decide +kernel
theorem d_Md_init_17 : decode b_Md_init 17 = .ok (.newarray .int, 2) := by decide +kernel
theorem d_Md_init_19 : decode b_Md_init 19 = .ok (.putfield 13, 3) := by decide +kernel
theorem d_Md_init_22 : decode b_Md_init 22 = .ok (.aload_n 0, 1) := by decide +kernel
theorem d_Md_init_23 : decode b_Md_init 23 = .ok (.sipush 4160, 3) := by decide +kernel
theorem d_Md_init_26 : decode b_Md_init 26 = .ok (.newarray .char, 2) := by decide +kernel
theorem d_Md_init_28 : decode b_Md_init 28 = .ok (.putfield 17, 3) := by decide +kernel
theorem d_Md_init_31 : decode b_Md_init 31 = .ok (.aload_n 0, 1) := by decide +kernel
theorem d_Md_init_32 : decode b_Md_init 32 = .ok (.sipush 208, 3) := by decide +kernel
theorem d_Md_init_35 : decode b_Md_init 35 = .ok (.newarray .boolean, 2) := by decide +kernel
theorem d_Md_init_37 : decode b_Md_init 37 = .ok (.putfield 20, 3) := by decide +kernel
theorem d_Md_init_40 : decode b_Md_init 40 = .ok (.aload_n 0, 1) := by decide +kernel
theorem d_Md_init_41 : decode b_Md_init 41 = .ok (.bipush 26, 2) := by decide +kernel
theorem d_Md_init_43 : decode b_Md_init 43 = .ok (.newarray .boolean, 2) := by decide +kernel
theorem d_Md_init_45 : decode b_Md_init 45 = .ok (.putfield 24, 3) := by decide +kernel
theorem d_Md_init_48 : decode b_Md_init 48 = .ok (.aload_n 0, 1) := by decide +kernel
theorem d_Md_init_49 : decode b_Md_init 49 = .ok (.bipush 26, 2) := by decide +kernel
theorem d_Md_init_51 : decode b_Md_init 51 = .ok (.newarray .int, 2) := by decide +kernel
theorem d_Md_init_53 : decode b_Md_init 53 = .ok (.putfield 27, 3) := by decide +kernel
theorem d_Md_init_56 : decode b_Md_init 56 = .ok (.aload_n 0, 1) := by decide +kernel
theorem d_Md_init_57 : decode b_Md_init 57 = .ok (.bipush 26, 2) := by decide +kernel
theorem d_Md_init_59 : decode b_Md_init 59 = .ok (.newarray .int, 2) := by decide +kernel
theorem d_Md_init_61 : decode b_Md_init 61 = .ok (.putfield 30, 3) := by decide +kernel
theorem d_Md_init_64 : decode b_Md_init 64 = .ok (.aload_n 0, 1) := by decide +kernel
theorem d_Md_init_65 : decode b_Md_init 65 = .ok (.bipush 26, 2) := by decide +kernel
theorem d_Md_init_67 : decode b_Md_init 67 = .ok (.newarray .int, 2) := by decide +kernel
theorem d_Md_init_69 : decode b_Md_init 69 = .ok (.putfield 33, 3) := by decide +kernel
theorem d_Md_init_72 : decode b_Md_init 72 = .ok (.aload_n 0, 1) := by decide +kernel
theorem d_Md_init_73 : decode b_Md_init 73 = .ok (.iconst (-1), 1) := by decide +kernel
theorem d_Md_init_74 : decode b_Md_init 74 = .ok (.putfield 36, 3) := by decide +kernel
theorem d_Md_init_77 : decode b_Md_init 77 = .ok (.aload_n 0, 1) := by decide +kernel
theorem d_Md_init_78 : decode b_Md_init 78 = .ok (.bipush 8, 2) := by decide +kernel
theorem d_Md_init_80 : decode b_Md_init 80 = .ok (.newarray .int, 2) := by decide +kernel
theorem d_Md_init_82 : decode b_Md_init 82 = .ok (.putfield 40, 3) := by decide +kernel
theorem d_Md_init_85 : decode b_Md_init 85 = .ok (.aload_n 0, 1) := by decide +kernel
theorem d_Md_init_86 : decode b_Md_init 86 = .ok (.bipush 8, 2) := by decide +kernel
theorem d_Md_init_88 : decode b_Md_init 88 = .ok (.newarray .int, 2) := by decide +kernel
theorem d_Md_init_90 : decode b_Md_init 90 = .ok (.putfield 43, 3) := by decide +kernel
theorem d_Md_init_93 : decode b_Md_init 93 = .ok (.aload_n 0, 1) := by decide +kernel
theorem d_Md_init_94 : decode b_Md_init 94 = .ok (.bipush 8, 2) := by decide +kernel
theorem d_Md_init_96 : decode b_Md_init 96 = .ok (.newarray .int, 2) := by decide +kernel
theorem d_Md_init_98 : decode b_Md_init 98 = .ok (.putfield 46, 3) := by decide +kernel
theorem d_Md_init_101 : decode b_Md_init 101 = .ok (.aload_n 0, 1) := by decide +kernel
theorem d_Md_init_102 : decode b_Md_init 102 = .ok (.bipush 8, 2) := by decide +kernel
theorem d_Md_init_104 : decode b_Md_init 104 = .ok (.newarray .int, 2) := by decide +kernel
theorem d_Md_init_106 : decode b_Md_init 106 = .ok (.putfield 49, 3) := by decide +kernel
theorem d_Md_init_109 : decode b_Md_init 109 = .ok (.aload_n 0, 1) := by decide +kernel
theorem d_Md_init_110 : decode b_Md_init 110 = .ok (.bipush 8, 2) := by decide +kernel
theorem d_Md_init_112 : decode b_Md_init 112 = .ok (.newarray .int, 2) := by decide +kernel
theorem d_Md_init_114 : decode b_Md_init 114 = .ok (.putfield 52, 3) := by decide +kernel
theorem d_Md_init_117 : decode b_Md_init 117 = .ok (.aload_n 0, 1) := by decide +kernel
theorem d_Md_init_118 : decode b_Md_init 118 = .ok (.bipush 8, 2) := by decide +kernel
theorem d_Md_init_120 : decode b_Md_init 120 = .ok (.newarray .int, 2) := by decide +kernel
theorem d_Md_init_122 : decode b_Md_init 122 = .ok (.putfield 55, 3) := by decide +kernel
theorem d_Md_init_125 : decode b_Md_init 125 = .ok (.aload_n 0, 1) := by decide +kernel
theorem d_Md_init_126 : decode b_Md_init 126 = .ok (.bipush 8, 2) := by decide +kernel
theorem d_Md_init_128 : decode b_Md_init 128 = .ok (.newarray .int, 2) := by decide +kernel
theorem d_Md_init_130 : decode b_Md_init 130 = .ok (.putfield 58, 3) := by decide +kernel
theorem d_Md_init_133 : decode b_Md_init 133 = .ok (.aload_n 0, 1) := by decide +kernel
theorem d_Md_init_134 : decode b_Md_init 134 = .ok (.sipush 160, 3) := by decide +kernel
theorem d_Md_init_137 : decode b_Md_init 137 = .ok (.newarray .char, 2) := by decide +kernel
theorem d_Md_init_139 : decode b_Md_init 139 = .ok (.putfield 61, 3) := by decide +kernel
theorem d_Md_init_142 : decode b_Md_init 142 = .ok (.aload_n 0, 1) := by decide +kernel
theorem d_Md_init_143 : decode b_Md_init 143 = .ok (.bipush 65, 2) := by decide +kernel
theorem d_Md_init_145 : decode b_Md_init 145 = .ok (.newarray .boolean, 2) := by decide +kernel
theorem d_Md_init_147 : decode b_Md_init 147 = .ok (.putfield 64, 3) := by decide +kernel
theorem d_Md_init_150 : decode b_Md_init 150 = .ok (.aload_n 0, 1) := by decide +kernel
theorem d_Md_init_151 : decode b_Md_init 151 = .ok (.bipush 65, 2) := by decide +kernel
theorem d_Md_init_153 : decode b_Md_init 153 = .ok (.newarray .int, 2) := by decide +kernel
theorem d_Md_init_155 : decode b_Md_init 155 = .ok (.putfield 67, 3) := by decide +kernel
theorem d_Md_init_158 : decode b_Md_init 158 = .ok (.aload_n 0, 1) := by decide +kernel
theorem d_Md_init_159 : decode b_Md_init 159 = .ok (.bipush 65, 2) := by decide +kernel
theorem d_Md_init_161 : decode b_Md_init 161 = .ok (.newarray .int, 2) := by decide +kernel
theorem d_Md_init_163 : decode b_Md_init 163 = .ok (.putfield 70, 3) := by decide +kernel
theorem d_Md_init_166 : decode b_Md_init 166 = .ok (.aload_n 0, 1) := by decide +kernel
theorem d_Md_init_167 : decode b_Md_init 167 = .ok (.sipush 1300, 3) := by decide +kernel
theorem d_Md_init_170 : decode b_Md_init 170 = .ok (.newarray .char, 2) := by decide +kernel
theorem d_Md_init_172 : decode b_Md_init 172 = .ok (.putfield 73, 3) := by decide +kernel
theorem d_Md_init_175 : decode b_Md_init 175 = .ok (.aload_n 0, 1) := by decide +kernel
theorem d_Md_init_176 : decode b_Md_init 176 = .ok (.bipush 20, 2) := by decide +kernel
theorem d_Md_init_178 : decode b_Md_init 178 = .ok (.newarray .char, 2) := by decide +kernel
theorem d_Md_init_180 : decode b_Md_init 180 = .ok (.putfield 76, 3) := by decide +kernel
theorem d_Md_init_183 : decode b_Md_init 183 = .ok (.aload_n 0, 1) := by decide +kernel
theorem d_Md_init_184 : decode b_Md_init 184 = .ok (.sipush 210, 3) := by decide +kernel
theorem d_Md_init_187 : decode b_Md_init 187 = .ok (.newarray .int, 2) := by decide +kernel
theorem d_Md_init_189 : decode b_Md_init 189 = .ok (.putfield 79, 3) := by decide +kernel
theorem d_Md_init_192 : decode b_Md_init 192 = .ok (.aload_n 0, 1) := by decide +kernel
theorem d_Md_init_193 : decode b_Md_init 193 = .ok (.sipush 210, 3) := by decide +kernel
theorem d_Md_init_196 : decode b_Md_init 196 = .ok (.newarray .int, 2) := by decide +kernel
theorem d_Md_init_198 : decode b_Md_init 198 = .ok (.putfield 82, 3) := by decide +kernel
theorem d_Md_init_201 : decode b_Md_init 201 = .ok (.aload_n 0, 1) := by decide +kernel
theorem d_Md_init_202 : decode b_Md_init 202 = .ok (.bipush 20, 2) := by decide +kernel
theorem d_Md_init_204 : decode b_Md_init 204 = .ok (.newarray .char, 2) := by decide +kernel
theorem d_Md_init_206 : decode b_Md_init 206 = .ok (.putfield 85, 3) := by decide +kernel
theorem d_Md_init_209 : decode b_Md_init 209 = .ok (.aload_n 0, 1) := by decide +kernel
theorem d_Md_init_210 : decode b_Md_init 210 = .ok (.bipush 21, 2) := by decide +kernel
theorem d_Md_init_212 : decode b_Md_init 212 = .ok (.newarray .boolean, 2) := by decide +kernel
theorem d_Md_init_214 : decode b_Md_init 214 = .ok (.putfield 88, 3) := by decide +kernel
theorem d_Md_init_217 : decode b_Md_init 217 = .ok (.aload_n 0, 1) := by decide +kernel
theorem d_Md_init_218 : decode b_Md_init 218 = .ok (.bipush 20, 2) := by decide +kernel
theorem d_Md_init_220 : decode b_Md_init 220 = .ok (.newarray .int, 2) := by decide +kernel
theorem d_Md_init_222 : decode b_Md_init 222 = .ok (.putfield 91, 3) := by decide +kernel
theorem d_Md_init_225 : decode b_Md_init 225 = .ok (.aload_n 0, 1) := by decide +kernel
theorem d_Md_init_226 : decode b_Md_init 226 = .ok (.bipush 20, 2) := by decide +kernel
theorem d_Md_init_228 : decode b_Md_init 228 = .ok (.newarray .int, 2) := by decide +kernel
theorem d_Md_init_230 : decode b_Md_init 230 = .ok (.putfield 94, 3) := by decide +kernel
theorem d_Md_init_233 : decode b_Md_init 233 = .ok (.aload_n 0, 1) := by decide +kernel
theorem d_Md_init_234 : decode b_Md_init 234 = .ok (.bipush 20, 2) := by decide +kernel
theorem d_Md_init_236 : decode b_Md_init 236 = .ok (.newarray .int, 2) := by decide +kernel
theorem d_Md_init_238 : decode b_Md_init 238 = .ok (.putfield 97, 3) := by decide +kernel
theorem d_Md_init_241 : decode b_Md_init 241 = .ok (.aload_n 0, 1) := by decide +kernel
theorem d_Md_init_242 : decode b_Md_init 242 = .ok (.bipush 20, 2) := by decide +kernel
theorem d_Md_init_244 : decode b_Md_init 244 = .ok (.newarray .int, 2) := by decide +kernel
theorem d_Md_init_246 : decode b_Md_init 246 = .ok (.putfield 100, 3) := by decide +kernel
theorem d_Md_init_249 : decode b_Md_init 249 = .ok (.aload_n 0, 1) := by decide +kernel
theorem d_Md_init_250 : decode b_Md_init 250 = .ok (.bipush 40, 2) := by decide +kernel
theorem d_Md_init_252 : decode b_Md_init 252 = .ok (.newarray .char, 2) := by decide +kernel
theorem d_Md_init_254 : decode b_Md_init 254 = .ok (.putfield 103, 3) := by decide +kernel
theorem d_Md_init_257 : decode b_Md_init 257 = .ok (.aload_n 0, 1) := by decide +kernel
theorem d_Md_init_258 : decode b_Md_init 258 = .ok (.bipush 20, 2) := by decide +kernel
theorem d_Md_init_260 : decode b_Md_init 260 = .ok (.newarray .char, 2) := by decide +kernel
theorem d_Md_init_262 : decode b_Md_init 262 = .ok (.putfield 106, 3) := by decide +kernel
theorem d_Md_init_265 : decode b_Md_init 265 = .ok (.aload_n 0, 1) := by decide +kernel
theorem d_Md_init_266 : decode b_Md_init 266 = .ok (.bipush 40, 2) := by decide +kernel
theorem d_Md_init_268 : decode b_Md_init 268 = .ok (.newarray .int, 2) := by decide +kernel
theorem d_Md_init_270 : decode b_Md_init 270 = .ok (.putfield 109, 3) := by decide +kernel
theorem d_Md_init_273 : decode b_Md_init 273 = .ok (.iconst 0, 1) := by decide +kernel
theorem d_Md_init_274 : decode b_Md_init 274 = .ok (.istore_n 1, 1) := by decide +kernel
theorem d_Md_init_275 : decode b_Md_init 275 = .ok (.iload_n 1, 1) := by decide +kernel
theorem d_Md_init_276 : decode b_Md_init 276 = .ok (.sipush 208, 3) := by decide +kernel
theorem d_Md_init_279 : decode b_Md_init 279 = .ok (.if_icmp .ge 16, 3) := by decide +kernel
theorem d_Md_init_282 : decode b_Md_init 282 = .ok (.aload_n 0, 1) := by decide +kernel
theorem d_Md_init_283 : decode b_Md_init 283 = .ok (.getfield 13, 3) := by decide +kernel
theorem d_Md_init_286 : decode b_Md_init 286 = .ok (.iload_n 1, 1) := by decide +kernel
theorem d_Md_init_287 : decode b_Md_init 287 = .ok (.iconst (-1), 1) := by decide +kernel
theorem d_Md_init_288 : decode b_Md_init 288 = .ok (.iastore, 1) := by decide +kernel
theorem d_Md_init_289 : decode b_Md_init 289 = .ok (.iinc 1 1, 3) := by decide +kernel
theorem d_Md_init_292 : decode b_Md_init 292 = .ok (.goto (-17), 3) := by decide +kernel
theorem d_Md_init_295 : decode b_Md_init 295 = .ok (.return_, 1) := by decide +kernel
theorem d_Md_add_0 : decode b_Md_add 0 = .ok (.aload_n 0, 1) := by decide +kernel
theorem d_Md_add_1 : decode b_Md_add 1 = .ok (.aload_n 0, 1) := by decide +kernel
theorem d_Md_add_2 : decode b_Md_add 2 = .ok (.getfield 55, 3) := by decide +kernel
theorem d_Md_add_5 : decode b_Md_add 5 = .ok (.aload_n 0, 1) := by decide +kernel
theorem d_Md_add_6 : decode b_Md_add 6 = .ok (.getfield 36, 3) := by decide +kernel
theorem d_Md_add_9 : decode b_Md_add 9 = .ok (.iaload, 1) := by decide +kernel
theorem d_Md_add_10 : decode b_Md_add 10 = .ok (.invokevirtual 155, 3) := by decide +kernel
theorem d_Md_add_13 : decode b_Md_add 13 = .ok (.istore_n 2, 1) := by decide +kernel
theorem d_Md_add_14 : decode b_Md_add 14 = .ok (.aload_n 0, 1) := by decide +kernel
theorem d_Md_add_15 : decode b_Md_add 15 = .ok (.getfield 70, 3) := by decide +kernel
theorem d_Md_add_18 : decode b_Md_add 18 = .ok (.iload_n 2, 1) := by decide +kernel
theorem d_Md_add_19 : decode b_Md_add 19 = .ok (.iaload, 1) := by decide +kernel
theorem d_Md_add_20 : decode b_Md_add 20 = .ok (.bipush 20, 2) := by decide +kernel
theorem d_Md_add_22 : decode b_Md_add 22 = .ok (.if_icmp .lt 11, 3) := by decide +kernel
theorem d_Md_add_25 : decode b_Md_add 25 = .ok (.aload_n 0, 1) := by decide +kernel
theorem d_Md_add_26 : decode b_Md_add 26 = .ok (.bipush 7, 2) := by decide +kernel
theorem d_Md_add_28 : decode b_Md_add 28 = .ok (.invokevirtual 166, 3) := by decide +kernel
theorem d_Md_add_31 : decode b_Md_add 31 = .ok (.iconst 0, 1) := by decide +kernel
theorem d_Md_add_32 : decode b_Md_add 32 = .ok (.ireturn, 1) := by decide +kernel
theorem d_Md_add_33 : decode b_Md_add 33 = .ok (.aload_n 0, 1) := by decide +kernel
theorem d_Md_add_34 : decode b_Md_add 34 = .ok (.getfield 73, 3) := by decide +kernel
theorem d_Md_add_37 : decode b_Md_add 37 = .ok (.bipush 20, 2) := by decide +kernel
theorem d_Md_add_39 : decode b_Md_add 39 = .ok (.iload_n 2, 1) := by decide +kernel
theorem d_Md_add_40 : decode b_Md_add 40 = .ok (.imul, 1) := by decide +kernel
theorem d_Md_add_41 : decode b_Md_add 41 = .ok (.aload_n 0, 1) := by decide +kernel
theorem d_Md_add_42 : decode b_Md_add 42 = .ok (.getfield 70, 3) := by decide +kernel
theorem d_Md_add_45 : decode b_Md_add 45 = .ok (.iload_n 2, 1) := by decide +kernel
theorem d_Md_add_46 : decode b_Md_add 46 = .ok (.iaload, 1) := by decide +kernel
theorem d_Md_add_47 : decode b_Md_add 47 = .ok (.iadd, 1) := by decide +kernel
theorem d_Md_add_48 : decode b_Md_add 48 = .ok (.iload_n 1, 1) := by decide +kernel
theorem d_Md_add_49 : decode b_Md_add 49 = .ok (.castore, 1) := by decide +kernel
theorem d_Md_add_50 : decode b_Md_add 50 = .ok (.aload_n 0, 1) := by decide +kernel
theorem d_Md_add_51 : decode b_Md_add 51 = .ok (.getfield 70, 3) := by decide +kernel
theorem d_Md_add_54 : decode b_Md_add 54 = .ok (.iload_n 2, 1) := by decide +kernel
theorem d_Md_add_55 : decode b_Md_add 55 = .ok (.dup2, 1) := by decide +kernel
theorem d_Md_add_56 : decode b_Md_add 56 = .ok (.iaload, 1) := by decide +kernel
theorem d_Md_add_57 : decode b_Md_add 57 = .ok (.iconst 1, 1) := by decide +kernel
theorem d_Md_add_58 : decode b_Md_add 58 = .ok (.iadd, 1) := by decide +kernel
theorem d_Md_add_59 : decode b_Md_add 59 = .ok (.iastore, 1) := by decide +kernel
theorem d_Md_add_60 : decode b_Md_add 60 = .ok (.iconst 1, 1) := by decide +kernel
theorem d_Md_add_61 : decode b_Md_add 61 = .ok (.ireturn, 1) := by decide +kernel
theorem d_Md_again_0 : decode b_Md_again 0 = .ok (.aload_n 0, 1) := by decide +kernel
theorem d_Md_again_1 : decode b_Md_again 1 = .ok (.iconst 0, 1) := by decide +kernel
theorem d_Md_again_2 : decode b_Md_again 2 = .ok (.putfield 152, 3) := by decide +kernel
theorem d_Md_again_5 : decode b_Md_again 5 = .ok (.aload_n 0, 1) := by decide +kernel
theorem d_Md_again_6 : decode b_Md_again 6 = .ok (.iconst 1, 1) := by decide +kernel
theorem d_Md_again_7 : decode b_Md_again 7 = .ok (.invokevirtual 322, 3) := by decide +kernel
theorem d_Md_again_10 : decode b_Md_again 10 = .ok (.istore_n 1, 1) := by decide +kernel
theorem d_Md_again_11 : decode b_Md_again 11 = .ok (.aload_n 0, 1) := by decide +kernel
theorem d_Md_again_12 : decode b_Md_again 12 = .ok (.getfield 152, 3) := by decide +kernel
theorem d_Md_again_15 : decode b_Md_again 15 = .ok (.iconst 1, 1) := by decide +kernel
theorem d_Md_again_16 : decode b_Md_again 16 = .ok (.if_icmp .ne 4, 3) := by decide +kernel
theorem d_Md_again_19 : decode b_Md_again 19 = .ok (.return_, 1) := by decide +kernel
theorem d_Md_again_20 : decode b_Md_again 20 = .ok (.aload_n 0, 1) := by decide +kernel
theorem d_Md_again_21 : decode b_Md_again 21 = .ok (.invokevirtual 138, 3) := by decide +kernel
theorem d_Md_again_24 : decode b_Md_again 24 = .ok (.iload_n 1, 1) := by decide +kernel
theorem d_Md_again_25 : decode b_Md_again 25 = .ok (.ifCond .ne 11, 3) := by decide +kernel
theorem d_Md_again_28 : decode b_Md_again 28 = .ok (.aload_n 0, 1) := by decide +kernel
theorem d_Md_again_29 : decode b_Md_again 29 = .ok (.iconst 0, 1) := by decide +kernel
theorem d_Md_again_30 : decode b_Md_again 30 = .ok (.invokevirtual 235, 3) := by decide +kernel
theorem d_Md_again_33 : decode b_Md_again 33 = .ok (.goto 17, 3) := by decide +kernel
theorem d_Md_again_36 : decode b_Md_again 36 = .ok (.aload_n 0, 1) := by decide +kernel
theorem d_Md_again_37 : decode b_Md_again 37 = .ok (.invokevirtual 246, 3) := by decide +kernel
theorem d_Md_again_40 : decode b_Md_again 40 = .ok (.ifCond .eq 10, 3) := by decide +kernel
theorem d_Md_again_43 : decode b_Md_again 43 = .ok (.aload_n 0, 1) := by decide +kernel
theorem d_Md_again_44 : decode b_Md_again 44 = .ok (.iconst 2, 1) := by decide +kernel
theorem d_Md_again_45 : decode b_Md_again 45 = .ok (.iconst 3, 1) := by decide +kernel
theorem d_Md_again_46 : decode b_Md_again 46 = .ok (.invokevirtual 284, 3) := by decide +kernel
theorem d_Md_again_49 : decode b_Md_again 49 = .ok (.pop, 1) := by decide +kernel
theorem d_Md_again_50 : decode b_Md_again 50 = .ok (.return_, 1) := by decide +kernel
theorem d_Md_answer_0 : decode b_Md_answer 0 = .ok (.aload_n 0, 1) := by decide +kernel
theorem d_Md_answer_1 : decode b_Md_answer 1 = .ok (.iconst 1, 1) := by decide +kernel
theorem d_Md_answer_2 : decode b_Md_answer 2 = .ok (.invokevirtual 302, 3) := by decide +kernel
theorem d_Md_answer_5 : decode b_Md_answer 5 = .ok (.aload_n 0, 1) := by decide +kernel
theorem d_Md_answer_6 : decode b_Md_answer 6 = .ok (.iload_n 1, 1) := by decide +kernel
theorem d_Md_answer_7 : decode b_Md_answer 7 = .ok (.invokevirtual 235, 3) := by decide +kernel
theorem d_Md_answer_10 : decode b_Md_answer 10 = .ok (.return_, 1) := by decide +kernel
theorem d_Md_apply_0 : decode b_Md_apply 0 = .ok (.aload_n 0, 1) := by decide +kernel
theorem d_Md_apply_1 : decode b_Md_apply 1 = .ok (.dup, 1) := by decide +kernel
theorem d_Md_apply_2 : decode b_Md_apply 2 = .ok (.getfield 338, 3) := by decide +kernel
theorem d_Md_apply_5 : decode b_Md_apply 5 = .ok (.iconst 1, 1) := by decide +kernel
theorem d_Md_apply_6 : decode b_Md_apply 6 = .ok (.isub, 1) := by decide +kernel
theorem d_Md_apply_7 : decode b_Md_apply 7 = .ok (.putfield 338, 3) := by decide +kernel
theorem d_Md_apply_10 : decode b_Md_apply 10 = .ok (.aload_n 0, 1) := by decide +kernel
theorem d_Md_apply_11 : decode b_Md_apply 11 = .ok (.getfield 79, 3) := by decide +kernel
theorem d_Md_apply_14 : decode b_Md_apply 14 = .ok (.aload_n 0, 1) := by decide +kernel
theorem d_Md_apply_15 : decode b_Md_apply 15 = .ok (.getfield 338, 3) := by decide +kernel
theorem d_Md_apply_18 : decode b_Md_apply 18 = .ok (.iaload, 1) := by decide +kernel
theorem d_Md_apply_19 : decode b_Md_apply 19 = .ok (.istore_n 1, 1) := by decide +kernel
theorem d_Md_apply_20 : decode b_Md_apply 20 = .ok (.aload_n 0, 1) := by decide +kernel
theorem d_Md_apply_21 : decode b_Md_apply 21 = .ok (.getfield 82, 3) := by decide +kernel
theorem d_Md_apply_24 : decode b_Md_apply 24 = .ok (.aload_n 0, 1) := by decide +kernel
theorem d_Md_apply_25 : decode b_Md_apply 25 = .ok (.getfield 341, 3) := by decide +kernel
theorem d_Md_apply_28 : decode b_Md_apply 28 = .ok (.iconst 1, 1) := by decide +kernel
theorem d_Md_apply_29 : decode b_Md_apply 29 = .ok (.isub, 1) := by decide +kernel
theorem d_Md_apply_30 : decode b_Md_apply 30 = .ok (.iaload, 1) := by decide +kernel
theorem d_Md_apply_31 : decode b_Md_apply 31 = .ok (.istore_n 2, 1) := by decide +kernel
theorem d_Md_apply_32 : decode b_Md_apply 32 = .ok (.iload_n 1, 1) := by decide +kernel
theorem d_Md_apply_33 : decode b_Md_apply 33 = .ok (.bipush 110, 2) := by decide +kernel
theorem d_Md_apply_35 : decode b_Md_apply 35 = .ok (.if_icmp .eq 9, 3) := by decide +kernel
theorem d_Md_apply_38 : decode b_Md_apply 38 = .ok (.iload_n 1, 1) := by decide +kernel
theorem d_Md_apply_39 : decode b_Md_apply 39 = .ok (.bipush 33, 2) := by decide +kernel
theorem d_Md_apply_41 : decode b_Md_apply 41 = .ok (.if_icmp .ne 35, 3) := by decide +kernel
theorem d_Md_apply_44 : decode b_Md_apply 44 = .ok (.aload_n 0, 1) := by decide +kernel
theorem d_Md_apply_45 : decode b_Md_apply 45 = .ok (.getfield 82, 3) := by decide +kernel
theorem d_Md_apply_48 : decode b_Md_apply 48 = .ok (.aload_n 0, 1) := by decide +kernel
theorem d_Md_apply_49 : decode b_Md_apply 49 = .ok (.getfield 341, 3) := by decide +kernel
theorem d_Md_apply_52 : decode b_Md_apply 52 = .ok (.iconst 1, 1) := by decide +kernel
theorem d_Md_apply_53 : decode b_Md_apply 53 = .ok (.isub, 1) := by decide +kernel
theorem d_Md_apply_54 : decode b_Md_apply 54 = .ok (.iload_n 1, 1) := by decide +kernel
theorem d_Md_apply_55 : decode b_Md_apply 55 = .ok (.bipush 110, 2) := by decide +kernel
theorem d_Md_apply_57 : decode b_Md_apply 57 = .ok (.if_icmp .ne 8, 3) := by decide +kernel
theorem d_Md_apply_60 : decode b_Md_apply 60 = .ok (.iload_n 2, 1) := by decide +kernel
theorem d_Md_apply_61 : decode b_Md_apply 61 = .ok (.ineg, 1) := by decide +kernel
theorem d_Md_apply_62 : decode b_Md_apply 62 = .ok (.goto 12, 3) := by decide +kernel
theorem d_Md_apply_65 : decode b_Md_apply 65 = .ok (.iload_n 2, 1) := by decide +kernel
theorem d_Md_apply_66 : decode b_Md_apply 66 = .ok (.ifCond .ne 7, 3) := by decide +kernel
theorem d_Md_apply_69 : decode b_Md_apply 69 = .ok (.iconst 1, 1) := by decide +kernel
theorem d_Md_apply_70 : decode b_Md_apply 70 = .ok (.goto 4, 3) := by decide +kernel
theorem d_Md_apply_73 : decode b_Md_apply 73 = .ok (.iconst 0, 1) := by decide +kernel
theorem d_Md_apply_74 : decode b_Md_apply 74 = .ok (.iastore, 1) := by decide +kernel
theorem d_Md_apply_75 : decode b_Md_apply 75 = .ok (.return_, 1) := by decide +kernel
theorem d_Md_apply_76 : decode b_Md_apply 76 = .ok (.aload_n 0, 1) := by decide +kernel
theorem d_Md_apply_77 : decode b_Md_apply 77 = .ok (.dup, 1) := by decide +kernel
theorem d_Md_apply_78 : decode b_Md_apply 78 = .ok (.getfield 341, 3) := by decide +kernel
theorem d_Md_apply_81 : decode b_Md_apply 81 = .ok (.iconst 1, 1) := by decide +kernel
theorem d_Md_apply_82 : decode b_Md_apply 82 = .ok (.isub, 1) := by decide +kernel
theorem d_Md_apply_83 : decode b_Md_apply 83 = .ok (.putfield 341, 3) := by decide +kernel
theorem d_Md_apply_86 : decode b_Md_apply 86 = .ok (.aload_n 0, 1) := by decide +kernel
theorem d_Md_apply_87 : decode b_Md_apply 87 = .ok (.getfield 82, 3) := by decide +kernel
theorem d_Md_apply_90 : decode b_Md_apply 90 = .ok (.aload_n 0, 1) := by decide +kernel
theorem d_Md_apply_91 : decode b_Md_apply 91 = .ok (.getfield 341, 3) := by decide +kernel
theorem d_Md_apply_94 : decode b_Md_apply 94 = .ok (.iconst 1, 1) := by decide +kernel
theorem d_Md_apply_95 : decode b_Md_apply 95 = .ok (.isub, 1) := by decide +kernel
theorem d_Md_apply_96 : decode b_Md_apply 96 = .ok (.aload_n 0, 1) := by decide +kernel
theorem d_Md_apply_97 : decode b_Md_apply 97 = .ok (.iload_n 1, 1) := by decide +kernel
theorem d_Md_apply_98 : decode b_Md_apply 98 = .ok (.aload_n 0, 1) := by decide +kernel
theorem d_Md_apply_99 : decode b_Md_apply 99 = .ok (.getfield 82, 3) := by decide +kernel
theorem d_Md_apply_102 : decode b_Md_apply 102 = .ok (.aload_n 0, 1) := by decide +kernel
theorem d_Md_apply_103 : decode b_Md_apply 103 = .ok (.getfield 341, 3) := by decide +kernel
theorem d_Md_apply_106 : decode b_Md_apply 106 = .ok (.iconst 1, 1) := by decide +kernel
theorem d_Md_apply_107 : decode b_Md_apply 107 = .ok (.isub, 1) := by decide +kernel
theorem d_Md_apply_108 : decode b_Md_apply 108 = .ok (.iaload, 1) := by decide +kernel
theorem d_Md_apply_109 : decode b_Md_apply 109 = .ok (.iload_n 2, 1) := by decide +kernel
theorem d_Md_apply_110 : decode b_Md_apply 110 = .ok (.invokevirtual 344, 3) := by decide +kernel
theorem d_Md_apply_113 : decode b_Md_apply 113 = .ok (.iastore, 1) := by decide +kernel
theorem d_Md_apply_114 : decode b_Md_apply 114 = .ok (.return_, 1) := by decide +kernel
theorem d_Md_applyFrom_0 : decode b_Md_applyFrom 0 = .ok (.aload_n 0, 1) := by decide +kernel
theorem d_Md_applyFrom_1 : decode b_Md_applyFrom 1 = .ok (.getfield 338, 3) := by decide +kernel
theorem d_Md_applyFrom_4 : decode b_Md_applyFrom 4 = .ok (.ifCond .le 28, 3) := by decide +kernel
theorem d_Md_applyFrom_7 : decode b_Md_applyFrom 7 = .ok (.aload_n 0, 1) := by decide +kernel
theorem d_Md_applyFrom_8 : decode b_Md_applyFrom 8 = .ok (.getfield 79, 3) := by decide +kernel
theorem d_Md_applyFrom_11 : decode b_Md_applyFrom 11 = .ok (.aload_n 0, 1) := by decide +kernel
theorem d_Md_applyFrom_12 : decode b_Md_applyFrom 12 = .ok (.getfield 338, 3) := by decide +kernel
theorem d_Md_applyFrom_15 : decode b_Md_applyFrom 15 = .ok (.iconst 1, 1) := by decide +kernel
theorem d_Md_applyFrom_16 : decode b_Md_applyFrom 16 = .ok (.isub, 1) := by decide +kernel
theorem d_Md_applyFrom_17 : decode b_Md_applyFrom 17 = .ok (.iaload, 1) := by decide +kernel
theorem d_Md_applyFrom_18 : decode b_Md_applyFrom 18 = .ok (.invokestatic 348, 3) := by decide +kernel
theorem d_Md_applyFrom_21 : decode b_Md_applyFrom 21 = .ok (.iload_n 1, 1) := by decide +kernel
theorem d_Md_applyFrom_22 : decode b_Md_applyFrom 22 = .ok (.if_icmp .lt 10, 3) := by decide +kernel
theorem d_Md_applyFrom_25 : decode b_Md_applyFrom 25 = .ok (.aload_n 0, 1) := by decide +kernel
theorem d_Md_applyFrom_26 : decode b_Md_applyFrom 26 = .ok (.invokevirtual 351, 3) := by decide +kernel
theorem d_Md_applyFrom_29 : decode b_Md_applyFrom 29 = .ok (.goto (-29), 3) := by decide +kernel
theorem d_Md_applyFrom_32 : decode b_Md_applyFrom 32 = .ok (.return_, 1) := by decide +kernel
theorem d_Md_assign_0 : decode b_Md_assign 0 = .ok (.aload_n 0, 1) := by decide +kernel
theorem d_Md_assign_1 : decode b_Md_assign 1 = .ok (.iload_n 2, 1) := by decide +kernel
theorem d_Md_assign_2 : decode b_Md_assign 2 = .ok (.invokevirtual 159, 3) := by decide +kernel
theorem d_Md_assign_5 : decode b_Md_assign 5 = .ok (.istore_n 3, 1) := by decide +kernel
theorem d_Md_assign_6 : decode b_Md_assign 6 = .ok (.aload_n 0, 1) := by decide +kernel
theorem d_Md_assign_7 : decode b_Md_assign 7 = .ok (.getfield 13, 3) := by decide +kernel
theorem d_Md_assign_10 : decode b_Md_assign 10 = .ok (.iload_n 1, 1) := by decide +kernel
theorem d_Md_assign_11 : decode b_Md_assign 11 = .ok (.iload_n 3, 1) := by decide +kernel
theorem d_Md_assign_12 : decode b_Md_assign 12 = .ok (.iastore, 1) := by decide +kernel
theorem d_Md_assign_13 : decode b_Md_assign 13 = .ok (.iconst 0, 1) := by decide +kernel
theorem d_Md_assign_14 : decode b_Md_assign 14 = .ok (.istore 4, 2) := by decide +kernel
theorem d_Md_assign_16 : decode b_Md_assign 16 = .ok (.iload 4, 2) := by decide +kernel
theorem d_Md_assign_18 : decode b_Md_assign 18 = .ok (.iload_n 3, 1) := by decide +kernel
theorem d_Md_assign_19 : decode b_Md_assign 19 = .ok (.if_icmp .ge 28, 3) := by decide +kernel
theorem d_Md_assign_22 : decode b_Md_assign 22 = .ok (.aload_n 0, 1) := by decide +kernel
theorem d_Md_assign_23 : decode b_Md_assign 23 = .ok (.getfield 17, 3) := by decide +kernel
theorem d_Md_assign_26 : decode b_Md_assign 26 = .ok (.bipush 20, 2) := by decide +kernel
theorem d_Md_assign_28 : decode b_Md_assign 28 = .ok (.iload_n 1, 1) := by decide +kernel
theorem d_Md_assign_29 : decode b_Md_assign 29 = .ok (.imul, 1) := by decide +kernel
theorem d_Md_assign_30 : decode b_Md_assign 30 = .ok (.iload 4, 2) := by decide +kernel
theorem d_Md_assign_32 : decode b_Md_assign 32 = .ok (.iadd, 1) := by decide +kernel
theorem d_Md_assign_33 : decode b_Md_assign 33 = .ok (.aload_n 0, 1) := by decide +kernel
theorem d_Md_assign_34 : decode b_Md_assign 34 = .ok (.iload_n 2, 1) := by decide +kernel
theorem d_Md_assign_35 : decode b_Md_assign 35 = .ok (.iload 4, 2) := by decide +kernel
theorem d_Md_assign_37 : decode b_Md_assign 37 = .ok (.invokevirtual 162, 3) := by decide +kernel
theorem d_Md_assign_40 : decode b_Md_assign 40 = .ok (.castore, 1) := by decide +kernel
theorem d_Md_assign_41 : decode b_Md_assign 41 = .ok (.iinc 4 1, 3) := by decide +kernel
theorem d_Md_assign_44 : decode b_Md_assign 44 = .ok (.goto (-28), 3) := by decide +kernel
theorem d_Md_assign_47 : decode b_Md_assign 47 = .ok (.return_, 1) := by decide +kernel
theorem d_Md_at_0 : decode b_Md_at 0 = .ok (.iload_n 1, 1) := by decide +kernel
theorem d_Md_at_1 : decode b_Md_at 1 = .ok (.ifCond .lt 20, 3) := by decide +kernel
theorem d_Md_at_4 : decode b_Md_at 4 = .ok (.iload_n 1, 1) := by decide +kernel
theorem d_Md_at_5 : decode b_Md_at 5 = .ok (.aload_n 0, 1) := by decide +kernel
theorem d_Md_at_6 : decode b_Md_at 6 = .ok (.getfield 135, 3) := by decide +kernel
theorem d_Md_at_9 : decode b_Md_at 9 = .ok (.if_icmp .ge 12, 3) := by decide +kernel
theorem d_Md_at_12 : decode b_Md_at 12 = .ok (.aload_n 0, 1) := by decide +kernel
theorem d_Md_at_13 : decode b_Md_at 13 = .ok (.getfield 76, 3) := by decide +kernel
theorem d_Md_at_16 : decode b_Md_at 16 = .ok (.iload_n 1, 1) := by decide +kernel
theorem d_Md_at_17 : decode b_Md_at 17 = .ok (.caload, 1) := by decide +kernel
theorem d_Md_at_18 : decode b_Md_at 18 = .ok (.goto 4, 3) := by decide +kernel
theorem d_Md_at_21 : decode b_Md_at 21 = .ok (.iconst 0, 1) := by decide +kernel
theorem d_Md_at_22 : decode b_Md_at 22 = .ok (.ireturn, 1) := by decide +kernel
theorem d_Md_begin_0 : decode b_Md_begin 0 = .ok (.aload_n 0, 1) := by decide +kernel
theorem d_Md_begin_1 : decode b_Md_begin 1 = .ok (.getfield 55, 3) := by decide +kernel
theorem d_Md_begin_4 : decode b_Md_begin 4 = .ok (.aload_n 0, 1) := by decide +kernel
theorem d_Md_begin_5 : decode b_Md_begin 5 = .ok (.getfield 36, 3) := by decide +kernel
theorem d_Md_begin_8 : decode b_Md_begin 8 = .ok (.iaload, 1) := by decide +kernel
theorem d_Md_begin_9 : decode b_Md_begin 9 = .ok (.bipush 8, 2) := by decide +kernel
theorem d_Md_begin_11 : decode b_Md_begin 11 = .ok (.if_icmp .ne 9, 3) := by decide +kernel
theorem d_Md_begin_14 : decode b_Md_begin 14 = .ok (.aload_n 0, 1) := by decide +kernel
theorem d_Md_begin_15 : decode b_Md_begin 15 = .ok (.iconst 1, 1) := by decide +kernel
theorem d_Md_begin_16 : decode b_Md_begin 16 = .ok (.invokevirtual 166, 3) := by decide +kernel
theorem d_Md_begin_19 : decode b_Md_begin 19 = .ok (.return_, 1) := by decide +kernel
theorem d_Md_begin_20 : decode b_Md_begin 20 = .ok (.aload_n 0, 1) := by decide +kernel
theorem d_Md_begin_21 : decode b_Md_begin 21 = .ok (.aload_n 0, 1) := by decide +kernel
theorem d_Md_begin_22 : decode b_Md_begin 22 = .ok (.getfield 55, 3) := by decide +kernel
theorem d_Md_begin_25 : decode b_Md_begin 25 = .ok (.aload_n 0, 1) := by decide +kernel
theorem d_Md_begin_26 : decode b_Md_begin 26 = .ok (.getfield 36, 3) := by decide +kernel
theorem d_Md_begin_29 : decode b_Md_begin 29 = .ok (.iaload, 1) := by decide +kernel
theorem d_Md_begin_30 : decode b_Md_begin 30 = .ok (.invokevirtual 155, 3) := by decide +kernel
theorem d_Md_begin_33 : decode b_Md_begin 33 = .ok (.istore_n 2, 1) := by decide +kernel
theorem d_Md_begin_34 : decode b_Md_begin 34 = .ok (.aload_n 0, 1) := by decide +kernel
theorem d_Md_begin_35 : decode b_Md_begin 35 = .ok (.getfield 64, 3) := by decide +kernel
theorem d_Md_begin_38 : decode b_Md_begin 38 = .ok (.iload_n 2, 1) := by decide +kernel
theorem d_Md_begin_39 : decode b_Md_begin 39 = .ok (.iload_n 1, 1) := by decide +kernel
theorem d_Md_begin_40 : decode b_Md_begin 40 = .ok (.bipush 123, 2) := by decide +kernel
theorem d_Md_begin_42 : decode b_Md_begin 42 = .ok (.if_icmp .ne 7, 3) := by decide +kernel
theorem d_Md_begin_45 : decode b_Md_begin 45 = .ok (.iconst 1, 1) := by decide +kernel
theorem d_Md_begin_46 : decode b_Md_begin 46 = .ok (.goto 4, 3) := by decide +kernel
theorem d_Md_begin_49 : decode b_Md_begin 49 = .ok (.iconst 0, 1) := by decide +kernel
theorem d_Md_begin_50 : decode b_Md_begin 50 = .ok (.bastore, 1) := by decide +kernel
theorem d_Md_begin_51 : decode b_Md_begin 51 = .ok (.aload_n 0, 1) := by decide +kernel
theorem d_Md_begin_52 : decode b_Md_begin 52 = .ok (.getfield 70, 3) := by decide +kernel
theorem d_Md_begin_55 : decode b_Md_begin 55 = .ok (.iload_n 2, 1) := by decide +kernel
theorem d_Md_begin_56 : decode b_Md_begin 56 = .ok (.iconst 0, 1) := by decide +kernel
theorem d_Md_begin_57 : decode b_Md_begin 57 = .ok (.iastore, 1) := by decide +kernel
theorem d_Md_begin_58 : decode b_Md_begin 58 = .ok (.iload_n 1, 1) := by decide +kernel
theorem d_Md_begin_59 : decode b_Md_begin 59 = .ok (.bipush 123, 2) := by decide +kernel
theorem d_Md_begin_61 : decode b_Md_begin 61 = .ok (.if_icmp .eq 62, 3) := by decide +kernel
theorem d_Md_begin_64 : decode b_Md_begin 64 = .ok (.aload_n 0, 1) := by decide +kernel
theorem d_Md_begin_65 : decode b_Md_begin 65 = .ok (.getfield 52, 3) := by decide +kernel
theorem d_Md_begin_68 : decode b_Md_begin 68 = .ok (.aload_n 0, 1) := by decide +kernel
theorem d_Md_begin_69 : decode b_Md_begin 69 = .ok (.getfield 36, 3) := by decide +kernel
theorem d_Md_begin_72 : decode b_Md_begin 72 = .ok (.iload_n 1, 1) := by decide +kernel
theorem d_Md_begin_73 : decode b_Md_begin 73 = .ok (.bipush 34, 2) := by decide +kernel
theorem d_Md_begin_75 : decode b_Md_begin 75 = .ok (.if_icmp .ne 7, 3) := by decide +kernel
theorem d_Md_begin_78 : decode b_Md_begin 78 = .ok (.iconst 2, 1) := by decide +kernel
theorem d_Md_begin_79 : decode b_Md_begin 79 = .ok (.goto 4, 3) := by decide +kernel
theorem d_Md_begin_82 : decode b_Md_begin 82 = .ok (.iconst 1, 1) := by decide +kernel
theorem d_Md_begin_83 : decode b_Md_begin 83 = .ok (.iastore, 1) := by decide +kernel
theorem d_Md_begin_84 : decode b_Md_begin 84 = .ok (.aload_n 0, 1) := by decide +kernel
theorem d_Md_begin_85 : decode b_Md_begin 85 = .ok (.getfield 40, 3) := by decide +kernel
theorem d_Md_begin_88 : decode b_Md_begin 88 = .ok (.aload_n 0, 1) := by decide +kernel
theorem d_Md_begin_89 : decode b_Md_begin 89 = .ok (.getfield 36, 3) := by decide +kernel
theorem d_Md_begin_92 : decode b_Md_begin 92 = .ok (.iload_n 1, 1) := by decide +kernel
theorem d_Md_begin_93 : decode b_Md_begin 93 = .ok (.bipush 34, 2) := by decide +kernel
theorem d_Md_begin_95 : decode b_Md_begin 95 = .ok (.if_icmp .ne 17, 3) := by decide +kernel
theorem d_Md_begin_98 : decode b_Md_begin 98 = .ok (.aload_n 0, 1) := by decide +kernel
theorem d_Md_begin_99 : decode b_Md_begin 99 = .ok (.getfield 40, 3) := by decide +kernel
theorem d_Md_begin_102 : decode b_Md_begin 102 = .ok (.aload_n 0, 1) := by decide +kernel
theorem d_Md_begin_103 : decode b_Md_begin 103 = .ok (.getfield 36, 3) := by decide +kernel
theorem d_Md_begin_106 : decode b_Md_begin 106 = .ok (.iaload, 1) := by decide +kernel
theorem d_Md_begin_107 : decode b_Md_begin 107 = .ok (.iconst 1, 1) := by decide +kernel
theorem d_Md_begin_108 : decode b_Md_begin 108 = .ok (.iadd, 1) := by decide +kernel
theorem d_Md_begin_109 : decode b_Md_begin 109 = .ok (.goto 12, 3) := by decide +kernel
theorem d_Md_begin_112 : decode b_Md_begin 112 = .ok (.aload_n 0, 1) := by decide +kernel
theorem d_Md_begin_113 : decode b_Md_begin 113 = .ok (.getfield 40, 3) := by decide +kernel
theorem d_Md_begin_116 : decode b_Md_begin 116 = .ok (.aload_n 0, 1) := by decide +kernel
theorem d_Md_begin_117 : decode b_Md_begin 117 = .ok (.getfield 36, 3) := by decide +kernel
theorem d_Md_begin_120 : decode b_Md_begin 120 = .ok (.iaload, 1) := by decide +kernel
theorem d_Md_begin_121 : decode b_Md_begin 121 = .ok (.iastore, 1) := by decide +kernel
theorem d_Md_begin_122 : decode b_Md_begin 122 = .ok (.return_, 1) := by decide +kernel
theorem d_Md_begin_123 : decode b_Md_begin 123 = .ok (.iconst 1, 1) := by decide +kernel
theorem d_Md_begin_124 : decode b_Md_begin 124 = .ok (.istore_n 3, 1) := by decide +kernel
theorem d_Md_begin_125 : decode b_Md_begin 125 = .ok (.aload_n 0, 1) := by decide +kernel
theorem d_Md_begin_126 : decode b_Md_begin 126 = .ok (.getfield 40, 3) := by decide +kernel
theorem d_Md_begin_129 : decode b_Md_begin 129 = .ok (.aload_n 0, 1) := by decide +kernel
theorem d_Md_begin_130 : decode b_Md_begin 130 = .ok (.getfield 36, 3) := by decide +kernel
theorem d_Md_begin_133 : decode b_Md_begin 133 = .ok (.iaload, 1) := by decide +kernel
theorem d_Md_begin_134 : decode b_Md_begin 134 = .ok (.iconst 1, 1) := by decide +kernel
theorem d_Md_begin_135 : decode b_Md_begin 135 = .ok (.iadd, 1) := by decide +kernel
theorem d_Md_begin_136 : decode b_Md_begin 136 = .ok (.istore 4, 2) := by decide +kernel
theorem d_Md_begin_138 : decode b_Md_begin 138 = .ok (.aload_n 0, 1) := by decide +kernel
theorem d_Md_begin_139 : decode b_Md_begin 139 = .ok (.getfield 67, 3) := by decide +kernel
theorem d_Md_begin_142 : decode b_Md_begin 142 = .ok (.iload_n 2, 1) := by decide +kernel
theorem d_Md_begin_143 : decode b_Md_begin 143 = .ok (.iload 4, 2) := by decide +kernel
theorem d_Md_begin_145 : decode b_Md_begin 145 = .ok (.iastore, 1) := by decide +kernel
theorem d_Md_begin_146 : decode b_Md_begin 146 = .ok (.iload 4, 2) := by decide +kernel
theorem d_Md_begin_148 : decode b_Md_begin 148 = .ok (.aload_n 0, 1) := by decide +kernel
theorem d_Md_begin_149 : decode b_Md_begin 149 = .ok (.getfield 43, 3) := by decide +kernel
theorem d_Md_begin_152 : decode b_Md_begin 152 = .ok (.aload_n 0, 1) := by decide +kernel
theorem d_Md_begin_153 : decode b_Md_begin 153 = .ok (.getfield 36, 3) := by decide +kernel
theorem d_Md_begin_156 : decode b_Md_begin 156 = .ok (.iaload, 1) := by decide +kernel
theorem d_Md_begin_157 : decode b_Md_begin 157 = .ok (.if_icmp .ge 51, 3) := by decide +kernel
theorem d_Md_begin_160 : decode b_Md_begin 160 = .ok (.iload_n 3, 1) := by decide +kernel
theorem d_Md_begin_161 : decode b_Md_begin 161 = .ok (.ifCond .le 47, 3) := by decide +kernel
theorem d_Md_begin_164 : decode b_Md_begin 164 = .ok (.aload_n 0, 1) := by decide +kernel
theorem d_Md_begin_165 : decode b_Md_begin 165 = .ok (.getfield 7, 3) := by decide +kernel
theorem d_Md_begin_168 : decode b_Md_begin 168 = .ok (.iload 4, 2) := by decide +kernel
theorem d_Md_begin_170 : decode b_Md_begin 170 = .ok (.caload, 1) := by decide +kernel
theorem d_Md_begin_171 : decode b_Md_begin 171 = .ok (.bipush 123, 2) := by decide +kernel
theorem d_Md_begin_173 : decode b_Md_begin 173 = .ok (.if_icmp .ne 9, 3) := by decide +kernel
theorem d_Md_begin_176 : decode b_Md_begin 176 = .ok (.iload_n 3, 1) := by decide +kernel
theorem d_Md_begin_177 : decode b_Md_begin 177 = .ok (.iconst 1, 1) := by decide +kernel
theorem d_Md_begin_178 : decode b_Md_begin 178 = .ok (.iadd, 1) := by decide +kernel
theorem d_Md_begin_179 : decode b_Md_begin 179 = .ok (.goto 22, 3) := by decide +kernel
theorem d_Md_begin_182 : decode b_Md_begin 182 = .ok (.aload_n 0, 1) := by decide +kernel
theorem d_Md_begin_183 : decode b_Md_begin 183 = .ok (.getfield 7, 3) := by decide +kernel
theorem d_Md_begin_186 : decode b_Md_begin 186 = .ok (.iload 4, 2) := by decide +kernel
theorem d_Md_begin_188 : decode b_Md_begin 188 = .ok (.caload, 1) := by decide +kernel
theorem d_Md_begin_189 : decode b_Md_begin 189 = .ok (.bipush 125, 2) := by decide +kernel
theorem d_Md_begin_191 : decode b_Md_begin 191 = .ok (.if_icmp .ne 9, 3) := by decide +kernel
theorem d_Md_begin_194 : decode b_Md_begin 194 = .ok (.iload_n 3, 1) := by decide +kernel
theorem d_Md_begin_195 : decode b_Md_begin 195 = .ok (.iconst 1, 1) := by decide +kernel
theorem d_Md_begin_196 : decode b_Md_begin 196 = .ok (.isub, 1) := by decide +kernel
theorem d_Md_begin_197 : decode b_Md_begin 197 = .ok (.goto 4, 3) := by decide +kernel
theorem d_Md_begin_200 : decode b_Md_begin 200 = .ok (.iload_n 3, 1) := by decide +kernel
theorem d_Md_begin_201 : decode b_Md_begin 201 = .ok (.istore_n 3, 1) := by decide +kernel
theorem d_Md_begin_202 : decode b_Md_begin 202 = .ok (.iinc 4 1, 3) := by decide +kernel
theorem d_Md_begin_205 : decode b_Md_begin 205 = .ok (.goto (-59), 3) := by decide +kernel
theorem d_Md_begin_208 : decode b_Md_begin 208 = .ok (.iload_n 3, 1) := by decide +kernel
theorem d_Md_begin_209 : decode b_Md_begin 209 = .ok (.ifCond .le 9, 3) := by decide +kernel
theorem d_Md_begin_212 : decode b_Md_begin 212 = .ok (.aload_n 0, 1) := by decide +kernel
theorem d_Md_begin_213 : decode b_Md_begin 213 = .ok (.iconst 1, 1) := by decide +kernel
theorem d_Md_begin_214 : decode b_Md_begin 214 = .ok (.invokevirtual 166, 3) := by decide +kernel
theorem d_Md_begin_217 : decode b_Md_begin 217 = .ok (.return_, 1) := by decide +kernel
theorem d_Md_begin_218 : decode b_Md_begin 218 = .ok (.aload_n 0, 1) := by decide +kernel
theorem d_Md_begin_219 : decode b_Md_begin 219 = .ok (.getfield 70, 3) := by decide +kernel
theorem d_Md_begin_222 : decode b_Md_begin 222 = .ok (.iload_n 2, 1) := by decide +kernel
theorem d_Md_begin_223 : decode b_Md_begin 223 = .ok (.iload 4, 2) := by decide +kernel
theorem d_Md_begin_225 : decode b_Md_begin 225 = .ok (.iconst 1, 1) := by decide +kernel
theorem d_Md_begin_226 : decode b_Md_begin 226 = .ok (.isub, 1) := by decide +kernel
theorem d_Md_begin_227 : decode b_Md_begin 227 = .ok (.aload_n 0, 1) := by decide +kernel
theorem d_Md_begin_228 : decode b_Md_begin 228 = .ok (.getfield 67, 3) := by decide +kernel
theorem d_Md_begin_231 : decode b_Md_begin 231 = .ok (.iload_n 2, 1) := by decide +kernel
theorem d_Md_begin_232 : decode b_Md_begin 232 = .ok (.iaload, 1) := by decide +kernel
theorem d_Md_begin_233 : decode b_Md_begin 233 = .ok (.isub, 1) := by decide +kernel
theorem d_Md_begin_234 : decode b_Md_begin 234 = .ok (.iastore, 1) := by decide +kernel
theorem d_Md_begin_235 : decode b_Md_begin 235 = .ok (.aload_n 0, 1) := by decide +kernel
theorem d_Md_begin_236 : decode b_Md_begin 236 = .ok (.getfield 40, 3) := by decide +kernel
theorem d_Md_begin_239 : decode b_Md_begin 239 = .ok (.aload_n 0, 1) := by decide +kernel
theorem d_Md_begin_240 : decode b_Md_begin 240 = .ok (.getfield 36, 3) := by decide +kernel
theorem d_Md_begin_243 : decode b_Md_begin 243 = .ok (.iload 4, 2) := by decide +kernel
theorem d_Md_begin_245 : decode b_Md_begin 245 = .ok (.iastore, 1) := by decide +kernel
theorem d_Md_begin_246 : decode b_Md_begin 246 = .ok (.aload_n 0, 1) := by decide +kernel
theorem d_Md_begin_247 : decode b_Md_begin 247 = .ok (.iconst 1, 1) := by decide +kernel
theorem d_Md_begin_248 : decode b_Md_begin 248 = .ok (.invokevirtual 199, 3) := by decide +kernel
theorem d_Md_begin_251 : decode b_Md_begin 251 = .ok (.return_, 1) := by decide +kernel
theorem d_Md_behind_0 : decode b_Md_behind 0 = .ok (.aload_n 0, 1) := by decide +kernel
theorem d_Md_behind_1 : decode b_Md_behind 1 = .ok (.getfield 40, 3) := by decide +kernel
theorem d_Md_behind_4 : decode b_Md_behind 4 = .ok (.aload_n 0, 1) := by decide +kernel
theorem d_Md_behind_5 : decode b_Md_behind 5 = .ok (.getfield 36, 3) := by decide +kernel
theorem d_Md_behind_8 : decode b_Md_behind 8 = .ok (.iaload, 1) := by decide +kernel
theorem d_Md_behind_9 : decode b_Md_behind 9 = .ok (.iconst 1, 1) := by decide +kernel
theorem d_Md_behind_10 : decode b_Md_behind 10 = .ok (.iadd, 1) := by decide +kernel
theorem d_Md_behind_11 : decode b_Md_behind 11 = .ok (.aload_n 0, 1) := by decide +kernel
theorem d_Md_behind_12 : decode b_Md_behind 12 = .ok (.getfield 43, 3) := by decide +kernel
theorem d_Md_behind_15 : decode b_Md_behind 15 = .ok (.aload_n 0, 1) := by decide +kernel
theorem d_Md_behind_16 : decode b_Md_behind 16 = .ok (.getfield 36, 3) := by decide +kernel
theorem d_Md_behind_19 : decode b_Md_behind 19 = .ok (.iaload, 1) := by decide +kernel
theorem d_Md_behind_20 : decode b_Md_behind 20 = .ok (.if_icmp .ge 22, 3) := by decide +kernel
theorem d_Md_behind_23 : decode b_Md_behind 23 = .ok (.aload_n 0, 1) := by decide +kernel
theorem d_Md_behind_24 : decode b_Md_behind 24 = .ok (.getfield 7, 3) := by decide +kernel
theorem d_Md_behind_27 : decode b_Md_behind 27 = .ok (.aload_n 0, 1) := by decide +kernel
theorem d_Md_behind_28 : decode b_Md_behind 28 = .ok (.getfield 40, 3) := by decide +kernel
theorem d_Md_behind_31 : decode b_Md_behind 31 = .ok (.aload_n 0, 1) := by decide +kernel
theorem d_Md_behind_32 : decode b_Md_behind 32 = .ok (.getfield 36, 3) := by decide +kernel
theorem d_Md_behind_35 : decode b_Md_behind 35 = .ok (.iaload, 1) := by decide +kernel
theorem d_Md_behind_36 : decode b_Md_behind 36 = .ok (.iconst 1, 1) := by decide +kernel
theorem d_Md_behind_37 : decode b_Md_behind 37 = .ok (.iadd, 1) := by decide +kernel
theorem d_Md_behind_38 : decode b_Md_behind 38 = .ok (.caload, 1) := by decide +kernel
theorem d_Md_behind_39 : decode b_Md_behind 39 = .ok (.goto 4, 3) := by decide +kernel
theorem d_Md_behind_42 : decode b_Md_behind 42 = .ok (.iconst 0, 1) := by decide +kernel
theorem d_Md_behind_43 : decode b_Md_behind 43 = .ok (.ireturn, 1) := by decide +kernel
theorem d_Md_between_0 : decode b_Md_between 0 = .ok (.aload_n 0, 1) := by decide +kernel
theorem d_Md_between_1 : decode b_Md_between 1 = .ok (.invokevirtual 180, 3) := by decide +kernel
theorem d_Md_between_4 : decode b_Md_between 4 = .ok (.istore_n 1, 1) := by decide +kernel
theorem d_Md_between_5 : decode b_Md_between 5 = .ok (.aload_n 0, 1) := by decide +kernel
theorem d_Md_between_6 : decode b_Md_between 6 = .ok (.invokevirtual 190, 3) := by decide +kernel
theorem d_Md_between_9 : decode b_Md_between 9 = .ok (.ifCond .ne 31, 3) := by decide +kernel
theorem d_Md_between_12 : decode b_Md_between 12 = .ok (.iload_n 1, 1) := by decide +kernel
theorem d_Md_between_13 : decode b_Md_between 13 = .ok (.bipush 32, 2) := by decide +kernel
theorem d_Md_between_15 : decode b_Md_between 15 = .ok (.if_icmp .ne 19, 3) := by decide +kernel
theorem d_Md_between_18 : decode b_Md_between 18 = .ok (.aload_n 0, 1) := by decide +kernel
theorem d_Md_between_19 : decode b_Md_between 19 = .ok (.getfield 40, 3) := by decide +kernel
theorem d_Md_between_22 : decode b_Md_between 22 = .ok (.aload_n 0, 1) := by decide +kernel
theorem d_Md_between_23 : decode b_Md_between 23 = .ok (.getfield 36, 3) := by decide +kernel
theorem d_Md_between_26 : decode b_Md_between 26 = .ok (.dup2, 1) := by decide +kernel
theorem d_Md_between_27 : decode b_Md_between 27 = .ok (.iaload, 1) := by decide +kernel
theorem d_Md_between_28 : decode b_Md_between 28 = .ok (.iconst 1, 1) := by decide +kernel
theorem d_Md_between_29 : decode b_Md_between 29 = .ok (.iadd, 1) := by decide +kernel
theorem d_Md_between_30 : decode b_Md_between 30 = .ok (.iastore, 1) := by decide +kernel
theorem d_Md_between_31 : decode b_Md_between 31 = .ok (.goto 8, 3) := by decide +kernel
theorem d_Md_between_34 : decode b_Md_between 34 = .ok (.aload_n 0, 1) := by decide +kernel
theorem d_Md_between_35 : decode b_Md_between 35 = .ok (.iload_n 1, 1) := by decide +kernel
theorem d_Md_between_36 : decode b_Md_between 36 = .ok (.invokevirtual 193, 3) := by decide +kernel
theorem d_Md_between_39 : decode b_Md_between 39 = .ok (.return_, 1) := by decide +kernel
theorem d_Md_between_40 : decode b_Md_between 40 = .ok (.aload_n 0, 1) := by decide +kernel
theorem d_Md_between_41 : decode b_Md_between 41 = .ok (.invokevirtual 176, 3) := by decide +kernel
theorem d_Md_between_44 : decode b_Md_between 44 = .ok (.ifCond .eq 24, 3) := by decide +kernel
theorem d_Md_between_47 : decode b_Md_between 47 = .ok (.aload_n 0, 1) := by decide +kernel
theorem d_Md_between_48 : decode b_Md_between 48 = .ok (.getfield 46, 3) := by decide +kernel
theorem d_Md_between_51 : decode b_Md_between 51 = .ok (.aload_n 0, 1) := by decide +kernel
theorem d_Md_between_52 : decode b_Md_between 52 = .ok (.getfield 36, 3) := by decide +kernel
theorem d_Md_between_55 : decode b_Md_between 55 = .ok (.iaload, 1) := by decide +kernel
theorem d_Md_between_56 : decode b_Md_between 56 = .ok (.iconst 1, 1) := by decide +kernel
theorem d_Md_between_57 : decode b_Md_between 57 = .ok (.if_icmp .ne 11, 3) := by decide +kernel
theorem d_Md_between_60 : decode b_Md_between 60 = .ok (.aload_n 0, 1) := by decide +kernel
theorem d_Md_between_61 : decode b_Md_between 61 = .ok (.iconst 1, 1) := by decide +kernel
theorem d_Md_between_62 : decode b_Md_between 62 = .ok (.invokevirtual 166, 3) := by decide +kernel
theorem d_Md_between_65 : decode b_Md_between 65 = .ok (.goto 123, 3) := by decide +kernel
theorem d_Md_between_68 : decode b_Md_between 68 = .ok (.aload_n 0, 1) := by decide +kernel
theorem d_Md_between_69 : decode b_Md_between 69 = .ok (.getfield 55, 3) := by decide +kernel
theorem d_Md_between_72 : decode b_Md_between 72 = .ok (.aload_n 0, 1) := by decide +kernel
theorem d_Md_between_73 : decode b_Md_between 73 = .ok (.getfield 36, 3) := by decide +kernel
theorem d_Md_between_76 : decode b_Md_between 76 = .ok (.iaload, 1) := by decide +kernel
theorem d_Md_between_77 : decode b_Md_between 77 = .ok (.ifCond .le 10, 3) := by decide +kernel
theorem d_Md_between_80 : decode b_Md_between 80 = .ok (.aload_n 0, 1) := by decide +kernel
theorem d_Md_between_81 : decode b_Md_between 81 = .ok (.invokevirtual 196, 3) := by decide +kernel
theorem d_Md_between_84 : decode b_Md_between 84 = .ok (.goto 104, 3) := by decide +kernel
theorem d_Md_between_87 : decode b_Md_between 87 = .ok (.aload_n 0, 1) := by decide +kernel
theorem d_Md_between_88 : decode b_Md_between 88 = .ok (.invokevirtual 176, 3) := by decide +kernel
theorem d_Md_between_91 : decode b_Md_between 91 = .ok (.ifCond .ne 9, 3) := by decide +kernel
theorem d_Md_between_94 : decode b_Md_between 94 = .ok (.iload_n 1, 1) := by decide +kernel
theorem d_Md_between_95 : decode b_Md_between 95 = .ok (.bipush 93, 2) := by decide +kernel
theorem d_Md_between_97 : decode b_Md_between 97 = .ok (.if_icmp .ne 78, 3) := by decide +kernel
theorem d_Md_between_100 : decode b_Md_between 100 = .ok (.aload_n 0, 1) := by decide +kernel
theorem d_Md_between_101 : decode b_Md_between 101 = .ok (.getfield 40, 3) := by decide +kernel
theorem d_Md_between_104 : decode b_Md_between 104 = .ok (.aload_n 0, 1) := by decide +kernel
theorem d_Md_between_105 : decode b_Md_between 105 = .ok (.getfield 36, 3) := by decide +kernel
theorem d_Md_between_108 : decode b_Md_between 108 = .ok (.dup2, 1) := by decide +kernel
theorem d_Md_between_109 : decode b_Md_between 109 = .ok (.iaload, 1) := by decide +kernel
theorem d_Md_between_110 : decode b_Md_between 110 = .ok (.iconst 1, 1) := by decide +kernel
theorem d_Md_between_111 : decode b_Md_between 111 = .ok (.iadd, 1) := by decide +kernel
theorem d_Md_between_112 : decode b_Md_between 112 = .ok (.iastore, 1) := by decide +kernel
theorem d_Md_between_113 : decode b_Md_between 113 = .ok (.aload_n 0, 1) := by decide +kernel
theorem d_Md_between_114 : decode b_Md_between 114 = .ok (.iconst 0, 1) := by decide +kernel
theorem d_Md_between_115 : decode b_Md_between 115 = .ok (.putfield 149, 3) := by decide +kernel
theorem d_Md_between_118 : decode b_Md_between 118 = .ok (.aload_n 0, 1) := by decide +kernel
theorem d_Md_between_119 : decode b_Md_between 119 = .ok (.aload_n 0, 1) := by decide +kernel
theorem d_Md_between_120 : decode b_Md_between 120 = .ok (.getfield 58, 3) := by decide +kernel
theorem d_Md_between_123 : decode b_Md_between 123 = .ok (.aload_n 0, 1) := by decide +kernel
theorem d_Md_between_124 : decode b_Md_between 124 = .ok (.getfield 36, 3) := by decide +kernel
theorem d_Md_between_127 : decode b_Md_between 127 = .ok (.iaload, 1) := by decide +kernel
theorem d_Md_between_128 : decode b_Md_between 128 = .ok (.putfield 135, 3) := by decide +kernel
theorem d_Md_between_131 : decode b_Md_between 131 = .ok (.iconst 0, 1) := by decide +kernel
theorem d_Md_between_132 : decode b_Md_between 132 = .ok (.istore_n 2, 1) := by decide +kernel
theorem d_Md_between_133 : decode b_Md_between 133 = .ok (.iload_n 2, 1) := by decide +kernel
theorem d_Md_between_134 : decode b_Md_between 134 = .ok (.aload_n 0, 1) := by decide +kernel
theorem d_Md_between_135 : decode b_Md_between 135 = .ok (.getfield 135, 3) := by decide +kernel
