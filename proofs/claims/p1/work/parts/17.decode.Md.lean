/-! decode rows -/
theorem d_Md_init_0 : decode b_Md_init 0 = .ok (.aload_n 0, 1) := by decide +kernel
theorem d_Md_init_1 : decode b_Md_init 1 = .ok (.invokespecial 1, 3) := by decide +kernel
theorem d_Md_init_4 : decode b_Md_init 4 = .ok (.aload_n 0, 1) := by decide +kernel
theorem d_Md_init_5 : decode b_Md_init 5 = .ok (.sipush 200, 3) := by decide +kernel
theorem d_Md_init_8 : decode b_Md_init 8 = .ok (.newarray .char, 2) := by decide +kernel
theorem d_Md_init_10 : decode b_Md_init 10 = .ok (.putfield 7, 3) := by decide +kernel
theorem d_Md_init_13 : decode b_Md_init 13 = .ok (.aload_n 0, 1) := by decide +kernel
theorem d_Md_init_14 : decode b_Md_init 14 = .ok (.sipush 208, 3) := by decide +kernel
theorem d_Md_init_17 : decode b_Md_init 17 = .ok (.newarray .int, 2) := by decide +kernel
theorem d_Md_init_19 : decode b_Md_init 19 = .ok (.putfield 13, 3) := by decide +kernel
theorem d_Md_init_22 : decode b_Md_init 22 = .ok (.aload_n 0, 1) := by decide +kernel
theorem d_Md_init_23 : decode b_Md_init 23 = .ok (.sipush 4160, 3) := by decide +kernel
theorem d_Md_init_26 : decode b_Md_init 26 = .ok (.newarray .char, 2) := by decide +kernel
theorem d_Md_init_28 : decode b_Md_init 28 = .ok (.putfield 17, 3) := by decide +kernel
theorem d_Md_init_31 : decode b_Md_init 31 = .ok (.aload_n 0, 1) := by decide +kernel
theorem d_Md_init_32 : decode b_Md_init 32 = .ok (.sipush 208, 3) := by decide +kernel
theorem d_Md_init_35 : decode b_Md_init 35 = .ok (.newarray .boolean, 2) := by decide +kernel
theorem d_Md_init_37 : decode b_Md_init 37 = .ok (.putfield 20, 3) := by decide +kernel
theorem d_Md_init_40 : decode b_Md_init 40 = .ok (.aload_n 0, 1) := by decide +kernel
theorem d_Md_init_41 : decode b_Md_init 41 = .ok (.bipush 26, 2) := by decide +kernel
theorem d_Md_init_43 : decode b_Md_init 43 = .ok (.newarray .boolean, 2) := by decide +kernel
theorem d_Md_init_45 : decode b_Md_init 45 = .ok (.putfield 24, 3) := by decide +kernel
theorem d_Md_init_48 : decode b_Md_init 48 = .ok (.aload_n 0, 1) := by decide +kernel
theorem d_Md_init_49 : decode b_Md_init 49 = .ok (.bipush 26, 2) := by decide +kernel
theorem d_Md_init_51 : decode b_Md_init 51 = .ok (.newarray .int, 2) := by decide +kernel
theorem d_Md_init_53 : decode b_Md_init 53 = .ok (.putfield 27, 3) := by decide +kernel
theorem d_Md_init_56 : decode b_Md_init 56 = .ok (.aload_n 0, 1) := by decide +kernel
theorem d_Md_init_57 : decode b_Md_init 57 = .ok (.bipush 26, 2) := by decide +kernel
theorem d_Md_init_59 : decode b_Md_init 59 = .ok (.newarray .int, 2) := by decide +kernel
theorem d_Md_init_61 : decode b_Md_init 61 = .ok (.putfield 30, 3) := by decide +kernel
theorem d_Md_init_64 : decode b_Md_init 64 = .ok (.aload_n 0, 1) := by decide +kernel
theorem d_Md_init_65 : decode b_Md_init 65 = .ok (.bipush 26, 2) := by decide +kernel
theorem d_Md_init_67 : decode b_Md_init 67 = .ok (.newarray .int, 2) := by decide +kernel
theorem d_Md_init_69 : decode b_Md_init 69 = .ok (.putfield 33, 3) := by decide +kernel
theorem d_Md_init_72 : decode b_Md_init 72 = .ok (.aload_n 0, 1) := by decide +kernel
theorem d_Md_init_73 : decode b_Md_init 73 = .ok (.iconst (-1), 1) := by decide +kernel
theorem d_Md_init_74 : decode b_Md_init 74 = .ok (.putfield 36, 3) := by decide +kernel
theorem d_Md_init_77 : decode b_Md_init 77 = .ok (.aload_n 0, 1) := by decide +kernel
theorem d_Md_init_78 : decode b_Md_init 78 = .ok (.bipush 8, 2) := by decide +kernel
theorem d_Md_init_80 : decode b_Md_init 80 = .ok (.newarray .int, 2) := by decide +kernel
theorem d_Md_init_82 : decode b_Md_init 82 = .ok (.putfield 40, 3) := by decide +kernel
theorem d_Md_init_85 : decode b_Md_init 85 = .ok (.aload_n 0, 1) := by decide +kernel
theorem d_Md_init_86 : decode b_Md_init 86 = .ok (.bipush 8, 2) := by decide +kernel
theorem d_Md_init_88 : decode b_Md_init 88 = .ok (.newarray .int, 2) := by decide +kernel
theorem d_Md_init_90 : decode b_Md_init 90 = .ok (.putfield 43, 3) := by decide +kernel
theorem d_Md_init_93 : decode b_Md_init 93 = .ok (.aload_n 0, 1) := by decide +kernel
theorem d_Md_init_94 : decode b_Md_init 94 = .ok (.bipush 8, 2) := by decide +kernel
theorem d_Md_init_96 : decode b_Md_init 96 = .ok (.newarray .int, 2) := by decide +kernel
theorem d_Md_init_98 : decode b_Md_init 98 = .ok (.putfield 46, 3) := by decide +kernel
theorem d_Md_init_101 : decode b_Md_init 101 = .ok (.aload_n 0, 1) := by decide +kernel
theorem d_Md_init_102 : decode b_Md_init 102 = .ok (.bipush 8, 2) := by decide +kernel
theorem d_Md_init_104 : decode b_Md_init 104 = .ok (.newarray .int, 2) := by decide +kernel
theorem d_Md_init_106 : decode b_Md_init 106 = .ok (.putfield 49, 3) := by decide +kernel
theorem d_Md_init_109 : decode b_Md_init 109 = .ok (.aload_n 0, 1) := by decide +kernel
theorem d_Md_init_110 : decode b_Md_init 110 = .ok (.bipush 8, 2) := by decide +kernel
theorem d_Md_init_112 : decode b_Md_init 112 = .ok (.newarray .int, 2) := by decide +kernel
theorem d_Md_init_114 : decode b_Md_init 114 = .ok (.putfield 52, 3) := by decide +kernel
theorem d_Md_init_117 : decode b_Md_init 117 = .ok (.aload_n 0, 1) := by decide +kernel
theorem d_Md_init_118 : decode b_Md_init 118 = .ok (.bipush 8, 2) := by decide +kernel
theorem d_Md_init_120 : decode b_Md_init 120 = .ok (.newarray .int, 2) := by decide +kernel
theorem d_Md_init_122 : decode b_Md_init 122 = .ok (.putfield 55, 3) := by decide +kernel
theorem d_Md_init_125 : decode b_Md_init 125 = .ok (.aload_n 0, 1) := by decide +kernel
theorem d_Md_init_126 : decode b_Md_init 126 = .ok (.bipush 8, 2) := by decide +kernel
theorem d_Md_init_128 : decode b_Md_init 128 = .ok (.newarray .int, 2) := by decide +kernel
theorem d_Md_init_130 : decode b_Md_init 130 = .ok (.putfield 58, 3) := by decide +kernel
theorem d_Md_init_133 : decode b_Md_init 133 = .ok (.aload_n 0, 1) := by decide +kernel
theorem d_Md_init_134 : decode b_Md_init 134 = .ok (.sipush 160, 3) := by decide +kernel
theorem d_Md_init_137 : decode b_Md_init 137 = .ok (.newarray .char, 2) := by decide +kernel
theorem d_Md_init_139 : decode b_Md_init 139 = .ok (.putfield 61, 3) := by decide +kernel
theorem d_Md_init_142 : decode b_Md_init 142 = .ok (.aload_n 0, 1) := by decide +kernel
theorem d_Md_init_143 : decode b_Md_init 143 = .ok (.bipush 65, 2) := by decide +kernel
theorem d_Md_init_145 : decode b_Md_init 145 = .ok (.newarray .boolean, 2) := by decide +kernel
theorem d_Md_init_147 : decode b_Md_init 147 = .ok (.putfield 64, 3) := by decide +kernel
theorem d_Md_init_150 : decode b_Md_init 150 = .ok (.aload_n 0, 1) := by decide +kernel
theorem d_Md_init_151 : decode b_Md_init 151 = .ok (.bipush 65, 2) := by decide +kernel
theorem d_Md_init_153 : decode b_Md_init 153 = .ok (.newarray .int, 2) := by decide +kernel
theorem d_Md_init_155 : decode b_Md_init 155 = .ok (.putfield 67, 3) := by decide +kernel
theorem d_Md_init_158 : decode b_Md_init 158 = .ok (.aload_n 0, 1) := by decide +kernel
theorem d_Md_init_159 : decode b_Md_init 159 = .ok (.bipush 65, 2) := by decide +kernel
theorem d_Md_init_161 : decode b_Md_init 161 = .ok (.newarray .int, 2) := by decide +kernel
theorem d_Md_init_163 : decode b_Md_init 163 = .ok (.putfield 70, 3) := by decide +kernel
theorem d_Md_init_166 : decode b_Md_init 166 = .ok (.aload_n 0, 1) := by decide +kernel
theorem d_Md_init_167 : decode b_Md_init 167 = .ok (.sipush 1300, 3) := by decide +kernel
theorem d_Md_init_170 : decode b_Md_init 170 = .ok (.newarray .char, 2) := by decide +kernel
theorem d_Md_init_172 : decode b_Md_init 172 = .ok (.putfield 73, 3) := by decide +kernel
theorem d_Md_init_175 : decode b_Md_init 175 = .ok (.aload_n 0, 1) := by decide +kernel
theorem d_Md_init_176 : decode b_Md_init 176 = .ok (.bipush 20, 2) := by decide +kernel
theorem d_Md_init_178 : decode b_Md_init 178 = .ok (.newarray .char, 2) := by decide +kernel
theorem d_Md_init_180 : decode b_Md_init 180 = .ok (.putfield 76, 3) := by decide +kernel
theorem d_Md_init_183 : decode b_Md_init 183 = .ok (.aload_n 0, 1) := by decide +kernel
theorem d_Md_init_184 : decode b_Md_init 184 = .ok (.sipush 210, 3) := by decide +kernel
theorem d_Md_init_187 : decode b_Md_init 187 = .ok (.newarray .int, 2) := by decide +kernel
theorem d_Md_init_189 : decode b_Md_init 189 = .ok (.putfield 79, 3) := by decide +kernel
theorem d_Md_init_192 : decode b_Md_init 192 = .ok (.aload_n 0, 1) := by decide +kernel
theorem d_Md_init_193 : decode b_Md_init 193 = .ok (.sipush 210, 3) := by decide +kernel
theorem d_Md_init_196 : decode b_Md_init 196 = .ok (.newarray .int, 2) := by decide +kernel
theorem d_Md_init_198 : decode b_Md_init 198 = .ok (.putfield 82, 3) := by decide +kernel
theorem d_Md_init_201 : decode b_Md_init 201 = .ok (.aload_n 0, 1) := by decide +kernel
theorem d_Md_init_202 : decode b_Md_init 202 = .ok (.bipush 20, 2) := by decide +kernel
theorem d_Md_init_204 : decode b_Md_init 204 = .ok (.newarray .char, 2) := by decide +kernel
theorem d_Md_init_206 : decode b_Md_init 206 = .ok (.putfield 85, 3) := by decide +kernel
theorem d_Md_init_209 : decode b_Md_init 209 = .ok (.aload_n 0, 1) := by decide +kernel
theorem d_Md_init_210 : decode b_Md_init 210 = .ok (.bipush 21, 2) := by decide +kernel
theorem d_Md_init_212 : decode b_Md_init 212 = .ok (.newarray .boolean, 2) := by decide +kernel
theorem d_Md_init_214 : decode b_Md_init 214 = .ok (.putfield 88, 3) := by decide +kernel
theorem d_Md_init_217 : decode b_Md_init 217 = .ok (.aload_n 0, 1) := by decide +kernel
theorem d_Md_init_218 : decode b_Md_init 218 = .ok (.bipush 20, 2) := by decide +kernel
theorem d_Md_init_220 : decode b_Md_init 220 = .ok (.newarray .int, 2) := by decide +kernel
theorem d_Md_init_222 : decode b_Md_init 222 = .ok (.putfield 91, 3) := by decide +kernel
theorem d_Md_init_225 : decode b_Md_init 225 = .ok (.aload_n 0, 1) := by decide +kernel
theorem d_Md_init_226 : decode b_Md_init 226 = .ok (.bipush 20, 2) := by decide +kernel
theorem d_Md_init_228 : decode b_Md_init 228 = .ok (.newarray .int, 2) := by decide +kernel
theorem d_Md_init_230 : decode b_Md_init 230 = .ok (.putfield 94, 3) := by decide +kernel
theorem d_Md_init_233 : decode b_Md_init 233 = .ok (.aload_n 0, 1) := by decide +kernel
theorem d_Md_init_234 : decode b_Md_init 234 = .ok (.bipush 20, 2) := by decide +kernel
theorem d_Md_init_236 : decode b_Md_init 236 = .ok (.newarray .int, 2) := by decide +kernel
theorem d_Md_init_238 : decode b_Md_init 238 = .ok (.putfield 97, 3) := by decide +kernel
theorem d_Md_init_241 : decode b_Md_init 241 = .ok (.aload_n 0, 1) := by decide +kernel
theorem d_Md_init_242 : decode b_Md_init 242 = .ok (.bipush 20, 2) := by decide +kernel
theorem d_Md_init_244 : decode b_Md_init 244 = .ok (.newarray .int, 2) := by decide +kernel
theorem d_Md_init_246 : decode b_Md_init 246 = .ok (.putfield 100, 3) := by decide +kernel
theorem d_Md_init_249 : decode b_Md_init 249 = .ok (.aload_n 0, 1) := by decide +kernel
theorem d_Md_init_250 : decode b_Md_init 250 = .ok (.bipush 40, 2) := by decide +kernel
theorem d_Md_init_252 : decode b_Md_init 252 = .ok (.newarray .char, 2) := by decide +kernel
theorem d_Md_init_254 : decode b_Md_init 254 = .ok (.putfield 103, 3) := by decide +kernel
theorem d_Md_init_257 : decode b_Md_init 257 = .ok (.aload_n 0, 1) := by decide +kernel
theorem d_Md_init_258 : decode b_Md_init 258 = .ok (.bipush 20, 2) := by decide +kernel
theorem d_Md_init_260 : decode b_Md_init 260 = .ok (.newarray .char, 2) := by decide +kernel
theorem d_Md_init_262 : decode b_Md_init 262 = .ok (.putfield 106, 3) := by decide +kernel
theorem d_Md_init_265 : decode b_Md_init 265 = .ok (.aload_n 0, 1) := by decide +kernel
theorem d_Md_init_266 : decode b_Md_init 266 = .ok (.bipush 40, 2) := by decide +kernel
theorem d_Md_init_268 : decode b_Md_init 268 = .ok (.newarray .int, 2) := by decide +kernel
theorem d_Md_init_270 : decode b_Md_init 270 = .ok (.putfield 109, 3) := by decide +kernel
theorem d_Md_init_273 : decode b_Md_init 273 = .ok (.iconst 0, 1) := by decide +kernel
theorem d_Md_init_274 : decode b_Md_init 274 = .ok (.istore_n 1, 1) := by decide +kernel
theorem d_Md_init_275 : decode b_Md_init 275 = .ok (.iload_n 1, 1) := by decide +kernel
theorem d_Md_init_276 : decode b_Md_init 276 = .ok (.sipush 208, 3) := by decide +kernel
theorem d_Md_init_279 : decode b_Md_init 279 = .ok (.if_icmp .ge 16, 3) := by decide +kernel
theorem d_Md_init_282 : decode b_Md_init 282 = .ok (.aload_n 0, 1) := by decide +kernel
theorem d_Md_init_283 : decode b_Md_init 283 = .ok (.getfield 13, 3) := by decide +kernel
theorem d_Md_init_286 : decode b_Md_init 286 = .ok (.iload_n 1, 1) := by decide +kernel
theorem d_Md_init_287 : decode b_Md_init 287 = .ok (.iconst (-1), 1) := by decide +kernel
theorem d_Md_init_288 : decode b_Md_init 288 = .ok (.iastore, 1) := by decide +kernel
theorem d_Md_init_289 : decode b_Md_init 289 = .ok (.iinc 1 1, 3) := by decide +kernel
theorem d_Md_init_292 : decode b_Md_init 292 = .ok (.goto (-17), 3) := by decide +kernel
theorem d_Md_init_295 : decode b_Md_init 295 = .ok (.return_, 1) := by decide +kernel
theorem d_Md_at_0 : decode b_Md_at 0 = .ok (.iload_n 1, 1) := by decide +kernel
theorem d_Md_at_1 : decode b_Md_at 1 = .ok (.ifCond .lt 20, 3) := by decide +kernel
theorem d_Md_at_4 : decode b_Md_at 4 = .ok (.iload_n 1, 1) := by decide +kernel
theorem d_Md_at_5 : decode b_Md_at 5 = .ok (.aload_n 0, 1) := by decide +kernel
theorem d_Md_at_6 : decode b_Md_at 6 = .ok (.getfield 135, 3) := by decide +kernel
theorem d_Md_at_9 : decode b_Md_at 9 = .ok (.if_icmp .ge 12, 3) := by decide +kernel
theorem d_Md_at_12 : decode b_Md_at 12 = .ok (.aload_n 0, 1) := by decide +kernel
theorem d_Md_at_13 : decode b_Md_at 13 = .ok (.getfield 76, 3) := by decide +kernel
theorem d_Md_at_16 : decode b_Md_at 16 = .ok (.iload_n 1, 1) := by decide +kernel
theorem d_Md_at_17 : decode b_Md_at 17 = .ok (.caload, 1) := by decide +kernel
theorem d_Md_at_18 : decode b_Md_at 18 = .ok (.goto 4, 3) := by decide +kernel
theorem d_Md_at_21 : decode b_Md_at 21 = .ok (.iconst 0, 1) := by decide +kernel
theorem d_Md_at_22 : decode b_Md_at 22 = .ok (.ireturn, 1) := by decide +kernel
theorem d_Md_between_0 : decode b_Md_between 0 = .ok (.aload_n 0, 1) := by decide +kernel
theorem d_Md_between_1 : decode b_Md_between 1 = .ok (.invokevirtual 180, 3) := by decide +kernel
theorem d_Md_between_4 : decode b_Md_between 4 = .ok (.istore_n 1, 1) := by decide +kernel
theorem d_Md_between_5 : decode b_Md_between 5 = .ok (.aload_n 0, 1) := by decide +kernel
theorem d_Md_between_6 : decode b_Md_between 6 = .ok (.invokevirtual 190, 3) := by decide +kernel
theorem d_Md_between_9 : decode b_Md_between 9 = .ok (.ifCond .ne 31, 3) := by decide +kernel
theorem d_Md_between_12 : decode b_Md_between 12 = .ok (.iload_n 1, 1) := by decide +kernel
theorem d_Md_between_13 : decode b_Md_between 13 = .ok (.bipush 32, 2) := by decide +kernel
theorem d_Md_between_15 : decode b_Md_between 15 = .ok (.if_icmp .ne 19, 3) := by decide +kernel
theorem d_Md_between_18 : decode b_Md_between 18 = .ok (.aload_n 0, 1) := by decide +kernel
theorem d_Md_between_19 : decode b_Md_between 19 = .ok (.getfield 40, 3) := by decide +kernel
theorem d_Md_between_22 : decode b_Md_between 22 = .ok (.aload_n 0, 1) := by decide +kernel
theorem d_Md_between_23 : decode b_Md_between 23 = .ok (.getfield 36, 3) := by decide +kernel
theorem d_Md_between_26 : decode b_Md_between 26 = .ok (.dup2, 1) := by decide +kernel
theorem d_Md_between_27 : decode b_Md_between 27 = .ok (.iaload, 1) := by decide +kernel
theorem d_Md_between_28 : decode b_Md_between 28 = .ok (.iconst 1, 1) := by decide +kernel
theorem d_Md_between_29 : decode b_Md_between 29 = .ok (.iadd, 1) := by decide +kernel
theorem d_Md_between_30 : decode b_Md_between 30 = .ok (.iastore, 1) := by decide +kernel
theorem d_Md_between_31 : decode b_Md_between 31 = .ok (.goto 8, 3) := by decide +kernel
theorem d_Md_between_34 : decode b_Md_between 34 = .ok (.aload_n 0, 1) := by decide +kernel
theorem d_Md_between_35 : decode b_Md_between 35 = .ok (.iload_n 1, 1) := by decide +kernel
theorem d_Md_between_36 : decode b_Md_between 36 = .ok (.invokevirtual 193, 3) := by decide +kernel
theorem d_Md_between_39 : decode b_Md_between 39 = .ok (.return_, 1) := by decide +kernel
theorem d_Md_between_40 : decode b_Md_between 40 = .ok (.aload_n 0, 1) := by decide +kernel
theorem d_Md_between_41 : decode b_Md_between 41 = .ok (.invokevirtual 176, 3) := by decide +kernel
theorem d_Md_between_44 : decode b_Md_between 44 = .ok (.ifCond .eq 24, 3) := by decide +kernel
theorem d_Md_between_47 : decode b_Md_between 47 = .ok (.aload_n 0, 1) := by decide +kernel
theorem d_Md_between_48 : decode b_Md_between 48 = .ok (.getfield 46, 3) := by decide +kernel
theorem d_Md_between_51 : decode b_Md_between 51 = .ok (.aload_n 0, 1) := by decide +kernel
theorem d_Md_between_52 : decode b_Md_between 52 = .ok (.getfield 36, 3) := by decide +kernel
theorem d_Md_between_55 : decode b_Md_between 55 = .ok (.iaload, 1) := by decide +kernel
theorem d_Md_between_56 : decode b_Md_between 56 = .ok (.iconst 1, 1) := by decide +kernel
theorem d_Md_between_57 : decode b_Md_between 57 = .ok (.if_icmp .ne 11, 3) := by decide +kernel
theorem d_Md_between_60 : decode b_Md_between 60 = .ok (.aload_n 0, 1) := by decide +kernel
theorem d_Md_between_61 : decode b_Md_between 61 = .ok (.iconst 1, 1) := by decide +kernel
theorem d_Md_between_62 : decode b_Md_between 62 = .ok (.invokevirtual 166, 3) := by decide +kernel
theorem d_Md_between_65 : decode b_Md_between 65 = .ok (.goto 123, 3) := by decide +kernel
theorem d_Md_between_68 : decode b_Md_between 68 = .ok (.aload_n 0, 1) := by decide +kernel
theorem d_Md_between_69 : decode b_Md_between 69 = .ok (.getfield 55, 3) := by decide +kernel
theorem d_Md_between_72 : decode b_Md_between 72 = .ok (.aload_n 0, 1) := by decide +kernel
theorem d_Md_between_73 : decode b_Md_between 73 = .ok (.getfield 36, 3) := by decide +kernel
theorem d_Md_between_76 : decode b_Md_between 76 = .ok (.iaload, 1) := by decide +kernel
theorem d_Md_between_77 : decode b_Md_between 77 = .ok (.ifCond .le 10, 3) := by decide +kernel
theorem d_Md_between_80 : decode b_Md_between 80 = .ok (.aload_n 0, 1) := by decide +kernel
theorem d_Md_between_81 : decode b_Md_between 81 = .ok (.invokevirtual 196, 3) := by decide +kernel
theorem d_Md_between_84 : decode b_Md_between 84 = .ok (.goto 104, 3) := by decide +kernel
theorem d_Md_between_87 : decode b_Md_between 87 = .ok (.aload_n 0, 1) := by decide +kernel
theorem d_Md_between_88 : decode b_Md_between 88 = .ok (.invokevirtual 176, 3) := by decide +kernel
theorem d_Md_between_91 : decode b_Md_between 91 = .ok (.ifCond .ne 9, 3) := by decide +kernel
theorem d_Md_between_94 : decode b_Md_between 94 = .ok (.iload_n 1, 1) := by decide +kernel
theorem d_Md_between_95 : decode b_Md_between 95 = .ok (.bipush 93, 2) := by decide +kernel
theorem d_Md_between_97 : decode b_Md_between 97 = .ok (.if_icmp .ne 78, 3) := by decide +kernel
theorem d_Md_between_100 : decode b_Md_between 100 = .ok (.aload_n 0, 1) := by decide +kernel
theorem d_Md_between_101 : decode b_Md_between 101 = .ok (.getfield 40, 3) := by decide +kernel
theorem d_Md_between_104 : decode b_Md_between 104 = .ok (.aload_n 0, 1) := by decide +kernel
theorem d_Md_between_105 : decode b_Md_between 105 = .ok (.getfield 36, 3) := by decide +kernel
theorem d_Md_between_108 : decode b_Md_between 108 = .ok (.dup2, 1) := by decide +kernel
theorem d_Md_between_109 : decode b_Md_between 109 = .ok (.iaload, 1) := by decide +kernel
theorem d_Md_between_110 : decode b_Md_between 110 = .ok (.iconst 1, 1) := by decide +kernel
theorem d_Md_between_111 : decode b_Md_between 111 = .ok (.iadd, 1) := by decide +kernel
theorem d_Md_between_112 : decode b_Md_between 112 = .ok (.iastore, 1) := by decide +kernel
theorem d_Md_between_113 : decode b_Md_between 113 = .ok (.aload_n 0, 1) := by decide +kernel
theorem d_Md_between_114 : decode b_Md_between 114 = .ok (.iconst 0, 1) := by decide +kernel
theorem d_Md_between_115 : decode b_Md_between 115 = .ok (.putfield 149, 3) := by decide +kernel
theorem d_Md_between_118 : decode b_Md_between 118 = .ok (.aload_n 0, 1) := by decide +kernel
theorem d_Md_between_119 : decode b_Md_between 119 = .ok (.aload_n 0, 1) := by decide +kernel
theorem d_Md_between_120 : decode b_Md_between 120 = .ok (.getfield 58, 3) := by decide +kernel
theorem d_Md_between_123 : decode b_Md_between 123 = .ok (.aload_n 0, 1) := by decide +kernel
theorem d_Md_between_124 : decode b_Md_between 124 = .ok (.getfield 36, 3) := by decide +kernel
theorem d_Md_between_127 : decode b_Md_between 127 = .ok (.iaload, 1) := by decide +kernel
theorem d_Md_between_128 : decode b_Md_between 128 = .ok (.putfield 135, 3) := by decide +kernel
theorem d_Md_between_131 : decode b_Md_between 131 = .ok (.iconst 0, 1) := by decide +kernel
theorem d_Md_between_132 : decode b_Md_between 132 = .ok (.istore_n 2, 1) := by decide +kernel
theorem d_Md_between_133 : decode b_Md_between 133 = .ok (.iload_n 2, 1) := by decide +kernel
theorem d_Md_between_134 : decode b_Md_between 134 = .ok (.aload_n 0, 1) := by decide +kernel
theorem d_Md_between_135 : decode b_Md_between 135 = .ok (.getfield 135, 3) := by decide +kernel
theorem d_Md_between_138 : decode b_Md_between 138 = .ok (.if_icmp .ge 29, 3) := by decide +kernel
theorem d_Md_between_141 : decode b_Md_between 141 = .ok (.aload_n 0, 1) := by decide +kernel
theorem d_Md_between_142 : decode b_Md_between 142 = .ok (.getfield 76, 3) := by decide +kernel
theorem d_Md_between_145 : decode b_Md_between 145 = .ok (.iload_n 2, 1) := by decide +kernel
theorem d_Md_between_146 : decode b_Md_between 146 = .ok (.aload_n 0, 1) := by decide +kernel
theorem d_Md_between_147 : decode b_Md_between 147 = .ok (.getfield 61, 3) := by decide +kernel
theorem d_Md_between_150 : decode b_Md_between 150 = .ok (.bipush 20, 2) := by decide +kernel
theorem d_Md_between_152 : decode b_Md_between 152 = .ok (.aload_n 0, 1) := by decide +kernel
theorem d_Md_between_153 : decode b_Md_between 153 = .ok (.getfield 36, 3) := by decide +kernel
theorem d_Md_between_156 : decode b_Md_between 156 = .ok (.imul, 1) := by decide +kernel
theorem d_Md_between_157 : decode b_Md_between 157 = .ok (.iload_n 2, 1) := by decide +kernel
theorem d_Md_between_158 : decode b_Md_between 158 = .ok (.iadd, 1) := by decide +kernel
theorem d_Md_between_159 : decode b_Md_between 159 = .ok (.caload, 1) := by decide +kernel
theorem d_Md_between_160 : decode b_Md_between 160 = .ok (.castore, 1) := by decide +kernel
theorem d_Md_between_161 : decode b_Md_between 161 = .ok (.iinc 2 1, 3) := by decide +kernel
theorem d_Md_between_164 : decode b_Md_between 164 = .ok (.goto (-31), 3) := by decide +kernel
theorem d_Md_between_167 : decode b_Md_between 167 = .ok (.aload_n 0, 1) := by decide +kernel
theorem d_Md_between_168 : decode b_Md_between 168 = .ok (.iconst 2, 1) := by decide +kernel
theorem d_Md_between_169 : decode b_Md_between 169 = .ok (.putfield 152, 3) := by decide +kernel
theorem d_Md_between_172 : decode b_Md_between 172 = .ok (.goto 16, 3) := by decide +kernel
theorem d_Md_between_175 : decode b_Md_between 175 = .ok (.aload_n 0, 1) := by decide +kernel
theorem d_Md_between_176 : decode b_Md_between 176 = .ok (.getfield 40, 3) := by decide +kernel
theorem d_Md_between_179 : decode b_Md_between 179 = .ok (.aload_n 0, 1) := by decide +kernel
theorem d_Md_between_180 : decode b_Md_between 180 = .ok (.getfield 36, 3) := by decide +kernel
theorem d_Md_between_183 : decode b_Md_between 183 = .ok (.dup2, 1) := by decide +kernel
theorem d_Md_between_184 : decode b_Md_between 184 = .ok (.iaload, 1) := by decide +kernel
theorem d_Md_between_185 : decode b_Md_between 185 = .ok (.iconst 1, 1) := by decide +kernel
theorem d_Md_between_186 : decode b_Md_between 186 = .ok (.iadd, 1) := by decide +kernel
theorem d_Md_between_187 : decode b_Md_between 187 = .ok (.iastore, 1) := by decide +kernel
theorem d_Md_between_188 : decode b_Md_between 188 = .ok (.return_, 1) := by decide +kernel
theorem d_Md_buffered_0 : decode b_Md_buffered 0 = .ok (.aload_n 0, 1) := by decide +kernel
theorem d_Md_buffered_1 : decode b_Md_buffered 1 = .ok (.getfield 132, 3) := by decide +kernel
theorem d_Md_buffered_4 : decode b_Md_buffered 4 = .ok (.ireturn, 1) := by decide +kernel
theorem d_Md_closes_0 : decode b_Md_closes 0 = .ok (.aload_n 0, 1) := by decide +kernel
theorem d_Md_closes_1 : decode b_Md_closes 1 = .ok (.invokevirtual 176, 3) := by decide +kernel
theorem d_Md_closes_4 : decode b_Md_closes 4 = .ok (.ifCond .ne 43, 3) := by decide +kernel
theorem d_Md_closes_7 : decode b_Md_closes 7 = .ok (.aload_n 0, 1) := by decide +kernel
theorem d_Md_closes_8 : decode b_Md_closes 8 = .ok (.invokevirtual 180, 3) := by decide +kernel
theorem d_Md_closes_11 : decode b_Md_closes 11 = .ok (.bipush 10, 2) := by decide +kernel
theorem d_Md_closes_13 : decode b_Md_closes 13 = .ok (.if_icmp .eq 34, 3) := by decide +kernel
theorem d_Md_closes_16 : decode b_Md_closes 16 = .ok (.aload_n 0, 1) := by decide +kernel
theorem d_Md_closes_17 : decode b_Md_closes 17 = .ok (.invokevirtual 180, 3) := by decide +kernel
theorem d_Md_closes_20 : decode b_Md_closes 20 = .ok (.bipush 59, 2) := by decide +kernel
theorem d_Md_closes_22 : decode b_Md_closes 22 = .ok (.if_icmp .eq 25, 3) := by decide +kernel
theorem d_Md_closes_25 : decode b_Md_closes 25 = .ok (.aload_n 0, 1) := by decide +kernel
theorem d_Md_closes_26 : decode b_Md_closes 26 = .ok (.getfield 46, 3) := by decide +kernel
theorem d_Md_closes_29 : decode b_Md_closes 29 = .ok (.aload_n 0, 1) := by decide +kernel
theorem d_Md_closes_30 : decode b_Md_closes 30 = .ok (.getfield 36, 3) := by decide +kernel
theorem d_Md_closes_33 : decode b_Md_closes 33 = .ok (.iaload, 1) := by decide +kernel
theorem d_Md_closes_34 : decode b_Md_closes 34 = .ok (.iconst 1, 1) := by decide +kernel
theorem d_Md_closes_35 : decode b_Md_closes 35 = .ok (.if_icmp .ne 16, 3) := by decide +kernel
theorem d_Md_closes_38 : decode b_Md_closes 38 = .ok (.aload_n 0, 1) := by decide +kernel
theorem d_Md_closes_39 : decode b_Md_closes 39 = .ok (.invokevirtual 180, 3) := by decide +kernel
theorem d_Md_closes_42 : decode b_Md_closes 42 = .ok (.bipush 93, 2) := by decide +kernel
theorem d_Md_closes_44 : decode b_Md_closes 44 = .ok (.if_icmp .ne 7, 3) := by decide +kernel
theorem d_Md_closes_47 : decode b_Md_closes 47 = .ok (.iconst 1, 1) := by decide +kernel
theorem d_Md_closes_48 : decode b_Md_closes 48 = .ok (.goto 4, 3) := by decide +kernel
theorem d_Md_closes_51 : decode b_Md_closes 51 = .ok (.iconst 0, 1) := by decide +kernel
theorem d_Md_closes_52 : decode b_Md_closes 52 = .ok (.ireturn, 1) := by decide +kernel
theorem d_Md_defined_0 : decode b_Md_defined 0 = .ok (.iload_n 1, 1) := by decide +kernel
theorem d_Md_defined_1 : decode b_Md_defined 1 = .ok (.iconst 0, 1) := by decide +kernel
theorem d_Md_defined_2 : decode b_Md_defined 2 = .ok (.bipush 25, 2) := by decide +kernel
theorem d_Md_defined_4 : decode b_Md_defined 4 = .ok (.invokestatic 119, 3) := by decide +kernel
theorem d_Md_defined_7 : decode b_Md_defined 7 = .ok (.ifCond .ne 16, 3) := by decide +kernel
theorem d_Md_defined_10 : decode b_Md_defined 10 = .ok (.aload_n 0, 1) := by decide +kernel
theorem d_Md_defined_11 : decode b_Md_defined 11 = .ok (.getfield 24, 3) := by decide +kernel
theorem d_Md_defined_14 : decode b_Md_defined 14 = .ok (.iload_n 1, 1) := by decide +kernel
theorem d_Md_defined_15 : decode b_Md_defined 15 = .ok (.baload, 1) := by decide +kernel
theorem d_Md_defined_16 : decode b_Md_defined 16 = .ok (.ifCond .eq 7, 3) := by decide +kernel
theorem d_Md_defined_19 : decode b_Md_defined 19 = .ok (.iconst 1, 1) := by decide +kernel
theorem d_Md_defined_20 : decode b_Md_defined 20 = .ok (.goto 4, 3) := by decide +kernel
theorem d_Md_defined_23 : decode b_Md_defined 23 = .ok (.iconst 0, 1) := by decide +kernel
theorem d_Md_defined_24 : decode b_Md_defined 24 = .ok (.ireturn, 1) := by decide +kernel
theorem d_Md_enter_0 : decode b_Md_enter 0 = .ok (.aload_n 0, 1) := by decide +kernel
theorem d_Md_enter_1 : decode b_Md_enter 1 = .ok (.getfield 36, 3) := by decide +kernel
theorem d_Md_enter_4 : decode b_Md_enter 4 = .ok (.bipush 7, 2) := by decide +kernel
theorem d_Md_enter_6 : decode b_Md_enter 6 = .ok (.if_icmp .lt 20, 3) := by decide +kernel
theorem d_Md_enter_9 : decode b_Md_enter 9 = .ok (.aload_n 0, 1) := by decide +kernel
theorem d_Md_enter_10 : decode b_Md_enter 10 = .ok (.bipush 8, 2) := by decide +kernel
theorem d_Md_enter_12 : decode b_Md_enter 12 = .ok (.invokevirtual 166, 3) := by decide +kernel
theorem d_Md_enter_15 : decode b_Md_enter 15 = .ok (.iload_n 3, 1) := by decide +kernel
theorem d_Md_enter_16 : decode b_Md_enter 16 = .ok (.iconst 5, 1) := by decide +kernel
theorem d_Md_enter_17 : decode b_Md_enter 17 = .ok (.if_icmp .ne 7, 3) := by decide +kernel
theorem d_Md_enter_20 : decode b_Md_enter 20 = .ok (.aload_n 0, 1) := by decide +kernel
theorem d_Md_enter_21 : decode b_Md_enter 21 = .ok (.invokevirtual 170, 3) := by decide +kernel
theorem d_Md_enter_24 : decode b_Md_enter 24 = .ok (.iconst 0, 1) := by decide +kernel
theorem d_Md_enter_25 : decode b_Md_enter 25 = .ok (.ireturn, 1) := by decide +kernel
theorem d_Md_enter_26 : decode b_Md_enter 26 = .ok (.aload_n 0, 1) := by decide +kernel
theorem d_Md_enter_27 : decode b_Md_enter 27 = .ok (.getfield 36, 3) := by decide +kernel
theorem d_Md_enter_30 : decode b_Md_enter 30 = .ok (.ifCond .ge 7, 3) := by decide +kernel
theorem d_Md_enter_33 : decode b_Md_enter 33 = .ok (.iconst 0, 1) := by decide +kernel
theorem d_Md_enter_34 : decode b_Md_enter 34 = .ok (.goto 12, 3) := by decide +kernel
theorem d_Md_enter_37 : decode b_Md_enter 37 = .ok (.aload_n 0, 1) := by decide +kernel
theorem d_Md_enter_38 : decode b_Md_enter 38 = .ok (.getfield 49, 3) := by decide +kernel
theorem d_Md_enter_41 : decode b_Md_enter 41 = .ok (.aload_n 0, 1) := by decide +kernel
theorem d_Md_enter_42 : decode b_Md_enter 42 = .ok (.getfield 36, 3) := by decide +kernel
theorem d_Md_enter_45 : decode b_Md_enter 45 = .ok (.iaload, 1) := by decide +kernel
theorem d_Md_enter_46 : decode b_Md_enter 46 = .ok (.istore 4, 2) := by decide +kernel
theorem d_Md_enter_48 : decode b_Md_enter 48 = .ok (.aload_n 0, 1) := by decide +kernel
theorem d_Md_enter_49 : decode b_Md_enter 49 = .ok (.dup, 1) := by decide +kernel
theorem d_Md_enter_50 : decode b_Md_enter 50 = .ok (.getfield 36, 3) := by decide +kernel
theorem d_Md_enter_53 : decode b_Md_enter 53 = .ok (.iconst 1, 1) := by decide +kernel
theorem d_Md_enter_54 : decode b_Md_enter 54 = .ok (.iadd, 1) := by decide +kernel
theorem d_Md_enter_55 : decode b_Md_enter 55 = .ok (.putfield 36, 3) := by decide +kernel
theorem d_Md_enter_58 : decode b_Md_enter 58 = .ok (.aload_n 0, 1) := by decide +kernel
theorem d_Md_enter_59 : decode b_Md_enter 59 = .ok (.getfield 40, 3) := by decide +kernel
theorem d_Md_enter_62 : decode b_Md_enter 62 = .ok (.aload_n 0, 1) := by decide +kernel
theorem d_Md_enter_63 : decode b_Md_enter 63 = .ok (.getfield 36, 3) := by decide +kernel
theorem d_Md_enter_66 : decode b_Md_enter 66 = .ok (.iload_n 1, 1) := by decide +kernel
theorem d_Md_enter_67 : decode b_Md_enter 67 = .ok (.iastore, 1) := by decide +kernel
theorem d_Md_enter_68 : decode b_Md_enter 68 = .ok (.aload_n 0, 1) := by decide +kernel
theorem d_Md_enter_69 : decode b_Md_enter 69 = .ok (.getfield 43, 3) := by decide +kernel
theorem d_Md_enter_72 : decode b_Md_enter 72 = .ok (.aload_n 0, 1) := by decide +kernel
theorem d_Md_enter_73 : decode b_Md_enter 73 = .ok (.getfield 36, 3) := by decide +kernel
theorem d_Md_enter_76 : decode b_Md_enter 76 = .ok (.iload_n 2, 1) := by decide +kernel
theorem d_Md_enter_77 : decode b_Md_enter 77 = .ok (.iastore, 1) := by decide +kernel
theorem d_Md_enter_78 : decode b_Md_enter 78 = .ok (.aload_n 0, 1) := by decide +kernel
theorem d_Md_enter_79 : decode b_Md_enter 79 = .ok (.getfield 46, 3) := by decide +kernel
theorem d_Md_enter_82 : decode b_Md_enter 82 = .ok (.aload_n 0, 1) := by decide +kernel
theorem d_Md_enter_83 : decode b_Md_enter 83 = .ok (.getfield 36, 3) := by decide +kernel
theorem d_Md_enter_86 : decode b_Md_enter 86 = .ok (.iload_n 3, 1) := by decide +kernel
theorem d_Md_enter_87 : decode b_Md_enter 87 = .ok (.iastore, 1) := by decide +kernel
theorem d_Md_enter_88 : decode b_Md_enter 88 = .ok (.aload_n 0, 1) := by decide +kernel
theorem d_Md_enter_89 : decode b_Md_enter 89 = .ok (.getfield 49, 3) := by decide +kernel
theorem d_Md_enter_92 : decode b_Md_enter 92 = .ok (.aload_n 0, 1) := by decide +kernel
theorem d_Md_enter_93 : decode b_Md_enter 93 = .ok (.getfield 36, 3) := by decide +kernel
theorem d_Md_enter_96 : decode b_Md_enter 96 = .ok (.iload 4, 2) := by decide +kernel
theorem d_Md_enter_98 : decode b_Md_enter 98 = .ok (.iastore, 1) := by decide +kernel
theorem d_Md_enter_99 : decode b_Md_enter 99 = .ok (.aload_n 0, 1) := by decide +kernel
theorem d_Md_enter_100 : decode b_Md_enter 100 = .ok (.getfield 52, 3) := by decide +kernel
theorem d_Md_enter_103 : decode b_Md_enter 103 = .ok (.aload_n 0, 1) := by decide +kernel
theorem d_Md_enter_104 : decode b_Md_enter 104 = .ok (.getfield 36, 3) := by decide +kernel
theorem d_Md_enter_107 : decode b_Md_enter 107 = .ok (.iconst 0, 1) := by decide +kernel
theorem d_Md_enter_108 : decode b_Md_enter 108 = .ok (.iastore, 1) := by decide +kernel
theorem d_Md_enter_109 : decode b_Md_enter 109 = .ok (.aload_n 0, 1) := by decide +kernel
theorem d_Md_enter_110 : decode b_Md_enter 110 = .ok (.getfield 55, 3) := by decide +kernel
theorem d_Md_enter_113 : decode b_Md_enter 113 = .ok (.aload_n 0, 1) := by decide +kernel
theorem d_Md_enter_114 : decode b_Md_enter 114 = .ok (.getfield 36, 3) := by decide +kernel
theorem d_Md_enter_117 : decode b_Md_enter 117 = .ok (.iconst 0, 1) := by decide +kernel
theorem d_Md_enter_118 : decode b_Md_enter 118 = .ok (.iastore, 1) := by decide +kernel
theorem d_Md_enter_119 : decode b_Md_enter 119 = .ok (.aload_n 0, 1) := by decide +kernel
theorem d_Md_enter_120 : decode b_Md_enter 120 = .ok (.getfield 58, 3) := by decide +kernel
theorem d_Md_enter_123 : decode b_Md_enter 123 = .ok (.aload_n 0, 1) := by decide +kernel
theorem d_Md_enter_124 : decode b_Md_enter 124 = .ok (.getfield 36, 3) := by decide +kernel
theorem d_Md_enter_127 : decode b_Md_enter 127 = .ok (.iconst 0, 1) := by decide +kernel
theorem d_Md_enter_128 : decode b_Md_enter 128 = .ok (.iastore, 1) := by decide +kernel
theorem d_Md_enter_129 : decode b_Md_enter 129 = .ok (.aload_n 0, 1) := by decide +kernel
theorem d_Md_enter_130 : decode b_Md_enter 130 = .ok (.iconst 0, 1) := by decide +kernel
theorem d_Md_enter_131 : decode b_Md_enter 131 = .ok (.putfield 152, 3) := by decide +kernel
theorem d_Md_enter_134 : decode b_Md_enter 134 = .ok (.iconst 1, 1) := by decide +kernel
theorem d_Md_enter_135 : decode b_Md_enter 135 = .ok (.ireturn, 1) := by decide +kernel
theorem d_Md_here_0 : decode b_Md_here 0 = .ok (.aload_n 0, 1) := by decide +kernel
theorem d_Md_here_1 : decode b_Md_here 1 = .ok (.invokevirtual 176, 3) := by decide +kernel
theorem d_Md_here_4 : decode b_Md_here 4 = .ok (.ifCond .eq 7, 3) := by decide +kernel
theorem d_Md_here_7 : decode b_Md_here 7 = .ok (.iconst 0, 1) := by decide +kernel
theorem d_Md_here_8 : decode b_Md_here 8 = .ok (.goto 17, 3) := by decide +kernel
theorem d_Md_here_11 : decode b_Md_here 11 = .ok (.aload_n 0, 1) := by decide +kernel
theorem d_Md_here_12 : decode b_Md_here 12 = .ok (.getfield 7, 3) := by decide +kernel
theorem d_Md_here_15 : decode b_Md_here 15 = .ok (.aload_n 0, 1) := by decide +kernel
theorem d_Md_here_16 : decode b_Md_here 16 = .ok (.getfield 40, 3) := by decide +kernel
theorem d_Md_here_19 : decode b_Md_here 19 = .ok (.aload_n 0, 1) := by decide +kernel
theorem d_Md_here_20 : decode b_Md_here 20 = .ok (.getfield 36, 3) := by decide +kernel
theorem d_Md_here_23 : decode b_Md_here 23 = .ok (.iaload, 1) := by decide +kernel
theorem d_Md_here_24 : decode b_Md_here 24 = .ok (.caload, 1) := by decide +kernel
theorem d_Md_here_25 : decode b_Md_here 25 = .ok (.ireturn, 1) := by decide +kernel
theorem d_Md_length_0 : decode b_Md_length 0 = .ok (.aload_n 0, 1) := by decide +kernel
theorem d_Md_length_1 : decode b_Md_length 1 = .ok (.getfield 135, 3) := by decide +kernel
theorem d_Md_length_4 : decode b_Md_length 4 = .ok (.ireturn, 1) := by decide +kernel
theorem d_Md_letter_0 : decode b_Md_letter 0 = .ok (.aload_n 0, 1) := by decide +kernel
theorem d_Md_letter_1 : decode b_Md_letter 1 = .ok (.iload_n 1, 1) := by decide +kernel
theorem d_Md_letter_2 : decode b_Md_letter 2 = .ok (.invokevirtual 393, 3) := by decide +kernel
theorem d_Md_letter_5 : decode b_Md_letter 5 = .ok (.iload_n 2, 1) := by decide +kernel
theorem d_Md_letter_6 : decode b_Md_letter 6 = .ok (.if_icmp .le 21, 3) := by decide +kernel
theorem d_Md_letter_9 : decode b_Md_letter 9 = .ok (.iload_n 2, 1) := by decide +kernel
theorem d_Md_letter_10 : decode b_Md_letter 10 = .ok (.ifCond .lt 17, 3) := by decide +kernel
theorem d_Md_letter_13 : decode b_Md_letter 13 = .ok (.aload_n 0, 1) := by decide +kernel
theorem d_Md_letter_14 : decode b_Md_letter 14 = .ok (.getfield 17, 3) := by decide +kernel
theorem d_Md_letter_17 : decode b_Md_letter 17 = .ok (.bipush 20, 2) := by decide +kernel
theorem d_Md_letter_19 : decode b_Md_letter 19 = .ok (.iload_n 1, 1) := by decide +kernel
theorem d_Md_letter_20 : decode b_Md_letter 20 = .ok (.imul, 1) := by decide +kernel
theorem d_Md_letter_21 : decode b_Md_letter 21 = .ok (.iload_n 2, 1) := by decide +kernel
theorem d_Md_letter_22 : decode b_Md_letter 22 = .ok (.iadd, 1) := by decide +kernel
theorem d_Md_letter_23 : decode b_Md_letter 23 = .ok (.caload, 1) := by decide +kernel
theorem d_Md_letter_24 : decode b_Md_letter 24 = .ok (.goto 4, 3) := by decide +kernel
theorem d_Md_letter_27 : decode b_Md_letter 27 = .ok (.iconst 0, 1) := by decide +kernel
theorem d_Md_letter_28 : decode b_Md_letter 28 = .ok (.ireturn, 1) := by decide +kernel
theorem d_Md_outside_0 : decode b_Md_outside 0 = .ok (.iload_n 0, 1) := by decide +kernel
theorem d_Md_outside_1 : decode b_Md_outside 1 = .ok (.iload_n 1, 1) := by decide +kernel
theorem d_Md_outside_2 : decode b_Md_outside 2 = .ok (.if_icmp .lt 8, 3) := by decide +kernel
theorem d_Md_outside_5 : decode b_Md_outside 5 = .ok (.iload_n 0, 1) := by decide +kernel
theorem d_Md_outside_6 : decode b_Md_outside 6 = .ok (.iload_n 2, 1) := by decide +kernel
theorem d_Md_outside_7 : decode b_Md_outside 7 = .ok (.if_icmp .le 7, 3) := by decide +kernel
theorem d_Md_outside_10 : decode b_Md_outside 10 = .ok (.iconst 1, 1) := by decide +kernel
theorem d_Md_outside_11 : decode b_Md_outside 11 = .ok (.goto 4, 3) := by decide +kernel
theorem d_Md_outside_14 : decode b_Md_outside 14 = .ok (.iconst 0, 1) := by decide +kernel
theorem d_Md_outside_15 : decode b_Md_outside 15 = .ok (.ireturn, 1) := by decide +kernel
theorem d_Md_over_0 : decode b_Md_over 0 = .ok (.aload_n 0, 1) := by decide +kernel
theorem d_Md_over_1 : decode b_Md_over 1 = .ok (.getfield 40, 3) := by decide +kernel
theorem d_Md_over_4 : decode b_Md_over 4 = .ok (.aload_n 0, 1) := by decide +kernel
theorem d_Md_over_5 : decode b_Md_over 5 = .ok (.getfield 36, 3) := by decide +kernel
theorem d_Md_over_8 : decode b_Md_over 8 = .ok (.iaload, 1) := by decide +kernel
theorem d_Md_over_9 : decode b_Md_over 9 = .ok (.aload_n 0, 1) := by decide +kernel
theorem d_Md_over_10 : decode b_Md_over 10 = .ok (.getfield 43, 3) := by decide +kernel
theorem d_Md_over_13 : decode b_Md_over 13 = .ok (.aload_n 0, 1) := by decide +kernel
theorem d_Md_over_14 : decode b_Md_over 14 = .ok (.getfield 36, 3) := by decide +kernel
theorem d_Md_over_17 : decode b_Md_over 17 = .ok (.iaload, 1) := by decide +kernel
theorem d_Md_over_18 : decode b_Md_over 18 = .ok (.if_icmp .lt 7, 3) := by decide +kernel
theorem d_Md_over_21 : decode b_Md_over 21 = .ok (.iconst 1, 1) := by decide +kernel
theorem d_Md_over_22 : decode b_Md_over 22 = .ok (.goto 4, 3) := by decide +kernel
theorem d_Md_over_25 : decode b_Md_over 25 = .ok (.iconst 0, 1) := by decide +kernel
theorem d_Md_over_26 : decode b_Md_over 26 = .ok (.ireturn, 1) := by decide +kernel
theorem d_Md_peer_0 : decode b_Md_peer 0 = .ok (.aload_n 0, 1) := by decide +kernel
theorem d_Md_peer_1 : decode b_Md_peer 1 = .ok (.getfield 126, 3) := by decide +kernel
theorem d_Md_peer_4 : decode b_Md_peer 4 = .ok (.ireturn, 1) := by decide +kernel
theorem d_Md_pending_0 : decode b_Md_pending 0 = .ok (.aload_n 0, 1) := by decide +kernel
theorem d_Md_pending_1 : decode b_Md_pending 1 = .ok (.getfield 129, 3) := by decide +kernel
theorem d_Md_pending_4 : decode b_Md_pending 4 = .ok (.ireturn, 1) := by decide +kernel
theorem d_Md_put_0 : decode b_Md_put 0 = .ok (.iload_n 1, 1) := by decide +kernel
theorem d_Md_put_1 : decode b_Md_put 1 = .ok (.bipush 10, 2) := by decide +kernel
theorem d_Md_put_3 : decode b_Md_put 3 = .ok (.if_icmp .eq 15, 3) := by decide +kernel
theorem d_Md_put_6 : decode b_Md_put 6 = .ok (.iload_n 1, 1) := by decide +kernel
theorem d_Md_put_7 : decode b_Md_put 7 = .ok (.bipush 32, 2) := by decide +kernel
theorem d_Md_put_9 : decode b_Md_put 9 = .ok (.if_icmp .lt 26, 3) := by decide +kernel
theorem d_Md_put_12 : decode b_Md_put 12 = .ok (.iload_n 1, 1) := by decide +kernel
theorem d_Md_put_13 : decode b_Md_put 13 = .ok (.bipush 126, 2) := by decide +kernel
theorem d_Md_put_15 : decode b_Md_put 15 = .ok (.if_icmp .gt 20, 3) := by decide +kernel
theorem d_Md_put_18 : decode b_Md_put 18 = .ok (.aload_n 0, 1) := by decide +kernel
theorem d_Md_put_19 : decode b_Md_put 19 = .ok (.getfield 112, 3) := by decide +kernel
theorem d_Md_put_22 : decode b_Md_put 22 = .ok (.sipush 200, 3) := by decide +kernel
theorem d_Md_put_25 : decode b_Md_put 25 = .ok (.if_icmp .ge 10, 3) := by decide +kernel
theorem d_Md_put_28 : decode b_Md_put 28 = .ok (.aload_n 0, 1) := by decide +kernel
theorem d_Md_put_29 : decode b_Md_put 29 = .ok (.getfield 115, 3) := by decide +kernel
theorem d_Md_put_32 : decode b_Md_put 32 = .ok (.ifCond .eq 5, 3) := by decide +kernel
theorem d_Md_put_35 : decode b_Md_put 35 = .ok (.iconst 0, 1) := by decide +kernel
theorem d_Md_put_36 : decode b_Md_put 36 = .ok (.ireturn, 1) := by decide +kernel
theorem d_Md_put_37 : decode b_Md_put 37 = .ok (.aload_n 0, 1) := by decide +kernel
theorem d_Md_put_38 : decode b_Md_put 38 = .ok (.getfield 7, 3) := by decide +kernel
theorem d_Md_put_41 : decode b_Md_put 41 = .ok (.aload_n 0, 1) := by decide +kernel
theorem d_Md_put_42 : decode b_Md_put 42 = .ok (.getfield 112, 3) := by decide +kernel
theorem d_Md_put_45 : decode b_Md_put 45 = .ok (.iload_n 1, 1) := by decide +kernel
theorem d_Md_put_46 : decode b_Md_put 46 = .ok (.castore, 1) := by decide +kernel
theorem d_Md_put_47 : decode b_Md_put 47 = .ok (.aload_n 0, 1) := by decide +kernel
theorem d_Md_put_48 : decode b_Md_put 48 = .ok (.dup, 1) := by decide +kernel
theorem d_Md_put_49 : decode b_Md_put 49 = .ok (.getfield 112, 3) := by decide +kernel
theorem d_Md_put_52 : decode b_Md_put 52 = .ok (.iconst 1, 1) := by decide +kernel
theorem d_Md_put_53 : decode b_Md_put 53 = .ok (.iadd, 1) := by decide +kernel
theorem d_Md_put_54 : decode b_Md_put 54 = .ok (.putfield 112, 3) := by decide +kernel
theorem d_Md_put_57 : decode b_Md_put 57 = .ok (.iconst 1, 1) := by decide +kernel
theorem d_Md_put_58 : decode b_Md_put 58 = .ok (.ireturn, 1) := by decide +kernel
theorem d_Md_read_0 : decode b_Md_read 0 = .ok (.aload_n 0, 1) := by decide +kernel
theorem d_Md_read_1 : decode b_Md_read 1 = .ok (.getfield 52, 3) := by decide +kernel
theorem d_Md_read_4 : decode b_Md_read 4 = .ok (.aload_n 0, 1) := by decide +kernel
theorem d_Md_read_5 : decode b_Md_read 5 = .ok (.getfield 36, 3) := by decide +kernel
theorem d_Md_read_8 : decode b_Md_read 8 = .ok (.iaload, 1) := by decide +kernel
theorem d_Md_read_9 : decode b_Md_read 9 = .ok (.ifCond .ne 10, 3) := by decide +kernel
theorem d_Md_read_12 : decode b_Md_read 12 = .ok (.aload_n 0, 1) := by decide +kernel
theorem d_Md_read_13 : decode b_Md_read 13 = .ok (.invokevirtual 184, 3) := by decide +kernel
theorem d_Md_read_16 : decode b_Md_read 16 = .ok (.goto 7, 3) := by decide +kernel
theorem d_Md_read_19 : decode b_Md_read 19 = .ok (.aload_n 0, 1) := by decide +kernel
theorem d_Md_read_20 : decode b_Md_read 20 = .ok (.invokevirtual 187, 3) := by decide +kernel
theorem d_Md_read_23 : decode b_Md_read 23 = .ok (.return_, 1) := by decide +kernel
theorem d_Md_reset_0 : decode b_Md_reset 0 = .ok (.aload_n 0, 1) := by decide +kernel
theorem d_Md_reset_1 : decode b_Md_reset 1 = .ok (.iconst 0, 1) := by decide +kernel
theorem d_Md_reset_2 : decode b_Md_reset 2 = .ok (.putfield 123, 3) := by decide +kernel
theorem d_Md_reset_5 : decode b_Md_reset 5 = .ok (.aload_n 0, 1) := by decide +kernel
theorem d_Md_reset_6 : decode b_Md_reset 6 = .ok (.iconst 0, 1) := by decide +kernel
theorem d_Md_reset_7 : decode b_Md_reset 7 = .ok (.putfield 126, 3) := by decide +kernel
theorem d_Md_reset_10 : decode b_Md_reset 10 = .ok (.aload_n 0, 1) := by decide +kernel
theorem d_Md_reset_11 : decode b_Md_reset 11 = .ok (.iconst 0, 1) := by decide +kernel
theorem d_Md_reset_12 : decode b_Md_reset 12 = .ok (.putfield 129, 3) := by decide +kernel
theorem d_Md_reset_15 : decode b_Md_reset 15 = .ok (.aload_n 0, 1) := by decide +kernel
theorem d_Md_reset_16 : decode b_Md_reset 16 = .ok (.iconst 0, 1) := by decide +kernel
theorem d_Md_reset_17 : decode b_Md_reset 17 = .ok (.putfield 132, 3) := by decide +kernel
theorem d_Md_reset_20 : decode b_Md_reset 20 = .ok (.return_, 1) := by decide +kernel
theorem d_Md_rule_0 : decode b_Md_rule 0 = .ok (.iload_n 1, 1) := by decide +kernel
theorem d_Md_rule_1 : decode b_Md_rule 1 = .ok (.iconst 0, 1) := by decide +kernel
theorem d_Md_rule_2 : decode b_Md_rule 2 = .ok (.bipush 7, 2) := by decide +kernel
theorem d_Md_rule_4 : decode b_Md_rule 4 = .ok (.invokestatic 119, 3) := by decide +kernel
theorem d_Md_rule_7 : decode b_Md_rule 7 = .ok (.ifCond .ne 23, 3) := by decide +kernel
theorem d_Md_rule_10 : decode b_Md_rule 10 = .ok (.iload 4, 2) := by decide +kernel
theorem d_Md_rule_12 : decode b_Md_rule 12 = .ok (.iconst 0, 1) := by decide +kernel
theorem d_Md_rule_13 : decode b_Md_rule 13 = .ok (.bipush 7, 2) := by decide +kernel
theorem d_Md_rule_15 : decode b_Md_rule 15 = .ok (.invokestatic 119, 3) := by decide +kernel
theorem d_Md_rule_18 : decode b_Md_rule 18 = .ok (.ifCond .ne 12, 3) := by decide +kernel
theorem d_Md_rule_21 : decode b_Md_rule 21 = .ok (.aload_n 0, 1) := by decide +kernel
theorem d_Md_rule_22 : decode b_Md_rule 22 = .ok (.getfield 123, 3) := by decide +kernel
theorem d_Md_rule_25 : decode b_Md_rule 25 = .ok (.bipush 20, 2) := by decide +kernel
theorem d_Md_rule_27 : decode b_Md_rule 27 = .ok (.if_icmp .lt 5, 3) := by decide +kernel
theorem d_Md_rule_30 : decode b_Md_rule 30 = .ok (.iconst 0, 1) := by decide +kernel
theorem d_Md_rule_31 : decode b_Md_rule 31 = .ok (.ireturn, 1) := by decide +kernel
theorem d_Md_rule_32 : decode b_Md_rule 32 = .ok (.iload_n 2, 1) := by decide +kernel
theorem d_Md_rule_33 : decode b_Md_rule 33 = .ok (.ifCond .eq 14, 3) := by decide +kernel
theorem d_Md_rule_36 : decode b_Md_rule 36 = .ok (.iload_n 2, 1) := by decide +kernel
theorem d_Md_rule_37 : decode b_Md_rule 37 = .ok (.bipush 32, 2) := by decide +kernel
theorem d_Md_rule_39 : decode b_Md_rule 39 = .ok (.bipush 126, 2) := by decide +kernel
theorem d_Md_rule_41 : decode b_Md_rule 41 = .ok (.invokestatic 119, 3) := by decide +kernel
theorem d_Md_rule_44 : decode b_Md_rule 44 = .ok (.ifCond .ne 18, 3) := by decide +kernel
theorem d_Md_rule_47 : decode b_Md_rule 47 = .ok (.iload_n 3, 1) := by decide +kernel
theorem d_Md_rule_48 : decode b_Md_rule 48 = .ok (.ifCond .eq 16, 3) := by decide +kernel
theorem d_Md_rule_51 : decode b_Md_rule 51 = .ok (.iload_n 3, 1) := by decide +kernel
theorem d_Md_rule_52 : decode b_Md_rule 52 = .ok (.bipush 32, 2) := by decide +kernel
theorem d_Md_rule_54 : decode b_Md_rule 54 = .ok (.bipush 126, 2) := by decide +kernel
theorem d_Md_rule_56 : decode b_Md_rule 56 = .ok (.invokestatic 119, 3) := by decide +kernel
theorem d_Md_rule_59 : decode b_Md_rule 59 = .ok (.ifCond .eq 5, 3) := by decide +kernel
theorem d_Md_rule_62 : decode b_Md_rule 62 = .ok (.iconst 0, 1) := by decide +kernel
theorem d_Md_rule_63 : decode b_Md_rule 63 = .ok (.ireturn, 1) := by decide +kernel
theorem d_Md_rule_64 : decode b_Md_rule 64 = .ok (.aload_n 0, 1) := by decide +kernel
theorem d_Md_rule_65 : decode b_Md_rule 65 = .ok (.getfield 91, 3) := by decide +kernel
theorem d_Md_rule_68 : decode b_Md_rule 68 = .ok (.aload_n 0, 1) := by decide +kernel
theorem d_Md_rule_69 : decode b_Md_rule 69 = .ok (.getfield 123, 3) := by decide +kernel
theorem d_Md_rule_72 : decode b_Md_rule 72 = .ok (.iload_n 1, 1) := by decide +kernel
theorem d_Md_rule_73 : decode b_Md_rule 73 = .ok (.iastore, 1) := by decide +kernel
theorem d_Md_rule_74 : decode b_Md_rule 74 = .ok (.aload_n 0, 1) := by decide +kernel
theorem d_Md_rule_75 : decode b_Md_rule 75 = .ok (.getfield 94, 3) := by decide +kernel
theorem d_Md_rule_78 : decode b_Md_rule 78 = .ok (.aload_n 0, 1) := by decide +kernel
theorem d_Md_rule_79 : decode b_Md_rule 79 = .ok (.getfield 123, 3) := by decide +kernel
theorem d_Md_rule_82 : decode b_Md_rule 82 = .ok (.iload_n 2, 1) := by decide +kernel
theorem d_Md_rule_83 : decode b_Md_rule 83 = .ok (.iastore, 1) := by decide +kernel
theorem d_Md_rule_84 : decode b_Md_rule 84 = .ok (.aload_n 0, 1) := by decide +kernel
theorem d_Md_rule_85 : decode b_Md_rule 85 = .ok (.getfield 97, 3) := by decide +kernel
theorem d_Md_rule_88 : decode b_Md_rule 88 = .ok (.aload_n 0, 1) := by decide +kernel
theorem d_Md_rule_89 : decode b_Md_rule 89 = .ok (.getfield 123, 3) := by decide +kernel
theorem d_Md_rule_92 : decode b_Md_rule 92 = .ok (.iload_n 3, 1) := by decide +kernel
theorem d_Md_rule_93 : decode b_Md_rule 93 = .ok (.iastore, 1) := by decide +kernel
theorem d_Md_rule_94 : decode b_Md_rule 94 = .ok (.aload_n 0, 1) := by decide +kernel
theorem d_Md_rule_95 : decode b_Md_rule 95 = .ok (.getfield 100, 3) := by decide +kernel
theorem d_Md_rule_98 : decode b_Md_rule 98 = .ok (.aload_n 0, 1) := by decide +kernel
theorem d_Md_rule_99 : decode b_Md_rule 99 = .ok (.getfield 123, 3) := by decide +kernel
theorem d_Md_rule_102 : decode b_Md_rule 102 = .ok (.iload 4, 2) := by decide +kernel
theorem d_Md_rule_104 : decode b_Md_rule 104 = .ok (.iastore, 1) := by decide +kernel
theorem d_Md_rule_105 : decode b_Md_rule 105 = .ok (.aload_n 0, 1) := by decide +kernel
theorem d_Md_rule_106 : decode b_Md_rule 106 = .ok (.dup, 1) := by decide +kernel
theorem d_Md_rule_107 : decode b_Md_rule 107 = .ok (.getfield 123, 3) := by decide +kernel
theorem d_Md_rule_110 : decode b_Md_rule 110 = .ok (.iconst 1, 1) := by decide +kernel
theorem d_Md_rule_111 : decode b_Md_rule 111 = .ok (.iadd, 1) := by decide +kernel
theorem d_Md_rule_112 : decode b_Md_rule 112 = .ok (.putfield 123, 3) := by decide +kernel
theorem d_Md_rule_115 : decode b_Md_rule 115 = .ok (.iconst 1, 1) := by decide +kernel
theorem d_Md_rule_116 : decode b_Md_rule 116 = .ok (.ireturn, 1) := by decide +kernel
theorem d_Md_run_0 : decode b_Md_run 0 = .ok (.iload_n 1, 1) := by decide +kernel
theorem d_Md_run_1 : decode b_Md_run 1 = .ok (.iconst 1, 1) := by decide +kernel
theorem d_Md_run_2 : decode b_Md_run 2 = .ok (.bipush 100, 2) := by decide +kernel
theorem d_Md_run_4 : decode b_Md_run 4 = .ok (.invokestatic 119, 3) := by decide +kernel
theorem d_Md_run_7 : decode b_Md_run 7 = .ok (.ifCond .eq 5, 3) := by decide +kernel
theorem d_Md_run_10 : decode b_Md_run 10 = .ok (.iconst (-1), 1) := by decide +kernel
theorem d_Md_run_11 : decode b_Md_run 11 = .ok (.ireturn, 1) := by decide +kernel
theorem d_Md_run_12 : decode b_Md_run 12 = .ok (.aload_n 0, 1) := by decide +kernel
theorem d_Md_run_13 : decode b_Md_run 13 = .ok (.iload_n 1, 1) := by decide +kernel
theorem d_Md_run_14 : decode b_Md_run 14 = .ok (.putfield 229, 3) := by decide +kernel
theorem d_Md_run_17 : decode b_Md_run 17 = .ok (.aload_n 0, 1) := by decide +kernel
theorem d_Md_run_18 : decode b_Md_run 18 = .ok (.iconst 0, 1) := by decide +kernel
theorem d_Md_run_19 : decode b_Md_run 19 = .ok (.putfield 232, 3) := by decide +kernel
theorem d_Md_run_22 : decode b_Md_run 22 = .ok (.aload_n 0, 1) := by decide +kernel
theorem d_Md_run_23 : decode b_Md_run 23 = .ok (.iconst 1, 1) := by decide +kernel
theorem d_Md_run_24 : decode b_Md_run 24 = .ok (.putfield 115, 3) := by decide +kernel
theorem d_Md_run_27 : decode b_Md_run 27 = .ok (.aload_n 0, 1) := by decide +kernel
theorem d_Md_run_28 : decode b_Md_run 28 = .ok (.iconst (-1), 1) := by decide +kernel
theorem d_Md_run_29 : decode b_Md_run 29 = .ok (.putfield 36, 3) := by decide +kernel
theorem d_Md_run_32 : decode b_Md_run 32 = .ok (.aload_n 0, 1) := by decide +kernel
theorem d_Md_run_33 : decode b_Md_run 33 = .ok (.iconst 0, 1) := by decide +kernel
theorem d_Md_run_34 : decode b_Md_run 34 = .ok (.aload_n 0, 1) := by decide +kernel
theorem d_Md_run_35 : decode b_Md_run 35 = .ok (.getfield 112, 3) := by decide +kernel
theorem d_Md_run_38 : decode b_Md_run 38 = .ok (.iconst 0, 1) := by decide +kernel
theorem d_Md_run_39 : decode b_Md_run 39 = .ok (.invokevirtual 173, 3) := by decide +kernel
theorem d_Md_run_42 : decode b_Md_run 42 = .ok (.istore_n 2, 1) := by decide +kernel
theorem d_Md_run_43 : decode b_Md_run 43 = .ok (.iconst 0, 1) := by decide +kernel
theorem d_Md_run_44 : decode b_Md_run 44 = .ok (.istore_n 3, 1) := by decide +kernel
theorem d_Md_run_45 : decode b_Md_run 45 = .ok (.iload_n 3, 1) := by decide +kernel
theorem d_Md_run_46 : decode b_Md_run 46 = .ok (.ldc_w 383, 3) := by decide +kernel
theorem d_Md_run_49 : decode b_Md_run 49 = .ok (.if_icmp .ge 53, 3) := by decide +kernel
theorem d_Md_run_52 : decode b_Md_run 52 = .ok (.iload_n 2, 1) := by decide +kernel
theorem d_Md_run_53 : decode b_Md_run 53 = .ok (.ifCond .eq 49, 3) := by decide +kernel
theorem d_Md_run_56 : decode b_Md_run 56 = .ok (.aload_n 0, 1) := by decide +kernel
theorem d_Md_run_57 : decode b_Md_run 57 = .ok (.getfield 36, 3) := by decide +kernel
theorem d_Md_run_60 : decode b_Md_run 60 = .ok (.ifCond .lt 42, 3) := by decide +kernel
theorem d_Md_run_63 : decode b_Md_run 63 = .ok (.aload_n 0, 1) := by decide +kernel
theorem d_Md_run_64 : decode b_Md_run 64 = .ok (.getfield 152, 3) := by decide +kernel
theorem d_Md_run_67 : decode b_Md_run 67 = .ok (.ifCond .ne 10, 3) := by decide +kernel
theorem d_Md_run_70 : decode b_Md_run 70 = .ok (.aload_n 0, 1) := by decide +kernel
theorem d_Md_run_71 : decode b_Md_run 71 = .ok (.invokevirtual 384, 3) := by decide +kernel
theorem d_Md_run_74 : decode b_Md_run 74 = .ok (.goto 22, 3) := by decide +kernel
theorem d_Md_run_77 : decode b_Md_run 77 = .ok (.aload_n 0, 1) := by decide +kernel
theorem d_Md_run_78 : decode b_Md_run 78 = .ok (.getfield 152, 3) := by decide +kernel
theorem d_Md_run_81 : decode b_Md_run 81 = .ok (.iconst 1, 1) := by decide +kernel
theorem d_Md_run_82 : decode b_Md_run 82 = .ok (.if_icmp .ne 10, 3) := by decide +kernel
theorem d_Md_run_85 : decode b_Md_run 85 = .ok (.aload_n 0, 1) := by decide +kernel
theorem d_Md_run_86 : decode b_Md_run 86 = .ok (.invokevirtual 387, 3) := by decide +kernel
theorem d_Md_run_89 : decode b_Md_run 89 = .ok (.goto 7, 3) := by decide +kernel
theorem d_Md_run_92 : decode b_Md_run 92 = .ok (.aload_n 0, 1) := by decide +kernel
theorem d_Md_run_93 : decode b_Md_run 93 = .ok (.invokevirtual 390, 3) := by decide +kernel
theorem d_Md_run_96 : decode b_Md_run 96 = .ok (.iinc 3 1, 3) := by decide +kernel
theorem d_Md_run_99 : decode b_Md_run 99 = .ok (.goto (-54), 3) := by decide +kernel
theorem d_Md_run_102 : decode b_Md_run 102 = .ok (.aload_n 0, 1) := by decide +kernel
theorem d_Md_run_103 : decode b_Md_run 103 = .ok (.getfield 149, 3) := by decide +kernel
theorem d_Md_run_106 : decode b_Md_run 106 = .ok (.iconst 3, 1) := by decide +kernel
theorem d_Md_run_107 : decode b_Md_run 107 = .ok (.if_icmp .eq 11, 3) := by decide +kernel
theorem d_Md_run_110 : decode b_Md_run 110 = .ok (.aload_n 0, 1) := by decide +kernel
theorem d_Md_run_111 : decode b_Md_run 111 = .ok (.getfield 149, 3) := by decide +kernel
theorem d_Md_run_114 : decode b_Md_run 114 = .ok (.iconst 4, 1) := by decide +kernel
theorem d_Md_run_115 : decode b_Md_run 115 = .ok (.if_icmp .ne 9, 3) := by decide +kernel
theorem d_Md_run_118 : decode b_Md_run 118 = .ok (.aload_n 0, 1) := by decide +kernel
theorem d_Md_run_119 : decode b_Md_run 119 = .ok (.bipush 9, 2) := by decide +kernel
theorem d_Md_run_121 : decode b_Md_run 121 = .ok (.invokevirtual 166, 3) := by decide +kernel
theorem d_Md_run_124 : decode b_Md_run 124 = .ok (.aload_n 0, 1) := by decide +kernel
theorem d_Md_run_125 : decode b_Md_run 125 = .ok (.getfield 149, 3) := by decide +kernel
theorem d_Md_run_128 : decode b_Md_run 128 = .ok (.iconst 2, 1) := by decide +kernel
theorem d_Md_run_129 : decode b_Md_run 129 = .ok (.if_icmp .ne 7, 3) := by decide +kernel
theorem d_Md_run_132 : decode b_Md_run 132 = .ok (.iconst 0, 1) := by decide +kernel
theorem d_Md_run_133 : decode b_Md_run 133 = .ok (.goto 7, 3) := by decide +kernel
theorem d_Md_run_136 : decode b_Md_run 136 = .ok (.aload_n 0, 1) := by decide +kernel
theorem d_Md_run_137 : decode b_Md_run 137 = .ok (.getfield 149, 3) := by decide +kernel
theorem d_Md_run_140 : decode b_Md_run 140 = .ok (.ireturn, 1) := by decide +kernel
theorem d_Md_scriptEnded_0 : decode b_Md_scriptEnded 0 = .ok (.aload_n 0, 1) := by decide +kernel
theorem d_Md_scriptEnded_1 : decode b_Md_scriptEnded 1 = .ok (.getfield 46, 3) := by decide +kernel
theorem d_Md_scriptEnded_4 : decode b_Md_scriptEnded 4 = .ok (.aload_n 0, 1) := by decide +kernel
theorem d_Md_scriptEnded_5 : decode b_Md_scriptEnded 5 = .ok (.getfield 36, 3) := by decide +kernel
theorem d_Md_scriptEnded_8 : decode b_Md_scriptEnded 8 = .ok (.iaload, 1) := by decide +kernel
theorem d_Md_scriptEnded_9 : decode b_Md_scriptEnded 9 = .ok (.istore_n 1, 1) := by decide +kernel
theorem d_Md_scriptEnded_10 : decode b_Md_scriptEnded 10 = .ok (.aload_n 0, 1) := by decide +kernel
theorem d_Md_scriptEnded_11 : decode b_Md_scriptEnded 11 = .ok (.getfield 40, 3) := by decide +kernel
theorem d_Md_scriptEnded_14 : decode b_Md_scriptEnded 14 = .ok (.aload_n 0, 1) := by decide +kernel
theorem d_Md_scriptEnded_15 : decode b_Md_scriptEnded 15 = .ok (.getfield 36, 3) := by decide +kernel
theorem d_Md_scriptEnded_18 : decode b_Md_scriptEnded 18 = .ok (.iaload, 1) := by decide +kernel
theorem d_Md_scriptEnded_19 : decode b_Md_scriptEnded 19 = .ok (.istore_n 2, 1) := by decide +kernel
theorem d_Md_scriptEnded_20 : decode b_Md_scriptEnded 20 = .ok (.aload_n 0, 1) := by decide +kernel
theorem d_Md_scriptEnded_21 : decode b_Md_scriptEnded 21 = .ok (.dup, 1) := by decide +kernel
theorem d_Md_scriptEnded_22 : decode b_Md_scriptEnded 22 = .ok (.getfield 36, 3) := by decide +kernel
theorem d_Md_scriptEnded_25 : decode b_Md_scriptEnded 25 = .ok (.iconst 1, 1) := by decide +kernel
theorem d_Md_scriptEnded_26 : decode b_Md_scriptEnded 26 = .ok (.isub, 1) := by decide +kernel
theorem d_Md_scriptEnded_27 : decode b_Md_scriptEnded 27 = .ok (.putfield 36, 3) := by decide +kernel
theorem d_Md_scriptEnded_30 : decode b_Md_scriptEnded 30 = .ok (.aload_n 0, 1) := by decide +kernel
theorem d_Md_scriptEnded_31 : decode b_Md_scriptEnded 31 = .ok (.getfield 36, 3) := by decide +kernel
theorem d_Md_scriptEnded_34 : decode b_Md_scriptEnded 34 = .ok (.ifCond .ge 4, 3) := by decide +kernel
theorem d_Md_scriptEnded_37 : decode b_Md_scriptEnded 37 = .ok (.return_, 1) := by decide +kernel
theorem d_Md_scriptEnded_38 : decode b_Md_scriptEnded 38 = .ok (.iload_n 1, 1) := by decide +kernel
theorem d_Md_scriptEnded_39 : decode b_Md_scriptEnded 39 = .ok (.iconst 1, 1) := by decide +kernel
theorem d_Md_scriptEnded_40 : decode b_Md_scriptEnded 40 = .ok (.if_icmp .ne 61, 3) := by decide +kernel
theorem d_Md_scriptEnded_43 : decode b_Md_scriptEnded 43 = .ok (.aload_n 0, 1) := by decide +kernel
theorem d_Md_scriptEnded_44 : decode b_Md_scriptEnded 44 = .ok (.getfield 149, 3) := by decide +kernel
theorem d_Md_scriptEnded_47 : decode b_Md_scriptEnded 47 = .ok (.ifCond .eq 4, 3) := by decide +kernel
theorem d_Md_scriptEnded_50 : decode b_Md_scriptEnded 50 = .ok (.return_, 1) := by decide +kernel
theorem d_Md_scriptEnded_51 : decode b_Md_scriptEnded 51 = .ok (.aload_n 0, 1) := by decide +kernel
theorem d_Md_scriptEnded_52 : decode b_Md_scriptEnded 52 = .ok (.getfield 40, 3) := by decide +kernel
theorem d_Md_scriptEnded_55 : decode b_Md_scriptEnded 55 = .ok (.aload_n 0, 1) := by decide +kernel
theorem d_Md_scriptEnded_56 : decode b_Md_scriptEnded 56 = .ok (.getfield 36, 3) := by decide +kernel
theorem d_Md_scriptEnded_59 : decode b_Md_scriptEnded 59 = .ok (.iload_n 2, 1) := by decide +kernel
theorem d_Md_scriptEnded_60 : decode b_Md_scriptEnded 60 = .ok (.iastore, 1) := by decide +kernel
theorem d_Md_scriptEnded_61 : decode b_Md_scriptEnded 61 = .ok (.aload_n 0, 1) := by decide +kernel
theorem d_Md_scriptEnded_62 : decode b_Md_scriptEnded 62 = .ok (.iconst 0, 1) := by decide +kernel
theorem d_Md_scriptEnded_63 : decode b_Md_scriptEnded 63 = .ok (.putfield 152, 3) := by decide +kernel
theorem d_Md_scriptEnded_66 : decode b_Md_scriptEnded 66 = .ok (.iconst 0, 1) := by decide +kernel
theorem d_Md_scriptEnded_67 : decode b_Md_scriptEnded 67 = .ok (.istore_n 3, 1) := by decide +kernel
theorem d_Md_scriptEnded_68 : decode b_Md_scriptEnded 68 = .ok (.iload_n 3, 1) := by decide +kernel
theorem d_Md_scriptEnded_69 : decode b_Md_scriptEnded 69 = .ok (.aload_n 0, 1) := by decide +kernel
theorem d_Md_scriptEnded_70 : decode b_Md_scriptEnded 70 = .ok (.getfield 135, 3) := by decide +kernel
theorem d_Md_scriptEnded_73 : decode b_Md_scriptEnded 73 = .ok (.if_icmp .ge 27, 3) := by decide +kernel
theorem d_Md_scriptEnded_76 : decode b_Md_scriptEnded 76 = .ok (.aload_n 0, 1) := by decide +kernel
theorem d_Md_scriptEnded_77 : decode b_Md_scriptEnded 77 = .ok (.getfield 152, 3) := by decide +kernel
theorem d_Md_scriptEnded_80 : decode b_Md_scriptEnded 80 = .ok (.ifCond .ne 20, 3) := by decide +kernel
theorem d_Md_scriptEnded_83 : decode b_Md_scriptEnded 83 = .ok (.aload_n 0, 1) := by decide +kernel
theorem d_Md_scriptEnded_84 : decode b_Md_scriptEnded 84 = .ok (.aload_n 0, 1) := by decide +kernel
theorem d_Md_scriptEnded_85 : decode b_Md_scriptEnded 85 = .ok (.getfield 76, 3) := by decide +kernel
theorem d_Md_scriptEnded_88 : decode b_Md_scriptEnded 88 = .ok (.iload_n 3, 1) := by decide +kernel
theorem d_Md_scriptEnded_89 : decode b_Md_scriptEnded 89 = .ok (.caload, 1) := by decide +kernel
theorem d_Md_scriptEnded_90 : decode b_Md_scriptEnded 90 = .ok (.invokevirtual 209, 3) := by decide +kernel
theorem d_Md_scriptEnded_93 : decode b_Md_scriptEnded 93 = .ok (.pop, 1) := by decide +kernel
theorem d_Md_scriptEnded_94 : decode b_Md_scriptEnded 94 = .ok (.iinc 3 1, 3) := by decide +kernel
theorem d_Md_scriptEnded_97 : decode b_Md_scriptEnded 97 = .ok (.goto (-29), 3) := by decide +kernel
theorem d_Md_scriptEnded_100 : decode b_Md_scriptEnded 100 = .ok (.return_, 1) := by decide +kernel
theorem d_Md_scriptEnded_101 : decode b_Md_scriptEnded 101 = .ok (.aload_n 0, 1) := by decide +kernel
theorem d_Md_scriptEnded_102 : decode b_Md_scriptEnded 102 = .ok (.iconst 1, 1) := by decide +kernel
theorem d_Md_scriptEnded_103 : decode b_Md_scriptEnded 103 = .ok (.putfield 152, 3) := by decide +kernel
theorem d_Md_scriptEnded_106 : decode b_Md_scriptEnded 106 = .ok (.iload_n 1, 1) := by decide +kernel
theorem d_Md_scriptEnded_107 : decode b_Md_scriptEnded 107 = .ok (.iconst 3, 1) := by decide +kernel
theorem d_Md_scriptEnded_108 : decode b_Md_scriptEnded 108 = .ok (.if_icmp .ne 25, 3) := by decide +kernel
theorem d_Md_scriptEnded_111 : decode b_Md_scriptEnded 111 = .ok (.aload_n 0, 1) := by decide +kernel
theorem d_Md_scriptEnded_112 : decode b_Md_scriptEnded 112 = .ok (.getfield 149, 3) := by decide +kernel
theorem d_Md_scriptEnded_115 : decode b_Md_scriptEnded 115 = .ok (.ifCond .eq 11, 3) := by decide +kernel
theorem d_Md_scriptEnded_118 : decode b_Md_scriptEnded 118 = .ok (.aload_n 0, 1) := by decide +kernel
theorem d_Md_scriptEnded_119 : decode b_Md_scriptEnded 119 = .ok (.getfield 149, 3) := by decide +kernel
theorem d_Md_scriptEnded_122 : decode b_Md_scriptEnded 122 = .ok (.iconst 4, 1) := by decide +kernel
theorem d_Md_scriptEnded_123 : decode b_Md_scriptEnded 123 = .ok (.if_icmp .ne 10, 3) := by decide +kernel
theorem d_Md_scriptEnded_126 : decode b_Md_scriptEnded 126 = .ok (.aload_n 0, 1) := by decide +kernel
theorem d_Md_scriptEnded_127 : decode b_Md_scriptEnded 127 = .ok (.invokevirtual 216, 3) := by decide +kernel
theorem d_Md_scriptEnded_130 : decode b_Md_scriptEnded 130 = .ok (.goto 96, 3) := by decide +kernel
theorem d_Md_scriptEnded_133 : decode b_Md_scriptEnded 133 = .ok (.iload_n 1, 1) := by decide +kernel
theorem d_Md_scriptEnded_134 : decode b_Md_scriptEnded 134 = .ok (.iconst 3, 1) := by decide +kernel
theorem d_Md_scriptEnded_135 : decode b_Md_scriptEnded 135 = .ok (.if_icmp .ne 23, 3) := by decide +kernel
theorem d_Md_scriptEnded_138 : decode b_Md_scriptEnded 138 = .ok (.aload_n 0, 1) := by decide +kernel
theorem d_Md_scriptEnded_139 : decode b_Md_scriptEnded 139 = .ok (.getfield 149, 3) := by decide +kernel
theorem d_Md_scriptEnded_142 : decode b_Md_scriptEnded 142 = .ok (.iconst 3, 1) := by decide +kernel
theorem d_Md_scriptEnded_143 : decode b_Md_scriptEnded 143 = .ok (.if_icmp .ne 15, 3) := by decide +kernel
theorem d_Md_scriptEnded_146 : decode b_Md_scriptEnded 146 = .ok (.aload_n 0, 1) := by decide +kernel
theorem d_Md_scriptEnded_147 : decode b_Md_scriptEnded 147 = .ok (.invokevirtual 138, 3) := by decide +kernel
theorem d_Md_scriptEnded_150 : decode b_Md_scriptEnded 150 = .ok (.aload_n 0, 1) := by decide +kernel
theorem d_Md_scriptEnded_151 : decode b_Md_scriptEnded 151 = .ok (.iconst 0, 1) := by decide +kernel
theorem d_Md_scriptEnded_152 : decode b_Md_scriptEnded 152 = .ok (.putfield 149, 3) := by decide +kernel
theorem d_Md_scriptEnded_155 : decode b_Md_scriptEnded 155 = .ok (.goto 71, 3) := by decide +kernel
theorem d_Md_scriptEnded_158 : decode b_Md_scriptEnded 158 = .ok (.iload_n 1, 1) := by decide +kernel
theorem d_Md_scriptEnded_159 : decode b_Md_scriptEnded 159 = .ok (.iconst 4, 1) := by decide +kernel
theorem d_Md_scriptEnded_160 : decode b_Md_scriptEnded 160 = .ok (.if_icmp .ne 28, 3) := by decide +kernel
theorem d_Md_scriptEnded_163 : decode b_Md_scriptEnded 163 = .ok (.aload_n 0, 1) := by decide +kernel
theorem d_Md_scriptEnded_164 : decode b_Md_scriptEnded 164 = .ok (.getfield 149, 3) := by decide +kernel
theorem d_Md_scriptEnded_167 : decode b_Md_scriptEnded 167 = .ok (.iconst 3, 1) := by decide +kernel
theorem d_Md_scriptEnded_168 : decode b_Md_scriptEnded 168 = .ok (.if_icmp .eq 11, 3) := by decide +kernel
theorem d_Md_scriptEnded_171 : decode b_Md_scriptEnded 171 = .ok (.aload_n 0, 1) := by decide +kernel
theorem d_Md_scriptEnded_172 : decode b_Md_scriptEnded 172 = .ok (.getfield 149, 3) := by decide +kernel
theorem d_Md_scriptEnded_175 : decode b_Md_scriptEnded 175 = .ok (.iconst 4, 1) := by decide +kernel
theorem d_Md_scriptEnded_176 : decode b_Md_scriptEnded 176 = .ok (.if_icmp .ne 12, 3) := by decide +kernel
theorem d_Md_scriptEnded_179 : decode b_Md_scriptEnded 179 = .ok (.aload_n 0, 1) := by decide +kernel
theorem d_Md_scriptEnded_180 : decode b_Md_scriptEnded 180 = .ok (.bipush 9, 2) := by decide +kernel
theorem d_Md_scriptEnded_182 : decode b_Md_scriptEnded 182 = .ok (.invokevirtual 166, 3) := by decide +kernel
theorem d_Md_scriptEnded_185 : decode b_Md_scriptEnded 185 = .ok (.goto 41, 3) := by decide +kernel
theorem d_Md_scriptEnded_188 : decode b_Md_scriptEnded 188 = .ok (.iload_n 1, 1) := by decide +kernel
theorem d_Md_scriptEnded_189 : decode b_Md_scriptEnded 189 = .ok (.iconst 4, 1) := by decide +kernel
theorem d_Md_scriptEnded_190 : decode b_Md_scriptEnded 190 = .ok (.if_icmp .ne 19, 3) := by decide +kernel
theorem d_Md_scriptEnded_193 : decode b_Md_scriptEnded 193 = .ok (.aload_n 0, 1) := by decide +kernel
theorem d_Md_scriptEnded_194 : decode b_Md_scriptEnded 194 = .ok (.getfield 149, 3) := by decide +kernel
theorem d_Md_scriptEnded_197 : decode b_Md_scriptEnded 197 = .ok (.iconst 2, 1) := by decide +kernel
theorem d_Md_scriptEnded_198 : decode b_Md_scriptEnded 198 = .ok (.if_icmp .ne 11, 3) := by decide +kernel
theorem d_Md_scriptEnded_201 : decode b_Md_scriptEnded 201 = .ok (.aload_n 0, 1) := by decide +kernel
theorem d_Md_scriptEnded_202 : decode b_Md_scriptEnded 202 = .ok (.iconst 0, 1) := by decide +kernel
theorem d_Md_scriptEnded_203 : decode b_Md_scriptEnded 203 = .ok (.putfield 149, 3) := by decide +kernel
theorem d_Md_scriptEnded_206 : decode b_Md_scriptEnded 206 = .ok (.goto 20, 3) := by decide +kernel
theorem d_Md_scriptEnded_209 : decode b_Md_scriptEnded 209 = .ok (.iload_n 1, 1) := by decide +kernel
theorem d_Md_scriptEnded_210 : decode b_Md_scriptEnded 210 = .ok (.iconst 5, 1) := by decide +kernel
theorem d_Md_scriptEnded_211 : decode b_Md_scriptEnded 211 = .ok (.if_icmp .ne 15, 3) := by decide +kernel
theorem d_Md_scriptEnded_214 : decode b_Md_scriptEnded 214 = .ok (.aload_n 0, 1) := by decide +kernel
theorem d_Md_scriptEnded_215 : decode b_Md_scriptEnded 215 = .ok (.getfield 149, 3) := by decide +kernel
theorem d_Md_scriptEnded_218 : decode b_Md_scriptEnded 218 = .ok (.iconst 5, 1) := by decide +kernel
theorem d_Md_scriptEnded_219 : decode b_Md_scriptEnded 219 = .ok (.if_icmp .eq 7, 3) := by decide +kernel
theorem d_Md_scriptEnded_222 : decode b_Md_scriptEnded 222 = .ok (.aload_n 0, 1) := by decide +kernel
theorem d_Md_scriptEnded_223 : decode b_Md_scriptEnded 223 = .ok (.invokevirtual 170, 3) := by decide +kernel
theorem d_Md_scriptEnded_226 : decode b_Md_scriptEnded 226 = .ok (.return_, 1) := by decide +kernel
theorem d_Md_size_0 : decode b_Md_size 0 = .ok (.iload_n 1, 1) := by decide +kernel
theorem d_Md_size_1 : decode b_Md_size 1 = .ok (.iconst 0, 1) := by decide +kernel
theorem d_Md_size_2 : decode b_Md_size 2 = .ok (.bipush 25, 2) := by decide +kernel
theorem d_Md_size_4 : decode b_Md_size 4 = .ok (.invokestatic 119, 3) := by decide +kernel
theorem d_Md_size_7 : decode b_Md_size 7 = .ok (.ifCond .eq 7, 3) := by decide +kernel
theorem d_Md_size_10 : decode b_Md_size 10 = .ok (.iconst (-1), 1) := by decide +kernel
theorem d_Md_size_11 : decode b_Md_size 11 = .ok (.goto 9, 3) := by decide +kernel
theorem d_Md_size_14 : decode b_Md_size 14 = .ok (.aload_n 0, 1) := by decide +kernel
theorem d_Md_size_15 : decode b_Md_size 15 = .ok (.getfield 13, 3) := by decide +kernel
theorem d_Md_size_18 : decode b_Md_size 18 = .ok (.iload_n 1, 1) := by decide +kernel
theorem d_Md_size_19 : decode b_Md_size 19 = .ok (.iaload, 1) := by decide +kernel
theorem d_Md_size_20 : decode b_Md_size 20 = .ok (.ireturn, 1) := by decide +kernel
theorem d_Md_talk_0 : decode b_Md_talk 0 = .ok (.aload_n 0, 1) := by decide +kernel
theorem d_Md_talk_1 : decode b_Md_talk 1 = .ok (.getfield 370, 3) := by decide +kernel
theorem d_Md_talk_4 : decode b_Md_talk 4 = .ok (.ireturn, 1) := by decide +kernel
theorem d_Md_talked_0 : decode b_Md_talked 0 = .ok (.iload_n 1, 1) := by decide +kernel
theorem d_Md_talked_1 : decode b_Md_talked 1 = .ok (.iconst 0, 1) := by decide +kernel
theorem d_Md_talked_2 : decode b_Md_talked 2 = .ok (.bipush 39, 2) := by decide +kernel
theorem d_Md_talked_4 : decode b_Md_talked 4 = .ok (.invokestatic 119, 3) := by decide +kernel
theorem d_Md_talked_7 : decode b_Md_talked 7 = .ok (.ifCond .ne 11, 3) := by decide +kernel
theorem d_Md_talked_10 : decode b_Md_talked 10 = .ok (.iload_n 1, 1) := by decide +kernel
theorem d_Md_talked_11 : decode b_Md_talked 11 = .ok (.aload_n 0, 1) := by decide +kernel
theorem d_Md_talked_12 : decode b_Md_talked 12 = .ok (.getfield 370, 3) := by decide +kernel
theorem d_Md_talked_15 : decode b_Md_talked 15 = .ok (.if_icmp .lt 7, 3) := by decide +kernel
theorem d_Md_talked_18 : decode b_Md_talked 18 = .ok (.iconst 0, 1) := by decide +kernel
theorem d_Md_talked_19 : decode b_Md_talked 19 = .ok (.goto 19, 3) := by decide +kernel
theorem d_Md_talked_22 : decode b_Md_talked 22 = .ok (.aload_n 0, 1) := by decide +kernel
theorem d_Md_talked_23 : decode b_Md_talked 23 = .ok (.getfield 109, 3) := by decide +kernel
theorem d_Md_talked_26 : decode b_Md_talked 26 = .ok (.aload_n 0, 1) := by decide +kernel
theorem d_Md_talked_27 : decode b_Md_talked 27 = .ok (.getfield 370, 3) := by decide +kernel
theorem d_Md_talked_30 : decode b_Md_talked 30 = .ok (.iconst 1, 1) := by decide +kernel
theorem d_Md_talked_31 : decode b_Md_talked 31 = .ok (.isub, 1) := by decide +kernel
theorem d_Md_talked_32 : decode b_Md_talked 32 = .ok (.iload_n 1, 1) := by decide +kernel
theorem d_Md_talked_33 : decode b_Md_talked 33 = .ok (.isub, 1) := by decide +kernel
theorem d_Md_talked_34 : decode b_Md_talked 34 = .ok (.bipush 40, 2) := by decide +kernel
theorem d_Md_talked_36 : decode b_Md_talked 36 = .ok (.irem, 1) := by decide +kernel
theorem d_Md_talked_37 : decode b_Md_talked 37 = .ok (.iaload, 1) := by decide +kernel
theorem d_Md_talked_38 : decode b_Md_talked 38 = .ok (.ireturn, 1) := by decide +kernel
theorem d_Md_used_0 : decode b_Md_used 0 = .ok (.aload_n 0, 1) := by decide +kernel
theorem d_Md_used_1 : decode b_Md_used 1 = .ok (.getfield 232, 3) := by decide +kernel
theorem d_Md_used_4 : decode b_Md_used 4 = .ok (.ireturn, 1) := by decide +kernel
theorem d_Md_wipe_0 : decode b_Md_wipe 0 = .ok (.aload_n 0, 1) := by decide +kernel
theorem d_Md_wipe_1 : decode b_Md_wipe 1 = .ok (.iconst 0, 1) := by decide +kernel
theorem d_Md_wipe_2 : decode b_Md_wipe 2 = .ok (.putfield 112, 3) := by decide +kernel
theorem d_Md_wipe_5 : decode b_Md_wipe 5 = .ok (.aload_n 0, 1) := by decide +kernel
theorem d_Md_wipe_6 : decode b_Md_wipe 6 = .ok (.iconst 0, 1) := by decide +kernel
theorem d_Md_wipe_7 : decode b_Md_wipe 7 = .ok (.putfield 115, 3) := by decide +kernel
theorem d_Md_wipe_10 : decode b_Md_wipe 10 = .ok (.iconst 0, 1) := by decide +kernel
theorem d_Md_wipe_11 : decode b_Md_wipe 11 = .ok (.istore_n 1, 1) := by decide +kernel
theorem d_Md_wipe_12 : decode b_Md_wipe 12 = .ok (.iload_n 1, 1) := by decide +kernel
theorem d_Md_wipe_13 : decode b_Md_wipe 13 = .ok (.sipush 208, 3) := by decide +kernel
theorem d_Md_wipe_16 : decode b_Md_wipe 16 = .ok (.if_icmp .ge 16, 3) := by decide +kernel
theorem d_Md_wipe_19 : decode b_Md_wipe 19 = .ok (.aload_n 0, 1) := by decide +kernel
theorem d_Md_wipe_20 : decode b_Md_wipe 20 = .ok (.getfield 13, 3) := by decide +kernel
theorem d_Md_wipe_23 : decode b_Md_wipe 23 = .ok (.iload_n 1, 1) := by decide +kernel
theorem d_Md_wipe_24 : decode b_Md_wipe 24 = .ok (.iconst (-1), 1) := by decide +kernel
theorem d_Md_wipe_25 : decode b_Md_wipe 25 = .ok (.iastore, 1) := by decide +kernel
theorem d_Md_wipe_26 : decode b_Md_wipe 26 = .ok (.iinc 1 1, 3) := by decide +kernel
theorem d_Md_wipe_29 : decode b_Md_wipe 29 = .ok (.goto (-17), 3) := by decide +kernel
theorem d_Md_wipe_32 : decode b_Md_wipe 32 = .ok (.iconst 0, 1) := by decide +kernel
theorem d_Md_wipe_33 : decode b_Md_wipe 33 = .ok (.istore_n 1, 1) := by decide +kernel
theorem d_Md_wipe_34 : decode b_Md_wipe 34 = .ok (.iload_n 1, 1) := by decide +kernel
theorem d_Md_wipe_35 : decode b_Md_wipe 35 = .ok (.bipush 26, 2) := by decide +kernel
theorem d_Md_wipe_37 : decode b_Md_wipe 37 = .ok (.if_icmp .ge 16, 3) := by decide +kernel
theorem d_Md_wipe_40 : decode b_Md_wipe 40 = .ok (.aload_n 0, 1) := by decide +kernel
theorem d_Md_wipe_41 : decode b_Md_wipe 41 = .ok (.getfield 24, 3) := by decide +kernel
theorem d_Md_wipe_44 : decode b_Md_wipe 44 = .ok (.iload_n 1, 1) := by decide +kernel
theorem d_Md_wipe_45 : decode b_Md_wipe 45 = .ok (.iconst 0, 1) := by decide +kernel
theorem d_Md_wipe_46 : decode b_Md_wipe 46 = .ok (.bastore, 1) := by decide +kernel
theorem d_Md_wipe_47 : decode b_Md_wipe 47 = .ok (.iinc 1 1, 3) := by decide +kernel
theorem d_Md_wipe_50 : decode b_Md_wipe 50 = .ok (.goto (-16), 3) := by decide +kernel
theorem d_Md_wipe_53 : decode b_Md_wipe 53 = .ok (.return_, 1) := by decide +kernel
