/-! decode rows; written by wip/gen/names.py -/
theorem d_Sm_init_0 : decode b_Sm_init 0 = .ok (.aload_n 0, 1) := by decide +kernel
theorem d_Sm_init_1 : decode b_Sm_init 1 = .ok (.invokespecial 3, 3) := by decide +kernel
theorem d_Sm_init_4 : decode b_Sm_init 4 = .ok (.aload_n 0, 1) := by decide +kernel
theorem d_Sm_init_5 : decode b_Sm_init 5 = .ok (.sipush 200, 3) := by decide +kernel
theorem d_Sm_init_8 : decode b_Sm_init 8 = .ok (.newarray .int, 2) := by decide +kernel
theorem d_Sm_init_10 : decode b_Sm_init 10 = .ok (.putfield 9, 3) := by decide +kernel
theorem d_Sm_init_13 : decode b_Sm_init 13 = .ok (.aload_n 0, 1) := by decide +kernel
theorem d_Sm_init_14 : decode b_Sm_init 14 = .ok (.sipush 200, 3) := by decide +kernel
theorem d_Sm_init_17 : decode b_Sm_init 17 = .ok (.newarray .char, 2) := by decide +kernel
theorem d_Sm_init_19 : decode b_Sm_init 19 = .ok (.putfield 15, 3) := by decide +kernel
theorem d_Sm_init_22 : decode b_Sm_init 22 = .ok (.aload_n 0, 1) := by decide +kernel
theorem d_Sm_init_23 : decode b_Sm_init 23 = .ok (.aload_n 1, 1) := by decide +kernel
theorem d_Sm_init_24 : decode b_Sm_init 24 = .ok (.putfield 19, 3) := by decide +kernel
theorem d_Sm_init_27 : decode b_Sm_init 27 = .ok (.aload_n 0, 1) := by decide +kernel
theorem d_Sm_init_28 : decode b_Sm_init 28 = .ok (.aload_n 2, 1) := by decide +kernel
theorem d_Sm_init_29 : decode b_Sm_init 29 = .ok (.putfield 22, 3) := by decide +kernel
theorem d_Sm_init_32 : decode b_Sm_init 32 = .ok (.return_, 1) := by decide +kernel
theorem d_Sm_applyDownTo_0 : decode b_Sm_applyDownTo 0 = .ok (.aload_n 0, 1) := by decide +kernel
theorem d_Sm_applyDownTo_1 : decode b_Sm_applyDownTo 1 = .ok (.getfield 90, 3) := by decide +kernel
theorem d_Sm_applyDownTo_4 : decode b_Sm_applyDownTo 4 = .ok (.istore_n 2, 1) := by decide +kernel
theorem d_Sm_applyDownTo_5 : decode b_Sm_applyDownTo 5 = .ok (.iload_n 2, 1) := by decide +kernel
theorem d_Sm_applyDownTo_6 : decode b_Sm_applyDownTo 6 = .ok (.ifCond .le 137, 3) := by decide +kernel
theorem d_Sm_applyDownTo_9 : decode b_Sm_applyDownTo 9 = .ok (.aload_n 0, 1) := by decide +kernel
theorem d_Sm_applyDownTo_10 : decode b_Sm_applyDownTo 10 = .ok (.getfield 15, 3) := by decide +kernel
theorem d_Sm_applyDownTo_13 : decode b_Sm_applyDownTo 13 = .ok (.iload_n 2, 1) := by decide +kernel
theorem d_Sm_applyDownTo_14 : decode b_Sm_applyDownTo 14 = .ok (.iconst 1, 1) := by decide +kernel
theorem d_Sm_applyDownTo_15 : decode b_Sm_applyDownTo 15 = .ok (.isub, 1) := by decide +kernel
theorem d_Sm_applyDownTo_16 : decode b_Sm_applyDownTo 16 = .ok (.caload, 1) := by decide +kernel
theorem d_Sm_applyDownTo_17 : decode b_Sm_applyDownTo 17 = .ok (.istore_n 3, 1) := by decide +kernel
theorem d_Sm_applyDownTo_18 : decode b_Sm_applyDownTo 18 = .ok (.iload_n 3, 1) := by decide +kernel
theorem d_Sm_applyDownTo_19 : decode b_Sm_applyDownTo 19 = .ok (.invokestatic 121, 3) := by decide +kernel
theorem d_Sm_applyDownTo_22 : decode b_Sm_applyDownTo 22 = .ok (.bipush 6, 2) := by decide +kernel
theorem d_Sm_applyDownTo_24 : decode b_Sm_applyDownTo 24 = .ok (.if_icmp .ne 7, 3) := by decide +kernel
theorem d_Sm_applyDownTo_27 : decode b_Sm_applyDownTo 27 = .ok (.iconst 1, 1) := by decide +kernel
theorem d_Sm_applyDownTo_28 : decode b_Sm_applyDownTo 28 = .ok (.goto 4, 3) := by decide +kernel
theorem d_Sm_applyDownTo_31 : decode b_Sm_applyDownTo 31 = .ok (.iconst 2, 1) := by decide +kernel
theorem d_Sm_applyDownTo_32 : decode b_Sm_applyDownTo 32 = .ok (.istore 4, 2) := by decide +kernel
theorem d_Sm_applyDownTo_34 : decode b_Sm_applyDownTo 34 = .ok (.iload_n 3, 1) := by decide +kernel
theorem d_Sm_applyDownTo_35 : decode b_Sm_applyDownTo 35 = .ok (.invokestatic 121, 3) := by decide +kernel
theorem d_Sm_applyDownTo_38 : decode b_Sm_applyDownTo 38 = .ok (.iload_n 1, 1) := by decide +kernel
theorem d_Sm_applyDownTo_39 : decode b_Sm_applyDownTo 39 = .ok (.if_icmp .lt 12, 3) := by decide +kernel
theorem d_Sm_applyDownTo_42 : decode b_Sm_applyDownTo 42 = .ok (.aload_n 0, 1) := by decide +kernel
theorem d_Sm_applyDownTo_43 : decode b_Sm_applyDownTo 43 = .ok (.getfield 87, 3) := by decide +kernel
theorem d_Sm_applyDownTo_46 : decode b_Sm_applyDownTo 46 = .ok (.iload 4, 2) := by decide +kernel
theorem d_Sm_applyDownTo_48 : decode b_Sm_applyDownTo 48 = .ok (.if_icmp .ge 4, 3) := by decide +kernel
theorem d_Sm_applyDownTo_51 : decode b_Sm_applyDownTo 51 = .ok (.return_, 1) := by decide +kernel
theorem d_Sm_applyDownTo_52 : decode b_Sm_applyDownTo 52 = .ok (.aload_n 0, 1) := by decide +kernel
theorem d_Sm_applyDownTo_53 : decode b_Sm_applyDownTo 53 = .ok (.getfield 9, 3) := by decide +kernel
theorem d_Sm_applyDownTo_56 : decode b_Sm_applyDownTo 56 = .ok (.aload_n 0, 1) := by decide +kernel
theorem d_Sm_applyDownTo_57 : decode b_Sm_applyDownTo 57 = .ok (.getfield 87, 3) := by decide +kernel
theorem d_Sm_applyDownTo_60 : decode b_Sm_applyDownTo 60 = .ok (.iconst 1, 1) := by decide +kernel
theorem d_Sm_applyDownTo_61 : decode b_Sm_applyDownTo 61 = .ok (.isub, 1) := by decide +kernel
theorem d_Sm_applyDownTo_62 : decode b_Sm_applyDownTo 62 = .ok (.iaload, 1) := by decide +kernel
theorem d_Sm_applyDownTo_63 : decode b_Sm_applyDownTo 63 = .ok (.istore 5, 2) := by decide +kernel
theorem d_Sm_applyDownTo_65 : decode b_Sm_applyDownTo 65 = .ok (.aload_n 0, 1) := by decide +kernel
theorem d_Sm_applyDownTo_66 : decode b_Sm_applyDownTo 66 = .ok (.dup, 1) := by decide +kernel
theorem d_Sm_applyDownTo_67 : decode b_Sm_applyDownTo 67 = .ok (.getfield 87, 3) := by decide +kernel
theorem d_Sm_applyDownTo_70 : decode b_Sm_applyDownTo 70 = .ok (.iload 4, 2) := by decide +kernel
theorem d_Sm_applyDownTo_72 : decode b_Sm_applyDownTo 72 = .ok (.isub, 1) := by decide +kernel
theorem d_Sm_applyDownTo_73 : decode b_Sm_applyDownTo 73 = .ok (.putfield 87, 3) := by decide +kernel
theorem d_Sm_applyDownTo_76 : decode b_Sm_applyDownTo 76 = .ok (.aload_n 0, 1) := by decide +kernel
theorem d_Sm_applyDownTo_77 : decode b_Sm_applyDownTo 77 = .ok (.getfield 9, 3) := by decide +kernel
theorem d_Sm_applyDownTo_80 : decode b_Sm_applyDownTo 80 = .ok (.aload_n 0, 1) := by decide +kernel
theorem d_Sm_applyDownTo_81 : decode b_Sm_applyDownTo 81 = .ok (.getfield 87, 3) := by decide +kernel
theorem d_Sm_applyDownTo_84 : decode b_Sm_applyDownTo 84 = .ok (.iaload, 1) := by decide +kernel
theorem d_Sm_applyDownTo_85 : decode b_Sm_applyDownTo 85 = .ok (.istore 6, 2) := by decide +kernel
theorem d_Sm_applyDownTo_87 : decode b_Sm_applyDownTo 87 = .ok (.aload_n 0, 1) := by decide +kernel
theorem d_Sm_applyDownTo_88 : decode b_Sm_applyDownTo 88 = .ok (.getfield 9, 3) := by decide +kernel
theorem d_Sm_applyDownTo_91 : decode b_Sm_applyDownTo 91 = .ok (.aload_n 0, 1) := by decide +kernel
theorem d_Sm_applyDownTo_92 : decode b_Sm_applyDownTo 92 = .ok (.getfield 87, 3) := by decide +kernel
theorem d_Sm_applyDownTo_95 : decode b_Sm_applyDownTo 95 = .ok (.iload 4, 2) := by decide +kernel
theorem d_Sm_applyDownTo_97 : decode b_Sm_applyDownTo 97 = .ok (.iconst 1, 1) := by decide +kernel
theorem d_Sm_applyDownTo_98 : decode b_Sm_applyDownTo 98 = .ok (.if_icmp .ne 12, 3) := by decide +kernel
theorem d_Sm_applyDownTo_101 : decode b_Sm_applyDownTo 101 = .ok (.iload_n 3, 1) := by decide +kernel
theorem d_Sm_applyDownTo_102 : decode b_Sm_applyDownTo 102 = .ok (.iload 5, 2) := by decide +kernel
theorem d_Sm_applyDownTo_104 : decode b_Sm_applyDownTo 104 = .ok (.invokestatic 125, 3) := by decide +kernel
theorem d_Sm_applyDownTo_107 : decode b_Sm_applyDownTo 107 = .ok (.goto 12, 3) := by decide +kernel
theorem d_Sm_applyDownTo_110 : decode b_Sm_applyDownTo 110 = .ok (.aload_n 0, 1) := by decide +kernel
theorem d_Sm_applyDownTo_111 : decode b_Sm_applyDownTo 111 = .ok (.iload_n 3, 1) := by decide +kernel
theorem d_Sm_applyDownTo_112 : decode b_Sm_applyDownTo 112 = .ok (.iload 6, 2) := by decide +kernel
theorem d_Sm_applyDownTo_114 : decode b_Sm_applyDownTo 114 = .ok (.iload 5, 2) := by decide +kernel
theorem d_Sm_applyDownTo_116 : decode b_Sm_applyDownTo 116 = .ok (.invokevirtual 129, 3) := by decide +kernel
theorem d_Sm_applyDownTo_119 : decode b_Sm_applyDownTo 119 = .ok (.iastore, 1) := by decide +kernel
theorem d_Sm_applyDownTo_120 : decode b_Sm_applyDownTo 120 = .ok (.aload_n 0, 1) := by decide +kernel
theorem d_Sm_applyDownTo_121 : decode b_Sm_applyDownTo 121 = .ok (.dup, 1) := by decide +kernel
theorem d_Sm_applyDownTo_122 : decode b_Sm_applyDownTo 122 = .ok (.getfield 87, 3) := by decide +kernel
theorem d_Sm_applyDownTo_125 : decode b_Sm_applyDownTo 125 = .ok (.iconst 1, 1) := by decide +kernel
theorem d_Sm_applyDownTo_126 : decode b_Sm_applyDownTo 126 = .ok (.iadd, 1) := by decide +kernel
theorem d_Sm_applyDownTo_127 : decode b_Sm_applyDownTo 127 = .ok (.putfield 87, 3) := by decide +kernel
theorem d_Sm_applyDownTo_130 : decode b_Sm_applyDownTo 130 = .ok (.aload_n 0, 1) := by decide +kernel
theorem d_Sm_applyDownTo_131 : decode b_Sm_applyDownTo 131 = .ok (.iload_n 2, 1) := by decide +kernel
theorem d_Sm_applyDownTo_132 : decode b_Sm_applyDownTo 132 = .ok (.iconst 1, 1) := by decide +kernel
theorem d_Sm_applyDownTo_133 : decode b_Sm_applyDownTo 133 = .ok (.isub, 1) := by decide +kernel
theorem d_Sm_applyDownTo_134 : decode b_Sm_applyDownTo 134 = .ok (.putfield 90, 3) := by decide +kernel
theorem d_Sm_applyDownTo_137 : decode b_Sm_applyDownTo 137 = .ok (.iinc 2 (-1), 3) := by decide +kernel
theorem d_Sm_applyDownTo_140 : decode b_Sm_applyDownTo 140 = .ok (.goto (-135), 3) := by decide +kernel
theorem d_Sm_applyDownTo_143 : decode b_Sm_applyDownTo 143 = .ok (.return_, 1) := by decide +kernel
theorem d_Sm_begin_0 : decode b_Sm_begin 0 = .ok (.aload_n 0, 1) := by decide +kernel
theorem d_Sm_begin_1 : decode b_Sm_begin 1 = .ok (.iload_n 1, 1) := by decide +kernel
theorem d_Sm_begin_2 : decode b_Sm_begin 2 = .ok (.iconst 0, 1) := by decide +kernel
theorem d_Sm_begin_3 : decode b_Sm_begin 3 = .ok (.invokestatic 75, 3) := by decide +kernel
theorem d_Sm_begin_6 : decode b_Sm_begin 6 = .ok (.putfield 30, 3) := by decide +kernel
theorem d_Sm_begin_9 : decode b_Sm_begin 9 = .ok (.aload_n 0, 1) := by decide +kernel
theorem d_Sm_begin_10 : decode b_Sm_begin 10 = .ok (.iload_n 2, 1) := by decide +kernel
theorem d_Sm_begin_11 : decode b_Sm_begin 11 = .ok (.sipush 200, 3) := by decide +kernel
theorem d_Sm_begin_14 : decode b_Sm_begin 14 = .ok (.invokestatic 81, 3) := by decide +kernel
theorem d_Sm_begin_17 : decode b_Sm_begin 17 = .ok (.putfield 34, 3) := by decide +kernel
theorem d_Sm_begin_20 : decode b_Sm_begin 20 = .ok (.aload_n 0, 1) := by decide +kernel
theorem d_Sm_begin_21 : decode b_Sm_begin 21 = .ok (.iload_n 3, 1) := by decide +kernel
theorem d_Sm_begin_22 : decode b_Sm_begin 22 = .ok (.putfield 84, 3) := by decide +kernel
theorem d_Sm_begin_25 : decode b_Sm_begin 25 = .ok (.aload_n 0, 1) := by decide +kernel
theorem d_Sm_begin_26 : decode b_Sm_begin 26 = .ok (.iconst 0, 1) := by decide +kernel
theorem d_Sm_begin_27 : decode b_Sm_begin 27 = .ok (.putfield 87, 3) := by decide +kernel
theorem d_Sm_begin_30 : decode b_Sm_begin 30 = .ok (.aload_n 0, 1) := by decide +kernel
theorem d_Sm_begin_31 : decode b_Sm_begin 31 = .ok (.iconst 0, 1) := by decide +kernel
theorem d_Sm_begin_32 : decode b_Sm_begin 32 = .ok (.putfield 90, 3) := by decide +kernel
theorem d_Sm_begin_35 : decode b_Sm_begin 35 = .ok (.aload_n 0, 1) := by decide +kernel
theorem d_Sm_begin_36 : decode b_Sm_begin 36 = .ok (.iconst 0, 1) := by decide +kernel
theorem d_Sm_begin_37 : decode b_Sm_begin 37 = .ok (.putfield 59, 3) := by decide +kernel
theorem d_Sm_begin_40 : decode b_Sm_begin 40 = .ok (.aload_n 0, 1) := by decide +kernel
theorem d_Sm_begin_41 : decode b_Sm_begin 41 = .ok (.iconst 1, 1) := by decide +kernel
theorem d_Sm_begin_42 : decode b_Sm_begin 42 = .ok (.putfield 37, 3) := by decide +kernel
theorem d_Sm_begin_45 : decode b_Sm_begin 45 = .ok (.aload_n 0, 1) := by decide +kernel
theorem d_Sm_begin_46 : decode b_Sm_begin 46 = .ok (.iconst 0, 1) := by decide +kernel
theorem d_Sm_begin_47 : decode b_Sm_begin 47 = .ok (.putfield 69, 3) := by decide +kernel
theorem d_Sm_begin_50 : decode b_Sm_begin 50 = .ok (.aload_n 0, 1) := by decide +kernel
theorem d_Sm_begin_51 : decode b_Sm_begin 51 = .ok (.iconst 0, 1) := by decide +kernel
theorem d_Sm_begin_52 : decode b_Sm_begin 52 = .ok (.putfield 72, 3) := by decide +kernel
theorem d_Sm_begin_55 : decode b_Sm_begin 55 = .ok (.return_, 1) := by decide +kernel
theorem d_Sm_changed_0 : decode b_Sm_changed 0 = .ok (.iload_n 0, 1) := by decide +kernel
theorem d_Sm_changed_1 : decode b_Sm_changed 1 = .ok (.bipush 126, 2) := by decide +kernel
theorem d_Sm_changed_3 : decode b_Sm_changed 3 = .ok (.if_icmp .ne 6, 3) := by decide +kernel
theorem d_Sm_changed_6 : decode b_Sm_changed 6 = .ok (.iload_n 1, 1) := by decide +kernel
theorem d_Sm_changed_7 : decode b_Sm_changed 7 = .ok (.ineg, 1) := by decide +kernel
theorem d_Sm_changed_8 : decode b_Sm_changed 8 = .ok (.ireturn, 1) := by decide +kernel
theorem d_Sm_changed_9 : decode b_Sm_changed 9 = .ok (.iload_n 1, 1) := by decide +kernel
theorem d_Sm_changed_10 : decode b_Sm_changed 10 = .ok (.ifCond .ne 7, 3) := by decide +kernel
theorem d_Sm_changed_13 : decode b_Sm_changed 13 = .ok (.iconst 1, 1) := by decide +kernel
theorem d_Sm_changed_14 : decode b_Sm_changed 14 = .ok (.goto 4, 3) := by decide +kernel
theorem d_Sm_changed_17 : decode b_Sm_changed 17 = .ok (.iconst 0, 1) := by decide +kernel
theorem d_Sm_changed_18 : decode b_Sm_changed 18 = .ok (.ireturn, 1) := by decide +kernel
theorem d_Sm_joined_0 : decode b_Sm_joined 0 = .ok (.iload_n 1, 1) := by decide +kernel
theorem d_Sm_joined_1 : decode b_Sm_joined 1 = .ok (.tableswitch 205 37 62 #[123, 191, 205, 205, 205, 119, 150, 205, 154, 205, 123, 205, 205, 205, 205, 205, 205, 205, 205, 205, 205, 205, 205, 158, 180, 169], 119) := by decide +kernel
theorem d_Sm_joined_120 : decode b_Sm_joined 120 = .ok (.iload_n 2, 1) := by decide +kernel
theorem d_Sm_joined_121 : decode b_Sm_joined 121 = .ok (.iload_n 3, 1) := by decide +kernel
theorem d_Sm_joined_122 : decode b_Sm_joined 122 = .ok (.imul, 1) := by decide +kernel
theorem d_Sm_joined_123 : decode b_Sm_joined 123 = .ok (.ireturn, 1) := by decide +kernel
theorem d_Sm_joined_124 : decode b_Sm_joined 124 = .ok (.iload_n 3, 1) := by decide +kernel
theorem d_Sm_joined_125 : decode b_Sm_joined 125 = .ok (.ifCond .ne 10, 3) := by decide +kernel
theorem d_Sm_joined_128 : decode b_Sm_joined 128 = .ok (.aload_n 0, 1) := by decide +kernel
theorem d_Sm_joined_129 : decode b_Sm_joined 129 = .ok (.iconst 1, 1) := by decide +kernel
theorem d_Sm_joined_130 : decode b_Sm_joined 130 = .ok (.putfield 72, 3) := by decide +kernel
theorem d_Sm_joined_133 : decode b_Sm_joined 133 = .ok (.iconst 0, 1) := by decide +kernel
theorem d_Sm_joined_134 : decode b_Sm_joined 134 = .ok (.ireturn, 1) := by decide +kernel
theorem d_Sm_joined_135 : decode b_Sm_joined 135 = .ok (.iload_n 1, 1) := by decide +kernel
theorem d_Sm_joined_136 : decode b_Sm_joined 136 = .ok (.bipush 47, 2) := by decide +kernel
theorem d_Sm_joined_138 : decode b_Sm_joined 138 = .ok (.if_icmp .ne 9, 3) := by decide +kernel
theorem d_Sm_joined_141 : decode b_Sm_joined 141 = .ok (.iload_n 2, 1) := by decide +kernel
theorem d_Sm_joined_142 : decode b_Sm_joined 142 = .ok (.iload_n 3, 1) := by decide +kernel
theorem d_Sm_joined_143 : decode b_Sm_joined 143 = .ok (.idiv, 1) := by decide +kernel
theorem d_Sm_joined_144 : decode b_Sm_joined 144 = .ok (.goto 6, 3) := by decide +kernel
theorem d_Sm_joined_147 : decode b_Sm_joined 147 = .ok (.iload_n 2, 1) := by decide +kernel
theorem d_Sm_joined_148 : decode b_Sm_joined 148 = .ok (.iload_n 3, 1) := by decide +kernel
theorem d_Sm_joined_149 : decode b_Sm_joined 149 = .ok (.irem, 1) := by decide +kernel
theorem d_Sm_joined_150 : decode b_Sm_joined 150 = .ok (.ireturn, 1) := by decide +kernel
theorem d_Sm_joined_151 : decode b_Sm_joined 151 = .ok (.iload_n 2, 1) := by decide +kernel
theorem d_Sm_joined_152 : decode b_Sm_joined 152 = .ok (.iload_n 3, 1) := by decide +kernel
theorem d_Sm_joined_153 : decode b_Sm_joined 153 = .ok (.iadd, 1) := by decide +kernel
theorem d_Sm_joined_154 : decode b_Sm_joined 154 = .ok (.ireturn, 1) := by decide +kernel
theorem d_Sm_joined_155 : decode b_Sm_joined 155 = .ok (.iload_n 2, 1) := by decide +kernel
theorem d_Sm_joined_156 : decode b_Sm_joined 156 = .ok (.iload_n 3, 1) := by decide +kernel
theorem d_Sm_joined_157 : decode b_Sm_joined 157 = .ok (.isub, 1) := by decide +kernel
theorem d_Sm_joined_158 : decode b_Sm_joined 158 = .ok (.ireturn, 1) := by decide +kernel
theorem d_Sm_joined_159 : decode b_Sm_joined 159 = .ok (.iload_n 2, 1) := by decide +kernel
theorem d_Sm_joined_160 : decode b_Sm_joined 160 = .ok (.iload_n 3, 1) := by decide +kernel
theorem d_Sm_joined_161 : decode b_Sm_joined 161 = .ok (.if_icmp .ge 7, 3) := by decide +kernel
theorem d_Sm_joined_164 : decode b_Sm_joined 164 = .ok (.iconst 1, 1) := by decide +kernel
theorem d_Sm_joined_165 : decode b_Sm_joined 165 = .ok (.goto 4, 3) := by decide +kernel
theorem d_Sm_joined_168 : decode b_Sm_joined 168 = .ok (.iconst 0, 1) := by decide +kernel
theorem d_Sm_joined_169 : decode b_Sm_joined 169 = .ok (.ireturn, 1) := by decide +kernel
theorem d_Sm_joined_170 : decode b_Sm_joined 170 = .ok (.iload_n 2, 1) := by decide +kernel
theorem d_Sm_joined_171 : decode b_Sm_joined 171 = .ok (.iload_n 3, 1) := by decide +kernel
theorem d_Sm_joined_172 : decode b_Sm_joined 172 = .ok (.if_icmp .le 7, 3) := by decide +kernel
theorem d_Sm_joined_175 : decode b_Sm_joined 175 = .ok (.iconst 1, 1) := by decide +kernel
theorem d_Sm_joined_176 : decode b_Sm_joined 176 = .ok (.goto 4, 3) := by decide +kernel
theorem d_Sm_joined_179 : decode b_Sm_joined 179 = .ok (.iconst 0, 1) := by decide +kernel
theorem d_Sm_joined_180 : decode b_Sm_joined 180 = .ok (.ireturn, 1) := by decide +kernel
theorem d_Sm_joined_181 : decode b_Sm_joined 181 = .ok (.iload_n 2, 1) := by decide +kernel
theorem d_Sm_joined_182 : decode b_Sm_joined 182 = .ok (.iload_n 3, 1) := by decide +kernel
theorem d_Sm_joined_183 : decode b_Sm_joined 183 = .ok (.if_icmp .ne 7, 3) := by decide +kernel
theorem d_Sm_joined_186 : decode b_Sm_joined 186 = .ok (.iconst 1, 1) := by decide +kernel
theorem d_Sm_joined_187 : decode b_Sm_joined 187 = .ok (.goto 4, 3) := by decide +kernel
theorem d_Sm_joined_190 : decode b_Sm_joined 190 = .ok (.iconst 0, 1) := by decide +kernel
theorem d_Sm_joined_191 : decode b_Sm_joined 191 = .ok (.ireturn, 1) := by decide +kernel
theorem d_Sm_joined_192 : decode b_Sm_joined 192 = .ok (.iload_n 2, 1) := by decide +kernel
theorem d_Sm_joined_193 : decode b_Sm_joined 193 = .ok (.ifCond .eq 11, 3) := by decide +kernel
theorem d_Sm_joined_196 : decode b_Sm_joined 196 = .ok (.iload_n 3, 1) := by decide +kernel
theorem d_Sm_joined_197 : decode b_Sm_joined 197 = .ok (.ifCond .eq 7, 3) := by decide +kernel
theorem d_Sm_joined_200 : decode b_Sm_joined 200 = .ok (.iconst 1, 1) := by decide +kernel
theorem d_Sm_joined_201 : decode b_Sm_joined 201 = .ok (.goto 4, 3) := by decide +kernel
theorem d_Sm_joined_204 : decode b_Sm_joined 204 = .ok (.iconst 0, 1) := by decide +kernel
theorem d_Sm_joined_205 : decode b_Sm_joined 205 = .ok (.ireturn, 1) := by decide +kernel
theorem d_Sm_joined_206 : decode b_Sm_joined 206 = .ok (.iload_n 2, 1) := by decide +kernel
theorem d_Sm_joined_207 : decode b_Sm_joined 207 = .ok (.ifCond .ne 7, 3) := by decide +kernel
theorem d_Sm_joined_210 : decode b_Sm_joined 210 = .ok (.iload_n 3, 1) := by decide +kernel
theorem d_Sm_joined_211 : decode b_Sm_joined 211 = .ok (.ifCond .eq 7, 3) := by decide +kernel
theorem d_Sm_joined_214 : decode b_Sm_joined 214 = .ok (.iconst 1, 1) := by decide +kernel
theorem d_Sm_joined_215 : decode b_Sm_joined 215 = .ok (.goto 4, 3) := by decide +kernel
theorem d_Sm_joined_218 : decode b_Sm_joined 218 = .ok (.iconst 0, 1) := by decide +kernel
theorem d_Sm_joined_219 : decode b_Sm_joined 219 = .ok (.ireturn, 1) := by decide +kernel
theorem d_Sm_pushOperand_0 : decode b_Sm_pushOperand 0 = .ok (.aload_n 0, 1) := by decide +kernel
theorem d_Sm_pushOperand_1 : decode b_Sm_pushOperand 1 = .ok (.getfield 87, 3) := by decide +kernel
theorem d_Sm_pushOperand_4 : decode b_Sm_pushOperand 4 = .ok (.sipush 200, 3) := by decide +kernel
theorem d_Sm_pushOperand_7 : decode b_Sm_pushOperand 7 = .ok (.if_icmp .ge 23, 3) := by decide +kernel
theorem d_Sm_pushOperand_10 : decode b_Sm_pushOperand 10 = .ok (.aload_n 0, 1) := by decide +kernel
theorem d_Sm_pushOperand_11 : decode b_Sm_pushOperand 11 = .ok (.getfield 9, 3) := by decide +kernel
theorem d_Sm_pushOperand_14 : decode b_Sm_pushOperand 14 = .ok (.aload_n 0, 1) := by decide +kernel
theorem d_Sm_pushOperand_15 : decode b_Sm_pushOperand 15 = .ok (.getfield 87, 3) := by decide +kernel
theorem d_Sm_pushOperand_18 : decode b_Sm_pushOperand 18 = .ok (.iload_n 1, 1) := by decide +kernel
theorem d_Sm_pushOperand_19 : decode b_Sm_pushOperand 19 = .ok (.iastore, 1) := by decide +kernel
theorem d_Sm_pushOperand_20 : decode b_Sm_pushOperand 20 = .ok (.aload_n 0, 1) := by decide +kernel
theorem d_Sm_pushOperand_21 : decode b_Sm_pushOperand 21 = .ok (.dup, 1) := by decide +kernel
theorem d_Sm_pushOperand_22 : decode b_Sm_pushOperand 22 = .ok (.getfield 87, 3) := by decide +kernel
theorem d_Sm_pushOperand_25 : decode b_Sm_pushOperand 25 = .ok (.iconst 1, 1) := by decide +kernel
theorem d_Sm_pushOperand_26 : decode b_Sm_pushOperand 26 = .ok (.iadd, 1) := by decide +kernel
theorem d_Sm_pushOperand_27 : decode b_Sm_pushOperand 27 = .ok (.putfield 87, 3) := by decide +kernel
theorem d_Sm_pushOperand_30 : decode b_Sm_pushOperand 30 = .ok (.aload_n 0, 1) := by decide +kernel
theorem d_Sm_pushOperand_31 : decode b_Sm_pushOperand 31 = .ok (.iconst 0, 1) := by decide +kernel
theorem d_Sm_pushOperand_32 : decode b_Sm_pushOperand 32 = .ok (.putfield 37, 3) := by decide +kernel
theorem d_Sm_pushOperand_35 : decode b_Sm_pushOperand 35 = .ok (.return_, 1) := by decide +kernel
theorem d_Sm_pushSign_0 : decode b_Sm_pushSign 0 = .ok (.aload_n 0, 1) := by decide +kernel
theorem d_Sm_pushSign_1 : decode b_Sm_pushSign 1 = .ok (.getfield 90, 3) := by decide +kernel
theorem d_Sm_pushSign_4 : decode b_Sm_pushSign 4 = .ok (.sipush 200, 3) := by decide +kernel
theorem d_Sm_pushSign_7 : decode b_Sm_pushSign 7 = .ok (.if_icmp .ge 23, 3) := by decide +kernel
theorem d_Sm_pushSign_10 : decode b_Sm_pushSign 10 = .ok (.aload_n 0, 1) := by decide +kernel
theorem d_Sm_pushSign_11 : decode b_Sm_pushSign 11 = .ok (.getfield 15, 3) := by decide +kernel
theorem d_Sm_pushSign_14 : decode b_Sm_pushSign 14 = .ok (.aload_n 0, 1) := by decide +kernel
theorem d_Sm_pushSign_15 : decode b_Sm_pushSign 15 = .ok (.getfield 90, 3) := by decide +kernel
theorem d_Sm_pushSign_18 : decode b_Sm_pushSign 18 = .ok (.iload_n 1, 1) := by decide +kernel
theorem d_Sm_pushSign_19 : decode b_Sm_pushSign 19 = .ok (.castore, 1) := by decide +kernel
theorem d_Sm_pushSign_20 : decode b_Sm_pushSign 20 = .ok (.aload_n 0, 1) := by decide +kernel
theorem d_Sm_pushSign_21 : decode b_Sm_pushSign 21 = .ok (.dup, 1) := by decide +kernel
theorem d_Sm_pushSign_22 : decode b_Sm_pushSign 22 = .ok (.getfield 90, 3) := by decide +kernel
theorem d_Sm_pushSign_25 : decode b_Sm_pushSign 25 = .ok (.iconst 1, 1) := by decide +kernel
theorem d_Sm_pushSign_26 : decode b_Sm_pushSign 26 = .ok (.iadd, 1) := by decide +kernel
theorem d_Sm_pushSign_27 : decode b_Sm_pushSign 27 = .ok (.putfield 90, 3) := by decide +kernel
theorem d_Sm_pushSign_30 : decode b_Sm_pushSign 30 = .ok (.return_, 1) := by decide +kernel
theorem d_Sm_rankOf_0 : decode b_Sm_rankOf 0 = .ok (.iload_n 0, 1) := by decide +kernel
theorem d_Sm_rankOf_1 : decode b_Sm_rankOf 1 = .ok (.lookupswitch 120 #[(33, 107), (37, 110), (38, 116), (42, 110), (43, 112), (45, 112), (47, 110), (60, 114), (61, 114), (62, 114), (124, 118), (126, 107)], 107) := by decide +kernel
theorem d_Sm_rankOf_108 : decode b_Sm_rankOf 108 = .ok (.bipush 6, 2) := by decide +kernel
theorem d_Sm_rankOf_110 : decode b_Sm_rankOf 110 = .ok (.ireturn, 1) := by decide +kernel
theorem d_Sm_rankOf_111 : decode b_Sm_rankOf 111 = .ok (.iconst 5, 1) := by decide +kernel
theorem d_Sm_rankOf_112 : decode b_Sm_rankOf 112 = .ok (.ireturn, 1) := by decide +kernel
theorem d_Sm_rankOf_113 : decode b_Sm_rankOf 113 = .ok (.iconst 4, 1) := by decide +kernel
theorem d_Sm_rankOf_114 : decode b_Sm_rankOf 114 = .ok (.ireturn, 1) := by decide +kernel
theorem d_Sm_rankOf_115 : decode b_Sm_rankOf 115 = .ok (.iconst 3, 1) := by decide +kernel
theorem d_Sm_rankOf_116 : decode b_Sm_rankOf 116 = .ok (.ireturn, 1) := by decide +kernel
theorem d_Sm_rankOf_117 : decode b_Sm_rankOf 117 = .ok (.iconst 2, 1) := by decide +kernel
theorem d_Sm_rankOf_118 : decode b_Sm_rankOf 118 = .ok (.ireturn, 1) := by decide +kernel
theorem d_Sm_rankOf_119 : decode b_Sm_rankOf 119 = .ok (.iconst 1, 1) := by decide +kernel
theorem d_Sm_rankOf_120 : decode b_Sm_rankOf 120 = .ok (.ireturn, 1) := by decide +kernel
theorem d_Sm_rankOf_121 : decode b_Sm_rankOf 121 = .ok (.iconst 0, 1) := by decide +kernel
theorem d_Sm_rankOf_122 : decode b_Sm_rankOf 122 = .ok (.ireturn, 1) := by decide +kernel
theorem d_Sm_takeNumber_0 : decode b_Sm_takeNumber 0 = .ok (.iload_n 1, 1) := by decide +kernel
theorem d_Sm_takeNumber_1 : decode b_Sm_takeNumber 1 = .ok (.bipush 48, 2) := by decide +kernel
theorem d_Sm_takeNumber_3 : decode b_Sm_takeNumber 3 = .ok (.isub, 1) := by decide +kernel
theorem d_Sm_takeNumber_4 : decode b_Sm_takeNumber 4 = .ok (.istore_n 2, 1) := by decide +kernel
theorem d_Sm_takeNumber_5 : decode b_Sm_takeNumber 5 = .ok (.iconst 1, 1) := by decide +kernel
theorem d_Sm_takeNumber_6 : decode b_Sm_takeNumber 6 = .ok (.istore_n 3, 1) := by decide +kernel
theorem d_Sm_takeNumber_7 : decode b_Sm_takeNumber 7 = .ok (.iload_n 3, 1) := by decide +kernel
theorem d_Sm_takeNumber_8 : decode b_Sm_takeNumber 8 = .ok (.bipush 10, 2) := by decide +kernel
theorem d_Sm_takeNumber_10 : decode b_Sm_takeNumber 10 = .ok (.if_icmp .ge 63, 3) := by decide +kernel
theorem d_Sm_takeNumber_13 : decode b_Sm_takeNumber 13 = .ok (.aload_n 0, 1) := by decide +kernel
theorem d_Sm_takeNumber_14 : decode b_Sm_takeNumber 14 = .ok (.getfield 30, 3) := by decide +kernel
theorem d_Sm_takeNumber_17 : decode b_Sm_takeNumber 17 = .ok (.aload_n 0, 1) := by decide +kernel
theorem d_Sm_takeNumber_18 : decode b_Sm_takeNumber 18 = .ok (.getfield 34, 3) := by decide +kernel
theorem d_Sm_takeNumber_21 : decode b_Sm_takeNumber 21 = .ok (.if_icmp .ge 52, 3) := by decide +kernel
theorem d_Sm_takeNumber_24 : decode b_Sm_takeNumber 24 = .ok (.aload_n 0, 1) := by decide +kernel
theorem d_Sm_takeNumber_25 : decode b_Sm_takeNumber 25 = .ok (.getfield 19, 3) := by decide +kernel
theorem d_Sm_takeNumber_28 : decode b_Sm_takeNumber 28 = .ok (.aload_n 0, 1) := by decide +kernel
theorem d_Sm_takeNumber_29 : decode b_Sm_takeNumber 29 = .ok (.getfield 30, 3) := by decide +kernel
theorem d_Sm_takeNumber_32 : decode b_Sm_takeNumber 32 = .ok (.caload, 1) := by decide +kernel
theorem d_Sm_takeNumber_33 : decode b_Sm_takeNumber 33 = .ok (.invokestatic 49, 3) := by decide +kernel
theorem d_Sm_takeNumber_36 : decode b_Sm_takeNumber 36 = .ok (.ifCond .eq 37, 3) := by decide +kernel
theorem d_Sm_takeNumber_39 : decode b_Sm_takeNumber 39 = .ok (.iload_n 2, 1) := by decide +kernel
theorem d_Sm_takeNumber_40 : decode b_Sm_takeNumber 40 = .ok (.bipush 10, 2) := by decide +kernel
theorem d_Sm_takeNumber_42 : decode b_Sm_takeNumber 42 = .ok (.imul, 1) := by decide +kernel
theorem d_Sm_takeNumber_43 : decode b_Sm_takeNumber 43 = .ok (.aload_n 0, 1) := by decide +kernel
theorem d_Sm_takeNumber_44 : decode b_Sm_takeNumber 44 = .ok (.getfield 19, 3) := by decide +kernel
theorem d_Sm_takeNumber_47 : decode b_Sm_takeNumber 47 = .ok (.aload_n 0, 1) := by decide +kernel
theorem d_Sm_takeNumber_48 : decode b_Sm_takeNumber 48 = .ok (.getfield 30, 3) := by decide +kernel
theorem d_Sm_takeNumber_51 : decode b_Sm_takeNumber 51 = .ok (.caload, 1) := by decide +kernel
theorem d_Sm_takeNumber_52 : decode b_Sm_takeNumber 52 = .ok (.bipush 48, 2) := by decide +kernel
theorem d_Sm_takeNumber_54 : decode b_Sm_takeNumber 54 = .ok (.isub, 1) := by decide +kernel
theorem d_Sm_takeNumber_55 : decode b_Sm_takeNumber 55 = .ok (.iadd, 1) := by decide +kernel
theorem d_Sm_takeNumber_56 : decode b_Sm_takeNumber 56 = .ok (.istore_n 2, 1) := by decide +kernel
theorem d_Sm_takeNumber_57 : decode b_Sm_takeNumber 57 = .ok (.aload_n 0, 1) := by decide +kernel
theorem d_Sm_takeNumber_58 : decode b_Sm_takeNumber 58 = .ok (.dup, 1) := by decide +kernel
theorem d_Sm_takeNumber_59 : decode b_Sm_takeNumber 59 = .ok (.getfield 30, 3) := by decide +kernel
theorem d_Sm_takeNumber_62 : decode b_Sm_takeNumber 62 = .ok (.iconst 1, 1) := by decide +kernel
theorem d_Sm_takeNumber_63 : decode b_Sm_takeNumber 63 = .ok (.iadd, 1) := by decide +kernel
theorem d_Sm_takeNumber_64 : decode b_Sm_takeNumber 64 = .ok (.putfield 30, 3) := by decide +kernel
theorem d_Sm_takeNumber_67 : decode b_Sm_takeNumber 67 = .ok (.iinc 3 1, 3) := by decide +kernel
theorem d_Sm_takeNumber_70 : decode b_Sm_takeNumber 70 = .ok (.goto (-63), 3) := by decide +kernel
theorem d_Sm_takeNumber_73 : decode b_Sm_takeNumber 73 = .ok (.aload_n 0, 1) := by decide +kernel
theorem d_Sm_takeNumber_74 : decode b_Sm_takeNumber 74 = .ok (.iload_n 2, 1) := by decide +kernel
theorem d_Sm_takeNumber_75 : decode b_Sm_takeNumber 75 = .ok (.invokevirtual 97, 3) := by decide +kernel
theorem d_Sm_takeNumber_78 : decode b_Sm_takeNumber 78 = .ok (.iconst 1, 1) := by decide +kernel
theorem d_Sm_takeNumber_79 : decode b_Sm_takeNumber 79 = .ok (.ireturn, 1) := by decide +kernel
theorem d_Sm_takeSign_0 : decode b_Sm_takeSign 0 = .ok (.iload_n 1, 1) := by decide +kernel
theorem d_Sm_takeSign_1 : decode b_Sm_takeSign 1 = .ok (.bipush 41, 2) := by decide +kernel
theorem d_Sm_takeSign_3 : decode b_Sm_takeSign 3 = .ok (.if_icmp .ne 46, 3) := by decide +kernel
theorem d_Sm_takeSign_6 : decode b_Sm_takeSign 6 = .ok (.aload_n 0, 1) := by decide +kernel
theorem d_Sm_takeSign_7 : decode b_Sm_takeSign 7 = .ok (.getfield 59, 3) := by decide +kernel
theorem d_Sm_takeSign_10 : decode b_Sm_takeSign 10 = .ok (.ifCond .eq 10, 3) := by decide +kernel
theorem d_Sm_takeSign_13 : decode b_Sm_takeSign 13 = .ok (.aload_n 0, 1) := by decide +kernel
theorem d_Sm_takeSign_14 : decode b_Sm_takeSign 14 = .ok (.getfield 90, 3) := by decide +kernel
theorem d_Sm_takeSign_17 : decode b_Sm_takeSign 17 = .ok (.ifCond .ne 5, 3) := by decide +kernel
theorem d_Sm_takeSign_20 : decode b_Sm_takeSign 20 = .ok (.iconst 0, 1) := by decide +kernel
theorem d_Sm_takeSign_21 : decode b_Sm_takeSign 21 = .ok (.ireturn, 1) := by decide +kernel
theorem d_Sm_takeSign_22 : decode b_Sm_takeSign 22 = .ok (.aload_n 0, 1) := by decide +kernel
theorem d_Sm_takeSign_23 : decode b_Sm_takeSign 23 = .ok (.iconst 1, 1) := by decide +kernel
theorem d_Sm_takeSign_24 : decode b_Sm_takeSign 24 = .ok (.invokevirtual 62, 3) := by decide +kernel
theorem d_Sm_takeSign_27 : decode b_Sm_takeSign 27 = .ok (.aload_n 0, 1) := by decide +kernel
theorem d_Sm_takeSign_28 : decode b_Sm_takeSign 28 = .ok (.dup, 1) := by decide +kernel
theorem d_Sm_takeSign_29 : decode b_Sm_takeSign 29 = .ok (.getfield 59, 3) := by decide +kernel
theorem d_Sm_takeSign_32 : decode b_Sm_takeSign 32 = .ok (.iconst 1, 1) := by decide +kernel
theorem d_Sm_takeSign_33 : decode b_Sm_takeSign 33 = .ok (.isub, 1) := by decide +kernel
theorem d_Sm_takeSign_34 : decode b_Sm_takeSign 34 = .ok (.putfield 59, 3) := by decide +kernel
theorem d_Sm_takeSign_37 : decode b_Sm_takeSign 37 = .ok (.aload_n 0, 1) := by decide +kernel
theorem d_Sm_takeSign_38 : decode b_Sm_takeSign 38 = .ok (.dup, 1) := by decide +kernel
theorem d_Sm_takeSign_39 : decode b_Sm_takeSign 39 = .ok (.getfield 90, 3) := by decide +kernel
theorem d_Sm_takeSign_42 : decode b_Sm_takeSign 42 = .ok (.iconst 1, 1) := by decide +kernel
theorem d_Sm_takeSign_43 : decode b_Sm_takeSign 43 = .ok (.isub, 1) := by decide +kernel
theorem d_Sm_takeSign_44 : decode b_Sm_takeSign 44 = .ok (.putfield 90, 3) := by decide +kernel
theorem d_Sm_takeSign_47 : decode b_Sm_takeSign 47 = .ok (.iconst 1, 1) := by decide +kernel
theorem d_Sm_takeSign_48 : decode b_Sm_takeSign 48 = .ok (.ireturn, 1) := by decide +kernel
theorem d_Sm_takeSign_49 : decode b_Sm_takeSign 49 = .ok (.iload_n 1, 1) := by decide +kernel
theorem d_Sm_takeSign_50 : decode b_Sm_takeSign 50 = .ok (.invokestatic 121, 3) := by decide +kernel
theorem d_Sm_takeSign_53 : decode b_Sm_takeSign 53 = .ok (.istore_n 2, 1) := by decide +kernel
theorem d_Sm_takeSign_54 : decode b_Sm_takeSign 54 = .ok (.iload_n 2, 1) := by decide +kernel
theorem d_Sm_takeSign_55 : decode b_Sm_takeSign 55 = .ok (.ifCond .le 9, 3) := by decide +kernel
theorem d_Sm_takeSign_58 : decode b_Sm_takeSign 58 = .ok (.iload_n 2, 1) := by decide +kernel
theorem d_Sm_takeSign_59 : decode b_Sm_takeSign 59 = .ok (.bipush 6, 2) := by decide +kernel
theorem d_Sm_takeSign_61 : decode b_Sm_takeSign 61 = .ok (.if_icmp .lt 5, 3) := by decide +kernel
theorem d_Sm_takeSign_64 : decode b_Sm_takeSign 64 = .ok (.iconst 0, 1) := by decide +kernel
theorem d_Sm_takeSign_65 : decode b_Sm_takeSign 65 = .ok (.ireturn, 1) := by decide +kernel
theorem d_Sm_takeSign_66 : decode b_Sm_takeSign 66 = .ok (.aload_n 0, 1) := by decide +kernel
theorem d_Sm_takeSign_67 : decode b_Sm_takeSign 67 = .ok (.iload_n 2, 1) := by decide +kernel
theorem d_Sm_takeSign_68 : decode b_Sm_takeSign 68 = .ok (.invokevirtual 62, 3) := by decide +kernel
theorem d_Sm_takeSign_71 : decode b_Sm_takeSign 71 = .ok (.aload_n 0, 1) := by decide +kernel
theorem d_Sm_takeSign_72 : decode b_Sm_takeSign 72 = .ok (.iload_n 1, 1) := by decide +kernel
theorem d_Sm_takeSign_73 : decode b_Sm_takeSign 73 = .ok (.invokevirtual 93, 3) := by decide +kernel
theorem d_Sm_takeSign_76 : decode b_Sm_takeSign 76 = .ok (.aload_n 0, 1) := by decide +kernel
theorem d_Sm_takeSign_77 : decode b_Sm_takeSign 77 = .ok (.iconst 1, 1) := by decide +kernel
theorem d_Sm_takeSign_78 : decode b_Sm_takeSign 78 = .ok (.putfield 37, 3) := by decide +kernel
theorem d_Sm_takeSign_81 : decode b_Sm_takeSign 81 = .ok (.iconst 1, 1) := by decide +kernel
theorem d_Sm_takeSign_82 : decode b_Sm_takeSign 82 = .ok (.ireturn, 1) := by decide +kernel
theorem d_Sm_takeSignBefore_0 : decode b_Sm_takeSignBefore 0 = .ok (.iload_n 1, 1) := by decide +kernel
theorem d_Sm_takeSignBefore_1 : decode b_Sm_takeSignBefore 1 = .ok (.lookupswitch 80 #[(33, 43), (40, 50), (45, 35)], 35) := by decide +kernel
theorem d_Sm_takeSignBefore_36 : decode b_Sm_takeSignBefore 36 = .ok (.aload_n 0, 1) := by decide +kernel
theorem d_Sm_takeSignBefore_37 : decode b_Sm_takeSignBefore 37 = .ok (.bipush 126, 2) := by decide +kernel
theorem d_Sm_takeSignBefore_39 : decode b_Sm_takeSignBefore 39 = .ok (.invokevirtual 93, 3) := by decide +kernel
theorem d_Sm_takeSignBefore_42 : decode b_Sm_takeSignBefore 42 = .ok (.iconst 1, 1) := by decide +kernel
theorem d_Sm_takeSignBefore_43 : decode b_Sm_takeSignBefore 43 = .ok (.ireturn, 1) := by decide +kernel
theorem d_Sm_takeSignBefore_44 : decode b_Sm_takeSignBefore 44 = .ok (.aload_n 0, 1) := by decide +kernel
theorem d_Sm_takeSignBefore_45 : decode b_Sm_takeSignBefore 45 = .ok (.iload_n 1, 1) := by decide +kernel
theorem d_Sm_takeSignBefore_46 : decode b_Sm_takeSignBefore 46 = .ok (.invokevirtual 93, 3) := by decide +kernel
theorem d_Sm_takeSignBefore_49 : decode b_Sm_takeSignBefore 49 = .ok (.iconst 1, 1) := by decide +kernel
theorem d_Sm_takeSignBefore_50 : decode b_Sm_takeSignBefore 50 = .ok (.ireturn, 1) := by decide +kernel
theorem d_Sm_takeSignBefore_51 : decode b_Sm_takeSignBefore 51 = .ok (.aload_n 0, 1) := by decide +kernel
theorem d_Sm_takeSignBefore_52 : decode b_Sm_takeSignBefore 52 = .ok (.iload_n 1, 1) := by decide +kernel
theorem d_Sm_takeSignBefore_53 : decode b_Sm_takeSignBefore 53 = .ok (.invokevirtual 93, 3) := by decide +kernel
theorem d_Sm_takeSignBefore_56 : decode b_Sm_takeSignBefore 56 = .ok (.aload_n 0, 1) := by decide +kernel
theorem d_Sm_takeSignBefore_57 : decode b_Sm_takeSignBefore 57 = .ok (.dup, 1) := by decide +kernel
theorem d_Sm_takeSignBefore_58 : decode b_Sm_takeSignBefore 58 = .ok (.getfield 59, 3) := by decide +kernel
theorem d_Sm_takeSignBefore_61 : decode b_Sm_takeSignBefore 61 = .ok (.iconst 1, 1) := by decide +kernel
theorem d_Sm_takeSignBefore_62 : decode b_Sm_takeSignBefore 62 = .ok (.iadd, 1) := by decide +kernel
theorem d_Sm_takeSignBefore_63 : decode b_Sm_takeSignBefore 63 = .ok (.putfield 59, 3) := by decide +kernel
theorem d_Sm_takeSignBefore_66 : decode b_Sm_takeSignBefore 66 = .ok (.aload_n 0, 1) := by decide +kernel
theorem d_Sm_takeSignBefore_67 : decode b_Sm_takeSignBefore 67 = .ok (.getfield 59, 3) := by decide +kernel
theorem d_Sm_takeSignBefore_70 : decode b_Sm_takeSignBefore 70 = .ok (.bipush 8, 2) := by decide +kernel
theorem d_Sm_takeSignBefore_72 : decode b_Sm_takeSignBefore 72 = .ok (.if_icmp .gt 7, 3) := by decide +kernel
theorem d_Sm_takeSignBefore_75 : decode b_Sm_takeSignBefore 75 = .ok (.iconst 1, 1) := by decide +kernel
theorem d_Sm_takeSignBefore_76 : decode b_Sm_takeSignBefore 76 = .ok (.goto 4, 3) := by decide +kernel
theorem d_Sm_takeSignBefore_79 : decode b_Sm_takeSignBefore 79 = .ok (.iconst 0, 1) := by decide +kernel
theorem d_Sm_takeSignBefore_80 : decode b_Sm_takeSignBefore 80 = .ok (.ireturn, 1) := by decide +kernel
theorem d_Sm_takeSignBefore_81 : decode b_Sm_takeSignBefore 81 = .ok (.iconst 0, 1) := by decide +kernel
theorem d_Sm_takeSignBefore_82 : decode b_Sm_takeSignBefore 82 = .ok (.ireturn, 1) := by decide +kernel
theorem d_Sm_takeVariable_0 : decode b_Sm_takeVariable 0 = .ok (.aload_n 0, 1) := by decide +kernel
theorem d_Sm_takeVariable_1 : decode b_Sm_takeVariable 1 = .ok (.getfield 30, 3) := by decide +kernel
theorem d_Sm_takeVariable_4 : decode b_Sm_takeVariable 4 = .ok (.aload_n 0, 1) := by decide +kernel
theorem d_Sm_takeVariable_5 : decode b_Sm_takeVariable 5 = .ok (.getfield 34, 3) := by decide +kernel
theorem d_Sm_takeVariable_8 : decode b_Sm_takeVariable 8 = .ok (.if_icmp .ge 18, 3) := by decide +kernel
theorem d_Sm_takeVariable_11 : decode b_Sm_takeVariable 11 = .ok (.aload_n 0, 1) := by decide +kernel
theorem d_Sm_takeVariable_12 : decode b_Sm_takeVariable 12 = .ok (.getfield 19, 3) := by decide +kernel
theorem d_Sm_takeVariable_15 : decode b_Sm_takeVariable 15 = .ok (.aload_n 0, 1) := by decide +kernel
theorem d_Sm_takeVariable_16 : decode b_Sm_takeVariable 16 = .ok (.getfield 30, 3) := by decide +kernel
theorem d_Sm_takeVariable_19 : decode b_Sm_takeVariable 19 = .ok (.caload, 1) := by decide +kernel
theorem d_Sm_takeVariable_20 : decode b_Sm_takeVariable 20 = .ok (.invokestatic 100, 3) := by decide +kernel
theorem d_Sm_takeVariable_23 : decode b_Sm_takeVariable 23 = .ok (.ifCond .ne 5, 3) := by decide +kernel
theorem d_Sm_takeVariable_26 : decode b_Sm_takeVariable 26 = .ok (.iconst 0, 1) := by decide +kernel
theorem d_Sm_takeVariable_27 : decode b_Sm_takeVariable 27 = .ok (.ireturn, 1) := by decide +kernel
theorem d_Sm_takeVariable_28 : decode b_Sm_takeVariable 28 = .ok (.aload_n 0, 1) := by decide +kernel
theorem d_Sm_takeVariable_29 : decode b_Sm_takeVariable 29 = .ok (.getfield 19, 3) := by decide +kernel
theorem d_Sm_takeVariable_32 : decode b_Sm_takeVariable 32 = .ok (.aload_n 0, 1) := by decide +kernel
theorem d_Sm_takeVariable_33 : decode b_Sm_takeVariable 33 = .ok (.getfield 30, 3) := by decide +kernel
theorem d_Sm_takeVariable_36 : decode b_Sm_takeVariable 36 = .ok (.caload, 1) := by decide +kernel
theorem d_Sm_takeVariable_37 : decode b_Sm_takeVariable 37 = .ok (.bipush 97, 2) := by decide +kernel
theorem d_Sm_takeVariable_39 : decode b_Sm_takeVariable 39 = .ok (.isub, 1) := by decide +kernel
theorem d_Sm_takeVariable_40 : decode b_Sm_takeVariable 40 = .ok (.istore_n 1, 1) := by decide +kernel
theorem d_Sm_takeVariable_41 : decode b_Sm_takeVariable 41 = .ok (.aload_n 0, 1) := by decide +kernel
theorem d_Sm_takeVariable_42 : decode b_Sm_takeVariable 42 = .ok (.dup, 1) := by decide +kernel
theorem d_Sm_takeVariable_43 : decode b_Sm_takeVariable 43 = .ok (.getfield 30, 3) := by decide +kernel
theorem d_Sm_takeVariable_46 : decode b_Sm_takeVariable 46 = .ok (.iconst 1, 1) := by decide +kernel
theorem d_Sm_takeVariable_47 : decode b_Sm_takeVariable 47 = .ok (.iadd, 1) := by decide +kernel
theorem d_Sm_takeVariable_48 : decode b_Sm_takeVariable 48 = .ok (.putfield 30, 3) := by decide +kernel
theorem d_Sm_takeVariable_51 : decode b_Sm_takeVariable 51 = .ok (.aload_n 0, 1) := by decide +kernel
theorem d_Sm_takeVariable_52 : decode b_Sm_takeVariable 52 = .ok (.getfield 22, 3) := by decide +kernel
theorem d_Sm_takeVariable_55 : decode b_Sm_takeVariable 55 = .ok (.aload_n 0, 1) := by decide +kernel
theorem d_Sm_takeVariable_56 : decode b_Sm_takeVariable 56 = .ok (.getfield 84, 3) := by decide +kernel
theorem d_Sm_takeVariable_59 : decode b_Sm_takeVariable 59 = .ok (.iload_n 1, 1) := by decide +kernel
theorem d_Sm_takeVariable_60 : decode b_Sm_takeVariable 60 = .ok (.invokevirtual 103, 3) := by decide +kernel
theorem d_Sm_takeVariable_63 : decode b_Sm_takeVariable 63 = .ok (.astore_n 2, 1) := by decide +kernel
theorem d_Sm_takeVariable_64 : decode b_Sm_takeVariable 64 = .ok (.aload_n 2, 1) := by decide +kernel
theorem d_Sm_takeVariable_65 : decode b_Sm_takeVariable 65 = .ok (.iload_n 1, 1) := by decide +kernel
theorem d_Sm_takeVariable_66 : decode b_Sm_takeVariable 66 = .ok (.invokevirtual 109, 3) := by decide +kernel
theorem d_Sm_takeVariable_69 : decode b_Sm_takeVariable 69 = .ok (.istore_n 3, 1) := by decide +kernel
theorem d_Sm_takeVariable_70 : decode b_Sm_takeVariable 70 = .ok (.iload_n 3, 1) := by decide +kernel
theorem d_Sm_takeVariable_71 : decode b_Sm_takeVariable 71 = .ok (.ifCond .ne 28, 3) := by decide +kernel
theorem d_Sm_takeVariable_74 : decode b_Sm_takeVariable 74 = .ok (.aload_n 0, 1) := by decide +kernel
theorem d_Sm_takeVariable_75 : decode b_Sm_takeVariable 75 = .ok (.getfield 69, 3) := by decide +kernel
theorem d_Sm_takeVariable_78 : decode b_Sm_takeVariable 78 = .ok (.ifCond .ne 21, 3) := by decide +kernel
theorem d_Sm_takeVariable_81 : decode b_Sm_takeVariable 81 = .ok (.aload_n 0, 1) := by decide +kernel
theorem d_Sm_takeVariable_82 : decode b_Sm_takeVariable 82 = .ok (.aload_n 2, 1) := by decide +kernel
theorem d_Sm_takeVariable_83 : decode b_Sm_takeVariable 83 = .ok (.iload_n 1, 1) := by decide +kernel
theorem d_Sm_takeVariable_84 : decode b_Sm_takeVariable 84 = .ok (.invokevirtual 114, 3) := by decide +kernel
theorem d_Sm_takeVariable_87 : decode b_Sm_takeVariable 87 = .ok (.iconst (-1), 1) := by decide +kernel
theorem d_Sm_takeVariable_88 : decode b_Sm_takeVariable 88 = .ok (.if_icmp .ne 7, 3) := by decide +kernel
theorem d_Sm_takeVariable_91 : decode b_Sm_takeVariable 91 = .ok (.iconst 4, 1) := by decide +kernel
theorem d_Sm_takeVariable_92 : decode b_Sm_takeVariable 92 = .ok (.goto 4, 3) := by decide +kernel
theorem d_Sm_takeVariable_95 : decode b_Sm_takeVariable 95 = .ok (.iconst 5, 1) := by decide +kernel
theorem d_Sm_takeVariable_96 : decode b_Sm_takeVariable 96 = .ok (.putfield 69, 3) := by decide +kernel
theorem d_Sm_takeVariable_99 : decode b_Sm_takeVariable 99 = .ok (.aload_n 0, 1) := by decide +kernel
theorem d_Sm_takeVariable_100 : decode b_Sm_takeVariable 100 = .ok (.iload_n 3, 1) := by decide +kernel
theorem d_Sm_takeVariable_101 : decode b_Sm_takeVariable 101 = .ok (.ifCond .eq 11, 3) := by decide +kernel
theorem d_Sm_takeVariable_104 : decode b_Sm_takeVariable 104 = .ok (.aload_n 2, 1) := by decide +kernel
theorem d_Sm_takeVariable_105 : decode b_Sm_takeVariable 105 = .ok (.iload_n 1, 1) := by decide +kernel
theorem d_Sm_takeVariable_106 : decode b_Sm_takeVariable 106 = .ok (.invokevirtual 118, 3) := by decide +kernel
theorem d_Sm_takeVariable_109 : decode b_Sm_takeVariable 109 = .ok (.goto 4, 3) := by decide +kernel
theorem d_Sm_takeVariable_112 : decode b_Sm_takeVariable 112 = .ok (.iconst 0, 1) := by decide +kernel
theorem d_Sm_takeVariable_113 : decode b_Sm_takeVariable 113 = .ok (.invokevirtual 97, 3) := by decide +kernel
theorem d_Sm_takeVariable_116 : decode b_Sm_takeVariable 116 = .ok (.iconst 1, 1) := by decide +kernel
theorem d_Sm_takeVariable_117 : decode b_Sm_takeVariable 117 = .ok (.ireturn, 1) := by decide +kernel
theorem d_Sm_workOut_0 : decode b_Sm_workOut 0 = .ok (.aload_n 0, 1) := by decide +kernel
theorem d_Sm_workOut_1 : decode b_Sm_workOut 1 = .ok (.iload_n 1, 1) := by decide +kernel
theorem d_Sm_workOut_2 : decode b_Sm_workOut 2 = .ok (.iload_n 2, 1) := by decide +kernel
theorem d_Sm_workOut_3 : decode b_Sm_workOut 3 = .ok (.iload_n 3, 1) := by decide +kernel
theorem d_Sm_workOut_4 : decode b_Sm_workOut 4 = .ok (.invokevirtual 26, 3) := by decide +kernel
theorem d_Sm_workOut_7 : decode b_Sm_workOut 7 = .ok (.iconst 0, 1) := by decide +kernel
theorem d_Sm_workOut_8 : decode b_Sm_workOut 8 = .ok (.istore 4, 2) := by decide +kernel
theorem d_Sm_workOut_10 : decode b_Sm_workOut 10 = .ok (.iload 4, 2) := by decide +kernel
theorem d_Sm_workOut_12 : decode b_Sm_workOut 12 = .ok (.sipush 200, 3) := by decide +kernel
theorem d_Sm_workOut_15 : decode b_Sm_workOut 15 = .ok (.if_icmp .ge 120, 3) := by decide +kernel
theorem d_Sm_workOut_18 : decode b_Sm_workOut 18 = .ok (.aload_n 0, 1) := by decide +kernel
theorem d_Sm_workOut_19 : decode b_Sm_workOut 19 = .ok (.getfield 30, 3) := by decide +kernel
theorem d_Sm_workOut_22 : decode b_Sm_workOut 22 = .ok (.aload_n 0, 1) := by decide +kernel
theorem d_Sm_workOut_23 : decode b_Sm_workOut 23 = .ok (.getfield 34, 3) := by decide +kernel
theorem d_Sm_workOut_26 : decode b_Sm_workOut 26 = .ok (.if_icmp .ge 109, 3) := by decide +kernel
theorem d_Sm_workOut_29 : decode b_Sm_workOut 29 = .ok (.aload_n 0, 1) := by decide +kernel
theorem d_Sm_workOut_30 : decode b_Sm_workOut 30 = .ok (.getfield 19, 3) := by decide +kernel
theorem d_Sm_workOut_33 : decode b_Sm_workOut 33 = .ok (.aload_n 0, 1) := by decide +kernel
theorem d_Sm_workOut_34 : decode b_Sm_workOut 34 = .ok (.getfield 30, 3) := by decide +kernel
theorem d_Sm_workOut_37 : decode b_Sm_workOut 37 = .ok (.caload, 1) := by decide +kernel
theorem d_Sm_workOut_38 : decode b_Sm_workOut 38 = .ok (.istore 5, 2) := by decide +kernel
theorem d_Sm_workOut_40 : decode b_Sm_workOut 40 = .ok (.aload_n 0, 1) := by decide +kernel
theorem d_Sm_workOut_41 : decode b_Sm_workOut 41 = .ok (.dup, 1) := by decide +kernel
theorem d_Sm_workOut_42 : decode b_Sm_workOut 42 = .ok (.getfield 30, 3) := by decide +kernel
theorem d_Sm_workOut_45 : decode b_Sm_workOut 45 = .ok (.iconst 1, 1) := by decide +kernel
theorem d_Sm_workOut_46 : decode b_Sm_workOut 46 = .ok (.iadd, 1) := by decide +kernel
theorem d_Sm_workOut_47 : decode b_Sm_workOut 47 = .ok (.putfield 30, 3) := by decide +kernel
theorem d_Sm_workOut_50 : decode b_Sm_workOut 50 = .ok (.iload 5, 2) := by decide +kernel
theorem d_Sm_workOut_52 : decode b_Sm_workOut 52 = .ok (.bipush 32, 2) := by decide +kernel
theorem d_Sm_workOut_54 : decode b_Sm_workOut 54 = .ok (.if_icmp .ne 9, 3) := by decide +kernel
theorem d_Sm_workOut_57 : decode b_Sm_workOut 57 = .ok (.iconst 1, 1) := by decide +kernel
theorem d_Sm_workOut_58 : decode b_Sm_workOut 58 = .ok (.istore 6, 2) := by decide +kernel
theorem d_Sm_workOut_60 : decode b_Sm_workOut 60 = .ok (.goto 62, 3) := by decide +kernel
theorem d_Sm_workOut_63 : decode b_Sm_workOut 63 = .ok (.aload_n 0, 1) := by decide +kernel
theorem d_Sm_workOut_64 : decode b_Sm_workOut 64 = .ok (.getfield 37, 3) := by decide +kernel
theorem d_Sm_workOut_67 : decode b_Sm_workOut 67 = .ok (.ifCond .ne 14, 3) := by decide +kernel
theorem d_Sm_workOut_70 : decode b_Sm_workOut 70 = .ok (.aload_n 0, 1) := by decide +kernel
theorem d_Sm_workOut_71 : decode b_Sm_workOut 71 = .ok (.iload 5, 2) := by decide +kernel
theorem d_Sm_workOut_73 : decode b_Sm_workOut 73 = .ok (.invokevirtual 41, 3) := by decide +kernel
theorem d_Sm_workOut_76 : decode b_Sm_workOut 76 = .ok (.istore 6, 2) := by decide +kernel
theorem d_Sm_workOut_78 : decode b_Sm_workOut 78 = .ok (.goto 44, 3) := by decide +kernel
theorem d_Sm_workOut_81 : decode b_Sm_workOut 81 = .ok (.iload 5, 2) := by decide +kernel
theorem d_Sm_workOut_83 : decode b_Sm_workOut 83 = .ok (.bipush 36, 2) := by decide +kernel
theorem d_Sm_workOut_85 : decode b_Sm_workOut 85 = .ok (.if_icmp .ne 12, 3) := by decide +kernel
theorem d_Sm_workOut_88 : decode b_Sm_workOut 88 = .ok (.aload_n 0, 1) := by decide +kernel
theorem d_Sm_workOut_89 : decode b_Sm_workOut 89 = .ok (.invokevirtual 45, 3) := by decide +kernel
theorem d_Sm_workOut_92 : decode b_Sm_workOut 92 = .ok (.istore 6, 2) := by decide +kernel
theorem d_Sm_workOut_94 : decode b_Sm_workOut 94 = .ok (.goto 28, 3) := by decide +kernel
theorem d_Sm_workOut_97 : decode b_Sm_workOut 97 = .ok (.iload 5, 2) := by decide +kernel
theorem d_Sm_workOut_99 : decode b_Sm_workOut 99 = .ok (.invokestatic 49, 3) := by decide +kernel
theorem d_Sm_workOut_102 : decode b_Sm_workOut 102 = .ok (.ifCond .eq 12, 3) := by decide +kernel
theorem d_Sm_workOut_105 : decode b_Sm_workOut 105 = .ok (.aload_n 0, 1) := by decide +kernel
theorem d_Sm_workOut_106 : decode b_Sm_workOut 106 = .ok (.iload 5, 2) := by decide +kernel
theorem d_Sm_workOut_108 : decode b_Sm_workOut 108 = .ok (.invokevirtual 53, 3) := by decide +kernel
theorem d_Sm_workOut_111 : decode b_Sm_workOut 111 = .ok (.goto 9, 3) := by decide +kernel
theorem d_Sm_workOut_114 : decode b_Sm_workOut 114 = .ok (.aload_n 0, 1) := by decide +kernel
theorem d_Sm_workOut_115 : decode b_Sm_workOut 115 = .ok (.iload 5, 2) := by decide +kernel
theorem d_Sm_workOut_117 : decode b_Sm_workOut 117 = .ok (.invokevirtual 56, 3) := by decide +kernel
theorem d_Sm_workOut_120 : decode b_Sm_workOut 120 = .ok (.istore 6, 2) := by decide +kernel
theorem d_Sm_workOut_122 : decode b_Sm_workOut 122 = .ok (.iload 6, 2) := by decide +kernel
theorem d_Sm_workOut_124 : decode b_Sm_workOut 124 = .ok (.ifCond .ne 5, 3) := by decide +kernel
theorem d_Sm_workOut_127 : decode b_Sm_workOut 127 = .ok (.iconst 1, 1) := by decide +kernel
theorem d_Sm_workOut_128 : decode b_Sm_workOut 128 = .ok (.ireturn, 1) := by decide +kernel
theorem d_Sm_workOut_129 : decode b_Sm_workOut 129 = .ok (.iinc 4 1, 3) := by decide +kernel
theorem d_Sm_workOut_132 : decode b_Sm_workOut 132 = .ok (.goto (-122), 3) := by decide +kernel
theorem d_Sm_workOut_135 : decode b_Sm_workOut 135 = .ok (.aload_n 0, 1) := by decide +kernel
theorem d_Sm_workOut_136 : decode b_Sm_workOut 136 = .ok (.getfield 37, 3) := by decide +kernel
theorem d_Sm_workOut_139 : decode b_Sm_workOut 139 = .ok (.ifCond .ne 10, 3) := by decide +kernel
theorem d_Sm_workOut_142 : decode b_Sm_workOut 142 = .ok (.aload_n 0, 1) := by decide +kernel
theorem d_Sm_workOut_143 : decode b_Sm_workOut 143 = .ok (.getfield 59, 3) := by decide +kernel
theorem d_Sm_workOut_146 : decode b_Sm_workOut 146 = .ok (.ifCond .le 5, 3) := by decide +kernel
theorem d_Sm_workOut_149 : decode b_Sm_workOut 149 = .ok (.iconst 1, 1) := by decide +kernel
theorem d_Sm_workOut_150 : decode b_Sm_workOut 150 = .ok (.ireturn, 1) := by decide +kernel
theorem d_Sm_workOut_151 : decode b_Sm_workOut 151 = .ok (.aload_n 0, 1) := by decide +kernel
theorem d_Sm_workOut_152 : decode b_Sm_workOut 152 = .ok (.iconst 1, 1) := by decide +kernel
theorem d_Sm_workOut_153 : decode b_Sm_workOut 153 = .ok (.invokevirtual 62, 3) := by decide +kernel
theorem d_Sm_workOut_156 : decode b_Sm_workOut 156 = .ok (.aload_n 0, 1) := by decide +kernel
theorem d_Sm_workOut_157 : decode b_Sm_workOut 157 = .ok (.aload_n 0, 1) := by decide +kernel
theorem d_Sm_workOut_158 : decode b_Sm_workOut 158 = .ok (.getfield 9, 3) := by decide +kernel
theorem d_Sm_workOut_161 : decode b_Sm_workOut 161 = .ok (.iconst 0, 1) := by decide +kernel
theorem d_Sm_workOut_162 : decode b_Sm_workOut 162 = .ok (.iaload, 1) := by decide +kernel
theorem d_Sm_workOut_163 : decode b_Sm_workOut 163 = .ok (.putfield 66, 3) := by decide +kernel
theorem d_Sm_workOut_166 : decode b_Sm_workOut 166 = .ok (.aload_n 0, 1) := by decide +kernel
theorem d_Sm_workOut_167 : decode b_Sm_workOut 167 = .ok (.getfield 69, 3) := by decide +kernel
theorem d_Sm_workOut_170 : decode b_Sm_workOut 170 = .ok (.ifCond .eq 8, 3) := by decide +kernel
theorem d_Sm_workOut_173 : decode b_Sm_workOut 173 = .ok (.aload_n 0, 1) := by decide +kernel
theorem d_Sm_workOut_174 : decode b_Sm_workOut 174 = .ok (.getfield 69, 3) := by decide +kernel
theorem d_Sm_workOut_177 : decode b_Sm_workOut 177 = .ok (.ireturn, 1) := by decide +kernel
theorem d_Sm_workOut_178 : decode b_Sm_workOut 178 = .ok (.aload_n 0, 1) := by decide +kernel
theorem d_Sm_workOut_179 : decode b_Sm_workOut 179 = .ok (.getfield 72, 3) := by decide +kernel
theorem d_Sm_workOut_182 : decode b_Sm_workOut 182 = .ok (.ifCond .eq 8, 3) := by decide +kernel
theorem d_Sm_workOut_185 : decode b_Sm_workOut 185 = .ok (.bipush 6, 2) := by decide +kernel
theorem d_Sm_workOut_187 : decode b_Sm_workOut 187 = .ok (.goto 4, 3) := by decide +kernel
theorem d_Sm_workOut_190 : decode b_Sm_workOut 190 = .ok (.iconst 0, 1) := by decide +kernel
theorem d_Sm_workOut_191 : decode b_Sm_workOut 191 = .ok (.ireturn, 1) := by decide +kernel
