/-! decode rows; written by wip/gen/names.py -/
theorem d_Md_digits_35 : decode b_Md_digits 35 = .ok (.iconst 1, 1) := by decide +kernel
theorem d_Md_digits_36 : decode b_Md_digits 36 = .ok (.goto 4, 3) := by decide +kernel
theorem d_Md_digits_39 : decode b_Md_digits 39 = .ok (.iconst 0, 1) := by decide +kernel
theorem d_Md_digits_40 : decode b_Md_digits 40 = .ok (.istore 4, 2) := by decide +kernel
theorem d_Md_digits_42 : decode b_Md_digits 42 = .ok (.iload 4, 2) := by decide +kernel
theorem d_Md_digits_44 : decode b_Md_digits 44 = .ok (.ifCond .eq 7, 3) := by decide +kernel
theorem d_Md_digits_47 : decode b_Md_digits 47 = .ok (.iconst 1, 1) := by decide +kernel
theorem d_Md_digits_48 : decode b_Md_digits 48 = .ok (.goto 4, 3) := by decide +kernel
theorem d_Md_digits_51 : decode b_Md_digits 51 = .ok (.iconst 0, 1) := by decide +kernel
theorem d_Md_digits_52 : decode b_Md_digits 52 = .ok (.istore 5, 2) := by decide +kernel
theorem d_Md_digits_54 : decode b_Md_digits 54 = .ok (.iload_n 3, 1) := by decide +kernel
theorem d_Md_digits_55 : decode b_Md_digits 55 = .ok (.iload 5, 2) := by decide +kernel
theorem d_Md_digits_57 : decode b_Md_digits 57 = .ok (.isub, 1) := by decide +kernel
theorem d_Md_digits_58 : decode b_Md_digits 58 = .ok (.iconst 1, 1) := by decide +kernel
theorem d_Md_digits_59 : decode b_Md_digits 59 = .ok (.if_icmp .lt 12, 3) := by decide +kernel
theorem d_Md_digits_62 : decode b_Md_digits 62 = .ok (.iload_n 3, 1) := by decide +kernel
theorem d_Md_digits_63 : decode b_Md_digits 63 = .ok (.iload 5, 2) := by decide +kernel
theorem d_Md_digits_65 : decode b_Md_digits 65 = .ok (.isub, 1) := by decide +kernel
theorem d_Md_digits_66 : decode b_Md_digits 66 = .ok (.bipush 10, 2) := by decide +kernel
theorem d_Md_digits_68 : decode b_Md_digits 68 = .ok (.if_icmp .le 5, 3) := by decide +kernel
theorem d_Md_digits_71 : decode b_Md_digits 71 = .ok (.iconst 0, 1) := by decide +kernel
theorem d_Md_digits_72 : decode b_Md_digits 72 = .ok (.ireturn, 1) := by decide +kernel
theorem d_Md_digits_73 : decode b_Md_digits 73 = .ok (.iconst 0, 1) := by decide +kernel
theorem d_Md_digits_74 : decode b_Md_digits 74 = .ok (.istore 6, 2) := by decide +kernel
theorem d_Md_digits_76 : decode b_Md_digits 76 = .ok (.iload 5, 2) := by decide +kernel
theorem d_Md_digits_78 : decode b_Md_digits 78 = .ok (.istore 7, 2) := by decide +kernel
theorem d_Md_digits_80 : decode b_Md_digits 80 = .ok (.iload 7, 2) := by decide +kernel
theorem d_Md_digits_82 : decode b_Md_digits 82 = .ok (.iload_n 3, 1) := by decide +kernel
theorem d_Md_digits_83 : decode b_Md_digits 83 = .ok (.if_icmp .ge 48, 3) := by decide +kernel
theorem d_Md_digits_86 : decode b_Md_digits 86 = .ok (.aload_n 0, 1) := by decide +kernel
theorem d_Md_digits_87 : decode b_Md_digits 87 = .ok (.iload_n 1, 1) := by decide +kernel
theorem d_Md_digits_88 : decode b_Md_digits 88 = .ok (.iload_n 2, 1) := by decide +kernel
theorem d_Md_digits_89 : decode b_Md_digits 89 = .ok (.iload 7, 2) := by decide +kernel
theorem d_Md_digits_91 : decode b_Md_digits 91 = .ok (.invokevirtual 312, 3) := by decide +kernel
theorem d_Md_digits_94 : decode b_Md_digits 94 = .ok (.istore 8, 2) := by decide +kernel
theorem d_Md_digits_96 : decode b_Md_digits 96 = .ok (.iload 8, 2) := by decide +kernel
theorem d_Md_digits_98 : decode b_Md_digits 98 = .ok (.bipush 48, 2) := by decide +kernel
theorem d_Md_digits_100 : decode b_Md_digits 100 = .ok (.if_icmp .lt 10, 3) := by decide +kernel
theorem d_Md_digits_103 : decode b_Md_digits 103 = .ok (.iload 8, 2) := by decide +kernel
theorem d_Md_digits_105 : decode b_Md_digits 105 = .ok (.bipush 57, 2) := by decide +kernel
theorem d_Md_digits_107 : decode b_Md_digits 107 = .ok (.if_icmp .le 5, 3) := by decide +kernel
theorem d_Md_digits_110 : decode b_Md_digits 110 = .ok (.iconst 0, 1) := by decide +kernel
theorem d_Md_digits_111 : decode b_Md_digits 111 = .ok (.ireturn, 1) := by decide +kernel
theorem d_Md_digits_112 : decode b_Md_digits 112 = .ok (.bipush 10, 2) := by decide +kernel
theorem d_Md_digits_114 : decode b_Md_digits 114 = .ok (.iload 6, 2) := by decide +kernel
theorem d_Md_digits_116 : decode b_Md_digits 116 = .ok (.imul, 1) := by decide +kernel
theorem d_Md_digits_117 : decode b_Md_digits 117 = .ok (.iload 8, 2) := by decide +kernel
theorem d_Md_digits_119 : decode b_Md_digits 119 = .ok (.iadd, 1) := by decide +kernel
theorem d_Md_digits_120 : decode b_Md_digits 120 = .ok (.bipush 48, 2) := by decide +kernel
theorem d_Md_digits_122 : decode b_Md_digits 122 = .ok (.isub, 1) := by decide +kernel
theorem d_Md_digits_123 : decode b_Md_digits 123 = .ok (.istore 6, 2) := by decide +kernel
theorem d_Md_digits_125 : decode b_Md_digits 125 = .ok (.iinc 7 1, 3) := by decide +kernel
theorem d_Md_digits_128 : decode b_Md_digits 128 = .ok (.goto (-48), 3) := by decide +kernel
theorem d_Md_digits_131 : decode b_Md_digits 131 = .ok (.aload_n 0, 1) := by decide +kernel
theorem d_Md_digits_132 : decode b_Md_digits 132 = .ok (.iload 4, 2) := by decide +kernel
theorem d_Md_digits_134 : decode b_Md_digits 134 = .ok (.ifCond .eq 9, 3) := by decide +kernel
theorem d_Md_digits_137 : decode b_Md_digits 137 = .ok (.iload 6, 2) := by decide +kernel
theorem d_Md_digits_139 : decode b_Md_digits 139 = .ok (.ineg, 1) := by decide +kernel
theorem d_Md_digits_140 : decode b_Md_digits 140 = .ok (.goto 5, 3) := by decide +kernel
theorem d_Md_digits_143 : decode b_Md_digits 143 = .ok (.iload 6, 2) := by decide +kernel
theorem d_Md_digits_145 : decode b_Md_digits 145 = .ok (.putfield 316, 3) := by decide +kernel
theorem d_Md_digits_148 : decode b_Md_digits 148 = .ok (.iconst 1, 1) := by decide +kernel
theorem d_Md_digits_149 : decode b_Md_digits 149 = .ok (.ireturn, 1) := by decide +kernel
theorem d_Md_done_0 : decode b_Md_done 0 = .ok (.aload_n 0, 1) := by decide +kernel
theorem d_Md_done_1 : decode b_Md_done 1 = .ok (.iload_n 1, 1) := by decide +kernel
theorem d_Md_done_2 : decode b_Md_done 2 = .ok (.putfield 149, 3) := by decide +kernel
theorem d_Md_done_5 : decode b_Md_done 5 = .ok (.aload_n 0, 1) := by decide +kernel
theorem d_Md_done_6 : decode b_Md_done 6 = .ok (.iconst 1, 1) := by decide +kernel
theorem d_Md_done_7 : decode b_Md_done 7 = .ok (.putfield 152, 3) := by decide +kernel
theorem d_Md_done_10 : decode b_Md_done 10 = .ok (.return_, 1) := by decide +kernel
theorem d_Md_enter_0 : decode b_Md_enter 0 = .ok (.aload_n 0, 1) := by decide +kernel
theorem d_Md_enter_1 : decode b_Md_enter 1 = .ok (.getfield 36, 3) := by decide +kernel
theorem d_Md_enter_4 : decode b_Md_enter 4 = .ok (.bipush 7, 2) := by decide +kernel
theorem d_Md_enter_6 : decode b_Md_enter 6 = .ok (.if_icmp .lt 20, 3) := by decide +kernel
theorem d_Md_enter_9 : decode b_Md_enter 9 = .ok (.aload_n 0, 1) := by decide +kernel
theorem d_Md_enter_10 : decode b_Md_enter 10 = .ok (.bipush 8, 2) := by decide +kernel
theorem d_Md_enter_12 : decode b_Md_enter 12 = .ok (.invokevirtual 166, 3) := by decide +kernel
theorem d_Md_enter_15 : decode b_Md_enter 15 = .ok (.iload_n 3, 1) := by decide +kernel
theorem d_Md_enter_16 : decode b_Md_enter 16 = .ok (.iconst 5, 1) := by decide +kernel
theorem d_Md_enter_17 : decode b_Md_enter 17 = .ok (.if_icmp .ne 7, 3) := by decide +kernel
theorem d_Md_enter_20 : decode b_Md_enter 20 = .ok (.aload_n 0, 1) := by decide +kernel
theorem d_Md_enter_21 : decode b_Md_enter 21 = .ok (.invokevirtual 170, 3) := by decide +kernel
theorem d_Md_enter_24 : decode b_Md_enter 24 = .ok (.iconst 0, 1) := by decide +kernel
theorem d_Md_enter_25 : decode b_Md_enter 25 = .ok (.ireturn, 1) := by decide +kernel
theorem d_Md_enter_26 : decode b_Md_enter 26 = .ok (.aload_n 0, 1) := by decide +kernel
theorem d_Md_enter_27 : decode b_Md_enter 27 = .ok (.getfield 36, 3) := by decide +kernel
theorem d_Md_enter_30 : decode b_Md_enter 30 = .ok (.ifCond .ge 7, 3) := by decide +kernel
theorem d_Md_enter_33 : decode b_Md_enter 33 = .ok (.iconst 0, 1) := by decide +kernel
theorem d_Md_enter_34 : decode b_Md_enter 34 = .ok (.goto 12, 3) := by decide +kernel
theorem d_Md_enter_37 : decode b_Md_enter 37 = .ok (.aload_n 0, 1) := by decide +kernel
theorem d_Md_enter_38 : decode b_Md_enter 38 = .ok (.getfield 49, 3) := by decide +kernel
theorem d_Md_enter_41 : decode b_Md_enter 41 = .ok (.aload_n 0, 1) := by decide +kernel
theorem d_Md_enter_42 : decode b_Md_enter 42 = .ok (.getfield 36, 3) := by decide +kernel
theorem d_Md_enter_45 : decode b_Md_enter 45 = .ok (.iaload, 1) := by decide +kernel
theorem d_Md_enter_46 : decode b_Md_enter 46 = .ok (.istore 4, 2) := by decide +kernel
theorem d_Md_enter_48 : decode b_Md_enter 48 = .ok (.aload_n 0, 1) := by decide +kernel
theorem d_Md_enter_49 : decode b_Md_enter 49 = .ok (.dup, 1) := by decide +kernel
theorem d_Md_enter_50 : decode b_Md_enter 50 = .ok (.getfield 36, 3) := by decide +kernel
theorem d_Md_enter_53 : decode b_Md_enter 53 = .ok (.iconst 1, 1) := by decide +kernel
theorem d_Md_enter_54 : decode b_Md_enter 54 = .ok (.iadd, 1) := by decide +kernel
theorem d_Md_enter_55 : decode b_Md_enter 55 = .ok (.putfield 36, 3) := by decide +kernel
theorem d_Md_enter_58 : decode b_Md_enter 58 = .ok (.aload_n 0, 1) := by decide +kernel
theorem d_Md_enter_59 : decode b_Md_enter 59 = .ok (.getfield 40, 3) := by decide +kernel
theorem d_Md_enter_62 : decode b_Md_enter 62 = .ok (.aload_n 0, 1) := by decide +kernel
theorem d_Md_enter_63 : decode b_Md_enter 63 = .ok (.getfield 36, 3) := by decide +kernel
theorem d_Md_enter_66 : decode b_Md_enter 66 = .ok (.iload_n 1, 1) := by decide +kernel
theorem d_Md_enter_67 : decode b_Md_enter 67 = .ok (.iastore, 1) := by decide +kernel
theorem d_Md_enter_68 : decode b_Md_enter 68 = .ok (.aload_n 0, 1) := by decide +kernel
theorem d_Md_enter_69 : decode b_Md_enter 69 = .ok (.getfield 43, 3) := by decide +kernel
theorem d_Md_enter_72 : decode b_Md_enter 72 = .ok (.aload_n 0, 1) := by decide +kernel
theorem d_Md_enter_73 : decode b_Md_enter 73 = .ok (.getfield 36, 3) := by decide +kernel
theorem d_Md_enter_76 : decode b_Md_enter 76 = .ok (.iload_n 2, 1) := by decide +kernel
theorem d_Md_enter_77 : decode b_Md_enter 77 = .ok (.iastore, 1) := by decide +kernel
theorem d_Md_enter_78 : decode b_Md_enter 78 = .ok (.aload_n 0, 1) := by decide +kernel
theorem d_Md_enter_79 : decode b_Md_enter 79 = .ok (.getfield 46, 3) := by decide +kernel
theorem d_Md_enter_82 : decode b_Md_enter 82 = .ok (.aload_n 0, 1) := by decide +kernel
theorem d_Md_enter_83 : decode b_Md_enter 83 = .ok (.getfield 36, 3) := by decide +kernel
theorem d_Md_enter_86 : decode b_Md_enter 86 = .ok (.iload_n 3, 1) := by decide +kernel
theorem d_Md_enter_87 : decode b_Md_enter 87 = .ok (.iastore, 1) := by decide +kernel
theorem d_Md_enter_88 : decode b_Md_enter 88 = .ok (.aload_n 0, 1) := by decide +kernel
theorem d_Md_enter_89 : decode b_Md_enter 89 = .ok (.getfield 49, 3) := by decide +kernel
theorem d_Md_enter_92 : decode b_Md_enter 92 = .ok (.aload_n 0, 1) := by decide +kernel
theorem d_Md_enter_93 : decode b_Md_enter 93 = .ok (.getfield 36, 3) := by decide +kernel
theorem d_Md_enter_96 : decode b_Md_enter 96 = .ok (.iload 4, 2) := by decide +kernel
theorem d_Md_enter_98 : decode b_Md_enter 98 = .ok (.iastore, 1) := by decide +kernel
theorem d_Md_enter_99 : decode b_Md_enter 99 = .ok (.aload_n 0, 1) := by decide +kernel
theorem d_Md_enter_100 : decode b_Md_enter 100 = .ok (.getfield 52, 3) := by decide +kernel
theorem d_Md_enter_103 : decode b_Md_enter 103 = .ok (.aload_n 0, 1) := by decide +kernel
theorem d_Md_enter_104 : decode b_Md_enter 104 = .ok (.getfield 36, 3) := by decide +kernel
theorem d_Md_enter_107 : decode b_Md_enter 107 = .ok (.iconst 0, 1) := by decide +kernel
theorem d_Md_enter_108 : decode b_Md_enter 108 = .ok (.iastore, 1) := by decide +kernel
theorem d_Md_enter_109 : decode b_Md_enter 109 = .ok (.aload_n 0, 1) := by decide +kernel
theorem d_Md_enter_110 : decode b_Md_enter 110 = .ok (.getfield 55, 3) := by decide +kernel
theorem d_Md_enter_113 : decode b_Md_enter 113 = .ok (.aload_n 0, 1) := by decide +kernel
theorem d_Md_enter_114 : decode b_Md_enter 114 = .ok (.getfield 36, 3) := by decide +kernel
theorem d_Md_enter_117 : decode b_Md_enter 117 = .ok (.iconst 0, 1) := by decide +kernel
theorem d_Md_enter_118 : decode b_Md_enter 118 = .ok (.iastore, 1) := by decide +kernel
theorem d_Md_enter_119 : decode b_Md_enter 119 = .ok (.aload_n 0, 1) := by decide +kernel
theorem d_Md_enter_120 : decode b_Md_enter 120 = .ok (.getfield 58, 3) := by decide +kernel
theorem d_Md_enter_123 : decode b_Md_enter 123 = .ok (.aload_n 0, 1) := by decide +kernel
theorem d_Md_enter_124 : decode b_Md_enter 124 = .ok (.getfield 36, 3) := by decide +kernel
theorem d_Md_enter_127 : decode b_Md_enter 127 = .ok (.iconst 0, 1) := by decide +kernel
theorem d_Md_enter_128 : decode b_Md_enter 128 = .ok (.iastore, 1) := by decide +kernel
theorem d_Md_enter_129 : decode b_Md_enter 129 = .ok (.aload_n 0, 1) := by decide +kernel
theorem d_Md_enter_130 : decode b_Md_enter 130 = .ok (.iconst 0, 1) := by decide +kernel
theorem d_Md_enter_131 : decode b_Md_enter 131 = .ok (.putfield 152, 3) := by decide +kernel
theorem d_Md_enter_134 : decode b_Md_enter 134 = .ok (.iconst 1, 1) := by decide +kernel
theorem d_Md_enter_135 : decode b_Md_enter 135 = .ok (.ireturn, 1) := by decide +kernel
theorem d_Md_enterWord_0 : decode b_Md_enterWord 0 = .ok (.aload_n 0, 1) := by decide +kernel
theorem d_Md_enterWord_1 : decode b_Md_enterWord 1 = .ok (.iload_n 1, 1) := by decide +kernel
theorem d_Md_enterWord_2 : decode b_Md_enterWord 2 = .ok (.invokevirtual 155, 3) := by decide +kernel
theorem d_Md_enterWord_5 : decode b_Md_enterWord 5 = .ok (.istore_n 3, 1) := by decide +kernel
theorem d_Md_enterWord_6 : decode b_Md_enterWord 6 = .ok (.aload_n 0, 1) := by decide +kernel
theorem d_Md_enterWord_7 : decode b_Md_enterWord 7 = .ok (.aload_n 0, 1) := by decide +kernel
theorem d_Md_enterWord_8 : decode b_Md_enterWord 8 = .ok (.getfield 67, 3) := by decide +kernel
theorem d_Md_enterWord_11 : decode b_Md_enterWord 11 = .ok (.iload_n 3, 1) := by decide +kernel
theorem d_Md_enterWord_12 : decode b_Md_enterWord 12 = .ok (.iaload, 1) := by decide +kernel
theorem d_Md_enterWord_13 : decode b_Md_enterWord 13 = .ok (.aload_n 0, 1) := by decide +kernel
theorem d_Md_enterWord_14 : decode b_Md_enterWord 14 = .ok (.getfield 67, 3) := by decide +kernel
theorem d_Md_enterWord_17 : decode b_Md_enterWord 17 = .ok (.iload_n 3, 1) := by decide +kernel
theorem d_Md_enterWord_18 : decode b_Md_enterWord 18 = .ok (.iaload, 1) := by decide +kernel
theorem d_Md_enterWord_19 : decode b_Md_enterWord 19 = .ok (.aload_n 0, 1) := by decide +kernel
theorem d_Md_enterWord_20 : decode b_Md_enterWord 20 = .ok (.getfield 70, 3) := by decide +kernel
theorem d_Md_enterWord_23 : decode b_Md_enterWord 23 = .ok (.iload_n 3, 1) := by decide +kernel
theorem d_Md_enterWord_24 : decode b_Md_enterWord 24 = .ok (.iaload, 1) := by decide +kernel
theorem d_Md_enterWord_25 : decode b_Md_enterWord 25 = .ok (.iadd, 1) := by decide +kernel
theorem d_Md_enterWord_26 : decode b_Md_enterWord 26 = .ok (.iload_n 2, 1) := by decide +kernel
theorem d_Md_enterWord_27 : decode b_Md_enterWord 27 = .ok (.invokevirtual 173, 3) := by decide +kernel
theorem d_Md_enterWord_30 : decode b_Md_enterWord 30 = .ok (.ireturn, 1) := by decide +kernel
theorem d_Md_error_0 : decode b_Md_error 0 = .ok (.aload_n 0, 1) := by decide +kernel
theorem d_Md_error_1 : decode b_Md_error 1 = .ok (.invokevirtual 138, 3) := by decide +kernel
theorem d_Md_error_4 : decode b_Md_error 4 = .ok (.aload_n 0, 1) := by decide +kernel
theorem d_Md_error_5 : decode b_Md_error 5 = .ok (.bipush 69, 2) := by decide +kernel
theorem d_Md_error_7 : decode b_Md_error 7 = .ok (.invokevirtual 143, 3) := by decide +kernel
theorem d_Md_error_10 : decode b_Md_error 10 = .ok (.aload_n 0, 1) := by decide +kernel
theorem d_Md_error_11 : decode b_Md_error 11 = .ok (.bipush 48, 2) := by decide +kernel
theorem d_Md_error_13 : decode b_Md_error 13 = .ok (.iload_n 1, 1) := by decide +kernel
theorem d_Md_error_14 : decode b_Md_error 14 = .ok (.iadd, 1) := by decide +kernel
theorem d_Md_error_15 : decode b_Md_error 15 = .ok (.i2c, 1) := by decide +kernel
theorem d_Md_error_16 : decode b_Md_error 16 = .ok (.invokevirtual 143, 3) := by decide +kernel
theorem d_Md_error_19 : decode b_Md_error 19 = .ok (.aload_n 0, 1) := by decide +kernel
theorem d_Md_error_20 : decode b_Md_error 20 = .ok (.iconst 1, 1) := by decide +kernel
theorem d_Md_error_21 : decode b_Md_error 21 = .ok (.putfield 149, 3) := by decide +kernel
theorem d_Md_error_24 : decode b_Md_error 24 = .ok (.aload_n 0, 1) := by decide +kernel
theorem d_Md_error_25 : decode b_Md_error 25 = .ok (.iconst 1, 1) := by decide +kernel
theorem d_Md_error_26 : decode b_Md_error 26 = .ok (.putfield 152, 3) := by decide +kernel
theorem d_Md_error_29 : decode b_Md_error 29 = .ok (.return_, 1) := by decide +kernel
theorem d_Md_evaluate_0 : decode b_Md_evaluate 0 = .ok (.aload_n 0, 1) := by decide +kernel
theorem d_Md_evaluate_1 : decode b_Md_evaluate 1 = .ok (.iconst 1, 1) := by decide +kernel
theorem d_Md_evaluate_2 : decode b_Md_evaluate 2 = .ok (.invokevirtual 322, 3) := by decide +kernel
theorem d_Md_evaluate_5 : decode b_Md_evaluate 5 = .ok (.istore_n 1, 1) := by decide +kernel
theorem d_Md_evaluate_6 : decode b_Md_evaluate 6 = .ok (.aload_n 0, 1) := by decide +kernel
theorem d_Md_evaluate_7 : decode b_Md_evaluate 7 = .ok (.getfield 152, 3) := by decide +kernel
theorem d_Md_evaluate_10 : decode b_Md_evaluate 10 = .ok (.iconst 1, 1) := by decide +kernel
theorem d_Md_evaluate_11 : decode b_Md_evaluate 11 = .ok (.if_icmp .ne 4, 3) := by decide +kernel
theorem d_Md_evaluate_14 : decode b_Md_evaluate 14 = .ok (.return_, 1) := by decide +kernel
theorem d_Md_evaluate_15 : decode b_Md_evaluate 15 = .ok (.aload_n 0, 1) := by decide +kernel
theorem d_Md_evaluate_16 : decode b_Md_evaluate 16 = .ok (.iload_n 1, 1) := by decide +kernel
theorem d_Md_evaluate_17 : decode b_Md_evaluate 17 = .ok (.invokevirtual 226, 3) := by decide +kernel
theorem d_Md_evaluate_20 : decode b_Md_evaluate 20 = .ok (.aload_n 0, 1) := by decide +kernel
theorem d_Md_evaluate_21 : decode b_Md_evaluate 21 = .ok (.iconst 0, 1) := by decide +kernel
theorem d_Md_evaluate_22 : decode b_Md_evaluate 22 = .ok (.invokevirtual 235, 3) := by decide +kernel
theorem d_Md_evaluate_25 : decode b_Md_evaluate 25 = .ok (.return_, 1) := by decide +kernel
theorem d_Md_fires_0 : decode b_Md_fires 0 = .ok (.iconst 0, 1) := by decide +kernel
theorem d_Md_fires_1 : decode b_Md_fires 1 = .ok (.istore_n 1, 1) := by decide +kernel
theorem d_Md_fires_2 : decode b_Md_fires 2 = .ok (.iload_n 1, 1) := by decide +kernel
theorem d_Md_fires_3 : decode b_Md_fires 3 = .ok (.aload_n 0, 1) := by decide +kernel
theorem d_Md_fires_4 : decode b_Md_fires 4 = .ok (.getfield 132, 3) := by decide +kernel
theorem d_Md_fires_7 : decode b_Md_fires 7 = .ok (.if_icmp .ge 21, 3) := by decide +kernel
theorem d_Md_fires_10 : decode b_Md_fires 10 = .ok (.aload_n 0, 1) := by decide +kernel
theorem d_Md_fires_11 : decode b_Md_fires 11 = .ok (.getfield 85, 3) := by decide +kernel
theorem d_Md_fires_14 : decode b_Md_fires 14 = .ok (.iload_n 1, 1) := by decide +kernel
theorem d_Md_fires_15 : decode b_Md_fires 15 = .ok (.aload_n 0, 1) := by decide +kernel
theorem d_Md_fires_16 : decode b_Md_fires 16 = .ok (.getfield 106, 3) := by decide +kernel
theorem d_Md_fires_19 : decode b_Md_fires 19 = .ok (.iload_n 1, 1) := by decide +kernel
theorem d_Md_fires_20 : decode b_Md_fires 20 = .ok (.caload, 1) := by decide +kernel
theorem d_Md_fires_21 : decode b_Md_fires 21 = .ok (.castore, 1) := by decide +kernel
theorem d_Md_fires_22 : decode b_Md_fires 22 = .ok (.iinc 1 1, 3) := by decide +kernel
theorem d_Md_fires_25 : decode b_Md_fires 25 = .ok (.goto (-23), 3) := by decide +kernel
theorem d_Md_fires_28 : decode b_Md_fires 28 = .ok (.iconst 0, 1) := by decide +kernel
theorem d_Md_fires_29 : decode b_Md_fires 29 = .ok (.istore_n 1, 1) := by decide +kernel
theorem d_Md_fires_30 : decode b_Md_fires 30 = .ok (.iload_n 1, 1) := by decide +kernel
theorem d_Md_fires_31 : decode b_Md_fires 31 = .ok (.aload_n 0, 1) := by decide +kernel
theorem d_Md_fires_32 : decode b_Md_fires 32 = .ok (.getfield 132, 3) := by decide +kernel
theorem d_Md_fires_35 : decode b_Md_fires 35 = .ok (.if_icmp .gt 83, 3) := by decide +kernel
theorem d_Md_fires_38 : decode b_Md_fires 38 = .ok (.iconst 2, 1) := by decide +kernel
theorem d_Md_fires_39 : decode b_Md_fires 39 = .ok (.istore_n 2, 1) := by decide +kernel
theorem d_Md_fires_40 : decode b_Md_fires 40 = .ok (.iload_n 2, 1) := by decide +kernel
theorem d_Md_fires_41 : decode b_Md_fires 41 = .ok (.aload_n 0, 1) := by decide +kernel
theorem d_Md_fires_42 : decode b_Md_fires 42 = .ok (.getfield 55, 3) := by decide +kernel
theorem d_Md_fires_45 : decode b_Md_fires 45 = .ok (.aload_n 0, 1) := by decide +kernel
theorem d_Md_fires_46 : decode b_Md_fires 46 = .ok (.getfield 36, 3) := by decide +kernel
theorem d_Md_fires_49 : decode b_Md_fires 49 = .ok (.iaload, 1) := by decide +kernel
theorem d_Md_fires_50 : decode b_Md_fires 50 = .ok (.if_icmp .ge 62, 3) := by decide +kernel
theorem d_Md_fires_53 : decode b_Md_fires 53 = .ok (.aload_n 0, 1) := by decide +kernel
theorem d_Md_fires_54 : decode b_Md_fires 54 = .ok (.iload_n 2, 1) := by decide +kernel
theorem d_Md_fires_55 : decode b_Md_fires 55 = .ok (.iload_n 1, 1) := by decide +kernel
theorem d_Md_fires_56 : decode b_Md_fires 56 = .ok (.invokevirtual 325, 3) := by decide +kernel
theorem d_Md_fires_59 : decode b_Md_fires 59 = .ok (.ifCond .eq 47, 3) := by decide +kernel
theorem d_Md_fires_62 : decode b_Md_fires 62 = .ok (.iload_n 1, 1) := by decide +kernel
theorem d_Md_fires_63 : decode b_Md_fires 63 = .ok (.istore_n 3, 1) := by decide +kernel
theorem d_Md_fires_64 : decode b_Md_fires 64 = .ok (.iload_n 3, 1) := by decide +kernel
theorem d_Md_fires_65 : decode b_Md_fires 65 = .ok (.aload_n 0, 1) := by decide +kernel
theorem d_Md_fires_66 : decode b_Md_fires 66 = .ok (.getfield 132, 3) := by decide +kernel
theorem d_Md_fires_69 : decode b_Md_fires 69 = .ok (.if_icmp .ge 23, 3) := by decide +kernel
theorem d_Md_fires_72 : decode b_Md_fires 72 = .ok (.aload_n 0, 1) := by decide +kernel
theorem d_Md_fires_73 : decode b_Md_fires 73 = .ok (.getfield 106, 3) := by decide +kernel
theorem d_Md_fires_76 : decode b_Md_fires 76 = .ok (.iload_n 3, 1) := by decide +kernel
theorem d_Md_fires_77 : decode b_Md_fires 77 = .ok (.iload_n 1, 1) := by decide +kernel
theorem d_Md_fires_78 : decode b_Md_fires 78 = .ok (.isub, 1) := by decide +kernel
theorem d_Md_fires_79 : decode b_Md_fires 79 = .ok (.aload_n 0, 1) := by decide +kernel
theorem d_Md_fires_80 : decode b_Md_fires 80 = .ok (.getfield 106, 3) := by decide +kernel
theorem d_Md_fires_83 : decode b_Md_fires 83 = .ok (.iload_n 3, 1) := by decide +kernel
theorem d_Md_fires_84 : decode b_Md_fires 84 = .ok (.caload, 1) := by decide +kernel
theorem d_Md_fires_85 : decode b_Md_fires 85 = .ok (.castore, 1) := by decide +kernel
theorem d_Md_fires_86 : decode b_Md_fires 86 = .ok (.iinc 3 1, 3) := by decide +kernel
theorem d_Md_fires_89 : decode b_Md_fires 89 = .ok (.goto (-25), 3) := by decide +kernel
theorem d_Md_fires_92 : decode b_Md_fires 92 = .ok (.aload_n 0, 1) := by decide +kernel
theorem d_Md_fires_93 : decode b_Md_fires 93 = .ok (.dup, 1) := by decide +kernel
theorem d_Md_fires_94 : decode b_Md_fires 94 = .ok (.getfield 132, 3) := by decide +kernel
theorem d_Md_fires_97 : decode b_Md_fires 97 = .ok (.iload_n 1, 1) := by decide +kernel
theorem d_Md_fires_98 : decode b_Md_fires 98 = .ok (.isub, 1) := by decide +kernel
theorem d_Md_fires_99 : decode b_Md_fires 99 = .ok (.putfield 132, 3) := by decide +kernel
theorem d_Md_fires_102 : decode b_Md_fires 102 = .ok (.iload_n 2, 1) := by decide +kernel
theorem d_Md_fires_103 : decode b_Md_fires 103 = .ok (.iconst 1, 1) := by decide +kernel
theorem d_Md_fires_104 : decode b_Md_fires 104 = .ok (.iadd, 1) := by decide +kernel
theorem d_Md_fires_105 : decode b_Md_fires 105 = .ok (.ireturn, 1) := by decide +kernel
theorem d_Md_fires_106 : decode b_Md_fires 106 = .ok (.iinc 2 2, 3) := by decide +kernel
theorem d_Md_fires_109 : decode b_Md_fires 109 = .ok (.goto (-69), 3) := by decide +kernel
theorem d_Md_fires_112 : decode b_Md_fires 112 = .ok (.iinc 1 1, 3) := by decide +kernel
theorem d_Md_fires_115 : decode b_Md_fires 115 = .ok (.goto (-85), 3) := by decide +kernel
theorem d_Md_fires_118 : decode b_Md_fires 118 = .ok (.iconst 0, 1) := by decide +kernel
theorem d_Md_fires_119 : decode b_Md_fires 119 = .ok (.ireturn, 1) := by decide +kernel
theorem d_Md_fits_0 : decode b_Md_fits 0 = .ok (.aload_n 0, 1) := by decide +kernel
theorem d_Md_fits_1 : decode b_Md_fits 1 = .ok (.iload_n 1, 1) := by decide +kernel
theorem d_Md_fits_2 : decode b_Md_fits 2 = .ok (.invokevirtual 159, 3) := by decide +kernel
theorem d_Md_fits_5 : decode b_Md_fits 5 = .ok (.istore_n 3, 1) := by decide +kernel
theorem d_Md_fits_6 : decode b_Md_fits 6 = .ok (.iconst 0, 1) := by decide +kernel
theorem d_Md_fits_7 : decode b_Md_fits 7 = .ok (.istore 4, 2) := by decide +kernel
theorem d_Md_fits_9 : decode b_Md_fits 9 = .ok (.iload 4, 2) := by decide +kernel
theorem d_Md_fits_11 : decode b_Md_fits 11 = .ok (.iload_n 2, 1) := by decide +kernel
theorem d_Md_fits_12 : decode b_Md_fits 12 = .ok (.if_icmp .gt 26, 3) := by decide +kernel
theorem d_Md_fits_15 : decode b_Md_fits 15 = .ok (.aload_n 0, 1) := by decide +kernel
theorem d_Md_fits_16 : decode b_Md_fits 16 = .ok (.getfield 88, 3) := by decide +kernel
theorem d_Md_fits_19 : decode b_Md_fits 19 = .ok (.iload 4, 2) := by decide +kernel
theorem d_Md_fits_21 : decode b_Md_fits 21 = .ok (.iload 4, 2) := by decide +kernel
theorem d_Md_fits_23 : decode b_Md_fits 23 = .ok (.ifCond .ne 7, 3) := by decide +kernel
theorem d_Md_fits_26 : decode b_Md_fits 26 = .ok (.iconst 1, 1) := by decide +kernel
theorem d_Md_fits_27 : decode b_Md_fits 27 = .ok (.goto 4, 3) := by decide +kernel
theorem d_Md_fits_30 : decode b_Md_fits 30 = .ok (.iconst 0, 1) := by decide +kernel
theorem d_Md_fits_31 : decode b_Md_fits 31 = .ok (.bastore, 1) := by decide +kernel
theorem d_Md_fits_32 : decode b_Md_fits 32 = .ok (.iinc 4 1, 3) := by decide +kernel
theorem d_Md_fits_35 : decode b_Md_fits 35 = .ok (.goto (-26), 3) := by decide +kernel
theorem d_Md_fits_38 : decode b_Md_fits 38 = .ok (.iconst 0, 1) := by decide +kernel
theorem d_Md_fits_39 : decode b_Md_fits 39 = .ok (.istore 4, 2) := by decide +kernel
theorem d_Md_fits_41 : decode b_Md_fits 41 = .ok (.iload 4, 2) := by decide +kernel
theorem d_Md_fits_43 : decode b_Md_fits 43 = .ok (.iload_n 3, 1) := by decide +kernel
theorem d_Md_fits_44 : decode b_Md_fits 44 = .ok (.if_icmp .ge 147, 3) := by decide +kernel
theorem d_Md_fits_47 : decode b_Md_fits 47 = .ok (.aload_n 0, 1) := by decide +kernel
theorem d_Md_fits_48 : decode b_Md_fits 48 = .ok (.iload_n 1, 1) := by decide +kernel
theorem d_Md_fits_49 : decode b_Md_fits 49 = .ok (.iload 4, 2) := by decide +kernel
theorem d_Md_fits_51 : decode b_Md_fits 51 = .ok (.invokevirtual 162, 3) := by decide +kernel
theorem d_Md_fits_54 : decode b_Md_fits 54 = .ok (.istore 5, 2) := by decide +kernel
theorem d_Md_fits_56 : decode b_Md_fits 56 = .ok (.aload_n 0, 1) := by decide +kernel
theorem d_Md_fits_57 : decode b_Md_fits 57 = .ok (.getfield 88, 3) := by decide +kernel
theorem d_Md_fits_60 : decode b_Md_fits 60 = .ok (.iconst 0, 1) := by decide +kernel
theorem d_Md_fits_61 : decode b_Md_fits 61 = .ok (.baload, 1) := by decide +kernel
theorem d_Md_fits_62 : decode b_Md_fits 62 = .ok (.istore 6, 2) := by decide +kernel
theorem d_Md_fits_64 : decode b_Md_fits 64 = .ok (.aload_n 0, 1) := by decide +kernel
theorem d_Md_fits_65 : decode b_Md_fits 65 = .ok (.getfield 88, 3) := by decide +kernel
theorem d_Md_fits_68 : decode b_Md_fits 68 = .ok (.iconst 0, 1) := by decide +kernel
theorem d_Md_fits_69 : decode b_Md_fits 69 = .ok (.iload 6, 2) := by decide +kernel
theorem d_Md_fits_71 : decode b_Md_fits 71 = .ok (.ifCond .eq 14, 3) := by decide +kernel
theorem d_Md_fits_74 : decode b_Md_fits 74 = .ok (.iload 5, 2) := by decide +kernel
theorem d_Md_fits_76 : decode b_Md_fits 76 = .ok (.bipush 42, 2) := by decide +kernel
theorem d_Md_fits_78 : decode b_Md_fits 78 = .ok (.if_icmp .ne 7, 3) := by decide +kernel
theorem d_Md_fits_81 : decode b_Md_fits 81 = .ok (.iconst 1, 1) := by decide +kernel
theorem d_Md_fits_82 : decode b_Md_fits 82 = .ok (.goto 4, 3) := by decide +kernel
theorem d_Md_fits_85 : decode b_Md_fits 85 = .ok (.iconst 0, 1) := by decide +kernel
theorem d_Md_fits_86 : decode b_Md_fits 86 = .ok (.bastore, 1) := by decide +kernel
theorem d_Md_fits_87 : decode b_Md_fits 87 = .ok (.iconst 1, 1) := by decide +kernel
theorem d_Md_fits_88 : decode b_Md_fits 88 = .ok (.istore 7, 2) := by decide +kernel
theorem d_Md_fits_90 : decode b_Md_fits 90 = .ok (.iload 7, 2) := by decide +kernel
theorem d_Md_fits_92 : decode b_Md_fits 92 = .ok (.iload_n 2, 1) := by decide +kernel
theorem d_Md_fits_93 : decode b_Md_fits 93 = .ok (.if_icmp .gt 92, 3) := by decide +kernel
theorem d_Md_fits_96 : decode b_Md_fits 96 = .ok (.aload_n 0, 1) := by decide +kernel
theorem d_Md_fits_97 : decode b_Md_fits 97 = .ok (.getfield 88, 3) := by decide +kernel
theorem d_Md_fits_100 : decode b_Md_fits 100 = .ok (.iload 7, 2) := by decide +kernel
theorem d_Md_fits_102 : decode b_Md_fits 102 = .ok (.baload, 1) := by decide +kernel
theorem d_Md_fits_103 : decode b_Md_fits 103 = .ok (.istore 8, 2) := by decide +kernel
theorem d_Md_fits_105 : decode b_Md_fits 105 = .ok (.aload_n 0, 1) := by decide +kernel
theorem d_Md_fits_106 : decode b_Md_fits 106 = .ok (.getfield 88, 3) := by decide +kernel
theorem d_Md_fits_109 : decode b_Md_fits 109 = .ok (.iload 7, 2) := by decide +kernel
theorem d_Md_fits_111 : decode b_Md_fits 111 = .ok (.iload 5, 2) := by decide +kernel
theorem d_Md_fits_113 : decode b_Md_fits 113 = .ok (.bipush 42, 2) := by decide +kernel
theorem d_Md_fits_115 : decode b_Md_fits 115 = .ok (.if_icmp .ne 28, 3) := by decide +kernel
theorem d_Md_fits_118 : decode b_Md_fits 118 = .ok (.iload 8, 2) := by decide +kernel
theorem d_Md_fits_120 : decode b_Md_fits 120 = .ok (.ifCond .ne 15, 3) := by decide +kernel
theorem d_Md_fits_123 : decode b_Md_fits 123 = .ok (.aload_n 0, 1) := by decide +kernel
theorem d_Md_fits_124 : decode b_Md_fits 124 = .ok (.getfield 88, 3) := by decide +kernel
theorem d_Md_fits_127 : decode b_Md_fits 127 = .ok (.iload 7, 2) := by decide +kernel
theorem d_Md_fits_129 : decode b_Md_fits 129 = .ok (.iconst 1, 1) := by decide +kernel
theorem d_Md_fits_130 : decode b_Md_fits 130 = .ok (.isub, 1) := by decide +kernel
theorem d_Md_fits_131 : decode b_Md_fits 131 = .ok (.baload, 1) := by decide +kernel
theorem d_Md_fits_132 : decode b_Md_fits 132 = .ok (.ifCond .eq 7, 3) := by decide +kernel
theorem d_Md_fits_135 : decode b_Md_fits 135 = .ok (.iconst 1, 1) := by decide +kernel
theorem d_Md_fits_136 : decode b_Md_fits 136 = .ok (.goto 38, 3) := by decide +kernel
theorem d_Md_fits_139 : decode b_Md_fits 139 = .ok (.iconst 0, 1) := by decide +kernel
theorem d_Md_fits_140 : decode b_Md_fits 140 = .ok (.goto 34, 3) := by decide +kernel
theorem d_Md_fits_143 : decode b_Md_fits 143 = .ok (.iload 6, 2) := by decide +kernel
theorem d_Md_fits_145 : decode b_Md_fits 145 = .ok (.ifCond .eq 28, 3) := by decide +kernel
theorem d_Md_fits_148 : decode b_Md_fits 148 = .ok (.iload 5, 2) := by decide +kernel
theorem d_Md_fits_150 : decode b_Md_fits 150 = .ok (.bipush 63, 2) := by decide +kernel
theorem d_Md_fits_152 : decode b_Md_fits 152 = .ok (.if_icmp .eq 17, 3) := by decide +kernel
theorem d_Md_fits_155 : decode b_Md_fits 155 = .ok (.iload 5, 2) := by decide +kernel
theorem d_Md_fits_157 : decode b_Md_fits 157 = .ok (.aload_n 0, 1) := by decide +kernel
theorem d_Md_fits_158 : decode b_Md_fits 158 = .ok (.getfield 85, 3) := by decide +kernel
theorem d_Md_fits_161 : decode b_Md_fits 161 = .ok (.iload 7, 2) := by decide +kernel
theorem d_Md_fits_163 : decode b_Md_fits 163 = .ok (.iconst 1, 1) := by decide +kernel
theorem d_Md_fits_164 : decode b_Md_fits 164 = .ok (.isub, 1) := by decide +kernel
theorem d_Md_fits_165 : decode b_Md_fits 165 = .ok (.caload, 1) := by decide +kernel
theorem d_Md_fits_166 : decode b_Md_fits 166 = .ok (.if_icmp .ne 7, 3) := by decide +kernel
theorem d_Md_fits_169 : decode b_Md_fits 169 = .ok (.iconst 1, 1) := by decide +kernel
theorem d_Md_fits_170 : decode b_Md_fits 170 = .ok (.goto 4, 3) := by decide +kernel
theorem d_Md_fits_173 : decode b_Md_fits 173 = .ok (.iconst 0, 1) := by decide +kernel
theorem d_Md_fits_174 : decode b_Md_fits 174 = .ok (.bastore, 1) := by decide +kernel
theorem d_Md_fits_175 : decode b_Md_fits 175 = .ok (.iload 8, 2) := by decide +kernel
theorem d_Md_fits_177 : decode b_Md_fits 177 = .ok (.istore 6, 2) := by decide +kernel
theorem d_Md_fits_179 : decode b_Md_fits 179 = .ok (.iinc 7 1, 3) := by decide +kernel
theorem d_Md_fits_182 : decode b_Md_fits 182 = .ok (.goto (-92), 3) := by decide +kernel
theorem d_Md_fits_185 : decode b_Md_fits 185 = .ok (.iinc 4 1, 3) := by decide +kernel
theorem d_Md_fits_188 : decode b_Md_fits 188 = .ok (.goto (-147), 3) := by decide +kernel
theorem d_Md_fits_191 : decode b_Md_fits 191 = .ok (.aload_n 0, 1) := by decide +kernel
theorem d_Md_fits_192 : decode b_Md_fits 192 = .ok (.getfield 88, 3) := by decide +kernel
theorem d_Md_fits_195 : decode b_Md_fits 195 = .ok (.iload_n 2, 1) := by decide +kernel
theorem d_Md_fits_196 : decode b_Md_fits 196 = .ok (.baload, 1) := by decide +kernel
theorem d_Md_fits_197 : decode b_Md_fits 197 = .ok (.ireturn, 1) := by decide +kernel
theorem d_Md_fitting_0 : decode b_Md_fitting 0 = .ok (.iload_n 1, 1) := by decide +kernel
theorem d_Md_fitting_1 : decode b_Md_fitting 1 = .ok (.bipush 118, 2) := by decide +kernel
theorem d_Md_fitting_3 : decode b_Md_fitting 3 = .ok (.if_icmp .ne 13, 3) := by decide +kernel
theorem d_Md_fitting_6 : decode b_Md_fitting 6 = .ok (.aload_n 0, 1) := by decide +kernel
theorem d_Md_fitting_7 : decode b_Md_fitting 7 = .ok (.iload_n 2, 1) := by decide +kernel
theorem d_Md_fitting_8 : decode b_Md_fitting 8 = .ok (.bipush 97, 2) := by decide +kernel
theorem d_Md_fitting_10 : decode b_Md_fitting 10 = .ok (.invokevirtual 219, 3) := by decide +kernel
theorem d_Md_fitting_13 : decode b_Md_fitting 13 = .ok (.ifCond .lt 19, 3) := by decide +kernel
theorem d_Md_fitting_16 : decode b_Md_fitting 16 = .ok (.iload_n 1, 1) := by decide +kernel
theorem d_Md_fitting_17 : decode b_Md_fitting 17 = .ok (.bipush 112, 2) := by decide +kernel
theorem d_Md_fitting_19 : decode b_Md_fitting 19 = .ok (.if_icmp .ne 17, 3) := by decide +kernel
theorem d_Md_fitting_22 : decode b_Md_fitting 22 = .ok (.aload_n 0, 1) := by decide +kernel
theorem d_Md_fitting_23 : decode b_Md_fitting 23 = .ok (.iload_n 2, 1) := by decide +kernel
theorem d_Md_fitting_24 : decode b_Md_fitting 24 = .ok (.bipush 65, 2) := by decide +kernel
theorem d_Md_fitting_26 : decode b_Md_fitting 26 = .ok (.invokevirtual 219, 3) := by decide +kernel
theorem d_Md_fitting_29 : decode b_Md_fitting 29 = .ok (.ifCond .ge 7, 3) := by decide +kernel
theorem d_Md_fitting_32 : decode b_Md_fitting 32 = .ok (.iconst 4, 1) := by decide +kernel
theorem d_Md_fitting_33 : decode b_Md_fitting 33 = .ok (.goto 43, 3) := by decide +kernel
theorem d_Md_fitting_36 : decode b_Md_fitting 36 = .ok (.iload_n 1, 1) := by decide +kernel
theorem d_Md_fitting_37 : decode b_Md_fitting 37 = .ok (.bipush 110, 2) := by decide +kernel
theorem d_Md_fitting_39 : decode b_Md_fitting 39 = .ok (.if_icmp .ne 15, 3) := by decide +kernel
theorem d_Md_fitting_42 : decode b_Md_fitting 42 = .ok (.aload_n 0, 1) := by decide +kernel
theorem d_Md_fitting_43 : decode b_Md_fitting 43 = .ok (.iload_n 2, 1) := by decide +kernel
theorem d_Md_fitting_44 : decode b_Md_fitting 44 = .ok (.invokevirtual 242, 3) := by decide +kernel
theorem d_Md_fitting_47 : decode b_Md_fitting 47 = .ok (.ifCond .ne 7, 3) := by decide +kernel
theorem d_Md_fitting_50 : decode b_Md_fitting 50 = .ok (.iconst 5, 1) := by decide +kernel
theorem d_Md_fitting_51 : decode b_Md_fitting 51 = .ok (.goto 25, 3) := by decide +kernel
theorem d_Md_fitting_54 : decode b_Md_fitting 54 = .ok (.iload_n 1, 1) := by decide +kernel
theorem d_Md_fitting_55 : decode b_Md_fitting 55 = .ok (.bipush 120, 2) := by decide +kernel
theorem d_Md_fitting_57 : decode b_Md_fitting 57 = .ok (.if_icmp .ne 18, 3) := by decide +kernel
theorem d_Md_fitting_60 : decode b_Md_fitting 60 = .ok (.aload_n 0, 1) := by decide +kernel
theorem d_Md_fitting_61 : decode b_Md_fitting 61 = .ok (.iload_n 2, 1) := by decide +kernel
theorem d_Md_fitting_62 : decode b_Md_fitting 62 = .ok (.invokevirtual 159, 3) := by decide +kernel
theorem d_Md_fitting_65 : decode b_Md_fitting 65 = .ok (.bipush 20, 2) := by decide +kernel
theorem d_Md_fitting_67 : decode b_Md_fitting 67 = .ok (.if_icmp .le 8, 3) := by decide +kernel
theorem d_Md_fitting_70 : decode b_Md_fitting 70 = .ok (.bipush 7, 2) := by decide +kernel
theorem d_Md_fitting_72 : decode b_Md_fitting 72 = .ok (.goto 4, 3) := by decide +kernel
theorem d_Md_fitting_75 : decode b_Md_fitting 75 = .ok (.iconst 0, 1) := by decide +kernel
theorem d_Md_fitting_76 : decode b_Md_fitting 76 = .ok (.istore_n 3, 1) := by decide +kernel
theorem d_Md_fitting_77 : decode b_Md_fitting 77 = .ok (.iload_n 3, 1) := by decide +kernel
theorem d_Md_fitting_78 : decode b_Md_fitting 78 = .ok (.ifCond .le 8, 3) := by decide +kernel
theorem d_Md_fitting_81 : decode b_Md_fitting 81 = .ok (.aload_n 0, 1) := by decide +kernel
theorem d_Md_fitting_82 : decode b_Md_fitting 82 = .ok (.iload_n 3, 1) := by decide +kernel
theorem d_Md_fitting_83 : decode b_Md_fitting 83 = .ok (.invokevirtual 166, 3) := by decide +kernel
theorem d_Md_fitting_86 : decode b_Md_fitting 86 = .ok (.iload_n 3, 1) := by decide +kernel
theorem d_Md_fitting_87 : decode b_Md_fitting 87 = .ok (.ifCond .ne 7, 3) := by decide +kernel
theorem d_Md_fitting_90 : decode b_Md_fitting 90 = .ok (.iconst 1, 1) := by decide +kernel
theorem d_Md_fitting_91 : decode b_Md_fitting 91 = .ok (.goto 4, 3) := by decide +kernel
theorem d_Md_fitting_94 : decode b_Md_fitting 94 = .ok (.iconst 0, 1) := by decide +kernel
theorem d_Md_fitting_95 : decode b_Md_fitting 95 = .ok (.ireturn, 1) := by decide +kernel
theorem d_Md_forms_0 : decode b_Md_forms 0 = .ok (.aload_n 0, 1) := by decide +kernel
theorem d_Md_forms_1 : decode b_Md_forms 1 = .ok (.getfield 55, 3) := by decide +kernel
theorem d_Md_forms_4 : decode b_Md_forms 4 = .ok (.aload_n 0, 1) := by decide +kernel
theorem d_Md_forms_5 : decode b_Md_forms 5 = .ok (.getfield 36, 3) := by decide +kernel
theorem d_Md_forms_8 : decode b_Md_forms 8 = .ok (.iaload, 1) := by decide +kernel
theorem d_Md_forms_9 : decode b_Md_forms 9 = .ok (.istore 4, 2) := by decide +kernel
theorem d_Md_forms_11 : decode b_Md_forms 11 = .ok (.iconst 1, 1) := by decide +kernel
theorem d_Md_forms_12 : decode b_Md_forms 12 = .ok (.istore 5, 2) := by decide +kernel
theorem d_Md_forms_14 : decode b_Md_forms 14 = .ok (.iload 5, 2) := by decide +kernel
theorem d_Md_forms_16 : decode b_Md_forms 16 = .ok (.iload 4, 2) := by decide +kernel
theorem d_Md_forms_18 : decode b_Md_forms 18 = .ok (.if_icmp .ge 66, 3) := by decide +kernel
theorem d_Md_forms_21 : decode b_Md_forms 21 = .ok (.iload 5, 2) := by decide +kernel
theorem d_Md_forms_23 : decode b_Md_forms 23 = .ok (.iconst 4, 1) := by decide +kernel
theorem d_Md_forms_24 : decode b_Md_forms 24 = .ok (.if_icmp .ge 60, 3) := by decide +kernel
theorem d_Md_forms_27 : decode b_Md_forms 27 = .ok (.iload 5, 2) := by decide +kernel
theorem d_Md_forms_29 : decode b_Md_forms 29 = .ok (.iconst 1, 1) := by decide +kernel
theorem d_Md_forms_30 : decode b_Md_forms 30 = .ok (.if_icmp .ne 7, 3) := by decide +kernel
theorem d_Md_forms_33 : decode b_Md_forms 33 = .ok (.iload_n 1, 1) := by decide +kernel
theorem d_Md_forms_34 : decode b_Md_forms 34 = .ok (.goto 14, 3) := by decide +kernel
theorem d_Md_forms_37 : decode b_Md_forms 37 = .ok (.iload 5, 2) := by decide +kernel
theorem d_Md_forms_39 : decode b_Md_forms 39 = .ok (.iconst 2, 1) := by decide +kernel
theorem d_Md_forms_40 : decode b_Md_forms 40 = .ok (.if_icmp .ne 7, 3) := by decide +kernel
theorem d_Md_forms_43 : decode b_Md_forms 43 = .ok (.iload_n 2, 1) := by decide +kernel
theorem d_Md_forms_44 : decode b_Md_forms 44 = .ok (.goto 4, 3) := by decide +kernel
theorem d_Md_forms_47 : decode b_Md_forms 47 = .ok (.iload_n 3, 1) := by decide +kernel
theorem d_Md_forms_48 : decode b_Md_forms 48 = .ok (.istore 6, 2) := by decide +kernel
theorem d_Md_forms_50 : decode b_Md_forms 50 = .ok (.iload 6, 2) := by decide +kernel
theorem d_Md_forms_52 : decode b_Md_forms 52 = .ok (.bipush 119, 2) := by decide +kernel
theorem d_Md_forms_54 : decode b_Md_forms 54 = .ok (.if_icmp .ne 24, 3) := by decide +kernel
theorem d_Md_forms_57 : decode b_Md_forms 57 = .ok (.aload_n 0, 1) := by decide +kernel
theorem d_Md_forms_58 : decode b_Md_forms 58 = .ok (.getfield 64, 3) := by decide +kernel
theorem d_Md_forms_61 : decode b_Md_forms 61 = .ok (.aload_n 0, 1) := by decide +kernel
theorem d_Md_forms_62 : decode b_Md_forms 62 = .ok (.iload 5, 2) := by decide +kernel
theorem d_Md_forms_64 : decode b_Md_forms 64 = .ok (.invokevirtual 155, 3) := by decide +kernel
theorem d_Md_forms_67 : decode b_Md_forms 67 = .ok (.baload, 1) := by decide +kernel
theorem d_Md_forms_68 : decode b_Md_forms 68 = .ok (.ifCond .ne 10, 3) := by decide +kernel
theorem d_Md_forms_71 : decode b_Md_forms 71 = .ok (.aload_n 0, 1) := by decide +kernel
theorem d_Md_forms_72 : decode b_Md_forms 72 = .ok (.iconst 3, 1) := by decide +kernel
theorem d_Md_forms_73 : decode b_Md_forms 73 = .ok (.invokevirtual 166, 3) := by decide +kernel
theorem d_Md_forms_76 : decode b_Md_forms 76 = .ok (.iconst 0, 1) := by decide +kernel
theorem d_Md_forms_77 : decode b_Md_forms 77 = .ok (.ireturn, 1) := by decide +kernel
theorem d_Md_forms_78 : decode b_Md_forms 78 = .ok (.iinc 5 1, 3) := by decide +kernel
theorem d_Md_forms_81 : decode b_Md_forms 81 = .ok (.goto (-67), 3) := by decide +kernel
theorem d_Md_forms_84 : decode b_Md_forms 84 = .ok (.iconst 1, 1) := by decide +kernel
theorem d_Md_forms_85 : decode b_Md_forms 85 = .ok (.istore 5, 2) := by decide +kernel
theorem d_Md_forms_87 : decode b_Md_forms 87 = .ok (.iload 5, 2) := by decide +kernel
theorem d_Md_forms_89 : decode b_Md_forms 89 = .ok (.iload 4, 2) := by decide +kernel
theorem d_Md_forms_91 : decode b_Md_forms 91 = .ok (.if_icmp .ge 51, 3) := by decide +kernel
theorem d_Md_forms_94 : decode b_Md_forms 94 = .ok (.iload 5, 2) := by decide +kernel
theorem d_Md_forms_96 : decode b_Md_forms 96 = .ok (.iconst 4, 1) := by decide +kernel
theorem d_Md_forms_97 : decode b_Md_forms 97 = .ok (.if_icmp .ge 45, 3) := by decide +kernel
theorem d_Md_forms_100 : decode b_Md_forms 100 = .ok (.iload 5, 2) := by decide +kernel
theorem d_Md_forms_102 : decode b_Md_forms 102 = .ok (.iconst 1, 1) := by decide +kernel
theorem d_Md_forms_103 : decode b_Md_forms 103 = .ok (.if_icmp .ne 7, 3) := by decide +kernel
theorem d_Md_forms_106 : decode b_Md_forms 106 = .ok (.iload_n 1, 1) := by decide +kernel
theorem d_Md_forms_107 : decode b_Md_forms 107 = .ok (.goto 14, 3) := by decide +kernel
theorem d_Md_forms_110 : decode b_Md_forms 110 = .ok (.iload 5, 2) := by decide +kernel
theorem d_Md_forms_112 : decode b_Md_forms 112 = .ok (.iconst 2, 1) := by decide +kernel
theorem d_Md_forms_113 : decode b_Md_forms 113 = .ok (.if_icmp .ne 7, 3) := by decide +kernel
theorem d_Md_forms_116 : decode b_Md_forms 116 = .ok (.iload_n 2, 1) := by decide +kernel
theorem d_Md_forms_117 : decode b_Md_forms 117 = .ok (.goto 4, 3) := by decide +kernel
theorem d_Md_forms_120 : decode b_Md_forms 120 = .ok (.iload_n 3, 1) := by decide +kernel
theorem d_Md_forms_121 : decode b_Md_forms 121 = .ok (.istore 6, 2) := by decide +kernel
theorem d_Md_forms_123 : decode b_Md_forms 123 = .ok (.aload_n 0, 1) := by decide +kernel
theorem d_Md_forms_124 : decode b_Md_forms 124 = .ok (.iload 6, 2) := by decide +kernel
theorem d_Md_forms_126 : decode b_Md_forms 126 = .ok (.iload 5, 2) := by decide +kernel
theorem d_Md_forms_128 : decode b_Md_forms 128 = .ok (.invokevirtual 238, 3) := by decide +kernel
theorem d_Md_forms_131 : decode b_Md_forms 131 = .ok (.ifCond .ne 5, 3) := by decide +kernel
theorem d_Md_forms_134 : decode b_Md_forms 134 = .ok (.iconst 0, 1) := by decide +kernel
theorem d_Md_forms_135 : decode b_Md_forms 135 = .ok (.ireturn, 1) := by decide +kernel
theorem d_Md_forms_136 : decode b_Md_forms 136 = .ok (.iinc 5 1, 3) := by decide +kernel
theorem d_Md_forms_139 : decode b_Md_forms 139 = .ok (.goto (-52), 3) := by decide +kernel
theorem d_Md_forms_142 : decode b_Md_forms 142 = .ok (.iconst 1, 1) := by decide +kernel
theorem d_Md_forms_143 : decode b_Md_forms 143 = .ok (.ireturn, 1) := by decide +kernel
theorem d_Md_grow_0 : decode b_Md_grow 0 = .ok (.aload_n 0, 1) := by decide +kernel
theorem d_Md_grow_1 : decode b_Md_grow 1 = .ok (.getfield 55, 3) := by decide +kernel
theorem d_Md_grow_4 : decode b_Md_grow 4 = .ok (.aload_n 0, 1) := by decide +kernel
theorem d_Md_grow_5 : decode b_Md_grow 5 = .ok (.getfield 36, 3) := by decide +kernel
theorem d_Md_grow_8 : decode b_Md_grow 8 = .ok (.iaload, 1) := by decide +kernel
theorem d_Md_grow_9 : decode b_Md_grow 9 = .ok (.iconst 3, 1) := by decide +kernel
theorem d_Md_grow_10 : decode b_Md_grow 10 = .ok (.if_icmp .lt 12, 3) := by decide +kernel
theorem d_Md_grow_13 : decode b_Md_grow 13 = .ok (.aload_n 0, 1) := by decide +kernel
theorem d_Md_grow_14 : decode b_Md_grow 14 = .ok (.iconst (-1), 1) := by decide +kernel
theorem d_Md_grow_15 : decode b_Md_grow 15 = .ok (.iconst 2, 1) := by decide +kernel
theorem d_Md_grow_16 : decode b_Md_grow 16 = .ok (.invokevirtual 319, 3) := by decide +kernel
theorem d_Md_grow_19 : decode b_Md_grow 19 = .ok (.ifCond .eq 7, 3) := by decide +kernel
theorem d_Md_grow_22 : decode b_Md_grow 22 = .ok (.iconst 1, 1) := by decide +kernel
theorem d_Md_grow_23 : decode b_Md_grow 23 = .ok (.goto 4, 3) := by decide +kernel
theorem d_Md_grow_26 : decode b_Md_grow 26 = .ok (.iconst 0, 1) := by decide +kernel
theorem d_Md_grow_27 : decode b_Md_grow 27 = .ok (.istore_n 2, 1) := by decide +kernel
theorem d_Md_grow_28 : decode b_Md_grow 28 = .ok (.aload_n 0, 1) := by decide +kernel
theorem d_Md_grow_29 : decode b_Md_grow 29 = .ok (.getfield 55, 3) := by decide +kernel
theorem d_Md_grow_32 : decode b_Md_grow 32 = .ok (.aload_n 0, 1) := by decide +kernel
theorem d_Md_grow_33 : decode b_Md_grow 33 = .ok (.getfield 36, 3) := by decide +kernel
theorem d_Md_grow_36 : decode b_Md_grow 36 = .ok (.iaload, 1) := by decide +kernel
theorem d_Md_grow_37 : decode b_Md_grow 37 = .ok (.iconst 3, 1) := by decide +kernel
theorem d_Md_grow_38 : decode b_Md_grow 38 = .ok (.if_icmp .lt 7, 3) := by decide +kernel
theorem d_Md_grow_41 : decode b_Md_grow 41 = .ok (.iload_n 2, 1) := by decide +kernel
theorem d_Md_grow_42 : decode b_Md_grow 42 = .ok (.ifCond .ne 7, 3) := by decide +kernel
theorem d_Md_grow_45 : decode b_Md_grow 45 = .ok (.iconst 1, 1) := by decide +kernel
theorem d_Md_grow_46 : decode b_Md_grow 46 = .ok (.goto 7, 3) := by decide +kernel
theorem d_Md_grow_49 : decode b_Md_grow 49 = .ok (.aload_n 0, 1) := by decide +kernel
theorem d_Md_grow_50 : decode b_Md_grow 50 = .ok (.getfield 316, 3) := by decide +kernel
theorem d_Md_grow_53 : decode b_Md_grow 53 = .ok (.istore_n 3, 1) := by decide +kernel
theorem d_Md_grow_54 : decode b_Md_grow 54 = .ok (.aload_n 0, 1) := by decide +kernel
theorem d_Md_grow_55 : decode b_Md_grow 55 = .ok (.getfield 13, 3) := by decide +kernel
theorem d_Md_grow_58 : decode b_Md_grow 58 = .ok (.iload_n 1, 1) := by decide +kernel
theorem d_Md_grow_59 : decode b_Md_grow 59 = .ok (.iaload, 1) := by decide +kernel
theorem d_Md_grow_60 : decode b_Md_grow 60 = .ok (.ifCond .ge 11, 3) := by decide +kernel
theorem d_Md_grow_63 : decode b_Md_grow 63 = .ok (.aload_n 0, 1) := by decide +kernel
theorem d_Md_grow_64 : decode b_Md_grow 64 = .ok (.iconst 4, 1) := by decide +kernel
theorem d_Md_grow_65 : decode b_Md_grow 65 = .ok (.invokevirtual 166, 3) := by decide +kernel
theorem d_Md_grow_68 : decode b_Md_grow 68 = .ok (.goto 40, 3) := by decide +kernel
theorem d_Md_grow_71 : decode b_Md_grow 71 = .ok (.aload_n 0, 1) := by decide +kernel
theorem d_Md_grow_72 : decode b_Md_grow 72 = .ok (.iload_n 1, 1) := by decide +kernel
theorem d_Md_grow_73 : decode b_Md_grow 73 = .ok (.iconst 0, 1) := by decide +kernel
theorem d_Md_grow_74 : decode b_Md_grow 74 = .ok (.invokevirtual 319, 3) := by decide +kernel
theorem d_Md_grow_77 : decode b_Md_grow 77 = .ok (.ifCond .ne 11, 3) := by decide +kernel
theorem d_Md_grow_80 : decode b_Md_grow 80 = .ok (.aload_n 0, 1) := by decide +kernel
theorem d_Md_grow_81 : decode b_Md_grow 81 = .ok (.iconst 5, 1) := by decide +kernel
theorem d_Md_grow_82 : decode b_Md_grow 82 = .ok (.invokevirtual 166, 3) := by decide +kernel
theorem d_Md_grow_85 : decode b_Md_grow 85 = .ok (.goto 23, 3) := by decide +kernel
theorem d_Md_grow_88 : decode b_Md_grow 88 = .ok (.aload_n 0, 1) := by decide +kernel
theorem d_Md_grow_89 : decode b_Md_grow 89 = .ok (.aload_n 0, 1) := by decide +kernel
theorem d_Md_grow_90 : decode b_Md_grow 90 = .ok (.getfield 316, 3) := by decide +kernel
theorem d_Md_grow_93 : decode b_Md_grow 93 = .ok (.iload_n 3, 1) := by decide +kernel
theorem d_Md_grow_94 : decode b_Md_grow 94 = .ok (.iadd, 1) := by decide +kernel
theorem d_Md_grow_95 : decode b_Md_grow 95 = .ok (.invokevirtual 226, 3) := by decide +kernel
theorem d_Md_grow_98 : decode b_Md_grow 98 = .ok (.aload_n 0, 1) := by decide +kernel
theorem d_Md_grow_99 : decode b_Md_grow 99 = .ok (.iload_n 1, 1) := by decide +kernel
theorem d_Md_grow_100 : decode b_Md_grow 100 = .ok (.invokevirtual 223, 3) := by decide +kernel
theorem d_Md_grow_103 : decode b_Md_grow 103 = .ok (.aload_n 0, 1) := by decide +kernel
theorem d_Md_grow_104 : decode b_Md_grow 104 = .ok (.iconst 0, 1) := by decide +kernel
theorem d_Md_grow_105 : decode b_Md_grow 105 = .ok (.invokevirtual 235, 3) := by decide +kernel
theorem d_Md_grow_108 : decode b_Md_grow 108 = .ok (.return_, 1) := by decide +kernel
theorem d_Md_here_0 : decode b_Md_here 0 = .ok (.aload_n 0, 1) := by decide +kernel
theorem d_Md_here_1 : decode b_Md_here 1 = .ok (.invokevirtual 176, 3) := by decide +kernel
theorem d_Md_here_4 : decode b_Md_here 4 = .ok (.ifCond .eq 7, 3) := by decide +kernel
theorem d_Md_here_7 : decode b_Md_here 7 = .ok (.iconst 0, 1) := by decide +kernel
theorem d_Md_here_8 : decode b_Md_here 8 = .ok (.goto 17, 3) := by decide +kernel
theorem d_Md_here_11 : decode b_Md_here 11 = .ok (.aload_n 0, 1) := by decide +kernel
theorem d_Md_here_12 : decode b_Md_here 12 = .ok (.getfield 7, 3) := by decide +kernel
theorem d_Md_here_15 : decode b_Md_here 15 = .ok (.aload_n 0, 1) := by decide +kernel
theorem d_Md_here_16 : decode b_Md_here 16 = .ok (.getfield 40, 3) := by decide +kernel
theorem d_Md_here_19 : decode b_Md_here 19 = .ok (.aload_n 0, 1) := by decide +kernel
theorem d_Md_here_20 : decode b_Md_here 20 = .ok (.getfield 36, 3) := by decide +kernel
theorem d_Md_here_23 : decode b_Md_here 23 = .ok (.iaload, 1) := by decide +kernel
theorem d_Md_here_24 : decode b_Md_here 24 = .ok (.caload, 1) := by decide +kernel
theorem d_Md_here_25 : decode b_Md_here 25 = .ok (.ireturn, 1) := by decide +kernel
theorem d_Md_ill_0 : decode b_Md_ill 0 = .ok (.aload_n 0, 1) := by decide +kernel
theorem d_Md_ill_1 : decode b_Md_ill 1 = .ok (.aload_n 0, 1) := by decide +kernel
theorem d_Md_ill_2 : decode b_Md_ill 2 = .ok (.getfield 328, 3) := by decide +kernel
theorem d_Md_ill_5 : decode b_Md_ill 5 = .ok (.iconst 1, 1) := by decide +kernel
theorem d_Md_ill_6 : decode b_Md_ill 6 = .ok (.if_icmp .eq 8, 3) := by decide +kernel
theorem d_Md_ill_9 : decode b_Md_ill 9 = .ok (.iload_n 1, 1) := by decide +kernel
theorem d_Md_ill_10 : decode b_Md_ill 10 = .ok (.iconst 1, 1) := by decide +kernel
theorem d_Md_ill_11 : decode b_Md_ill 11 = .ok (.if_icmp .ne 7, 3) := by decide +kernel
theorem d_Md_ill_14 : decode b_Md_ill 14 = .ok (.iconst 1, 1) := by decide +kernel
theorem d_Md_ill_15 : decode b_Md_ill 15 = .ok (.goto 18, 3) := by decide +kernel
theorem d_Md_ill_18 : decode b_Md_ill 18 = .ok (.aload_n 0, 1) := by decide +kernel
theorem d_Md_ill_19 : decode b_Md_ill 19 = .ok (.getfield 328, 3) := by decide +kernel
theorem d_Md_ill_22 : decode b_Md_ill 22 = .ok (.ifCond .ne 7, 3) := by decide +kernel
theorem d_Md_ill_25 : decode b_Md_ill 25 = .ok (.iload_n 1, 1) := by decide +kernel
theorem d_Md_ill_26 : decode b_Md_ill 26 = .ok (.goto 7, 3) := by decide +kernel
theorem d_Md_ill_29 : decode b_Md_ill 29 = .ok (.aload_n 0, 1) := by decide +kernel
theorem d_Md_ill_30 : decode b_Md_ill 30 = .ok (.getfield 328, 3) := by decide +kernel
theorem d_Md_ill_33 : decode b_Md_ill 33 = .ok (.putfield 328, 3) := by decide +kernel
theorem d_Md_ill_36 : decode b_Md_ill 36 = .ok (.return_, 1) := by decide +kernel
theorem d_Md_inWord_0 : decode b_Md_inWord 0 = .ok (.aload_n 0, 1) := by decide +kernel
theorem d_Md_inWord_1 : decode b_Md_inWord 1 = .ok (.invokevirtual 180, 3) := by decide +kernel
theorem d_Md_inWord_4 : decode b_Md_inWord 4 = .ok (.istore_n 1, 1) := by decide +kernel
theorem d_Md_inWord_5 : decode b_Md_inWord 5 = .ok (.aload_n 0, 1) := by decide +kernel
theorem d_Md_inWord_6 : decode b_Md_inWord 6 = .ok (.getfield 52, 3) := by decide +kernel
