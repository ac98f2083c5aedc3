/-! decode rows; written by wip/gen/names.py -/
theorem d_Lg_init_0 : decode b_Lg_init 0 = .ok (.aload_n 0, 1) := by decide +kernel
theorem d_Lg_init_1 : decode b_Lg_init 1 = .ok (.invokespecial 3, 3) := by decide +kernel
theorem d_Lg_init_4 : decode b_Lg_init 4 = .ok (.aload_n 0, 1) := by decide +kernel
theorem d_Lg_init_5 : decode b_Lg_init 5 = .ok (.bipush 40, 2) := by decide +kernel
theorem d_Lg_init_7 : decode b_Lg_init 7 = .ok (.newarray .int, 2) := by decide +kernel
theorem d_Lg_init_9 : decode b_Lg_init 9 = .ok (.putfield 9, 3) := by decide +kernel
theorem d_Lg_init_12 : decode b_Lg_init 12 = .ok (.return_, 1) := by decide +kernel
theorem d_Lg_beforeLatest_0 : decode b_Lg_beforeLatest 0 = .ok (.iload_n 1, 1) := by decide +kernel
theorem d_Lg_beforeLatest_1 : decode b_Lg_beforeLatest 1 = .ok (.ifCond .lt 17, 3) := by decide +kernel
theorem d_Lg_beforeLatest_4 : decode b_Lg_beforeLatest 4 = .ok (.iload_n 1, 1) := by decide +kernel
theorem d_Lg_beforeLatest_5 : decode b_Lg_beforeLatest 5 = .ok (.bipush 40, 2) := by decide +kernel
theorem d_Lg_beforeLatest_7 : decode b_Lg_beforeLatest 7 = .ok (.if_icmp .ge 11, 3) := by decide +kernel
theorem d_Lg_beforeLatest_10 : decode b_Lg_beforeLatest 10 = .ok (.iload_n 1, 1) := by decide +kernel
theorem d_Lg_beforeLatest_11 : decode b_Lg_beforeLatest 11 = .ok (.aload_n 0, 1) := by decide +kernel
theorem d_Lg_beforeLatest_12 : decode b_Lg_beforeLatest 12 = .ok (.getfield 15, 3) := by decide +kernel
theorem d_Lg_beforeLatest_15 : decode b_Lg_beforeLatest 15 = .ok (.if_icmp .lt 5, 3) := by decide +kernel
theorem d_Lg_beforeLatest_18 : decode b_Lg_beforeLatest 18 = .ok (.iconst 0, 1) := by decide +kernel
theorem d_Lg_beforeLatest_19 : decode b_Lg_beforeLatest 19 = .ok (.ireturn, 1) := by decide +kernel
theorem d_Lg_beforeLatest_20 : decode b_Lg_beforeLatest 20 = .ok (.aload_n 0, 1) := by decide +kernel
theorem d_Lg_beforeLatest_21 : decode b_Lg_beforeLatest 21 = .ok (.getfield 9, 3) := by decide +kernel
theorem d_Lg_beforeLatest_24 : decode b_Lg_beforeLatest 24 = .ok (.aload_n 0, 1) := by decide +kernel
theorem d_Lg_beforeLatest_25 : decode b_Lg_beforeLatest 25 = .ok (.getfield 15, 3) := by decide +kernel
theorem d_Lg_beforeLatest_28 : decode b_Lg_beforeLatest 28 = .ok (.iconst 1, 1) := by decide +kernel
theorem d_Lg_beforeLatest_29 : decode b_Lg_beforeLatest 29 = .ok (.isub, 1) := by decide +kernel
theorem d_Lg_beforeLatest_30 : decode b_Lg_beforeLatest 30 = .ok (.iload_n 1, 1) := by decide +kernel
theorem d_Lg_beforeLatest_31 : decode b_Lg_beforeLatest 31 = .ok (.isub, 1) := by decide +kernel
theorem d_Lg_beforeLatest_32 : decode b_Lg_beforeLatest 32 = .ok (.invokestatic 19, 3) := by decide +kernel
theorem d_Lg_beforeLatest_35 : decode b_Lg_beforeLatest 35 = .ok (.iaload, 1) := by decide +kernel
theorem d_Lg_beforeLatest_36 : decode b_Lg_beforeLatest 36 = .ok (.ireturn, 1) := by decide +kernel
theorem d_Lg_note_0 : decode b_Lg_note 0 = .ok (.aload_n 0, 1) := by decide +kernel
theorem d_Lg_note_1 : decode b_Lg_note 1 = .ok (.getfield 9, 3) := by decide +kernel
theorem d_Lg_note_4 : decode b_Lg_note 4 = .ok (.aload_n 0, 1) := by decide +kernel
theorem d_Lg_note_5 : decode b_Lg_note 5 = .ok (.getfield 15, 3) := by decide +kernel
theorem d_Lg_note_8 : decode b_Lg_note 8 = .ok (.invokestatic 19, 3) := by decide +kernel
theorem d_Lg_note_11 : decode b_Lg_note 11 = .ok (.iload_n 1, 1) := by decide +kernel
theorem d_Lg_note_12 : decode b_Lg_note 12 = .ok (.iastore, 1) := by decide +kernel
theorem d_Lg_note_13 : decode b_Lg_note 13 = .ok (.aload_n 0, 1) := by decide +kernel
theorem d_Lg_note_14 : decode b_Lg_note 14 = .ok (.dup, 1) := by decide +kernel
theorem d_Lg_note_15 : decode b_Lg_note 15 = .ok (.getfield 15, 3) := by decide +kernel
theorem d_Lg_note_18 : decode b_Lg_note 18 = .ok (.iconst 1, 1) := by decide +kernel
theorem d_Lg_note_19 : decode b_Lg_note 19 = .ok (.iadd, 1) := by decide +kernel
theorem d_Lg_note_20 : decode b_Lg_note 20 = .ok (.putfield 15, 3) := by decide +kernel
theorem d_Lg_note_23 : decode b_Lg_note 23 = .ok (.return_, 1) := by decide +kernel
theorem d_Lg_placeOf_0 : decode b_Lg_placeOf 0 = .ok (.iload_n 0, 1) := by decide +kernel
theorem d_Lg_placeOf_1 : decode b_Lg_placeOf 1 = .ok (.bipush 40, 2) := by decide +kernel
theorem d_Lg_placeOf_3 : decode b_Lg_placeOf 3 = .ok (.invokestatic 23, 3) := by decide +kernel
theorem d_Lg_placeOf_6 : decode b_Lg_placeOf 6 = .ok (.ireturn, 1) := by decide +kernel
