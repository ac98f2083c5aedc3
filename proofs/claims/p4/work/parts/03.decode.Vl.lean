/-! decode rows; written by wip/gen/names.py -/
theorem d_Vl_init_0 : decode b_Vl_init 0 = .ok (.aload_n 0, 1) := by decide +kernel
theorem d_Vl_init_1 : decode b_Vl_init 1 = .ok (.invokespecial 3, 3) := by decide +kernel
theorem d_Vl_init_4 : decode b_Vl_init 4 = .ok (.aload_n 0, 1) := by decide +kernel
theorem d_Vl_init_5 : decode b_Vl_init 5 = .ok (.iload_n 1, 1) := by decide +kernel
theorem d_Vl_init_6 : decode b_Vl_init 6 = .ok (.bipush 20, 2) := by decide +kernel
theorem d_Vl_init_8 : decode b_Vl_init 8 = .ok (.imul, 1) := by decide +kernel
theorem d_Vl_init_9 : decode b_Vl_init 9 = .ok (.newarray .char, 2) := by decide +kernel
theorem d_Vl_init_11 : decode b_Vl_init 11 = .ok (.putfield 9, 3) := by decide +kernel
theorem d_Vl_init_14 : decode b_Vl_init 14 = .ok (.aload_n 0, 1) := by decide +kernel
theorem d_Vl_init_15 : decode b_Vl_init 15 = .ok (.iload_n 1, 1) := by decide +kernel
theorem d_Vl_init_16 : decode b_Vl_init 16 = .ok (.newarray .int, 2) := by decide +kernel
theorem d_Vl_init_18 : decode b_Vl_init 18 = .ok (.putfield 15, 3) := by decide +kernel
theorem d_Vl_init_21 : decode b_Vl_init 21 = .ok (.return_, 1) := by decide +kernel
theorem d_Vl_append_0 : decode b_Vl_append 0 = .ok (.iload_n 1, 1) := by decide +kernel
theorem d_Vl_append_1 : decode b_Vl_append 1 = .ok (.ifCond .lt 32, 3) := by decide +kernel
theorem d_Vl_append_4 : decode b_Vl_append 4 = .ok (.iload_n 1, 1) := by decide +kernel
theorem d_Vl_append_5 : decode b_Vl_append 5 = .ok (.aload_n 0, 1) := by decide +kernel
theorem d_Vl_append_6 : decode b_Vl_append 6 = .ok (.getfield 15, 3) := by decide +kernel
theorem d_Vl_append_9 : decode b_Vl_append 9 = .ok (.arraylength, 1) := by decide +kernel
theorem d_Vl_append_10 : decode b_Vl_append 10 = .ok (.if_icmp .ge 23, 3) := by decide +kernel
theorem d_Vl_append_13 : decode b_Vl_append 13 = .ok (.aload_n 0, 1) := by decide +kernel
theorem d_Vl_append_14 : decode b_Vl_append 14 = .ok (.getfield 15, 3) := by decide +kernel
theorem d_Vl_append_17 : decode b_Vl_append 17 = .ok (.iload_n 1, 1) := by decide +kernel
theorem d_Vl_append_18 : decode b_Vl_append 18 = .ok (.iaload, 1) := by decide +kernel
theorem d_Vl_append_19 : decode b_Vl_append 19 = .ok (.ifCond .lt 14, 3) := by decide +kernel
theorem d_Vl_append_22 : decode b_Vl_append 22 = .ok (.aload_n 0, 1) := by decide +kernel
theorem d_Vl_append_23 : decode b_Vl_append 23 = .ok (.getfield 15, 3) := by decide +kernel
theorem d_Vl_append_26 : decode b_Vl_append 26 = .ok (.iload_n 1, 1) := by decide +kernel
theorem d_Vl_append_27 : decode b_Vl_append 27 = .ok (.iaload, 1) := by decide +kernel
theorem d_Vl_append_28 : decode b_Vl_append 28 = .ok (.bipush 20, 2) := by decide +kernel
theorem d_Vl_append_30 : decode b_Vl_append 30 = .ok (.if_icmp .lt 5, 3) := by decide +kernel
theorem d_Vl_append_33 : decode b_Vl_append 33 = .ok (.iconst 0, 1) := by decide +kernel
theorem d_Vl_append_34 : decode b_Vl_append 34 = .ok (.ireturn, 1) := by decide +kernel
theorem d_Vl_append_35 : decode b_Vl_append 35 = .ok (.aload_n 0, 1) := by decide +kernel
theorem d_Vl_append_36 : decode b_Vl_append 36 = .ok (.getfield 9, 3) := by decide +kernel
theorem d_Vl_append_39 : decode b_Vl_append 39 = .ok (.iload_n 1, 1) := by decide +kernel
theorem d_Vl_append_40 : decode b_Vl_append 40 = .ok (.bipush 20, 2) := by decide +kernel
theorem d_Vl_append_42 : decode b_Vl_append 42 = .ok (.imul, 1) := by decide +kernel
theorem d_Vl_append_43 : decode b_Vl_append 43 = .ok (.aload_n 0, 1) := by decide +kernel
theorem d_Vl_append_44 : decode b_Vl_append 44 = .ok (.getfield 15, 3) := by decide +kernel
theorem d_Vl_append_47 : decode b_Vl_append 47 = .ok (.iload_n 1, 1) := by decide +kernel
theorem d_Vl_append_48 : decode b_Vl_append 48 = .ok (.iaload, 1) := by decide +kernel
theorem d_Vl_append_49 : decode b_Vl_append 49 = .ok (.iadd, 1) := by decide +kernel
theorem d_Vl_append_50 : decode b_Vl_append 50 = .ok (.iload_n 2, 1) := by decide +kernel
theorem d_Vl_append_51 : decode b_Vl_append 51 = .ok (.i2c, 1) := by decide +kernel
theorem d_Vl_append_52 : decode b_Vl_append 52 = .ok (.castore, 1) := by decide +kernel
theorem d_Vl_append_53 : decode b_Vl_append 53 = .ok (.aload_n 0, 1) := by decide +kernel
theorem d_Vl_append_54 : decode b_Vl_append 54 = .ok (.getfield 15, 3) := by decide +kernel
theorem d_Vl_append_57 : decode b_Vl_append 57 = .ok (.iload_n 1, 1) := by decide +kernel
theorem d_Vl_append_58 : decode b_Vl_append 58 = .ok (.dup2, 1) := by decide +kernel
theorem d_Vl_append_59 : decode b_Vl_append 59 = .ok (.iaload, 1) := by decide +kernel
theorem d_Vl_append_60 : decode b_Vl_append 60 = .ok (.iconst 1, 1) := by decide +kernel
theorem d_Vl_append_61 : decode b_Vl_append 61 = .ok (.iadd, 1) := by decide +kernel
theorem d_Vl_append_62 : decode b_Vl_append 62 = .ok (.iastore, 1) := by decide +kernel
theorem d_Vl_append_63 : decode b_Vl_append 63 = .ok (.iconst 1, 1) := by decide +kernel
theorem d_Vl_append_64 : decode b_Vl_append 64 = .ok (.ireturn, 1) := by decide +kernel
theorem d_Vl_appendValue_0 : decode b_Vl_appendValue 0 = .ok (.aload_n 2, 1) := by decide +kernel
theorem d_Vl_appendValue_1 : decode b_Vl_appendValue 1 = .ok (.iload_n 3, 1) := by decide +kernel
theorem d_Vl_appendValue_2 : decode b_Vl_appendValue 2 = .ok (.invokevirtual 25, 3) := by decide +kernel
theorem d_Vl_appendValue_5 : decode b_Vl_appendValue 5 = .ok (.istore 4, 2) := by decide +kernel
theorem d_Vl_appendValue_7 : decode b_Vl_appendValue 7 = .ok (.iconst 1, 1) := by decide +kernel
theorem d_Vl_appendValue_8 : decode b_Vl_appendValue 8 = .ok (.istore 5, 2) := by decide +kernel
theorem d_Vl_appendValue_10 : decode b_Vl_appendValue 10 = .ok (.iconst 0, 1) := by decide +kernel
theorem d_Vl_appendValue_11 : decode b_Vl_appendValue 11 = .ok (.istore 6, 2) := by decide +kernel
theorem d_Vl_appendValue_13 : decode b_Vl_appendValue 13 = .ok (.iload 6, 2) := by decide +kernel
theorem d_Vl_appendValue_15 : decode b_Vl_appendValue 15 = .ok (.iload 4, 2) := by decide +kernel
theorem d_Vl_appendValue_17 : decode b_Vl_appendValue 17 = .ok (.if_icmp .ge 28, 3) := by decide +kernel
theorem d_Vl_appendValue_20 : decode b_Vl_appendValue 20 = .ok (.iload 5, 2) := by decide +kernel
theorem d_Vl_appendValue_22 : decode b_Vl_appendValue 22 = .ok (.ifCond .eq 23, 3) := by decide +kernel
theorem d_Vl_appendValue_25 : decode b_Vl_appendValue 25 = .ok (.aload_n 0, 1) := by decide +kernel
theorem d_Vl_appendValue_26 : decode b_Vl_appendValue 26 = .ok (.iload_n 1, 1) := by decide +kernel
theorem d_Vl_appendValue_27 : decode b_Vl_appendValue 27 = .ok (.aload_n 2, 1) := by decide +kernel
theorem d_Vl_appendValue_28 : decode b_Vl_appendValue 28 = .ok (.iload_n 3, 1) := by decide +kernel
theorem d_Vl_appendValue_29 : decode b_Vl_appendValue 29 = .ok (.iload 6, 2) := by decide +kernel
theorem d_Vl_appendValue_31 : decode b_Vl_appendValue 31 = .ok (.invokevirtual 29, 3) := by decide +kernel
theorem d_Vl_appendValue_34 : decode b_Vl_appendValue 34 = .ok (.invokevirtual 33, 3) := by decide +kernel
theorem d_Vl_appendValue_37 : decode b_Vl_appendValue 37 = .ok (.istore 5, 2) := by decide +kernel
theorem d_Vl_appendValue_39 : decode b_Vl_appendValue 39 = .ok (.iinc 6 1, 3) := by decide +kernel
theorem d_Vl_appendValue_42 : decode b_Vl_appendValue 42 = .ok (.goto (-29), 3) := by decide +kernel
theorem d_Vl_appendValue_45 : decode b_Vl_appendValue 45 = .ok (.iload 5, 2) := by decide +kernel
theorem d_Vl_appendValue_47 : decode b_Vl_appendValue 47 = .ok (.ireturn, 1) := by decide +kernel
theorem d_Vl_copy_0 : decode b_Vl_copy 0 = .ok (.aload_n 0, 1) := by decide +kernel
theorem d_Vl_copy_1 : decode b_Vl_copy 1 = .ok (.iload_n 1, 1) := by decide +kernel
theorem d_Vl_copy_2 : decode b_Vl_copy 2 = .ok (.invokevirtual 37, 3) := by decide +kernel
theorem d_Vl_copy_5 : decode b_Vl_copy 5 = .ok (.ifCond .eq 44, 3) := by decide +kernel
theorem d_Vl_copy_8 : decode b_Vl_copy 8 = .ok (.aload_n 2, 1) := by decide +kernel
theorem d_Vl_copy_9 : decode b_Vl_copy 9 = .ok (.iload_n 3, 1) := by decide +kernel
theorem d_Vl_copy_10 : decode b_Vl_copy 10 = .ok (.invokevirtual 37, 3) := by decide +kernel
theorem d_Vl_copy_13 : decode b_Vl_copy 13 = .ok (.ifCond .eq 36, 3) := by decide +kernel
theorem d_Vl_copy_16 : decode b_Vl_copy 16 = .ok (.aload_n 0, 1) := by decide +kernel
theorem d_Vl_copy_17 : decode b_Vl_copy 17 = .ok (.getfield 15, 3) := by decide +kernel
theorem d_Vl_copy_20 : decode b_Vl_copy 20 = .ok (.iload_n 1, 1) := by decide +kernel
theorem d_Vl_copy_21 : decode b_Vl_copy 21 = .ok (.aload_n 2, 1) := by decide +kernel
theorem d_Vl_copy_22 : decode b_Vl_copy 22 = .ok (.getfield 15, 3) := by decide +kernel
theorem d_Vl_copy_25 : decode b_Vl_copy 25 = .ok (.iload_n 3, 1) := by decide +kernel
theorem d_Vl_copy_26 : decode b_Vl_copy 26 = .ok (.iaload, 1) := by decide +kernel
theorem d_Vl_copy_27 : decode b_Vl_copy 27 = .ok (.iastore, 1) := by decide +kernel
theorem d_Vl_copy_28 : decode b_Vl_copy 28 = .ok (.aload_n 2, 1) := by decide +kernel
theorem d_Vl_copy_29 : decode b_Vl_copy 29 = .ok (.getfield 9, 3) := by decide +kernel
theorem d_Vl_copy_32 : decode b_Vl_copy 32 = .ok (.iload_n 3, 1) := by decide +kernel
theorem d_Vl_copy_33 : decode b_Vl_copy 33 = .ok (.bipush 20, 2) := by decide +kernel
theorem d_Vl_copy_35 : decode b_Vl_copy 35 = .ok (.imul, 1) := by decide +kernel
theorem d_Vl_copy_36 : decode b_Vl_copy 36 = .ok (.aload_n 0, 1) := by decide +kernel
theorem d_Vl_copy_37 : decode b_Vl_copy 37 = .ok (.getfield 9, 3) := by decide +kernel
theorem d_Vl_copy_40 : decode b_Vl_copy 40 = .ok (.iload_n 1, 1) := by decide +kernel
theorem d_Vl_copy_41 : decode b_Vl_copy 41 = .ok (.bipush 20, 2) := by decide +kernel
theorem d_Vl_copy_43 : decode b_Vl_copy 43 = .ok (.imul, 1) := by decide +kernel
theorem d_Vl_copy_44 : decode b_Vl_copy 44 = .ok (.bipush 20, 2) := by decide +kernel
theorem d_Vl_copy_46 : decode b_Vl_copy 46 = .ok (.invokestatic 41, 3) := by decide +kernel
theorem d_Vl_copy_49 : decode b_Vl_copy 49 = .ok (.return_, 1) := by decide +kernel
theorem d_Vl_copyStretch_0 : decode b_Vl_copyStretch 0 = .ok (.iload 4, 2) := by decide +kernel
theorem d_Vl_copyStretch_2 : decode b_Vl_copyStretch 2 = .ok (.iload_n 3, 1) := by decide +kernel
theorem d_Vl_copyStretch_3 : decode b_Vl_copyStretch 3 = .ok (.isub, 1) := by decide +kernel
theorem d_Vl_copyStretch_4 : decode b_Vl_copyStretch 4 = .ok (.istore 5, 2) := by decide +kernel
theorem d_Vl_copyStretch_6 : decode b_Vl_copyStretch 6 = .ok (.aload_n 0, 1) := by decide +kernel
theorem d_Vl_copyStretch_7 : decode b_Vl_copyStretch 7 = .ok (.iload_n 1, 1) := by decide +kernel
theorem d_Vl_copyStretch_8 : decode b_Vl_copyStretch 8 = .ok (.invokevirtual 37, 3) := by decide +kernel
theorem d_Vl_copyStretch_11 : decode b_Vl_copyStretch 11 = .ok (.ifCond .eq 19, 3) := by decide +kernel
theorem d_Vl_copyStretch_14 : decode b_Vl_copyStretch 14 = .ok (.iload_n 3, 1) := by decide +kernel
theorem d_Vl_copyStretch_15 : decode b_Vl_copyStretch 15 = .ok (.ifCond .lt 15, 3) := by decide +kernel
theorem d_Vl_copyStretch_18 : decode b_Vl_copyStretch 18 = .ok (.iload 5, 2) := by decide +kernel
theorem d_Vl_copyStretch_20 : decode b_Vl_copyStretch 20 = .ok (.ifCond .lt 10, 3) := by decide +kernel
theorem d_Vl_copyStretch_23 : decode b_Vl_copyStretch 23 = .ok (.iload 4, 2) := by decide +kernel
theorem d_Vl_copyStretch_25 : decode b_Vl_copyStretch 25 = .ok (.aload_n 2, 1) := by decide +kernel
theorem d_Vl_copyStretch_26 : decode b_Vl_copyStretch 26 = .ok (.arraylength, 1) := by decide +kernel
theorem d_Vl_copyStretch_27 : decode b_Vl_copyStretch 27 = .ok (.if_icmp .le 4, 3) := by decide +kernel
theorem d_Vl_copyStretch_30 : decode b_Vl_copyStretch 30 = .ok (.return_, 1) := by decide +kernel
theorem d_Vl_copyStretch_31 : decode b_Vl_copyStretch 31 = .ok (.aload_n 0, 1) := by decide +kernel
theorem d_Vl_copyStretch_32 : decode b_Vl_copyStretch 32 = .ok (.getfield 15, 3) := by decide +kernel
theorem d_Vl_copyStretch_35 : decode b_Vl_copyStretch 35 = .ok (.iload_n 1, 1) := by decide +kernel
theorem d_Vl_copyStretch_36 : decode b_Vl_copyStretch 36 = .ok (.iload 5, 2) := by decide +kernel
theorem d_Vl_copyStretch_38 : decode b_Vl_copyStretch 38 = .ok (.iastore, 1) := by decide +kernel
theorem d_Vl_copyStretch_39 : decode b_Vl_copyStretch 39 = .ok (.iload 5, 2) := by decide +kernel
theorem d_Vl_copyStretch_41 : decode b_Vl_copyStretch 41 = .ok (.bipush 20, 2) := by decide +kernel
theorem d_Vl_copyStretch_43 : decode b_Vl_copyStretch 43 = .ok (.if_icmp .gt 18, 3) := by decide +kernel
theorem d_Vl_copyStretch_46 : decode b_Vl_copyStretch 46 = .ok (.aload_n 2, 1) := by decide +kernel
theorem d_Vl_copyStretch_47 : decode b_Vl_copyStretch 47 = .ok (.iload_n 3, 1) := by decide +kernel
theorem d_Vl_copyStretch_48 : decode b_Vl_copyStretch 48 = .ok (.aload_n 0, 1) := by decide +kernel
theorem d_Vl_copyStretch_49 : decode b_Vl_copyStretch 49 = .ok (.getfield 9, 3) := by decide +kernel
theorem d_Vl_copyStretch_52 : decode b_Vl_copyStretch 52 = .ok (.iload_n 1, 1) := by decide +kernel
theorem d_Vl_copyStretch_53 : decode b_Vl_copyStretch 53 = .ok (.bipush 20, 2) := by decide +kernel
theorem d_Vl_copyStretch_55 : decode b_Vl_copyStretch 55 = .ok (.imul, 1) := by decide +kernel
theorem d_Vl_copyStretch_56 : decode b_Vl_copyStretch 56 = .ok (.iload 5, 2) := by decide +kernel
theorem d_Vl_copyStretch_58 : decode b_Vl_copyStretch 58 = .ok (.invokestatic 41, 3) := by decide +kernel
theorem d_Vl_copyStretch_61 : decode b_Vl_copyStretch 61 = .ok (.return_, 1) := by decide +kernel
theorem d_Vl_dropFirst_0 : decode b_Vl_dropFirst 0 = .ok (.aload_n 0, 1) := by decide +kernel
theorem d_Vl_dropFirst_1 : decode b_Vl_dropFirst 1 = .ok (.iload_n 1, 1) := by decide +kernel
theorem d_Vl_dropFirst_2 : decode b_Vl_dropFirst 2 = .ok (.invokevirtual 37, 3) := by decide +kernel
theorem d_Vl_dropFirst_5 : decode b_Vl_dropFirst 5 = .ok (.ifCond .eq 28, 3) := by decide +kernel
theorem d_Vl_dropFirst_8 : decode b_Vl_dropFirst 8 = .ok (.iload_n 2, 1) := by decide +kernel
theorem d_Vl_dropFirst_9 : decode b_Vl_dropFirst 9 = .ok (.ifCond .lt 24, 3) := by decide +kernel
theorem d_Vl_dropFirst_12 : decode b_Vl_dropFirst 12 = .ok (.iload_n 2, 1) := by decide +kernel
theorem d_Vl_dropFirst_13 : decode b_Vl_dropFirst 13 = .ok (.aload_n 0, 1) := by decide +kernel
theorem d_Vl_dropFirst_14 : decode b_Vl_dropFirst 14 = .ok (.getfield 15, 3) := by decide +kernel
theorem d_Vl_dropFirst_17 : decode b_Vl_dropFirst 17 = .ok (.iload_n 1, 1) := by decide +kernel
theorem d_Vl_dropFirst_18 : decode b_Vl_dropFirst 18 = .ok (.iaload, 1) := by decide +kernel
theorem d_Vl_dropFirst_19 : decode b_Vl_dropFirst 19 = .ok (.if_icmp .gt 14, 3) := by decide +kernel
theorem d_Vl_dropFirst_22 : decode b_Vl_dropFirst 22 = .ok (.aload_n 0, 1) := by decide +kernel
theorem d_Vl_dropFirst_23 : decode b_Vl_dropFirst 23 = .ok (.getfield 15, 3) := by decide +kernel
theorem d_Vl_dropFirst_26 : decode b_Vl_dropFirst 26 = .ok (.iload_n 1, 1) := by decide +kernel
theorem d_Vl_dropFirst_27 : decode b_Vl_dropFirst 27 = .ok (.iaload, 1) := by decide +kernel
theorem d_Vl_dropFirst_28 : decode b_Vl_dropFirst 28 = .ok (.bipush 20, 2) := by decide +kernel
theorem d_Vl_dropFirst_30 : decode b_Vl_dropFirst 30 = .ok (.if_icmp .le 4, 3) := by decide +kernel
theorem d_Vl_dropFirst_33 : decode b_Vl_dropFirst 33 = .ok (.return_, 1) := by decide +kernel
theorem d_Vl_dropFirst_34 : decode b_Vl_dropFirst 34 = .ok (.iload_n 1, 1) := by decide +kernel
theorem d_Vl_dropFirst_35 : decode b_Vl_dropFirst 35 = .ok (.bipush 20, 2) := by decide +kernel
theorem d_Vl_dropFirst_37 : decode b_Vl_dropFirst 37 = .ok (.imul, 1) := by decide +kernel
theorem d_Vl_dropFirst_38 : decode b_Vl_dropFirst 38 = .ok (.istore_n 3, 1) := by decide +kernel
theorem d_Vl_dropFirst_39 : decode b_Vl_dropFirst 39 = .ok (.aload_n 0, 1) := by decide +kernel
theorem d_Vl_dropFirst_40 : decode b_Vl_dropFirst 40 = .ok (.getfield 9, 3) := by decide +kernel
theorem d_Vl_dropFirst_43 : decode b_Vl_dropFirst 43 = .ok (.iload_n 3, 1) := by decide +kernel
theorem d_Vl_dropFirst_44 : decode b_Vl_dropFirst 44 = .ok (.iload_n 2, 1) := by decide +kernel
theorem d_Vl_dropFirst_45 : decode b_Vl_dropFirst 45 = .ok (.iadd, 1) := by decide +kernel
theorem d_Vl_dropFirst_46 : decode b_Vl_dropFirst 46 = .ok (.aload_n 0, 1) := by decide +kernel
theorem d_Vl_dropFirst_47 : decode b_Vl_dropFirst 47 = .ok (.getfield 9, 3) := by decide +kernel
theorem d_Vl_dropFirst_50 : decode b_Vl_dropFirst 50 = .ok (.iload_n 3, 1) := by decide +kernel
theorem d_Vl_dropFirst_51 : decode b_Vl_dropFirst 51 = .ok (.aload_n 0, 1) := by decide +kernel
theorem d_Vl_dropFirst_52 : decode b_Vl_dropFirst 52 = .ok (.getfield 15, 3) := by decide +kernel
theorem d_Vl_dropFirst_55 : decode b_Vl_dropFirst 55 = .ok (.iload_n 1, 1) := by decide +kernel
theorem d_Vl_dropFirst_56 : decode b_Vl_dropFirst 56 = .ok (.iaload, 1) := by decide +kernel
theorem d_Vl_dropFirst_57 : decode b_Vl_dropFirst 57 = .ok (.iload_n 2, 1) := by decide +kernel
theorem d_Vl_dropFirst_58 : decode b_Vl_dropFirst 58 = .ok (.isub, 1) := by decide +kernel
theorem d_Vl_dropFirst_59 : decode b_Vl_dropFirst 59 = .ok (.invokestatic 41, 3) := by decide +kernel
theorem d_Vl_dropFirst_62 : decode b_Vl_dropFirst 62 = .ok (.aload_n 0, 1) := by decide +kernel
theorem d_Vl_dropFirst_63 : decode b_Vl_dropFirst 63 = .ok (.getfield 15, 3) := by decide +kernel
theorem d_Vl_dropFirst_66 : decode b_Vl_dropFirst 66 = .ok (.iload_n 1, 1) := by decide +kernel
theorem d_Vl_dropFirst_67 : decode b_Vl_dropFirst 67 = .ok (.dup2, 1) := by decide +kernel
theorem d_Vl_dropFirst_68 : decode b_Vl_dropFirst 68 = .ok (.iaload, 1) := by decide +kernel
theorem d_Vl_dropFirst_69 : decode b_Vl_dropFirst 69 = .ok (.iload_n 2, 1) := by decide +kernel
theorem d_Vl_dropFirst_70 : decode b_Vl_dropFirst 70 = .ok (.isub, 1) := by decide +kernel
theorem d_Vl_dropFirst_71 : decode b_Vl_dropFirst 71 = .ok (.iastore, 1) := by decide +kernel
theorem d_Vl_dropFirst_72 : decode b_Vl_dropFirst 72 = .ok (.return_, 1) := by decide +kernel
theorem d_Vl_empty_0 : decode b_Vl_empty 0 = .ok (.iload_n 1, 1) := by decide +kernel
theorem d_Vl_empty_1 : decode b_Vl_empty 1 = .ok (.ifCond .lt 19, 3) := by decide +kernel
theorem d_Vl_empty_4 : decode b_Vl_empty 4 = .ok (.iload_n 1, 1) := by decide +kernel
theorem d_Vl_empty_5 : decode b_Vl_empty 5 = .ok (.aload_n 0, 1) := by decide +kernel
theorem d_Vl_empty_6 : decode b_Vl_empty 6 = .ok (.getfield 15, 3) := by decide +kernel
theorem d_Vl_empty_9 : decode b_Vl_empty 9 = .ok (.arraylength, 1) := by decide +kernel
theorem d_Vl_empty_10 : decode b_Vl_empty 10 = .ok (.if_icmp .ge 10, 3) := by decide +kernel
theorem d_Vl_empty_13 : decode b_Vl_empty 13 = .ok (.aload_n 0, 1) := by decide +kernel
theorem d_Vl_empty_14 : decode b_Vl_empty 14 = .ok (.getfield 15, 3) := by decide +kernel
theorem d_Vl_empty_17 : decode b_Vl_empty 17 = .ok (.iload_n 1, 1) := by decide +kernel
theorem d_Vl_empty_18 : decode b_Vl_empty 18 = .ok (.iconst 0, 1) := by decide +kernel
theorem d_Vl_empty_19 : decode b_Vl_empty 19 = .ok (.iastore, 1) := by decide +kernel
theorem d_Vl_empty_20 : decode b_Vl_empty 20 = .ok (.return_, 1) := by decide +kernel
theorem d_Vl_fittingBeginnings_0 : decode b_Vl_fittingBeginnings 0 = .ok (.aload_n 0, 1) := by decide +kernel
theorem d_Vl_fittingBeginnings_1 : decode b_Vl_fittingBeginnings 1 = .ok (.iload_n 1, 1) := by decide +kernel
theorem d_Vl_fittingBeginnings_2 : decode b_Vl_fittingBeginnings 2 = .ok (.invokevirtual 25, 3) := by decide +kernel
theorem d_Vl_fittingBeginnings_5 : decode b_Vl_fittingBeginnings 5 = .ok (.iconst 0, 1) := by decide +kernel
theorem d_Vl_fittingBeginnings_6 : decode b_Vl_fittingBeginnings 6 = .ok (.invokestatic 63, 3) := by decide +kernel
theorem d_Vl_fittingBeginnings_9 : decode b_Vl_fittingBeginnings 9 = .ok (.bipush 20, 2) := by decide +kernel
theorem d_Vl_fittingBeginnings_11 : decode b_Vl_fittingBeginnings 11 = .ok (.invokestatic 58, 3) := by decide +kernel
theorem d_Vl_fittingBeginnings_14 : decode b_Vl_fittingBeginnings 14 = .ok (.istore 4, 2) := by decide +kernel
theorem d_Vl_fittingBeginnings_16 : decode b_Vl_fittingBeginnings 16 = .ok (.iconst 1, 1) := by decide +kernel
theorem d_Vl_fittingBeginnings_17 : decode b_Vl_fittingBeginnings 17 = .ok (.iload 4, 2) := by decide +kernel
theorem d_Vl_fittingBeginnings_19 : decode b_Vl_fittingBeginnings 19 = .ok (.iconst 1, 1) := by decide +kernel
theorem d_Vl_fittingBeginnings_20 : decode b_Vl_fittingBeginnings 20 = .ok (.iadd, 1) := by decide +kernel
theorem d_Vl_fittingBeginnings_21 : decode b_Vl_fittingBeginnings 21 = .ok (.ishl, 1) := by decide +kernel
theorem d_Vl_fittingBeginnings_22 : decode b_Vl_fittingBeginnings 22 = .ok (.iconst 1, 1) := by decide +kernel
theorem d_Vl_fittingBeginnings_23 : decode b_Vl_fittingBeginnings 23 = .ok (.isub, 1) := by decide +kernel
theorem d_Vl_fittingBeginnings_24 : decode b_Vl_fittingBeginnings 24 = .ok (.istore 5, 2) := by decide +kernel
theorem d_Vl_fittingBeginnings_26 : decode b_Vl_fittingBeginnings 26 = .ok (.iconst 1, 1) := by decide +kernel
theorem d_Vl_fittingBeginnings_27 : decode b_Vl_fittingBeginnings 27 = .ok (.istore 6, 2) := by decide +kernel
theorem d_Vl_fittingBeginnings_29 : decode b_Vl_fittingBeginnings 29 = .ok (.aload_n 2, 1) := by decide +kernel
theorem d_Vl_fittingBeginnings_30 : decode b_Vl_fittingBeginnings 30 = .ok (.iload_n 3, 1) := by decide +kernel
theorem d_Vl_fittingBeginnings_31 : decode b_Vl_fittingBeginnings 31 = .ok (.invokevirtual 25, 3) := by decide +kernel
theorem d_Vl_fittingBeginnings_34 : decode b_Vl_fittingBeginnings 34 = .ok (.bipush 20, 2) := by decide +kernel
theorem d_Vl_fittingBeginnings_36 : decode b_Vl_fittingBeginnings 36 = .ok (.invokestatic 58, 3) := by decide +kernel
theorem d_Vl_fittingBeginnings_39 : decode b_Vl_fittingBeginnings 39 = .ok (.istore 7, 2) := by decide +kernel
theorem d_Vl_fittingBeginnings_41 : decode b_Vl_fittingBeginnings 41 = .ok (.iconst 0, 1) := by decide +kernel
theorem d_Vl_fittingBeginnings_42 : decode b_Vl_fittingBeginnings 42 = .ok (.istore 8, 2) := by decide +kernel
theorem d_Vl_fittingBeginnings_44 : decode b_Vl_fittingBeginnings 44 = .ok (.iload 8, 2) := by decide +kernel
theorem d_Vl_fittingBeginnings_46 : decode b_Vl_fittingBeginnings 46 = .ok (.iload 7, 2) := by decide +kernel
theorem d_Vl_fittingBeginnings_48 : decode b_Vl_fittingBeginnings 48 = .ok (.if_icmp .ge 72, 3) := by decide +kernel
theorem d_Vl_fittingBeginnings_51 : decode b_Vl_fittingBeginnings 51 = .ok (.aload_n 2, 1) := by decide +kernel
theorem d_Vl_fittingBeginnings_52 : decode b_Vl_fittingBeginnings 52 = .ok (.iload_n 3, 1) := by decide +kernel
theorem d_Vl_fittingBeginnings_53 : decode b_Vl_fittingBeginnings 53 = .ok (.iload 8, 2) := by decide +kernel
theorem d_Vl_fittingBeginnings_55 : decode b_Vl_fittingBeginnings 55 = .ok (.invokevirtual 29, 3) := by decide +kernel
theorem d_Vl_fittingBeginnings_58 : decode b_Vl_fittingBeginnings 58 = .ok (.istore 9, 2) := by decide +kernel
theorem d_Vl_fittingBeginnings_60 : decode b_Vl_fittingBeginnings 60 = .ok (.iload 9, 2) := by decide +kernel
theorem d_Vl_fittingBeginnings_62 : decode b_Vl_fittingBeginnings 62 = .ok (.bipush 42, 2) := by decide +kernel
theorem d_Vl_fittingBeginnings_64 : decode b_Vl_fittingBeginnings 64 = .ok (.if_icmp .ne 15, 3) := by decide +kernel
theorem d_Vl_fittingBeginnings_67 : decode b_Vl_fittingBeginnings 67 = .ok (.iload 6, 2) := by decide +kernel
theorem d_Vl_fittingBeginnings_69 : decode b_Vl_fittingBeginnings 69 = .ok (.iload 6, 2) := by decide +kernel
theorem d_Vl_fittingBeginnings_71 : decode b_Vl_fittingBeginnings 71 = .ok (.ineg, 1) := by decide +kernel
theorem d_Vl_fittingBeginnings_72 : decode b_Vl_fittingBeginnings 72 = .ok (.iand, 1) := by decide +kernel
theorem d_Vl_fittingBeginnings_73 : decode b_Vl_fittingBeginnings 73 = .ok (.ineg, 1) := by decide +kernel
theorem d_Vl_fittingBeginnings_74 : decode b_Vl_fittingBeginnings 74 = .ok (.istore 6, 2) := by decide +kernel
theorem d_Vl_fittingBeginnings_76 : decode b_Vl_fittingBeginnings 76 = .ok (.goto 31, 3) := by decide +kernel
theorem d_Vl_fittingBeginnings_79 : decode b_Vl_fittingBeginnings 79 = .ok (.iload 9, 2) := by decide +kernel
theorem d_Vl_fittingBeginnings_81 : decode b_Vl_fittingBeginnings 81 = .ok (.bipush 63, 2) := by decide +kernel
theorem d_Vl_fittingBeginnings_83 : decode b_Vl_fittingBeginnings 83 = .ok (.if_icmp .ne 8, 3) := by decide +kernel
theorem d_Vl_fittingBeginnings_86 : decode b_Vl_fittingBeginnings 86 = .ok (.iload 6, 2) := by decide +kernel
theorem d_Vl_fittingBeginnings_88 : decode b_Vl_fittingBeginnings 88 = .ok (.goto 15, 3) := by decide +kernel
theorem d_Vl_fittingBeginnings_91 : decode b_Vl_fittingBeginnings 91 = .ok (.iload 6, 2) := by decide +kernel
theorem d_Vl_fittingBeginnings_93 : decode b_Vl_fittingBeginnings 93 = .ok (.aload_n 0, 1) := by decide +kernel
theorem d_Vl_fittingBeginnings_94 : decode b_Vl_fittingBeginnings 94 = .ok (.iload_n 1, 1) := by decide +kernel
theorem d_Vl_fittingBeginnings_95 : decode b_Vl_fittingBeginnings 95 = .ok (.iload 9, 2) := by decide +kernel
theorem d_Vl_fittingBeginnings_97 : decode b_Vl_fittingBeginnings 97 = .ok (.iload 4, 2) := by decide +kernel
theorem d_Vl_fittingBeginnings_99 : decode b_Vl_fittingBeginnings 99 = .ok (.invokevirtual 66, 3) := by decide +kernel
theorem d_Vl_fittingBeginnings_102 : decode b_Vl_fittingBeginnings 102 = .ok (.iand, 1) := by decide +kernel
theorem d_Vl_fittingBeginnings_103 : decode b_Vl_fittingBeginnings 103 = .ok (.iconst 1, 1) := by decide +kernel
theorem d_Vl_fittingBeginnings_104 : decode b_Vl_fittingBeginnings 104 = .ok (.ishl, 1) := by decide +kernel
theorem d_Vl_fittingBeginnings_105 : decode b_Vl_fittingBeginnings 105 = .ok (.istore 6, 2) := by decide +kernel
theorem d_Vl_fittingBeginnings_107 : decode b_Vl_fittingBeginnings 107 = .ok (.iload 6, 2) := by decide +kernel
theorem d_Vl_fittingBeginnings_109 : decode b_Vl_fittingBeginnings 109 = .ok (.iload 5, 2) := by decide +kernel
theorem d_Vl_fittingBeginnings_111 : decode b_Vl_fittingBeginnings 111 = .ok (.iand, 1) := by decide +kernel
theorem d_Vl_fittingBeginnings_112 : decode b_Vl_fittingBeginnings 112 = .ok (.istore 6, 2) := by decide +kernel
theorem d_Vl_fittingBeginnings_114 : decode b_Vl_fittingBeginnings 114 = .ok (.iinc 8 1, 3) := by decide +kernel
theorem d_Vl_fittingBeginnings_117 : decode b_Vl_fittingBeginnings 117 = .ok (.goto (-73), 3) := by decide +kernel
theorem d_Vl_fittingBeginnings_120 : decode b_Vl_fittingBeginnings 120 = .ok (.iload 6, 2) := by decide +kernel
theorem d_Vl_fittingBeginnings_122 : decode b_Vl_fittingBeginnings 122 = .ok (.ireturn, 1) := by decide +kernel
theorem d_Vl_forgetAll_0 : decode b_Vl_forgetAll 0 = .ok (.aload_n 0, 1) := by decide +kernel
theorem d_Vl_forgetAll_1 : decode b_Vl_forgetAll 1 = .ok (.getfield 15, 3) := by decide +kernel
theorem d_Vl_forgetAll_4 : decode b_Vl_forgetAll 4 = .ok (.iconst (-1), 1) := by decide +kernel
theorem d_Vl_forgetAll_5 : decode b_Vl_forgetAll 5 = .ok (.invokestatic 19, 3) := by decide +kernel
theorem d_Vl_forgetAll_8 : decode b_Vl_forgetAll 8 = .ok (.return_, 1) := by decide +kernel
theorem d_Vl_holds_0 : decode b_Vl_holds 0 = .ok (.iload_n 1, 1) := by decide +kernel
theorem d_Vl_holds_1 : decode b_Vl_holds 1 = .ok (.ifCond .lt 16, 3) := by decide +kernel
theorem d_Vl_holds_4 : decode b_Vl_holds 4 = .ok (.iload_n 1, 1) := by decide +kernel
theorem d_Vl_holds_5 : decode b_Vl_holds 5 = .ok (.aload_n 0, 1) := by decide +kernel
theorem d_Vl_holds_6 : decode b_Vl_holds 6 = .ok (.getfield 15, 3) := by decide +kernel
theorem d_Vl_holds_9 : decode b_Vl_holds 9 = .ok (.arraylength, 1) := by decide +kernel
theorem d_Vl_holds_10 : decode b_Vl_holds 10 = .ok (.if_icmp .ge 7, 3) := by decide +kernel
theorem d_Vl_holds_13 : decode b_Vl_holds 13 = .ok (.iconst 1, 1) := by decide +kernel
theorem d_Vl_holds_14 : decode b_Vl_holds 14 = .ok (.goto 4, 3) := by decide +kernel
theorem d_Vl_holds_17 : decode b_Vl_holds 17 = .ok (.iconst 0, 1) := by decide +kernel
theorem d_Vl_holds_18 : decode b_Vl_holds 18 = .ok (.ireturn, 1) := by decide +kernel
theorem d_Vl_isNumber_0 : decode b_Vl_isNumber 0 = .ok (.aload_n 0, 1) := by decide +kernel
theorem d_Vl_isNumber_1 : decode b_Vl_isNumber 1 = .ok (.iload_n 1, 1) := by decide +kernel
theorem d_Vl_isNumber_2 : decode b_Vl_isNumber 2 = .ok (.invokevirtual 25, 3) := by decide +kernel
theorem d_Vl_isNumber_5 : decode b_Vl_isNumber 5 = .ok (.istore_n 2, 1) := by decide +kernel
theorem d_Vl_isNumber_6 : decode b_Vl_isNumber 6 = .ok (.aload_n 0, 1) := by decide +kernel
theorem d_Vl_isNumber_7 : decode b_Vl_isNumber 7 = .ok (.iload_n 1, 1) := by decide +kernel
theorem d_Vl_isNumber_8 : decode b_Vl_isNumber 8 = .ok (.iconst 0, 1) := by decide +kernel
theorem d_Vl_isNumber_9 : decode b_Vl_isNumber 9 = .ok (.invokevirtual 29, 3) := by decide +kernel
theorem d_Vl_isNumber_12 : decode b_Vl_isNumber 12 = .ok (.bipush 45, 2) := by decide +kernel
theorem d_Vl_isNumber_14 : decode b_Vl_isNumber 14 = .ok (.if_icmp .ne 7, 3) := by decide +kernel
theorem d_Vl_isNumber_17 : decode b_Vl_isNumber 17 = .ok (.iconst 1, 1) := by decide +kernel
theorem d_Vl_isNumber_18 : decode b_Vl_isNumber 18 = .ok (.goto 4, 3) := by decide +kernel
theorem d_Vl_isNumber_21 : decode b_Vl_isNumber 21 = .ok (.iconst 0, 1) := by decide +kernel
theorem d_Vl_isNumber_22 : decode b_Vl_isNumber 22 = .ok (.istore_n 3, 1) := by decide +kernel
theorem d_Vl_isNumber_23 : decode b_Vl_isNumber 23 = .ok (.iload_n 2, 1) := by decide +kernel
theorem d_Vl_isNumber_24 : decode b_Vl_isNumber 24 = .ok (.iload_n 3, 1) := by decide +kernel
theorem d_Vl_isNumber_25 : decode b_Vl_isNumber 25 = .ok (.if_icmp .le 15, 3) := by decide +kernel
theorem d_Vl_isNumber_28 : decode b_Vl_isNumber 28 = .ok (.iload_n 2, 1) := by decide +kernel
theorem d_Vl_isNumber_29 : decode b_Vl_isNumber 29 = .ok (.iload_n 3, 1) := by decide +kernel
theorem d_Vl_isNumber_30 : decode b_Vl_isNumber 30 = .ok (.isub, 1) := by decide +kernel
theorem d_Vl_isNumber_31 : decode b_Vl_isNumber 31 = .ok (.bipush 10, 2) := by decide +kernel
theorem d_Vl_isNumber_33 : decode b_Vl_isNumber 33 = .ok (.if_icmp .gt 7, 3) := by decide +kernel
theorem d_Vl_isNumber_36 : decode b_Vl_isNumber 36 = .ok (.iconst 1, 1) := by decide +kernel
theorem d_Vl_isNumber_37 : decode b_Vl_isNumber 37 = .ok (.goto 4, 3) := by decide +kernel
theorem d_Vl_isNumber_40 : decode b_Vl_isNumber 40 = .ok (.iconst 0, 1) := by decide +kernel
theorem d_Vl_isNumber_41 : decode b_Vl_isNumber 41 = .ok (.istore 4, 2) := by decide +kernel
theorem d_Vl_isNumber_43 : decode b_Vl_isNumber 43 = .ok (.iload_n 3, 1) := by decide +kernel
theorem d_Vl_isNumber_44 : decode b_Vl_isNumber 44 = .ok (.istore 5, 2) := by decide +kernel
theorem d_Vl_isNumber_46 : decode b_Vl_isNumber 46 = .ok (.iload 5, 2) := by decide +kernel
theorem d_Vl_isNumber_48 : decode b_Vl_isNumber 48 = .ok (.iload_n 2, 1) := by decide +kernel
theorem d_Vl_isNumber_49 : decode b_Vl_isNumber 49 = .ok (.if_icmp .ge 26, 3) := by decide +kernel
theorem d_Vl_isNumber_52 : decode b_Vl_isNumber 52 = .ok (.iload 4, 2) := by decide +kernel
theorem d_Vl_isNumber_54 : decode b_Vl_isNumber 54 = .ok (.ifCond .eq 21, 3) := by decide +kernel
theorem d_Vl_isNumber_57 : decode b_Vl_isNumber 57 = .ok (.aload_n 0, 1) := by decide +kernel
theorem d_Vl_isNumber_58 : decode b_Vl_isNumber 58 = .ok (.iload_n 1, 1) := by decide +kernel
theorem d_Vl_isNumber_59 : decode b_Vl_isNumber 59 = .ok (.iload 5, 2) := by decide +kernel
theorem d_Vl_isNumber_61 : decode b_Vl_isNumber 61 = .ok (.invokevirtual 29, 3) := by decide +kernel
theorem d_Vl_isNumber_64 : decode b_Vl_isNumber 64 = .ok (.invokestatic 55, 3) := by decide +kernel
theorem d_Vl_isNumber_67 : decode b_Vl_isNumber 67 = .ok (.istore 4, 2) := by decide +kernel
theorem d_Vl_isNumber_69 : decode b_Vl_isNumber 69 = .ok (.iinc 5 1, 3) := by decide +kernel
theorem d_Vl_isNumber_72 : decode b_Vl_isNumber 72 = .ok (.goto (-26), 3) := by decide +kernel
theorem d_Vl_isNumber_75 : decode b_Vl_isNumber 75 = .ok (.iload 4, 2) := by decide +kernel
theorem d_Vl_isNumber_77 : decode b_Vl_isNumber 77 = .ok (.ireturn, 1) := by decide +kernel
theorem d_Vl_letterOf_0 : decode b_Vl_letterOf 0 = .ok (.iload_n 1, 1) := by decide +kernel
theorem d_Vl_letterOf_1 : decode b_Vl_letterOf 1 = .ok (.ifCond .lt 37, 3) := by decide +kernel
theorem d_Vl_letterOf_4 : decode b_Vl_letterOf 4 = .ok (.iload_n 1, 1) := by decide +kernel
theorem d_Vl_letterOf_5 : decode b_Vl_letterOf 5 = .ok (.aload_n 0, 1) := by decide +kernel
theorem d_Vl_letterOf_6 : decode b_Vl_letterOf 6 = .ok (.getfield 15, 3) := by decide +kernel
theorem d_Vl_letterOf_9 : decode b_Vl_letterOf 9 = .ok (.arraylength, 1) := by decide +kernel
theorem d_Vl_letterOf_10 : decode b_Vl_letterOf 10 = .ok (.if_icmp .ge 28, 3) := by decide +kernel
theorem d_Vl_letterOf_13 : decode b_Vl_letterOf 13 = .ok (.aload_n 0, 1) := by decide +kernel
theorem d_Vl_letterOf_14 : decode b_Vl_letterOf 14 = .ok (.getfield 15, 3) := by decide +kernel
theorem d_Vl_letterOf_17 : decode b_Vl_letterOf 17 = .ok (.iload_n 1, 1) := by decide +kernel
theorem d_Vl_letterOf_18 : decode b_Vl_letterOf 18 = .ok (.iaload, 1) := by decide +kernel
theorem d_Vl_letterOf_19 : decode b_Vl_letterOf 19 = .ok (.bipush 20, 2) := by decide +kernel
theorem d_Vl_letterOf_21 : decode b_Vl_letterOf 21 = .ok (.if_icmp .gt 17, 3) := by decide +kernel
theorem d_Vl_letterOf_24 : decode b_Vl_letterOf 24 = .ok (.iload_n 2, 1) := by decide +kernel
theorem d_Vl_letterOf_25 : decode b_Vl_letterOf 25 = .ok (.ifCond .lt 13, 3) := by decide +kernel
theorem d_Vl_letterOf_28 : decode b_Vl_letterOf 28 = .ok (.iload_n 2, 1) := by decide +kernel
theorem d_Vl_letterOf_29 : decode b_Vl_letterOf 29 = .ok (.aload_n 0, 1) := by decide +kernel
theorem d_Vl_letterOf_30 : decode b_Vl_letterOf 30 = .ok (.getfield 15, 3) := by decide +kernel
theorem d_Vl_letterOf_33 : decode b_Vl_letterOf 33 = .ok (.iload_n 1, 1) := by decide +kernel
theorem d_Vl_letterOf_34 : decode b_Vl_letterOf 34 = .ok (.iaload, 1) := by decide +kernel
theorem d_Vl_letterOf_35 : decode b_Vl_letterOf 35 = .ok (.if_icmp .lt 5, 3) := by decide +kernel
theorem d_Vl_letterOf_38 : decode b_Vl_letterOf 38 = .ok (.iconst 0, 1) := by decide +kernel
theorem d_Vl_letterOf_39 : decode b_Vl_letterOf 39 = .ok (.ireturn, 1) := by decide +kernel
theorem d_Vl_letterOf_40 : decode b_Vl_letterOf 40 = .ok (.aload_n 0, 1) := by decide +kernel
theorem d_Vl_letterOf_41 : decode b_Vl_letterOf 41 = .ok (.getfield 9, 3) := by decide +kernel
theorem d_Vl_letterOf_44 : decode b_Vl_letterOf 44 = .ok (.iload_n 1, 1) := by decide +kernel
theorem d_Vl_letterOf_45 : decode b_Vl_letterOf 45 = .ok (.bipush 20, 2) := by decide +kernel
theorem d_Vl_letterOf_47 : decode b_Vl_letterOf 47 = .ok (.imul, 1) := by decide +kernel
theorem d_Vl_letterOf_48 : decode b_Vl_letterOf 48 = .ok (.iload_n 2, 1) := by decide +kernel
theorem d_Vl_letterOf_49 : decode b_Vl_letterOf 49 = .ok (.iadd, 1) := by decide +kernel
theorem d_Vl_letterOf_50 : decode b_Vl_letterOf 50 = .ok (.caload, 1) := by decide +kernel
theorem d_Vl_letterOf_51 : decode b_Vl_letterOf 51 = .ok (.ireturn, 1) := by decide +kernel
theorem d_Vl_nameOf_0 : decode b_Vl_nameOf 0 = .ok (.aload_n 0, 1) := by decide +kernel
theorem d_Vl_nameOf_1 : decode b_Vl_nameOf 1 = .ok (.iload_n 1, 1) := by decide +kernel
theorem d_Vl_nameOf_2 : decode b_Vl_nameOf 2 = .ok (.invokevirtual 25, 3) := by decide +kernel
theorem d_Vl_nameOf_5 : decode b_Vl_nameOf 5 = .ok (.iconst 1, 1) := by decide +kernel
theorem d_Vl_nameOf_6 : decode b_Vl_nameOf 6 = .ok (.if_icmp .ne 12, 3) := by decide +kernel
theorem d_Vl_nameOf_9 : decode b_Vl_nameOf 9 = .ok (.aload_n 0, 1) := by decide +kernel
theorem d_Vl_nameOf_10 : decode b_Vl_nameOf 10 = .ok (.iload_n 1, 1) := by decide +kernel
theorem d_Vl_nameOf_11 : decode b_Vl_nameOf 11 = .ok (.iconst 0, 1) := by decide +kernel
theorem d_Vl_nameOf_12 : decode b_Vl_nameOf 12 = .ok (.invokevirtual 29, 3) := by decide +kernel
theorem d_Vl_nameOf_15 : decode b_Vl_nameOf 15 = .ok (.goto 4, 3) := by decide +kernel
theorem d_Vl_nameOf_18 : decode b_Vl_nameOf 18 = .ok (.iconst 0, 1) := by decide +kernel
theorem d_Vl_nameOf_19 : decode b_Vl_nameOf 19 = .ok (.ireturn, 1) := by decide +kernel
theorem d_Vl_numberOf_0 : decode b_Vl_numberOf 0 = .ok (.aload_n 0, 1) := by decide +kernel
theorem d_Vl_numberOf_1 : decode b_Vl_numberOf 1 = .ok (.iload_n 1, 1) := by decide +kernel
theorem d_Vl_numberOf_2 : decode b_Vl_numberOf 2 = .ok (.invokevirtual 25, 3) := by decide +kernel
theorem d_Vl_numberOf_5 : decode b_Vl_numberOf 5 = .ok (.bipush 20, 2) := by decide +kernel
theorem d_Vl_numberOf_7 : decode b_Vl_numberOf 7 = .ok (.invokestatic 58, 3) := by decide +kernel
theorem d_Vl_numberOf_10 : decode b_Vl_numberOf 10 = .ok (.istore_n 2, 1) := by decide +kernel
theorem d_Vl_numberOf_11 : decode b_Vl_numberOf 11 = .ok (.aload_n 0, 1) := by decide +kernel
theorem d_Vl_numberOf_12 : decode b_Vl_numberOf 12 = .ok (.iload_n 1, 1) := by decide +kernel
theorem d_Vl_numberOf_13 : decode b_Vl_numberOf 13 = .ok (.iconst 0, 1) := by decide +kernel
theorem d_Vl_numberOf_14 : decode b_Vl_numberOf 14 = .ok (.invokevirtual 29, 3) := by decide +kernel
theorem d_Vl_numberOf_17 : decode b_Vl_numberOf 17 = .ok (.bipush 45, 2) := by decide +kernel
theorem d_Vl_numberOf_19 : decode b_Vl_numberOf 19 = .ok (.if_icmp .ne 7, 3) := by decide +kernel
theorem d_Vl_numberOf_22 : decode b_Vl_numberOf 22 = .ok (.iconst 1, 1) := by decide +kernel
theorem d_Vl_numberOf_23 : decode b_Vl_numberOf 23 = .ok (.goto 4, 3) := by decide +kernel
theorem d_Vl_numberOf_26 : decode b_Vl_numberOf 26 = .ok (.iconst 0, 1) := by decide +kernel
theorem d_Vl_numberOf_27 : decode b_Vl_numberOf 27 = .ok (.istore_n 3, 1) := by decide +kernel
theorem d_Vl_numberOf_28 : decode b_Vl_numberOf 28 = .ok (.iconst 0, 1) := by decide +kernel
theorem d_Vl_numberOf_29 : decode b_Vl_numberOf 29 = .ok (.istore 4, 2) := by decide +kernel
theorem d_Vl_numberOf_31 : decode b_Vl_numberOf 31 = .ok (.iload_n 3, 1) := by decide +kernel
theorem d_Vl_numberOf_32 : decode b_Vl_numberOf 32 = .ok (.ifCond .eq 7, 3) := by decide +kernel
theorem d_Vl_numberOf_35 : decode b_Vl_numberOf 35 = .ok (.iconst 1, 1) := by decide +kernel
theorem d_Vl_numberOf_36 : decode b_Vl_numberOf 36 = .ok (.goto 4, 3) := by decide +kernel
theorem d_Vl_numberOf_39 : decode b_Vl_numberOf 39 = .ok (.iconst 0, 1) := by decide +kernel
theorem d_Vl_numberOf_40 : decode b_Vl_numberOf 40 = .ok (.istore 5, 2) := by decide +kernel
theorem d_Vl_numberOf_42 : decode b_Vl_numberOf 42 = .ok (.iload 5, 2) := by decide +kernel
theorem d_Vl_numberOf_44 : decode b_Vl_numberOf 44 = .ok (.iload_n 2, 1) := by decide +kernel
theorem d_Vl_numberOf_45 : decode b_Vl_numberOf 45 = .ok (.if_icmp .ge 27, 3) := by decide +kernel
theorem d_Vl_numberOf_48 : decode b_Vl_numberOf 48 = .ok (.iload 4, 2) := by decide +kernel
theorem d_Vl_numberOf_50 : decode b_Vl_numberOf 50 = .ok (.bipush 10, 2) := by decide +kernel
theorem d_Vl_numberOf_52 : decode b_Vl_numberOf 52 = .ok (.imul, 1) := by decide +kernel
theorem d_Vl_numberOf_53 : decode b_Vl_numberOf 53 = .ok (.aload_n 0, 1) := by decide +kernel
theorem d_Vl_numberOf_54 : decode b_Vl_numberOf 54 = .ok (.iload_n 1, 1) := by decide +kernel
theorem d_Vl_numberOf_55 : decode b_Vl_numberOf 55 = .ok (.iload 5, 2) := by decide +kernel
theorem d_Vl_numberOf_57 : decode b_Vl_numberOf 57 = .ok (.invokevirtual 29, 3) := by decide +kernel
theorem d_Vl_numberOf_60 : decode b_Vl_numberOf 60 = .ok (.bipush 48, 2) := by decide +kernel
theorem d_Vl_numberOf_62 : decode b_Vl_numberOf 62 = .ok (.isub, 1) := by decide +kernel
theorem d_Vl_numberOf_63 : decode b_Vl_numberOf 63 = .ok (.iadd, 1) := by decide +kernel
theorem d_Vl_numberOf_64 : decode b_Vl_numberOf 64 = .ok (.istore 4, 2) := by decide +kernel
theorem d_Vl_numberOf_66 : decode b_Vl_numberOf 66 = .ok (.iinc 5 1, 3) := by decide +kernel
theorem d_Vl_numberOf_69 : decode b_Vl_numberOf 69 = .ok (.goto (-27), 3) := by decide +kernel
theorem d_Vl_numberOf_72 : decode b_Vl_numberOf 72 = .ok (.iload_n 3, 1) := by decide +kernel
theorem d_Vl_numberOf_73 : decode b_Vl_numberOf 73 = .ok (.ifCond .eq 9, 3) := by decide +kernel
theorem d_Vl_numberOf_76 : decode b_Vl_numberOf 76 = .ok (.iload 4, 2) := by decide +kernel
theorem d_Vl_numberOf_78 : decode b_Vl_numberOf 78 = .ok (.ineg, 1) := by decide +kernel
theorem d_Vl_numberOf_79 : decode b_Vl_numberOf 79 = .ok (.goto 5, 3) := by decide +kernel
theorem d_Vl_numberOf_82 : decode b_Vl_numberOf 82 = .ok (.iload 4, 2) := by decide +kernel
theorem d_Vl_numberOf_84 : decode b_Vl_numberOf 84 = .ok (.ireturn, 1) := by decide +kernel
theorem d_Vl_placesOf_0 : decode b_Vl_placesOf 0 = .ok (.iconst 0, 1) := by decide +kernel
theorem d_Vl_placesOf_1 : decode b_Vl_placesOf 1 = .ok (.istore 4, 2) := by decide +kernel
theorem d_Vl_placesOf_3 : decode b_Vl_placesOf 3 = .ok (.iconst 0, 1) := by decide +kernel
theorem d_Vl_placesOf_4 : decode b_Vl_placesOf 4 = .ok (.istore 5, 2) := by decide +kernel
theorem d_Vl_placesOf_6 : decode b_Vl_placesOf 6 = .ok (.iload 5, 2) := by decide +kernel
theorem d_Vl_placesOf_8 : decode b_Vl_placesOf 8 = .ok (.iload_n 3, 1) := by decide +kernel
theorem d_Vl_placesOf_9 : decode b_Vl_placesOf 9 = .ok (.if_icmp .ge 29, 3) := by decide +kernel
theorem d_Vl_placesOf_12 : decode b_Vl_placesOf 12 = .ok (.aload_n 0, 1) := by decide +kernel
theorem d_Vl_placesOf_13 : decode b_Vl_placesOf 13 = .ok (.iload_n 1, 1) := by decide +kernel
theorem d_Vl_placesOf_14 : decode b_Vl_placesOf 14 = .ok (.iload 5, 2) := by decide +kernel
theorem d_Vl_placesOf_16 : decode b_Vl_placesOf 16 = .ok (.invokevirtual 29, 3) := by decide +kernel
theorem d_Vl_placesOf_19 : decode b_Vl_placesOf 19 = .ok (.iload_n 2, 1) := by decide +kernel
theorem d_Vl_placesOf_20 : decode b_Vl_placesOf 20 = .ok (.if_icmp .ne 12, 3) := by decide +kernel
theorem d_Vl_placesOf_23 : decode b_Vl_placesOf 23 = .ok (.iload 4, 2) := by decide +kernel
theorem d_Vl_placesOf_25 : decode b_Vl_placesOf 25 = .ok (.iconst 1, 1) := by decide +kernel
theorem d_Vl_placesOf_26 : decode b_Vl_placesOf 26 = .ok (.iload 5, 2) := by decide +kernel
theorem d_Vl_placesOf_28 : decode b_Vl_placesOf 28 = .ok (.ishl, 1) := by decide +kernel
theorem d_Vl_placesOf_29 : decode b_Vl_placesOf 29 = .ok (.ior, 1) := by decide +kernel
theorem d_Vl_placesOf_30 : decode b_Vl_placesOf 30 = .ok (.istore 4, 2) := by decide +kernel
theorem d_Vl_placesOf_32 : decode b_Vl_placesOf 32 = .ok (.iinc 5 1, 3) := by decide +kernel
theorem d_Vl_placesOf_35 : decode b_Vl_placesOf 35 = .ok (.goto (-29), 3) := by decide +kernel
theorem d_Vl_placesOf_38 : decode b_Vl_placesOf 38 = .ok (.iload 4, 2) := by decide +kernel
theorem d_Vl_placesOf_40 : decode b_Vl_placesOf 40 = .ok (.ireturn, 1) := by decide +kernel
theorem d_Vl_sizeOf_0 : decode b_Vl_sizeOf 0 = .ok (.iload_n 1, 1) := by decide +kernel
theorem d_Vl_sizeOf_1 : decode b_Vl_sizeOf 1 = .ok (.ifCond .lt 21, 3) := by decide +kernel
theorem d_Vl_sizeOf_4 : decode b_Vl_sizeOf 4 = .ok (.iload_n 1, 1) := by decide +kernel
theorem d_Vl_sizeOf_5 : decode b_Vl_sizeOf 5 = .ok (.aload_n 0, 1) := by decide +kernel
theorem d_Vl_sizeOf_6 : decode b_Vl_sizeOf 6 = .ok (.getfield 15, 3) := by decide +kernel
theorem d_Vl_sizeOf_9 : decode b_Vl_sizeOf 9 = .ok (.arraylength, 1) := by decide +kernel
theorem d_Vl_sizeOf_10 : decode b_Vl_sizeOf 10 = .ok (.if_icmp .ge 12, 3) := by decide +kernel
theorem d_Vl_sizeOf_13 : decode b_Vl_sizeOf 13 = .ok (.aload_n 0, 1) := by decide +kernel
theorem d_Vl_sizeOf_14 : decode b_Vl_sizeOf 14 = .ok (.getfield 15, 3) := by decide +kernel
theorem d_Vl_sizeOf_17 : decode b_Vl_sizeOf 17 = .ok (.iload_n 1, 1) := by decide +kernel
theorem d_Vl_sizeOf_18 : decode b_Vl_sizeOf 18 = .ok (.iaload, 1) := by decide +kernel
theorem d_Vl_sizeOf_19 : decode b_Vl_sizeOf 19 = .ok (.goto 4, 3) := by decide +kernel
theorem d_Vl_sizeOf_22 : decode b_Vl_sizeOf 22 = .ok (.iconst (-1), 1) := by decide +kernel
theorem d_Vl_sizeOf_23 : decode b_Vl_sizeOf 23 = .ok (.ireturn, 1) := by decide +kernel
theorem d_Vl_writeNumber_0 : decode b_Vl_writeNumber 0 = .ok (.aload_n 0, 1) := by decide +kernel
theorem d_Vl_writeNumber_1 : decode b_Vl_writeNumber 1 = .ok (.iload_n 1, 1) := by decide +kernel
theorem d_Vl_writeNumber_2 : decode b_Vl_writeNumber 2 = .ok (.invokevirtual 47, 3) := by decide +kernel
theorem d_Vl_writeNumber_5 : decode b_Vl_writeNumber 5 = .ok (.iload_n 2, 1) := by decide +kernel
theorem d_Vl_writeNumber_6 : decode b_Vl_writeNumber 6 = .ok (.i2l, 1) := by decide +kernel
theorem d_Vl_writeNumber_7 : decode b_Vl_writeNumber 7 = .ok (.lstore_n 3, 1) := by decide +kernel
theorem d_Vl_writeNumber_8 : decode b_Vl_writeNumber 8 = .ok (.lload_n 3, 1) := by decide +kernel
theorem d_Vl_writeNumber_9 : decode b_Vl_writeNumber 9 = .ok (.lconst 0, 1) := by decide +kernel
theorem d_Vl_writeNumber_10 : decode b_Vl_writeNumber 10 = .ok (.lcmp, 1) := by decide +kernel
theorem d_Vl_writeNumber_11 : decode b_Vl_writeNumber 11 = .ok (.ifCond .ge 14, 3) := by decide +kernel
theorem d_Vl_writeNumber_14 : decode b_Vl_writeNumber 14 = .ok (.aload_n 0, 1) := by decide +kernel
theorem d_Vl_writeNumber_15 : decode b_Vl_writeNumber 15 = .ok (.iload_n 1, 1) := by decide +kernel
theorem d_Vl_writeNumber_16 : decode b_Vl_writeNumber 16 = .ok (.bipush 45, 2) := by decide +kernel
theorem d_Vl_writeNumber_18 : decode b_Vl_writeNumber 18 = .ok (.invokevirtual 33, 3) := by decide +kernel
theorem d_Vl_writeNumber_21 : decode b_Vl_writeNumber 21 = .ok (.pop, 1) := by decide +kernel
theorem d_Vl_writeNumber_22 : decode b_Vl_writeNumber 22 = .ok (.lload_n 3, 1) := by decide +kernel
theorem d_Vl_writeNumber_23 : decode b_Vl_writeNumber 23 = .ok (.lneg, 1) := by decide +kernel
theorem d_Vl_writeNumber_24 : decode b_Vl_writeNumber 24 = .ok (.lstore_n 3, 1) := by decide +kernel
theorem d_Vl_writeNumber_25 : decode b_Vl_writeNumber 25 = .ok (.lconst 1, 1) := by decide +kernel
theorem d_Vl_writeNumber_26 : decode b_Vl_writeNumber 26 = .ok (.lstore 5, 2) := by decide +kernel
theorem d_Vl_writeNumber_28 : decode b_Vl_writeNumber 28 = .ok (.iconst 1, 1) := by decide +kernel
theorem d_Vl_writeNumber_29 : decode b_Vl_writeNumber 29 = .ok (.istore 7, 2) := by decide +kernel
theorem d_Vl_writeNumber_31 : decode b_Vl_writeNumber 31 = .ok (.iload 7, 2) := by decide +kernel
theorem d_Vl_writeNumber_33 : decode b_Vl_writeNumber 33 = .ok (.bipush 10, 2) := by decide +kernel
theorem d_Vl_writeNumber_35 : decode b_Vl_writeNumber 35 = .ok (.if_icmp .ge 28, 3) := by decide +kernel
theorem d_Vl_writeNumber_38 : decode b_Vl_writeNumber 38 = .ok (.lload_n 3, 1) := by decide +kernel
theorem d_Vl_writeNumber_39 : decode b_Vl_writeNumber 39 = .ok (.lload 5, 2) := by decide +kernel
theorem d_Vl_writeNumber_41 : decode b_Vl_writeNumber 41 = .ok (.ldiv, 1) := by decide +kernel
theorem d_Vl_writeNumber_42 : decode b_Vl_writeNumber 42 = .ok (.ldc2_w 51, 3) := by decide +kernel
theorem d_Vl_writeNumber_45 : decode b_Vl_writeNumber 45 = .ok (.lcmp, 1) := by decide +kernel
theorem d_Vl_writeNumber_46 : decode b_Vl_writeNumber 46 = .ok (.ifCond .lt 17, 3) := by decide +kernel
theorem d_Vl_writeNumber_49 : decode b_Vl_writeNumber 49 = .ok (.lload 5, 2) := by decide +kernel
theorem d_Vl_writeNumber_51 : decode b_Vl_writeNumber 51 = .ok (.ldc2_w 51, 3) := by decide +kernel
theorem d_Vl_writeNumber_54 : decode b_Vl_writeNumber 54 = .ok (.lmul, 1) := by decide +kernel
theorem d_Vl_writeNumber_55 : decode b_Vl_writeNumber 55 = .ok (.lstore 5, 2) := by decide +kernel
theorem d_Vl_writeNumber_57 : decode b_Vl_writeNumber 57 = .ok (.iinc 7 1, 3) := by decide +kernel
theorem d_Vl_writeNumber_60 : decode b_Vl_writeNumber 60 = .ok (.goto (-29), 3) := by decide +kernel
theorem d_Vl_writeNumber_63 : decode b_Vl_writeNumber 63 = .ok (.iconst 0, 1) := by decide +kernel
theorem d_Vl_writeNumber_64 : decode b_Vl_writeNumber 64 = .ok (.istore 7, 2) := by decide +kernel
theorem d_Vl_writeNumber_66 : decode b_Vl_writeNumber 66 = .ok (.iload 7, 2) := by decide +kernel
theorem d_Vl_writeNumber_68 : decode b_Vl_writeNumber 68 = .ok (.bipush 10, 2) := by decide +kernel
theorem d_Vl_writeNumber_70 : decode b_Vl_writeNumber 70 = .ok (.if_icmp .ge 43, 3) := by decide +kernel
theorem d_Vl_writeNumber_73 : decode b_Vl_writeNumber 73 = .ok (.lload 5, 2) := by decide +kernel
theorem d_Vl_writeNumber_75 : decode b_Vl_writeNumber 75 = .ok (.lconst 0, 1) := by decide +kernel
theorem d_Vl_writeNumber_76 : decode b_Vl_writeNumber 76 = .ok (.lcmp, 1) := by decide +kernel
theorem d_Vl_writeNumber_77 : decode b_Vl_writeNumber 77 = .ok (.ifCond .le 36, 3) := by decide +kernel
theorem d_Vl_writeNumber_80 : decode b_Vl_writeNumber 80 = .ok (.aload_n 0, 1) := by decide +kernel
theorem d_Vl_writeNumber_81 : decode b_Vl_writeNumber 81 = .ok (.iload_n 1, 1) := by decide +kernel
theorem d_Vl_writeNumber_82 : decode b_Vl_writeNumber 82 = .ok (.ldc2_w 53, 3) := by decide +kernel
theorem d_Vl_writeNumber_85 : decode b_Vl_writeNumber 85 = .ok (.lload_n 3, 1) := by decide +kernel
theorem d_Vl_writeNumber_86 : decode b_Vl_writeNumber 86 = .ok (.lload 5, 2) := by decide +kernel
theorem d_Vl_writeNumber_88 : decode b_Vl_writeNumber 88 = .ok (.ldiv, 1) := by decide +kernel
theorem d_Vl_writeNumber_89 : decode b_Vl_writeNumber 89 = .ok (.ldc2_w 51, 3) := by decide +kernel
theorem d_Vl_writeNumber_92 : decode b_Vl_writeNumber 92 = .ok (.lrem, 1) := by decide +kernel
theorem d_Vl_writeNumber_93 : decode b_Vl_writeNumber 93 = .ok (.ladd, 1) := by decide +kernel
theorem d_Vl_writeNumber_94 : decode b_Vl_writeNumber 94 = .ok (.l2i, 1) := by decide +kernel
theorem d_Vl_writeNumber_95 : decode b_Vl_writeNumber 95 = .ok (.invokevirtual 33, 3) := by decide +kernel
theorem d_Vl_writeNumber_98 : decode b_Vl_writeNumber 98 = .ok (.pop, 1) := by decide +kernel
theorem d_Vl_writeNumber_99 : decode b_Vl_writeNumber 99 = .ok (.lload 5, 2) := by decide +kernel
theorem d_Vl_writeNumber_101 : decode b_Vl_writeNumber 101 = .ok (.ldc2_w 51, 3) := by decide +kernel
theorem d_Vl_writeNumber_104 : decode b_Vl_writeNumber 104 = .ok (.ldiv, 1) := by decide +kernel
theorem d_Vl_writeNumber_105 : decode b_Vl_writeNumber 105 = .ok (.lstore 5, 2) := by decide +kernel
theorem d_Vl_writeNumber_107 : decode b_Vl_writeNumber 107 = .ok (.iinc 7 1, 3) := by decide +kernel
theorem d_Vl_writeNumber_110 : decode b_Vl_writeNumber 110 = .ok (.goto (-44), 3) := by decide +kernel
theorem d_Vl_writeNumber_113 : decode b_Vl_writeNumber 113 = .ok (.return_, 1) := by decide +kernel
