theorem d_Ma_max_0 : decode b_Ma_max 0 = .ok (.iload_n 0, 1) := by decide +kernel
theorem d_Ma_max_1 : decode b_Ma_max 1 = .ok (.iload_n 1, 1) := by decide +kernel
theorem d_Ma_max_2 : decode b_Ma_max 2 = .ok (.if_icmp .lt 7, 3) := by decide +kernel
theorem d_Ma_max_5 : decode b_Ma_max 5 = .ok (.iload_n 0, 1) := by decide +kernel
theorem d_Ma_max_6 : decode b_Ma_max 6 = .ok (.goto 4, 3) := by decide +kernel
theorem d_Ma_max_9 : decode b_Ma_max 9 = .ok (.iload_n 1, 1) := by decide +kernel
theorem d_Ma_max_10 : decode b_Ma_max 10 = .ok (.ireturn, 1) := by decide +kernel
theorem d_Ma_min_0 : decode b_Ma_min 0 = .ok (.iload_n 0, 1) := by decide +kernel
theorem d_Ma_min_1 : decode b_Ma_min 1 = .ok (.iload_n 1, 1) := by decide +kernel
theorem d_Ma_min_2 : decode b_Ma_min 2 = .ok (.if_icmp .gt 7, 3) := by decide +kernel
theorem d_Ma_min_5 : decode b_Ma_min 5 = .ok (.iload_n 0, 1) := by decide +kernel
theorem d_Ma_min_6 : decode b_Ma_min 6 = .ok (.goto 4, 3) := by decide +kernel
theorem d_Ma_min_9 : decode b_Ma_min 9 = .ok (.iload_n 1, 1) := by decide +kernel
theorem d_Ma_min_10 : decode b_Ma_min 10 = .ok (.ireturn, 1) := by decide +kernel
theorem d_L1_canEncode_C_0 : decode b_L1_canEncode_C 0 = .ok (.iload_n 0, 1) := by decide +kernel
theorem d_L1_canEncode_C_1 : decode b_L1_canEncode_C 1 = .ok (.sipush 255, 3) := by decide +kernel
theorem d_L1_canEncode_C_4 : decode b_L1_canEncode_C 4 = .ok (.if_icmp .gt 7, 3) := by decide +kernel
theorem d_L1_canEncode_C_7 : decode b_L1_canEncode_C 7 = .ok (.iconst 1, 1) := by decide +kernel
theorem d_L1_canEncode_C_8 : decode b_L1_canEncode_C 8 = .ok (.goto 4, 3) := by decide +kernel
theorem d_L1_canEncode_C_11 : decode b_L1_canEncode_C 11 = .ok (.iconst 0, 1) := by decide +kernel
theorem d_L1_canEncode_C_12 : decode b_L1_canEncode_C 12 = .ok (.ireturn, 1) := by decide +kernel
theorem d_L1_canEncode_I_0 : decode b_L1_canEncode_I 0 = .ok (.iload_n 0, 1) := by decide +kernel
theorem d_L1_canEncode_I_1 : decode b_L1_canEncode_I 1 = .ok (.ifCond .lt 14, 3) := by decide +kernel
theorem d_L1_canEncode_I_4 : decode b_L1_canEncode_I 4 = .ok (.iload_n 0, 1) := by decide +kernel
theorem d_L1_canEncode_I_5 : decode b_L1_canEncode_I 5 = .ok (.sipush 255, 3) := by decide +kernel
theorem d_L1_canEncode_I_8 : decode b_L1_canEncode_I 8 = .ok (.if_icmp .gt 7, 3) := by decide +kernel
theorem d_L1_canEncode_I_11 : decode b_L1_canEncode_I 11 = .ok (.iconst 1, 1) := by decide +kernel
theorem d_L1_canEncode_I_12 : decode b_L1_canEncode_I 12 = .ok (.goto 4, 3) := by decide +kernel
theorem d_L1_canEncode_I_15 : decode b_L1_canEncode_I 15 = .ok (.iconst 0, 1) := by decide +kernel
theorem d_L1_canEncode_I_16 : decode b_L1_canEncode_I 16 = .ok (.ireturn, 1) := by decide +kernel
theorem d_Pr_checkIndex_0 : decode b_Pr_checkIndex 0 = .ok (.iload_n 0, 1) := by decide +kernel
theorem d_Pr_checkIndex_1 : decode b_Pr_checkIndex 1 = .ok (.ifCond .lt 8, 3) := by decide +kernel
theorem d_Pr_checkIndex_4 : decode b_Pr_checkIndex 4 = .ok (.iload_n 0, 1) := by decide +kernel
theorem d_Pr_checkIndex_5 : decode b_Pr_checkIndex 5 = .ok (.iload_n 1, 1) := by decide +kernel
theorem d_Pr_checkIndex_6 : decode b_Pr_checkIndex 6 = .ok (.if_icmp .lt 10, 3) := by decide +kernel
theorem d_Pr_checkIndex_9 : decode b_Pr_checkIndex 9 = .ok (.aload_n 2, 1) := by decide +kernel
theorem d_Pr_checkIndex_10 : decode b_Pr_checkIndex 10 = .ok (.iload_n 0, 1) := by decide +kernel
theorem d_Pr_checkIndex_11 : decode b_Pr_checkIndex 11 = .ok (.iload_n 1, 1) := by decide +kernel
theorem d_Pr_checkIndex_12 : decode b_Pr_checkIndex 12 = .ok (.invokestatic 95, 3) := by decide +kernel
theorem d_Pr_checkIndex_15 : decode b_Pr_checkIndex 15 = .ok (.athrow, 1) := by decide +kernel
theorem d_Pr_checkIndex_16 : decode b_Pr_checkIndex 16 = .ok (.iload_n 0, 1) := by decide +kernel
theorem d_Pr_checkIndex_17 : decode b_Pr_checkIndex 17 = .ok (.ireturn, 1) := by decide +kernel
theorem d_St_checkIndex_0 : decode b_St_checkIndex 0 = .ok (.iload_n 0, 1) := by decide +kernel
theorem d_St_checkIndex_1 : decode b_St_checkIndex 1 = .ok (.iload_n 1, 1) := by decide +kernel
theorem d_St_checkIndex_2 : decode b_St_checkIndex 2 = .ok (.getstatic 1053, 3) := by decide +kernel
theorem d_St_checkIndex_5 : decode b_St_checkIndex 5 = .ok (.invokestatic 1059, 3) := by decide +kernel
theorem d_St_checkIndex_8 : decode b_St_checkIndex 8 = .ok (.pop, 1) := by decide +kernel
theorem d_St_checkIndex_9 : decode b_St_checkIndex 9 = .ok (.return_, 1) := by decide +kernel
theorem d_A_length_0 : decode b_A_length 0 = .ok (.aload_n 0, 1) := by decide +kernel
theorem d_A_length_1 : decode b_A_length 1 = .ok (.getfield 79, 3) := by decide +kernel
theorem d_A_length_4 : decode b_A_length 4 = .ok (.ireturn, 1) := by decide +kernel
theorem d_SB_length_0 : decode b_SB_length 0 = .ok (.aload_n 0, 1) := by decide +kernel
theorem d_SB_length_1 : decode b_SB_length 1 = .ok (.invokespecial 343, 3) := by decide +kernel
theorem d_SB_length_4 : decode b_SB_length 4 = .ok (.ireturn, 1) := by decide +kernel
theorem d_A_isLatin1_0 : decode b_A_isLatin1 0 = .ok (.getstatic 18, 3) := by decide +kernel
theorem d_A_isLatin1_3 : decode b_A_isLatin1 3 = .ok (.ifCond .eq 14, 3) := by decide +kernel
theorem d_A_isLatin1_6 : decode b_A_isLatin1 6 = .ok (.aload_n 0, 1) := by decide +kernel
theorem d_A_isLatin1_7 : decode b_A_isLatin1 7 = .ok (.getfield 22, 3) := by decide +kernel
theorem d_A_isLatin1_10 : decode b_A_isLatin1 10 = .ok (.ifCond .ne 7, 3) := by decide +kernel
theorem d_A_isLatin1_13 : decode b_A_isLatin1 13 = .ok (.iconst 1, 1) := by decide +kernel
theorem d_A_isLatin1_14 : decode b_A_isLatin1 14 = .ok (.goto 4, 3) := by decide +kernel
theorem d_A_isLatin1_17 : decode b_A_isLatin1 17 = .ok (.iconst 0, 1) := by decide +kernel
theorem d_A_isLatin1_18 : decode b_A_isLatin1 18 = .ok (.ireturn, 1) := by decide +kernel
theorem d_As_newLength_0 : decode b_As_newLength 0 = .ok (.iload_n 0, 1) := by decide +kernel
theorem d_As_newLength_1 : decode b_As_newLength 1 = .ok (.iload_n 1, 1) := by decide +kernel
theorem d_As_newLength_2 : decode b_As_newLength 2 = .ok (.iload_n 2, 1) := by decide +kernel
theorem d_As_newLength_3 : decode b_As_newLength 3 = .ok (.invokestatic 194, 3) := by decide +kernel
theorem d_As_newLength_6 : decode b_As_newLength 6 = .ok (.iadd, 1) := by decide +kernel
theorem d_As_newLength_7 : decode b_As_newLength 7 = .ok (.istore_n 3, 1) := by decide +kernel
theorem d_As_newLength_8 : decode b_As_newLength 8 = .ok (.iconst 0, 1) := by decide +kernel
theorem d_As_newLength_9 : decode b_As_newLength 9 = .ok (.iload_n 3, 1) := by decide +kernel
theorem d_As_newLength_10 : decode b_As_newLength 10 = .ok (.if_icmp .ge 11, 3) := by decide +kernel
theorem d_As_newLength_13 : decode b_As_newLength 13 = .ok (.iload_n 3, 1) := by decide +kernel
theorem d_As_newLength_14 : decode b_As_newLength 14 = .ok (.ldc 200, 2) := by decide +kernel
theorem d_As_newLength_16 : decode b_As_newLength 16 = .ok (.if_icmp .gt 5, 3) := by decide +kernel
theorem d_As_newLength_19 : decode b_As_newLength 19 = .ok (.iload_n 3, 1) := by decide +kernel
theorem d_As_newLength_20 : decode b_As_newLength 20 = .ok (.ireturn, 1) := by decide +kernel
theorem d_As_newLength_21 : decode b_As_newLength 21 = .ok (.iload_n 0, 1) := by decide +kernel
theorem d_As_newLength_22 : decode b_As_newLength 22 = .ok (.iload_n 1, 1) := by decide +kernel
theorem d_As_newLength_23 : decode b_As_newLength 23 = .ok (.invokestatic 201, 3) := by decide +kernel
theorem d_As_newLength_26 : decode b_As_newLength 26 = .ok (.ireturn, 1) := by decide +kernel
theorem d_A_newCapacity_0 : decode b_A_newCapacity 0 = .ok (.aload_n 0, 1) := by decide +kernel
theorem d_A_newCapacity_1 : decode b_A_newCapacity 1 = .ok (.getfield 15, 3) := by decide +kernel
theorem d_A_newCapacity_4 : decode b_A_newCapacity 4 = .ok (.arraylength, 1) := by decide +kernel
theorem d_A_newCapacity_5 : decode b_A_newCapacity 5 = .ok (.istore_n 2, 1) := by decide +kernel
theorem d_A_newCapacity_6 : decode b_A_newCapacity 6 = .ok (.iload_n 1, 1) := by decide +kernel
theorem d_A_newCapacity_7 : decode b_A_newCapacity 7 = .ok (.aload_n 0, 1) := by decide +kernel
theorem d_A_newCapacity_8 : decode b_A_newCapacity 8 = .ok (.getfield 22, 3) := by decide +kernel
theorem d_A_newCapacity_11 : decode b_A_newCapacity 11 = .ok (.ishl, 1) := by decide +kernel
theorem d_A_newCapacity_12 : decode b_A_newCapacity 12 = .ok (.istore_n 3, 1) := by decide +kernel
theorem d_A_newCapacity_13 : decode b_A_newCapacity 13 = .ok (.iload_n 3, 1) := by decide +kernel
theorem d_A_newCapacity_14 : decode b_A_newCapacity 14 = .ok (.iload_n 2, 1) := by decide +kernel
theorem d_A_newCapacity_15 : decode b_A_newCapacity 15 = .ok (.isub, 1) := by decide +kernel
theorem d_A_newCapacity_16 : decode b_A_newCapacity 16 = .ok (.istore 4, 2) := by decide +kernel
theorem d_A_newCapacity_18 : decode b_A_newCapacity 18 = .ok (.iload_n 2, 1) := by decide +kernel
theorem d_A_newCapacity_19 : decode b_A_newCapacity 19 = .ok (.iload 4, 2) := by decide +kernel
theorem d_A_newCapacity_21 : decode b_A_newCapacity 21 = .ok (.iload_n 2, 1) := by decide +kernel
theorem d_A_newCapacity_22 : decode b_A_newCapacity 22 = .ok (.iconst 2, 1) := by decide +kernel
theorem d_A_newCapacity_23 : decode b_A_newCapacity 23 = .ok (.aload_n 0, 1) := by decide +kernel
theorem d_A_newCapacity_24 : decode b_A_newCapacity 24 = .ok (.getfield 22, 3) := by decide +kernel
theorem d_A_newCapacity_27 : decode b_A_newCapacity 27 = .ok (.ishl, 1) := by decide +kernel
theorem d_A_newCapacity_28 : decode b_A_newCapacity 28 = .ok (.iadd, 1) := by decide +kernel
theorem d_A_newCapacity_29 : decode b_A_newCapacity 29 = .ok (.invokestatic 114, 3) := by decide +kernel
theorem d_A_newCapacity_32 : decode b_A_newCapacity 32 = .ok (.istore 5, 2) := by decide +kernel
theorem d_A_newCapacity_34 : decode b_A_newCapacity 34 = .ok (.iload 5, 2) := by decide +kernel
theorem d_A_newCapacity_36 : decode b_A_newCapacity 36 = .ok (.ldc 39, 2) := by decide +kernel
theorem d_A_newCapacity_38 : decode b_A_newCapacity 38 = .ok (.if_icmp .ne 13, 3) := by decide +kernel
theorem d_A_newCapacity_41 : decode b_A_newCapacity 41 = .ok (.new 120, 3) := by decide +kernel
theorem d_A_newCapacity_44 : decode b_A_newCapacity 44 = .ok (.dup, 1) := by decide +kernel
theorem d_A_newCapacity_45 : decode b_A_newCapacity 45 = .ok (.ldc 122, 2) := by decide +kernel
theorem d_A_newCapacity_47 : decode b_A_newCapacity 47 = .ok (.invokespecial 124, 3) := by decide +kernel
theorem d_A_newCapacity_50 : decode b_A_newCapacity 50 = .ok (.athrow, 1) := by decide +kernel
theorem d_A_newCapacity_51 : decode b_A_newCapacity 51 = .ok (.iload 5, 2) := by decide +kernel
theorem d_A_newCapacity_53 : decode b_A_newCapacity 53 = .ok (.aload_n 0, 1) := by decide +kernel
theorem d_A_newCapacity_54 : decode b_A_newCapacity 54 = .ok (.getfield 22, 3) := by decide +kernel
theorem d_A_newCapacity_57 : decode b_A_newCapacity 57 = .ok (.ishr, 1) := by decide +kernel
theorem d_A_newCapacity_58 : decode b_A_newCapacity 58 = .ok (.ireturn, 1) := by decide +kernel
theorem d_Ar_copyOf_0 : decode b_Ar_copyOf 0 = .ok (.iload_n 1, 1) := by decide +kernel
theorem d_Ar_copyOf_1 : decode b_Ar_copyOf 1 = .ok (.aload_n 0, 1) := by decide +kernel
theorem d_Ar_copyOf_2 : decode b_Ar_copyOf 2 = .ok (.arraylength, 1) := by decide +kernel
theorem d_Ar_copyOf_3 : decode b_Ar_copyOf 3 = .ok (.if_icmp .ne 11, 3) := by decide +kernel
theorem d_Ar_copyOf_6 : decode b_Ar_copyOf 6 = .ok (.aload_n 0, 1) := by decide +kernel
theorem d_Ar_copyOf_7 : decode b_Ar_copyOf 7 = .ok (.invokevirtual 310, 3) := by decide +kernel
theorem d_Ar_copyOf_10 : decode b_Ar_copyOf 10 = .ok (.checkcast 311, 3) := by decide +kernel
theorem d_Ar_copyOf_13 : decode b_Ar_copyOf 13 = .ok (.areturn, 1) := by decide +kernel
theorem d_Ar_copyOf_14 : decode b_Ar_copyOf 14 = .ok (.iload_n 1, 1) := by decide +kernel
theorem d_Ar_copyOf_15 : decode b_Ar_copyOf 15 = .ok (.newarray .byte, 2) := by decide +kernel
theorem d_Ar_copyOf_17 : decode b_Ar_copyOf 17 = .ok (.astore_n 2, 1) := by decide +kernel
theorem d_Ar_copyOf_18 : decode b_Ar_copyOf 18 = .ok (.aload_n 0, 1) := by decide +kernel
theorem d_Ar_copyOf_19 : decode b_Ar_copyOf 19 = .ok (.iconst 0, 1) := by decide +kernel
theorem d_Ar_copyOf_20 : decode b_Ar_copyOf 20 = .ok (.aload_n 2, 1) := by decide +kernel
theorem d_Ar_copyOf_21 : decode b_Ar_copyOf 21 = .ok (.iconst 0, 1) := by decide +kernel
theorem d_Ar_copyOf_22 : decode b_Ar_copyOf 22 = .ok (.aload_n 0, 1) := by decide +kernel
theorem d_Ar_copyOf_23 : decode b_Ar_copyOf 23 = .ok (.arraylength, 1) := by decide +kernel
theorem d_Ar_copyOf_24 : decode b_Ar_copyOf 24 = .ok (.iload_n 1, 1) := by decide +kernel
theorem d_Ar_copyOf_25 : decode b_Ar_copyOf 25 = .ok (.invokestatic 304, 3) := by decide +kernel
theorem d_Ar_copyOf_28 : decode b_Ar_copyOf 28 = .ok (.invokestatic 150, 3) := by decide +kernel
theorem d_Ar_copyOf_31 : decode b_Ar_copyOf 31 = .ok (.aload_n 2, 1) := by decide +kernel
theorem d_Ar_copyOf_32 : decode b_Ar_copyOf 32 = .ok (.areturn, 1) := by decide +kernel
theorem d_A_ensureCapacityInternal_0 : decode b_A_ensureCapacityInternal 0 = .ok (.aload_n 0, 1) := by decide +kernel
theorem d_A_ensureCapacityInternal_1 : decode b_A_ensureCapacityInternal 1 = .ok (.getfield 15, 3) := by decide +kernel
theorem d_A_ensureCapacityInternal_4 : decode b_A_ensureCapacityInternal 4 = .ok (.arraylength, 1) := by decide +kernel
theorem d_A_ensureCapacityInternal_5 : decode b_A_ensureCapacityInternal 5 = .ok (.aload_n 0, 1) := by decide +kernel
theorem d_A_ensureCapacityInternal_6 : decode b_A_ensureCapacityInternal 6 = .ok (.getfield 22, 3) := by decide +kernel
theorem d_A_ensureCapacityInternal_9 : decode b_A_ensureCapacityInternal 9 = .ok (.ishr, 1) := by decide +kernel
theorem d_A_ensureCapacityInternal_10 : decode b_A_ensureCapacityInternal 10 = .ok (.istore_n 2, 1) := by decide +kernel
theorem d_A_ensureCapacityInternal_11 : decode b_A_ensureCapacityInternal 11 = .ok (.iload_n 1, 1) := by decide +kernel
theorem d_A_ensureCapacityInternal_12 : decode b_A_ensureCapacityInternal 12 = .ok (.iload_n 2, 1) := by decide +kernel
theorem d_A_ensureCapacityInternal_13 : decode b_A_ensureCapacityInternal 13 = .ok (.isub, 1) := by decide +kernel
theorem d_A_ensureCapacityInternal_14 : decode b_A_ensureCapacityInternal 14 = .ok (.ifCond .le 24, 3) := by decide +kernel
theorem d_A_ensureCapacityInternal_17 : decode b_A_ensureCapacityInternal 17 = .ok (.aload_n 0, 1) := by decide +kernel
theorem d_A_ensureCapacityInternal_18 : decode b_A_ensureCapacityInternal 18 = .ok (.aload_n 0, 1) := by decide +kernel
theorem d_A_ensureCapacityInternal_19 : decode b_A_ensureCapacityInternal 19 = .ok (.getfield 15, 3) := by decide +kernel
theorem d_A_ensureCapacityInternal_22 : decode b_A_ensureCapacityInternal 22 = .ok (.aload_n 0, 1) := by decide +kernel
theorem d_A_ensureCapacityInternal_23 : decode b_A_ensureCapacityInternal 23 = .ok (.iload_n 1, 1) := by decide +kernel
theorem d_A_ensureCapacityInternal_24 : decode b_A_ensureCapacityInternal 24 = .ok (.invokevirtual 104, 3) := by decide +kernel
theorem d_A_ensureCapacityInternal_27 : decode b_A_ensureCapacityInternal 27 = .ok (.aload_n 0, 1) := by decide +kernel
theorem d_A_ensureCapacityInternal_28 : decode b_A_ensureCapacityInternal 28 = .ok (.getfield 22, 3) := by decide +kernel
theorem d_A_ensureCapacityInternal_31 : decode b_A_ensureCapacityInternal 31 = .ok (.ishl, 1) := by decide +kernel
theorem d_A_ensureCapacityInternal_32 : decode b_A_ensureCapacityInternal 32 = .ok (.invokestatic 108, 3) := by decide +kernel
theorem d_A_ensureCapacityInternal_35 : decode b_A_ensureCapacityInternal 35 = .ok (.putfield 15, 3) := by decide +kernel
theorem d_A_ensureCapacityInternal_38 : decode b_A_ensureCapacityInternal 38 = .ok (.return_, 1) := by decide +kernel
theorem d_A_append_C_0 : decode b_A_append_C 0 = .ok (.aload_n 0, 1) := by decide +kernel
theorem d_A_append_C_1 : decode b_A_append_C 1 = .ok (.aload_n 0, 1) := by decide +kernel
theorem d_A_append_C_2 : decode b_A_append_C 2 = .ok (.getfield 79, 3) := by decide +kernel
theorem d_A_append_C_5 : decode b_A_append_C 5 = .ok (.iconst 1, 1) := by decide +kernel
theorem d_A_append_C_6 : decode b_A_append_C 6 = .ok (.iadd, 1) := by decide +kernel
theorem d_A_append_C_7 : decode b_A_append_C 7 = .ok (.invokevirtual 100, 3) := by decide +kernel
theorem d_A_append_C_10 : decode b_A_append_C 10 = .ok (.aload_n 0, 1) := by decide +kernel
theorem d_A_append_C_11 : decode b_A_append_C 11 = .ok (.invokevirtual 83, 3) := by decide +kernel
theorem d_A_append_C_14 : decode b_A_append_C 14 = .ok (.ifCond .eq 31, 3) := by decide +kernel
theorem d_A_append_C_17 : decode b_A_append_C 17 = .ok (.iload_n 1, 1) := by decide +kernel
theorem d_A_append_C_18 : decode b_A_append_C 18 = .ok (.invokestatic 191, 3) := by decide +kernel
theorem d_A_append_C_21 : decode b_A_append_C 21 = .ok (.ifCond .eq 24, 3) := by decide +kernel
theorem d_A_append_C_24 : decode b_A_append_C 24 = .ok (.aload_n 0, 1) := by decide +kernel
theorem d_A_append_C_25 : decode b_A_append_C 25 = .ok (.getfield 15, 3) := by decide +kernel
theorem d_A_append_C_28 : decode b_A_append_C 28 = .ok (.aload_n 0, 1) := by decide +kernel
theorem d_A_append_C_29 : decode b_A_append_C 29 = .ok (.dup, 1) := by decide +kernel
theorem d_A_append_C_30 : decode b_A_append_C 30 = .ok (.getfield 79, 3) := by decide +kernel
theorem d_A_append_C_33 : decode b_A_append_C 33 = .ok (.dup_x1, 1) := by decide +kernel
theorem d_A_append_C_34 : decode b_A_append_C 34 = .ok (.iconst 1, 1) := by decide +kernel
theorem d_A_append_C_35 : decode b_A_append_C 35 = .ok (.iadd, 1) := by decide +kernel
theorem d_A_append_C_36 : decode b_A_append_C 36 = .ok (.putfield 79, 3) := by decide +kernel
theorem d_A_append_C_39 : decode b_A_append_C 39 = .ok (.iload_n 1, 1) := by decide +kernel
theorem d_A_append_C_40 : decode b_A_append_C 40 = .ok (.i2b, 1) := by decide +kernel
theorem d_A_append_C_41 : decode b_A_append_C 41 = .ok (.bastore, 1) := by decide +kernel
theorem d_A_append_C_42 : decode b_A_append_C 42 = .ok (.goto 33, 3) := by decide +kernel
theorem d_A_append_C_45 : decode b_A_append_C 45 = .ok (.aload_n 0, 1) := by decide +kernel
theorem d_A_append_C_46 : decode b_A_append_C 46 = .ok (.invokevirtual 83, 3) := by decide +kernel
theorem d_A_append_C_49 : decode b_A_append_C 49 = .ok (.ifCond .eq 7, 3) := by decide +kernel
theorem d_A_append_C_52 : decode b_A_append_C 52 = .ok (.aload_n 0, 1) := by decide +kernel
theorem d_A_append_C_53 : decode b_A_append_C 53 = .ok (.invokevirtual 195, 3) := by decide +kernel
theorem d_A_append_C_56 : decode b_A_append_C 56 = .ok (.aload_n 0, 1) := by decide +kernel
theorem d_A_append_C_57 : decode b_A_append_C 57 = .ok (.getfield 15, 3) := by decide +kernel
theorem d_A_append_C_60 : decode b_A_append_C 60 = .ok (.aload_n 0, 1) := by decide +kernel
theorem d_A_append_C_61 : decode b_A_append_C 61 = .ok (.dup, 1) := by decide +kernel
theorem d_A_append_C_62 : decode b_A_append_C 62 = .ok (.getfield 79, 3) := by decide +kernel
theorem d_A_append_C_65 : decode b_A_append_C 65 = .ok (.dup_x1, 1) := by decide +kernel
theorem d_A_append_C_66 : decode b_A_append_C 66 = .ok (.iconst 1, 1) := by decide +kernel
theorem d_A_append_C_67 : decode b_A_append_C 67 = .ok (.iadd, 1) := by decide +kernel
theorem d_A_append_C_68 : decode b_A_append_C 68 = .ok (.putfield 79, 3) := by decide +kernel
theorem d_A_append_C_71 : decode b_A_append_C 71 = .ok (.iload_n 1, 1) := by decide +kernel
theorem d_A_append_C_72 : decode b_A_append_C 72 = .ok (.invokestatic 197, 3) := by decide +kernel
theorem d_A_append_C_75 : decode b_A_append_C 75 = .ok (.aload_n 0, 1) := by decide +kernel
theorem d_A_append_C_76 : decode b_A_append_C 76 = .ok (.areturn, 1) := by decide +kernel
theorem d_SB_append_C_0 : decode b_SB_append_C 0 = .ok (.aload_n 0, 1) := by decide +kernel
theorem d_SB_append_C_1 : decode b_SB_append_C 1 = .ok (.iload_n 1, 1) := by decide +kernel
theorem d_SB_append_C_2 : decode b_SB_append_C 2 = .ok (.invokespecial 50, 3) := by decide +kernel
theorem d_SB_append_C_5 : decode b_SB_append_C 5 = .ok (.pop, 1) := by decide +kernel
theorem d_SB_append_C_6 : decode b_SB_append_C 6 = .ok (.aload_n 0, 1) := by decide +kernel
theorem d_SB_append_C_7 : decode b_SB_append_C 7 = .ok (.areturn, 1) := by decide +kernel
theorem d_A_charAt_0 : decode b_A_charAt 0 = .ok (.aload_n 0, 1) := by decide +kernel
theorem d_A_charAt_1 : decode b_A_charAt 1 = .ok (.getfield 22, 3) := by decide +kernel
theorem d_A_charAt_4 : decode b_A_charAt 4 = .ok (.istore_n 2, 1) := by decide +kernel
theorem d_A_charAt_5 : decode b_A_charAt 5 = .ok (.aload_n 0, 1) := by decide +kernel
theorem d_A_charAt_6 : decode b_A_charAt 6 = .ok (.getfield 15, 3) := by decide +kernel
theorem d_A_charAt_9 : decode b_A_charAt 9 = .ok (.astore_n 3, 1) := by decide +kernel
theorem d_A_charAt_10 : decode b_A_charAt 10 = .ok (.aload_n 0, 1) := by decide +kernel
theorem d_A_charAt_11 : decode b_A_charAt 11 = .ok (.getfield 79, 3) := by decide +kernel
theorem d_A_charAt_14 : decode b_A_charAt 14 = .ok (.aload_n 3, 1) := by decide +kernel
theorem d_A_charAt_15 : decode b_A_charAt 15 = .ok (.arraylength, 1) := by decide +kernel
theorem d_A_charAt_16 : decode b_A_charAt 16 = .ok (.iload_n 2, 1) := by decide +kernel
theorem d_A_charAt_17 : decode b_A_charAt 17 = .ok (.ishr, 1) := by decide +kernel
theorem d_A_charAt_18 : decode b_A_charAt 18 = .ok (.invokestatic 138, 3) := by decide +kernel
theorem d_A_charAt_21 : decode b_A_charAt 21 = .ok (.istore 4, 2) := by decide +kernel
theorem d_A_charAt_23 : decode b_A_charAt 23 = .ok (.iload_n 1, 1) := by decide +kernel
theorem d_A_charAt_24 : decode b_A_charAt 24 = .ok (.iload 4, 2) := by decide +kernel
theorem d_A_charAt_26 : decode b_A_charAt 26 = .ok (.invokestatic 144, 3) := by decide +kernel
theorem d_A_charAt_29 : decode b_A_charAt 29 = .ok (.iload_n 2, 1) := by decide +kernel
theorem d_A_charAt_30 : decode b_A_charAt 30 = .ok (.ifCond .ne 12, 3) := by decide +kernel
theorem d_A_charAt_33 : decode b_A_charAt 33 = .ok (.aload_n 3, 1) := by decide +kernel
theorem d_A_charAt_34 : decode b_A_charAt 34 = .ok (.iload_n 1, 1) := by decide +kernel
theorem d_A_charAt_35 : decode b_A_charAt 35 = .ok (.baload, 1) := by decide +kernel
theorem d_A_charAt_36 : decode b_A_charAt 36 = .ok (.sipush 255, 3) := by decide +kernel
theorem d_A_charAt_39 : decode b_A_charAt 39 = .ok (.iand, 1) := by decide +kernel
theorem d_A_charAt_40 : decode b_A_charAt 40 = .ok (.i2c, 1) := by decide +kernel
theorem d_A_charAt_41 : decode b_A_charAt 41 = .ok (.ireturn, 1) := by decide +kernel
theorem d_A_charAt_42 : decode b_A_charAt 42 = .ok (.aload_n 3, 1) := by decide +kernel
theorem d_A_charAt_43 : decode b_A_charAt 43 = .ok (.iload_n 1, 1) := by decide +kernel
theorem d_A_charAt_44 : decode b_A_charAt 44 = .ok (.invokestatic 148, 3) := by decide +kernel
theorem d_A_charAt_47 : decode b_A_charAt 47 = .ok (.ireturn, 1) := by decide +kernel
theorem d_SB_charAt_0 : decode b_SB_charAt 0 = .ok (.aload_n 0, 1) := by decide +kernel
theorem d_SB_charAt_1 : decode b_SB_charAt 1 = .ok (.iload_n 1, 1) := by decide +kernel
theorem d_SB_charAt_2 : decode b_SB_charAt 2 = .ok (.invokespecial 329, 3) := by decide +kernel
theorem d_SB_charAt_5 : decode b_SB_charAt 5 = .ok (.ireturn, 1) := by decide +kernel
theorem d_A_setLength_0 : decode b_A_setLength 0 = .ok (.iload_n 1, 1) := by decide +kernel
theorem d_A_setLength_1 : decode b_A_setLength 1 = .ok (.ifCond .ge 12, 3) := by decide +kernel
theorem d_A_setLength_4 : decode b_A_setLength 4 = .ok (.new 129, 3) := by decide +kernel
theorem d_A_setLength_7 : decode b_A_setLength 7 = .ok (.dup, 1) := by decide +kernel
theorem d_A_setLength_8 : decode b_A_setLength 8 = .ok (.iload_n 1, 1) := by decide +kernel
theorem d_A_setLength_9 : decode b_A_setLength 9 = .ok (.invokespecial 131, 3) := by decide +kernel
theorem d_A_setLength_12 : decode b_A_setLength 12 = .ok (.athrow, 1) := by decide +kernel
theorem d_A_setLength_13 : decode b_A_setLength 13 = .ok (.aload_n 0, 1) := by decide +kernel
theorem d_A_setLength_14 : decode b_A_setLength 14 = .ok (.iload_n 1, 1) := by decide +kernel
theorem d_A_setLength_15 : decode b_A_setLength 15 = .ok (.invokevirtual 100, 3) := by decide +kernel
theorem d_A_setLength_18 : decode b_A_setLength 18 = .ok (.aload_n 0, 1) := by decide +kernel
theorem d_A_setLength_19 : decode b_A_setLength 19 = .ok (.getfield 79, 3) := by decide +kernel
theorem d_A_setLength_22 : decode b_A_setLength 22 = .ok (.iload_n 1, 1) := by decide +kernel
theorem d_A_setLength_23 : decode b_A_setLength 23 = .ok (.if_icmp .ge 40, 3) := by decide +kernel
theorem d_A_setLength_26 : decode b_A_setLength 26 = .ok (.aload_n 0, 1) := by decide +kernel
theorem d_A_setLength_27 : decode b_A_setLength 27 = .ok (.invokevirtual 83, 3) := by decide +kernel
theorem d_A_setLength_30 : decode b_A_setLength 30 = .ok (.ifCond .eq 18, 3) := by decide +kernel
theorem d_A_setLength_33 : decode b_A_setLength 33 = .ok (.aload_n 0, 1) := by decide +kernel
theorem d_A_setLength_34 : decode b_A_setLength 34 = .ok (.getfield 15, 3) := by decide +kernel
theorem d_A_setLength_37 : decode b_A_setLength 37 = .ok (.aload_n 0, 1) := by decide +kernel
theorem d_A_setLength_38 : decode b_A_setLength 38 = .ok (.getfield 79, 3) := by decide +kernel
theorem d_A_setLength_41 : decode b_A_setLength 41 = .ok (.iload_n 1, 1) := by decide +kernel
theorem d_A_setLength_42 : decode b_A_setLength 42 = .ok (.invokestatic 133, 3) := by decide +kernel
theorem d_A_setLength_45 : decode b_A_setLength 45 = .ok (.goto 31, 3) := by decide +kernel
theorem d_A_setLength_48 : decode b_A_setLength 48 = .ok (.aload_n 0, 1) := by decide +kernel
theorem d_A_setLength_49 : decode b_A_setLength 49 = .ok (.getfield 15, 3) := by decide +kernel
theorem d_A_setLength_52 : decode b_A_setLength 52 = .ok (.aload_n 0, 1) := by decide +kernel
theorem d_A_setLength_53 : decode b_A_setLength 53 = .ok (.getfield 79, 3) := by decide +kernel
theorem d_A_setLength_56 : decode b_A_setLength 56 = .ok (.iload_n 1, 1) := by decide +kernel
theorem d_A_setLength_57 : decode b_A_setLength 57 = .ok (.invokestatic 137, 3) := by decide +kernel
theorem d_A_setLength_60 : decode b_A_setLength 60 = .ok (.goto 16, 3) := by decide +kernel
theorem d_A_setLength_63 : decode b_A_setLength 63 = .ok (.aload_n 0, 1) := by decide +kernel
theorem d_A_setLength_64 : decode b_A_setLength 64 = .ok (.getfield 79, 3) := by decide +kernel
theorem d_A_setLength_67 : decode b_A_setLength 67 = .ok (.iload_n 1, 1) := by decide +kernel
theorem d_A_setLength_68 : decode b_A_setLength 68 = .ok (.if_icmp .le 8, 3) := by decide +kernel
theorem d_A_setLength_71 : decode b_A_setLength 71 = .ok (.aload_n 0, 1) := by decide +kernel
theorem d_A_setLength_72 : decode b_A_setLength 72 = .ok (.iconst 1, 1) := by decide +kernel
theorem d_A_setLength_73 : decode b_A_setLength 73 = .ok (.putfield 73, 3) := by decide +kernel
theorem d_A_setLength_76 : decode b_A_setLength 76 = .ok (.aload_n 0, 1) := by decide +kernel
theorem d_A_setLength_77 : decode b_A_setLength 77 = .ok (.iload_n 1, 1) := by decide +kernel
theorem d_A_setLength_78 : decode b_A_setLength 78 = .ok (.putfield 79, 3) := by decide +kernel
theorem d_A_setLength_81 : decode b_A_setLength 81 = .ok (.return_, 1) := by decide +kernel
theorem d_SB_setLength_0 : decode b_SB_setLength 0 = .ok (.aload_n 0, 1) := by decide +kernel
theorem d_SB_setLength_1 : decode b_SB_setLength 1 = .ok (.iload_n 1, 1) := by decide +kernel
theorem d_SB_setLength_2 : decode b_SB_setLength 2 = .ok (.invokespecial 333, 3) := by decide +kernel
theorem d_SB_setLength_5 : decode b_SB_setLength 5 = .ok (.return_, 1) := by decide +kernel
theorem d_St_coder_0 : decode b_St_coder 0 = .ok (.getstatic 38, 3) := by decide +kernel
theorem d_St_coder_3 : decode b_St_coder 3 = .ok (.ifCond .eq 10, 3) := by decide +kernel
theorem d_St_coder_6 : decode b_St_coder 6 = .ok (.aload_n 0, 1) := by decide +kernel
theorem d_St_coder_7 : decode b_St_coder 7 = .ok (.getfield 15, 3) := by decide +kernel
theorem d_St_coder_10 : decode b_St_coder 10 = .ok (.goto 4, 3) := by decide +kernel
theorem d_St_coder_13 : decode b_St_coder 13 = .ok (.iconst 1, 1) := by decide +kernel
theorem d_St_coder_14 : decode b_St_coder 14 = .ok (.ireturn, 1) := by decide +kernel
theorem d_St_length_0 : decode b_St_length 0 = .ok (.aload_n 0, 1) := by decide +kernel
theorem d_St_length_1 : decode b_St_length 1 = .ok (.getfield 9, 3) := by decide +kernel
theorem d_St_length_4 : decode b_St_length 4 = .ok (.arraylength, 1) := by decide +kernel
theorem d_St_length_5 : decode b_St_length 5 = .ok (.aload_n 0, 1) := by decide +kernel
theorem d_St_length_6 : decode b_St_length 6 = .ok (.invokevirtual 335, 3) := by decide +kernel
theorem d_St_length_9 : decode b_St_length 9 = .ok (.ishr, 1) := by decide +kernel
theorem d_St_length_10 : decode b_St_length 10 = .ok (.ireturn, 1) := by decide +kernel
theorem d_A_inflateIfNeededFor_0 : decode b_A_inflateIfNeededFor 0 = .ok (.getstatic 18, 3) := by decide +kernel
theorem d_A_inflateIfNeededFor_3 : decode b_A_inflateIfNeededFor 3 = .ok (.ifCond .eq 18, 3) := by decide +kernel
theorem d_A_inflateIfNeededFor_6 : decode b_A_inflateIfNeededFor 6 = .ok (.aload_n 0, 1) := by decide +kernel
theorem d_A_inflateIfNeededFor_7 : decode b_A_inflateIfNeededFor 7 = .ok (.getfield 22, 3) := by decide +kernel
theorem d_A_inflateIfNeededFor_10 : decode b_A_inflateIfNeededFor 10 = .ok (.aload_n 1, 1) := by decide +kernel
theorem d_A_inflateIfNeededFor_11 : decode b_A_inflateIfNeededFor 11 = .ok (.invokevirtual 40, 3) := by decide +kernel
theorem d_A_inflateIfNeededFor_14 : decode b_A_inflateIfNeededFor 14 = .ok (.if_icmp .eq 7, 3) := by decide +kernel
theorem d_A_inflateIfNeededFor_17 : decode b_A_inflateIfNeededFor 17 = .ok (.aload_n 0, 1) := by decide +kernel
theorem d_A_inflateIfNeededFor_18 : decode b_A_inflateIfNeededFor 18 = .ok (.invokevirtual 195, 3) := by decide +kernel
theorem d_A_inflateIfNeededFor_21 : decode b_A_inflateIfNeededFor 21 = .ok (.return_, 1) := by decide +kernel
theorem d_St_getBytes_0 : decode b_St_getBytes 0 = .ok (.aload_n 0, 1) := by decide +kernel
theorem d_St_getBytes_1 : decode b_St_getBytes 1 = .ok (.invokevirtual 335, 3) := by decide +kernel
theorem d_St_getBytes_4 : decode b_St_getBytes 4 = .ok (.iload_n 3, 1) := by decide +kernel
theorem d_St_getBytes_5 : decode b_St_getBytes 5 = .ok (.if_icmp .ne 23, 3) := by decide +kernel
theorem d_St_getBytes_8 : decode b_St_getBytes 8 = .ok (.aload_n 0, 1) := by decide +kernel
theorem d_St_getBytes_9 : decode b_St_getBytes 9 = .ok (.getfield 9, 3) := by decide +kernel
theorem d_St_getBytes_12 : decode b_St_getBytes 12 = .ok (.iconst 0, 1) := by decide +kernel
theorem d_St_getBytes_13 : decode b_St_getBytes 13 = .ok (.aload_n 1, 1) := by decide +kernel
theorem d_St_getBytes_14 : decode b_St_getBytes 14 = .ok (.iload_n 2, 1) := by decide +kernel
theorem d_St_getBytes_15 : decode b_St_getBytes 15 = .ok (.iload_n 3, 1) := by decide +kernel
theorem d_St_getBytes_16 : decode b_St_getBytes 16 = .ok (.ishl, 1) := by decide +kernel
theorem d_St_getBytes_17 : decode b_St_getBytes 17 = .ok (.aload_n 0, 1) := by decide +kernel
theorem d_St_getBytes_18 : decode b_St_getBytes 18 = .ok (.getfield 9, 3) := by decide +kernel
theorem d_St_getBytes_21 : decode b_St_getBytes 21 = .ok (.arraylength, 1) := by decide +kernel
theorem d_St_getBytes_22 : decode b_St_getBytes 22 = .ok (.invokestatic 212, 3) := by decide +kernel
theorem d_St_getBytes_25 : decode b_St_getBytes 25 = .ok (.goto 18, 3) := by decide +kernel
theorem d_St_getBytes_28 : decode b_St_getBytes 28 = .ok (.aload_n 0, 1) := by decide +kernel
theorem d_St_getBytes_29 : decode b_St_getBytes 29 = .ok (.getfield 9, 3) := by decide +kernel
theorem d_St_getBytes_32 : decode b_St_getBytes 32 = .ok (.iconst 0, 1) := by decide +kernel
theorem d_St_getBytes_33 : decode b_St_getBytes 33 = .ok (.aload_n 1, 1) := by decide +kernel
theorem d_St_getBytes_34 : decode b_St_getBytes 34 = .ok (.iload_n 2, 1) := by decide +kernel
theorem d_St_getBytes_35 : decode b_St_getBytes 35 = .ok (.aload_n 0, 1) := by decide +kernel
theorem d_St_getBytes_36 : decode b_St_getBytes 36 = .ok (.getfield 9, 3) := by decide +kernel
theorem d_St_getBytes_39 : decode b_St_getBytes 39 = .ok (.arraylength, 1) := by decide +kernel
theorem d_St_getBytes_40 : decode b_St_getBytes 40 = .ok (.invokestatic 106, 3) := by decide +kernel
theorem d_St_getBytes_43 : decode b_St_getBytes 43 = .ok (.return_, 1) := by decide +kernel
theorem d_A_putStringAt_0 : decode b_A_putStringAt 0 = .ok (.aload_n 0, 1) := by decide +kernel
theorem d_A_putStringAt_1 : decode b_A_putStringAt 1 = .ok (.aload_n 2, 1) := by decide +kernel
theorem d_A_putStringAt_2 : decode b_A_putStringAt 2 = .ok (.invokevirtual 397, 3) := by decide +kernel
theorem d_A_putStringAt_5 : decode b_A_putStringAt 5 = .ok (.aload_n 2, 1) := by decide +kernel
theorem d_A_putStringAt_6 : decode b_A_putStringAt 6 = .ok (.aload_n 0, 1) := by decide +kernel
theorem d_A_putStringAt_7 : decode b_A_putStringAt 7 = .ok (.getfield 15, 3) := by decide +kernel
theorem d_A_putStringAt_10 : decode b_A_putStringAt 10 = .ok (.iload_n 1, 1) := by decide +kernel
theorem d_A_putStringAt_11 : decode b_A_putStringAt 11 = .ok (.aload_n 0, 1) := by decide +kernel
theorem d_A_putStringAt_12 : decode b_A_putStringAt 12 = .ok (.getfield 22, 3) := by decide +kernel
theorem d_A_putStringAt_15 : decode b_A_putStringAt 15 = .ok (.invokevirtual 399, 3) := by decide +kernel
theorem d_A_putStringAt_18 : decode b_A_putStringAt 18 = .ok (.return_, 1) := by decide +kernel
theorem d_A_append_S_0 : decode b_A_append_S 0 = .ok (.aload_n 1, 1) := by decide +kernel
theorem d_A_append_S_1 : decode b_A_append_S 1 = .ok (.ifnonnull 8, 3) := by decide +kernel
theorem d_A_append_S_4 : decode b_A_append_S 4 = .ok (.aload_n 0, 1) := by decide +kernel
theorem d_A_append_S_5 : decode b_A_append_S 5 = .ok (.invokevirtual 204, 3) := by decide +kernel
theorem d_A_append_S_8 : decode b_A_append_S 8 = .ok (.areturn, 1) := by decide +kernel
theorem d_A_append_S_9 : decode b_A_append_S 9 = .ok (.aload_n 1, 1) := by decide +kernel
theorem d_A_append_S_10 : decode b_A_append_S 10 = .ok (.invokevirtual 32, 3) := by decide +kernel
theorem d_A_append_S_13 : decode b_A_append_S 13 = .ok (.istore_n 2, 1) := by decide +kernel
theorem d_A_append_S_14 : decode b_A_append_S 14 = .ok (.aload_n 0, 1) := by decide +kernel
theorem d_A_append_S_15 : decode b_A_append_S 15 = .ok (.aload_n 0, 1) := by decide +kernel
theorem d_A_append_S_16 : decode b_A_append_S 16 = .ok (.getfield 79, 3) := by decide +kernel
theorem d_A_append_S_19 : decode b_A_append_S 19 = .ok (.iload_n 2, 1) := by decide +kernel
theorem d_A_append_S_20 : decode b_A_append_S 20 = .ok (.iadd, 1) := by decide +kernel
theorem d_A_append_S_21 : decode b_A_append_S 21 = .ok (.invokevirtual 100, 3) := by decide +kernel
theorem d_A_append_S_24 : decode b_A_append_S 24 = .ok (.aload_n 0, 1) := by decide +kernel
theorem d_A_append_S_25 : decode b_A_append_S 25 = .ok (.aload_n 0, 1) := by decide +kernel
theorem d_A_append_S_26 : decode b_A_append_S 26 = .ok (.getfield 79, 3) := by decide +kernel
theorem d_A_append_S_29 : decode b_A_append_S 29 = .ok (.aload_n 1, 1) := by decide +kernel
theorem d_A_append_S_30 : decode b_A_append_S 30 = .ok (.invokevirtual 208, 3) := by decide +kernel
theorem d_A_append_S_33 : decode b_A_append_S 33 = .ok (.aload_n 0, 1) := by decide +kernel
theorem d_A_append_S_34 : decode b_A_append_S 34 = .ok (.dup, 1) := by decide +kernel
theorem d_A_append_S_35 : decode b_A_append_S 35 = .ok (.getfield 79, 3) := by decide +kernel
theorem d_A_append_S_38 : decode b_A_append_S 38 = .ok (.iload_n 2, 1) := by decide +kernel
theorem d_A_append_S_39 : decode b_A_append_S 39 = .ok (.iadd, 1) := by decide +kernel
theorem d_A_append_S_40 : decode b_A_append_S 40 = .ok (.putfield 79, 3) := by decide +kernel
theorem d_A_append_S_43 : decode b_A_append_S 43 = .ok (.aload_n 0, 1) := by decide +kernel
theorem d_A_append_S_44 : decode b_A_append_S 44 = .ok (.areturn, 1) := by decide +kernel
theorem d_SB_append_S_0 : decode b_SB_append_S 0 = .ok (.aload_n 0, 1) := by decide +kernel
theorem d_SB_append_S_1 : decode b_SB_append_S 1 = .ok (.aload_n 1, 1) := by decide +kernel
theorem d_SB_append_S_2 : decode b_SB_append_S 2 = .ok (.invokespecial 29, 3) := by decide +kernel
theorem d_SB_append_S_5 : decode b_SB_append_S 5 = .ok (.pop, 1) := by decide +kernel
theorem d_SB_append_S_6 : decode b_SB_append_S 6 = .ok (.aload_n 0, 1) := by decide +kernel
theorem d_SB_append_S_7 : decode b_SB_append_S 7 = .ok (.areturn, 1) := by decide +kernel
theorem d_St_isLatin1_0 : decode b_St_isLatin1 0 = .ok (.getstatic 38, 3) := by decide +kernel
theorem d_St_isLatin1_3 : decode b_St_isLatin1 3 = .ok (.ifCond .eq 14, 3) := by decide +kernel
theorem d_St_isLatin1_6 : decode b_St_isLatin1 6 = .ok (.aload_n 0, 1) := by decide +kernel
theorem d_St_isLatin1_7 : decode b_St_isLatin1 7 = .ok (.getfield 15, 3) := by decide +kernel
theorem d_St_isLatin1_10 : decode b_St_isLatin1 10 = .ok (.ifCond .ne 7, 3) := by decide +kernel
theorem d_St_isLatin1_13 : decode b_St_isLatin1 13 = .ok (.iconst 1, 1) := by decide +kernel
theorem d_St_isLatin1_14 : decode b_St_isLatin1 14 = .ok (.goto 4, 3) := by decide +kernel
theorem d_St_isLatin1_17 : decode b_St_isLatin1 17 = .ok (.iconst 0, 1) := by decide +kernel
theorem d_St_isLatin1_18 : decode b_St_isLatin1 18 = .ok (.ireturn, 1) := by decide +kernel
theorem d_L1_charAt_0 : decode b_L1_charAt 0 = .ok (.iload_n 1, 1) := by decide +kernel
theorem d_L1_charAt_1 : decode b_L1_charAt 1 = .ok (.aload_n 0, 1) := by decide +kernel
theorem d_L1_charAt_2 : decode b_L1_charAt 2 = .ok (.arraylength, 1) := by decide +kernel
theorem d_L1_charAt_3 : decode b_L1_charAt 3 = .ok (.invokestatic 9, 3) := by decide +kernel
theorem d_L1_charAt_6 : decode b_L1_charAt 6 = .ok (.aload_n 0, 1) := by decide +kernel
theorem d_L1_charAt_7 : decode b_L1_charAt 7 = .ok (.iload_n 1, 1) := by decide +kernel
theorem d_L1_charAt_8 : decode b_L1_charAt 8 = .ok (.baload, 1) := by decide +kernel
theorem d_L1_charAt_9 : decode b_L1_charAt 9 = .ok (.sipush 255, 3) := by decide +kernel
theorem d_L1_charAt_12 : decode b_L1_charAt 12 = .ok (.iand, 1) := by decide +kernel
theorem d_L1_charAt_13 : decode b_L1_charAt 13 = .ok (.i2c, 1) := by decide +kernel
theorem d_L1_charAt_14 : decode b_L1_charAt 14 = .ok (.ireturn, 1) := by decide +kernel
theorem d_St_charAt_0 : decode b_St_charAt 0 = .ok (.aload_n 0, 1) := by decide +kernel
theorem d_St_charAt_1 : decode b_St_charAt 1 = .ok (.invokevirtual 492, 3) := by decide +kernel
theorem d_St_charAt_4 : decode b_St_charAt 4 = .ok (.ifCond .eq 12, 3) := by decide +kernel
theorem d_St_charAt_7 : decode b_St_charAt 7 = .ok (.aload_n 0, 1) := by decide +kernel
theorem d_St_charAt_8 : decode b_St_charAt 8 = .ok (.getfield 9, 3) := by decide +kernel
theorem d_St_charAt_11 : decode b_St_charAt 11 = .ok (.iload_n 1, 1) := by decide +kernel
theorem d_St_charAt_12 : decode b_St_charAt 12 = .ok (.invokestatic 495, 3) := by decide +kernel
theorem d_St_charAt_15 : decode b_St_charAt 15 = .ok (.ireturn, 1) := by decide +kernel
theorem d_St_charAt_16 : decode b_St_charAt 16 = .ok (.aload_n 0, 1) := by decide +kernel
theorem d_St_charAt_17 : decode b_St_charAt 17 = .ok (.getfield 9, 3) := by decide +kernel
theorem d_St_charAt_20 : decode b_St_charAt 20 = .ok (.iload_n 1, 1) := by decide +kernel
theorem d_St_charAt_21 : decode b_St_charAt 21 = .ok (.invokestatic 498, 3) := by decide +kernel
theorem d_St_charAt_24 : decode b_St_charAt 24 = .ok (.ireturn, 1) := by decide +kernel
theorem d_L1_indexOfChar_0 : decode b_L1_indexOfChar 0 = .ok (.iload_n 1, 1) := by decide +kernel
theorem d_L1_indexOfChar_1 : decode b_L1_indexOfChar 1 = .ok (.i2b, 1) := by decide +kernel
theorem d_L1_indexOfChar_2 : decode b_L1_indexOfChar 2 = .ok (.istore 4, 2) := by decide +kernel
theorem d_L1_indexOfChar_4 : decode b_L1_indexOfChar 4 = .ok (.iload_n 2, 1) := by decide +kernel
theorem d_L1_indexOfChar_5 : decode b_L1_indexOfChar 5 = .ok (.istore 5, 2) := by decide +kernel
theorem d_L1_indexOfChar_7 : decode b_L1_indexOfChar 7 = .ok (.iload 5, 2) := by decide +kernel
theorem d_L1_indexOfChar_9 : decode b_L1_indexOfChar 9 = .ok (.iload_n 3, 1) := by decide +kernel
theorem d_L1_indexOfChar_10 : decode b_L1_indexOfChar 10 = .ok (.if_icmp .ge 21, 3) := by decide +kernel
theorem d_L1_indexOfChar_13 : decode b_L1_indexOfChar 13 = .ok (.aload_n 0, 1) := by decide +kernel
theorem d_L1_indexOfChar_14 : decode b_L1_indexOfChar 14 = .ok (.iload 5, 2) := by decide +kernel
theorem d_L1_indexOfChar_16 : decode b_L1_indexOfChar 16 = .ok (.baload, 1) := by decide +kernel
theorem d_L1_indexOfChar_17 : decode b_L1_indexOfChar 17 = .ok (.iload 4, 2) := by decide +kernel
theorem d_L1_indexOfChar_19 : decode b_L1_indexOfChar 19 = .ok (.if_icmp .ne 6, 3) := by decide +kernel
theorem d_L1_indexOfChar_22 : decode b_L1_indexOfChar 22 = .ok (.iload 5, 2) := by decide +kernel
theorem d_L1_indexOfChar_24 : decode b_L1_indexOfChar 24 = .ok (.ireturn, 1) := by decide +kernel
theorem d_L1_indexOfChar_25 : decode b_L1_indexOfChar 25 = .ok (.iinc 5 1, 3) := by decide +kernel
theorem d_L1_indexOfChar_28 : decode b_L1_indexOfChar 28 = .ok (.goto (-21), 3) := by decide +kernel
theorem d_L1_indexOfChar_31 : decode b_L1_indexOfChar 31 = .ok (.iconst (-1), 1) := by decide +kernel
theorem d_L1_indexOfChar_32 : decode b_L1_indexOfChar 32 = .ok (.ireturn, 1) := by decide +kernel
theorem d_L1_indexOf_0 : decode b_L1_indexOf 0 = .ok (.iload_n 1, 1) := by decide +kernel
theorem d_L1_indexOf_1 : decode b_L1_indexOf 1 = .ok (.invokestatic 88, 3) := by decide +kernel
theorem d_L1_indexOf_4 : decode b_L1_indexOf 4 = .ok (.ifCond .ne 5, 3) := by decide +kernel
theorem d_L1_indexOf_7 : decode b_L1_indexOf 7 = .ok (.iconst (-1), 1) := by decide +kernel
theorem d_L1_indexOf_8 : decode b_L1_indexOf 8 = .ok (.ireturn, 1) := by decide +kernel
theorem d_L1_indexOf_9 : decode b_L1_indexOf 9 = .ok (.iload_n 2, 1) := by decide +kernel
theorem d_L1_indexOf_10 : decode b_L1_indexOf 10 = .ok (.iconst 0, 1) := by decide +kernel
theorem d_L1_indexOf_11 : decode b_L1_indexOf 11 = .ok (.invokestatic 92, 3) := by decide +kernel
theorem d_L1_indexOf_14 : decode b_L1_indexOf 14 = .ok (.istore_n 2, 1) := by decide +kernel
theorem d_L1_indexOf_15 : decode b_L1_indexOf 15 = .ok (.iload_n 3, 1) := by decide +kernel
theorem d_L1_indexOf_16 : decode b_L1_indexOf 16 = .ok (.aload_n 0, 1) := by decide +kernel
theorem d_L1_indexOf_17 : decode b_L1_indexOf 17 = .ok (.arraylength, 1) := by decide +kernel
theorem d_L1_indexOf_18 : decode b_L1_indexOf 18 = .ok (.invokestatic 38, 3) := by decide +kernel
theorem d_L1_indexOf_21 : decode b_L1_indexOf 21 = .ok (.istore_n 3, 1) := by decide +kernel
theorem d_L1_indexOf_22 : decode b_L1_indexOf 22 = .ok (.iload_n 2, 1) := by decide +kernel
theorem d_L1_indexOf_23 : decode b_L1_indexOf 23 = .ok (.iload_n 3, 1) := by decide +kernel
theorem d_L1_indexOf_24 : decode b_L1_indexOf 24 = .ok (.if_icmp .lt 5, 3) := by decide +kernel
theorem d_L1_indexOf_27 : decode b_L1_indexOf 27 = .ok (.iconst (-1), 1) := by decide +kernel
theorem d_L1_indexOf_28 : decode b_L1_indexOf 28 = .ok (.ireturn, 1) := by decide +kernel
theorem d_L1_indexOf_29 : decode b_L1_indexOf 29 = .ok (.aload_n 0, 1) := by decide +kernel
theorem d_L1_indexOf_30 : decode b_L1_indexOf 30 = .ok (.iload_n 1, 1) := by decide +kernel
theorem d_L1_indexOf_31 : decode b_L1_indexOf 31 = .ok (.iload_n 2, 1) := by decide +kernel
theorem d_L1_indexOf_32 : decode b_L1_indexOf 32 = .ok (.iload_n 3, 1) := by decide +kernel
theorem d_L1_indexOf_33 : decode b_L1_indexOf 33 = .ok (.invokestatic 95, 3) := by decide +kernel
theorem d_L1_indexOf_36 : decode b_L1_indexOf 36 = .ok (.ireturn, 1) := by decide +kernel
theorem d_St_indexOf_II_0 : decode b_St_indexOf_II 0 = .ok (.aload_n 0, 1) := by decide +kernel
theorem d_St_indexOf_II_1 : decode b_St_indexOf_II 1 = .ok (.invokevirtual 492, 3) := by decide +kernel
theorem d_St_indexOf_II_4 : decode b_St_indexOf_II 4 = .ok (.ifCond .eq 19, 3) := by decide +kernel
theorem d_St_indexOf_II_7 : decode b_St_indexOf_II 7 = .ok (.aload_n 0, 1) := by decide +kernel
theorem d_St_indexOf_II_8 : decode b_St_indexOf_II 8 = .ok (.getfield 9, 3) := by decide +kernel
theorem d_St_indexOf_II_11 : decode b_St_indexOf_II 11 = .ok (.iload_n 1, 1) := by decide +kernel
theorem d_St_indexOf_II_12 : decode b_St_indexOf_II 12 = .ok (.iload_n 2, 1) := by decide +kernel
theorem d_St_indexOf_II_13 : decode b_St_indexOf_II 13 = .ok (.aload_n 0, 1) := by decide +kernel
theorem d_St_indexOf_II_14 : decode b_St_indexOf_II 14 = .ok (.invokevirtual 505, 3) := by decide +kernel
theorem d_St_indexOf_II_17 : decode b_St_indexOf_II 17 = .ok (.invokestatic 637, 3) := by decide +kernel
theorem d_St_indexOf_II_20 : decode b_St_indexOf_II 20 = .ok (.goto 16, 3) := by decide +kernel
theorem d_St_indexOf_II_23 : decode b_St_indexOf_II 23 = .ok (.aload_n 0, 1) := by decide +kernel
theorem d_St_indexOf_II_24 : decode b_St_indexOf_II 24 = .ok (.getfield 9, 3) := by decide +kernel
theorem d_St_indexOf_II_27 : decode b_St_indexOf_II 27 = .ok (.iload_n 1, 1) := by decide +kernel
theorem d_St_indexOf_II_28 : decode b_St_indexOf_II 28 = .ok (.iload_n 2, 1) := by decide +kernel
theorem d_St_indexOf_II_29 : decode b_St_indexOf_II 29 = .ok (.aload_n 0, 1) := by decide +kernel
theorem d_St_indexOf_II_30 : decode b_St_indexOf_II 30 = .ok (.invokevirtual 505, 3) := by decide +kernel
theorem d_St_indexOf_II_33 : decode b_St_indexOf_II 33 = .ok (.invokestatic 640, 3) := by decide +kernel
theorem d_St_indexOf_II_36 : decode b_St_indexOf_II 36 = .ok (.ireturn, 1) := by decide +kernel
theorem d_St_indexOf_I_0 : decode b_St_indexOf_I 0 = .ok (.aload_n 0, 1) := by decide +kernel
theorem d_St_indexOf_I_1 : decode b_St_indexOf_I 1 = .ok (.iload_n 1, 1) := by decide +kernel
theorem d_St_indexOf_I_2 : decode b_St_indexOf_I 2 = .ok (.iconst 0, 1) := by decide +kernel
theorem d_St_indexOf_I_3 : decode b_St_indexOf_I 3 = .ok (.invokevirtual 633, 3) := by decide +kernel
theorem d_St_indexOf_I_6 : decode b_St_indexOf_I 6 = .ok (.ireturn, 1) := by decide +kernel
theorem d_A_init_0 : decode b_A_init 0 = .ok (.aload_n 0, 1) := by decide +kernel
theorem d_A_init_1 : decode b_A_init 1 = .ok (.invokespecial 3, 3) := by decide +kernel
theorem d_A_init_4 : decode b_A_init 4 = .ok (.getstatic 18, 3) := by decide +kernel
theorem d_A_init_7 : decode b_A_init 7 = .ok (.ifCond .eq 18, 3) := by decide +kernel
theorem d_A_init_10 : decode b_A_init 10 = .ok (.aload_n 0, 1) := by decide +kernel
theorem d_A_init_11 : decode b_A_init 11 = .ok (.iload_n 1, 1) := by decide +kernel
theorem d_A_init_12 : decode b_A_init 12 = .ok (.newarray .byte, 2) := by decide +kernel
theorem d_A_init_14 : decode b_A_init 14 = .ok (.putfield 15, 3) := by decide +kernel
theorem d_A_init_17 : decode b_A_init 17 = .ok (.aload_n 0, 1) := by decide +kernel
theorem d_A_init_18 : decode b_A_init 18 = .ok (.iconst 0, 1) := by decide +kernel
theorem d_A_init_19 : decode b_A_init 19 = .ok (.putfield 22, 3) := by decide +kernel
theorem d_A_init_22 : decode b_A_init 22 = .ok (.goto 16, 3) := by decide +kernel
theorem d_A_init_25 : decode b_A_init 25 = .ok (.aload_n 0, 1) := by decide +kernel
theorem d_A_init_26 : decode b_A_init 26 = .ok (.iload_n 1, 1) := by decide +kernel
theorem d_A_init_27 : decode b_A_init 27 = .ok (.invokestatic 26, 3) := by decide +kernel
theorem d_A_init_30 : decode b_A_init 30 = .ok (.putfield 15, 3) := by decide +kernel
theorem d_A_init_33 : decode b_A_init 33 = .ok (.aload_n 0, 1) := by decide +kernel
theorem d_A_init_34 : decode b_A_init 34 = .ok (.iconst 1, 1) := by decide +kernel
theorem d_A_init_35 : decode b_A_init 35 = .ok (.putfield 22, 3) := by decide +kernel
theorem d_A_init_38 : decode b_A_init 38 = .ok (.return_, 1) := by decide +kernel
theorem d_SB_init_0 : decode b_SB_init 0 = .ok (.aload_n 0, 1) := by decide +kernel
theorem d_SB_init_1 : decode b_SB_init 1 = .ok (.bipush 16, 2) := by decide +kernel
theorem d_SB_init_3 : decode b_SB_init 3 = .ok (.invokespecial 1, 3) := by decide +kernel
theorem d_SB_init_6 : decode b_SB_init 6 = .ok (.return_, 1) := by decide +kernel
