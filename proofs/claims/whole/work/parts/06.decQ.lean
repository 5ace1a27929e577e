theorem d_Q_init_0 : decode b_Q_init 0 = .ok (.aload_n 0, 1) := by decide +kernel
theorem d_Q_init_1 : decode b_Q_init 1 = .ok (.invokespecial 3, 3) := by decide +kernel
theorem d_Q_init_4 : decode b_Q_init 4 = .ok (.aload_n 0, 1) := by decide +kernel
theorem d_Q_init_5 : decode b_Q_init 5 = .ok (.new 9, 3) := by decide +kernel
theorem d_Q_init_8 : decode b_Q_init 8 = .ok (.dup, 1) := by decide +kernel
theorem d_Q_init_9 : decode b_Q_init 9 = .ok (.invokespecial 11, 3) := by decide +kernel
theorem d_Q_init_12 : decode b_Q_init 12 = .ok (.putfield 12, 3) := by decide +kernel
theorem d_Q_init_15 : decode b_Q_init 15 = .ok (.return_, 1) := by decide +kernel
theorem d_Q_add_0 : decode b_Q_add 0 = .ok (.iload_n 1, 1) := by decide +kernel
theorem d_Q_add_1 : decode b_Q_add 1 = .ok (.bipush 33, 2) := by decide +kernel
theorem d_Q_add_3 : decode b_Q_add 3 = .ok (.if_icmp .lt 9, 3) := by decide +kernel
theorem d_Q_add_6 : decode b_Q_add 6 = .ok (.iload_n 1, 1) := by decide +kernel
theorem d_Q_add_7 : decode b_Q_add 7 = .ok (.bipush 126, 2) := by decide +kernel
theorem d_Q_add_9 : decode b_Q_add 9 = .ok (.if_icmp .le 5, 3) := by decide +kernel
theorem d_Q_add_12 : decode b_Q_add 12 = .ok (.iconst (-1), 1) := by decide +kernel
theorem d_Q_add_13 : decode b_Q_add 13 = .ok (.ireturn, 1) := by decide +kernel
theorem d_Q_add_14 : decode b_Q_add 14 = .ok (.aload_n 0, 1) := by decide +kernel
theorem d_Q_add_15 : decode b_Q_add 15 = .ok (.getfield 12, 3) := by decide +kernel
theorem d_Q_add_18 : decode b_Q_add 18 = .ok (.invokevirtual 18, 3) := by decide +kernel
theorem d_Q_add_21 : decode b_Q_add 21 = .ok (.bipush 40, 2) := by decide +kernel
theorem d_Q_add_23 : decode b_Q_add 23 = .ok (.if_icmp .lt 6, 3) := by decide +kernel
theorem d_Q_add_26 : decode b_Q_add 26 = .ok (.bipush (-6), 2) := by decide +kernel
theorem d_Q_add_28 : decode b_Q_add 28 = .ok (.ireturn, 1) := by decide +kernel
theorem d_Q_add_29 : decode b_Q_add 29 = .ok (.aload_n 0, 1) := by decide +kernel
theorem d_Q_add_30 : decode b_Q_add 30 = .ok (.getfield 12, 3) := by decide +kernel
theorem d_Q_add_33 : decode b_Q_add 33 = .ok (.iload_n 1, 1) := by decide +kernel
theorem d_Q_add_34 : decode b_Q_add 34 = .ok (.i2c, 1) := by decide +kernel
theorem d_Q_add_35 : decode b_Q_add 35 = .ok (.invokevirtual 26, 3) := by decide +kernel
theorem d_Q_add_38 : decode b_Q_add 38 = .ok (.pop, 1) := by decide +kernel
theorem d_Q_add_39 : decode b_Q_add 39 = .ok (.aload_n 0, 1) := by decide +kernel
theorem d_Q_add_40 : decode b_Q_add 40 = .ok (.getfield 12, 3) := by decide +kernel
theorem d_Q_add_43 : decode b_Q_add 43 = .ok (.invokevirtual 18, 3) := by decide +kernel
theorem d_Q_add_46 : decode b_Q_add 46 = .ok (.ireturn, 1) := by decide +kernel
theorem d_Q_length_0 : decode b_Q_length 0 = .ok (.aload_n 0, 1) := by decide +kernel
theorem d_Q_length_1 : decode b_Q_length 1 = .ok (.getfield 12, 3) := by decide +kernel
theorem d_Q_length_4 : decode b_Q_length 4 = .ok (.invokevirtual 18, 3) := by decide +kernel
theorem d_Q_length_7 : decode b_Q_length 7 = .ok (.ireturn, 1) := by decide +kernel
theorem d_Q_lookUp_0 : decode b_Q_lookUp 0 = .ok (.aload_n 0, 1) := by decide +kernel
theorem d_Q_lookUp_1 : decode b_Q_lookUp 1 = .ok (.invokevirtual 30, 3) := by decide +kernel
theorem d_Q_lookUp_4 : decode b_Q_lookUp 4 = .ok (.istore_n 1, 1) := by decide +kernel
theorem d_Q_lookUp_5 : decode b_Q_lookUp 5 = .ok (.aload_n 0, 1) := by decide +kernel
theorem d_Q_lookUp_6 : decode b_Q_lookUp 6 = .ok (.getfield 12, 3) := by decide +kernel
theorem d_Q_lookUp_9 : decode b_Q_lookUp 9 = .ok (.invokevirtual 18, 3) := by decide +kernel
theorem d_Q_lookUp_12 : decode b_Q_lookUp 12 = .ok (.istore_n 2, 1) := by decide +kernel
theorem d_Q_lookUp_13 : decode b_Q_lookUp 13 = .ok (.iload_n 1, 1) := by decide +kernel
theorem d_Q_lookUp_14 : decode b_Q_lookUp 14 = .ok (.ifCond .ne 11, 3) := by decide +kernel
theorem d_Q_lookUp_17 : decode b_Q_lookUp 17 = .ok (.aload_n 0, 1) := by decide +kernel
theorem d_Q_lookUp_18 : decode b_Q_lookUp 18 = .ok (.iconst 0, 1) := by decide +kernel
theorem d_Q_lookUp_19 : decode b_Q_lookUp 19 = .ok (.iload_n 2, 1) := by decide +kernel
theorem d_Q_lookUp_20 : decode b_Q_lookUp 20 = .ok (.iconst 0, 1) := by decide +kernel
theorem d_Q_lookUp_21 : decode b_Q_lookUp 21 = .ok (.invokevirtual 33, 3) := by decide +kernel
theorem d_Q_lookUp_24 : decode b_Q_lookUp 24 = .ok (.ireturn, 1) := by decide +kernel
theorem d_Q_lookUp_25 : decode b_Q_lookUp 25 = .ok (.iload_n 2, 1) := by decide +kernel
theorem d_Q_lookUp_26 : decode b_Q_lookUp 26 = .ok (.iload_n 1, 1) := by decide +kernel
theorem d_Q_lookUp_27 : decode b_Q_lookUp 27 = .ok (.isub, 1) := by decide +kernel
theorem d_Q_lookUp_28 : decode b_Q_lookUp 28 = .ok (.iconst 2, 1) := by decide +kernel
theorem d_Q_lookUp_29 : decode b_Q_lookUp 29 = .ok (.if_icmp .le 43, 3) := by decide +kernel
theorem d_Q_lookUp_32 : decode b_Q_lookUp 32 = .ok (.aload_n 0, 1) := by decide +kernel
theorem d_Q_lookUp_33 : decode b_Q_lookUp 33 = .ok (.getfield 12, 3) := by decide +kernel
theorem d_Q_lookUp_36 : decode b_Q_lookUp 36 = .ok (.iload_n 1, 1) := by decide +kernel
theorem d_Q_lookUp_37 : decode b_Q_lookUp 37 = .ok (.invokevirtual 37, 3) := by decide +kernel
theorem d_Q_lookUp_40 : decode b_Q_lookUp 40 = .ok (.bipush 76, 2) := by decide +kernel
theorem d_Q_lookUp_42 : decode b_Q_lookUp 42 = .ok (.if_icmp .ne 30, 3) := by decide +kernel
theorem d_Q_lookUp_45 : decode b_Q_lookUp 45 = .ok (.aload_n 0, 1) := by decide +kernel
theorem d_Q_lookUp_46 : decode b_Q_lookUp 46 = .ok (.getfield 12, 3) := by decide +kernel
theorem d_Q_lookUp_49 : decode b_Q_lookUp 49 = .ok (.iload_n 2, 1) := by decide +kernel
theorem d_Q_lookUp_50 : decode b_Q_lookUp 50 = .ok (.iconst 1, 1) := by decide +kernel
theorem d_Q_lookUp_51 : decode b_Q_lookUp 51 = .ok (.isub, 1) := by decide +kernel
theorem d_Q_lookUp_52 : decode b_Q_lookUp 52 = .ok (.invokevirtual 37, 3) := by decide +kernel
theorem d_Q_lookUp_55 : decode b_Q_lookUp 55 = .ok (.bipush 59, 2) := by decide +kernel
theorem d_Q_lookUp_57 : decode b_Q_lookUp 57 = .ok (.if_icmp .ne 15, 3) := by decide +kernel
theorem d_Q_lookUp_60 : decode b_Q_lookUp 60 = .ok (.aload_n 0, 1) := by decide +kernel
theorem d_Q_lookUp_61 : decode b_Q_lookUp 61 = .ok (.iload_n 1, 1) := by decide +kernel
theorem d_Q_lookUp_62 : decode b_Q_lookUp 62 = .ok (.iconst 1, 1) := by decide +kernel
theorem d_Q_lookUp_63 : decode b_Q_lookUp 63 = .ok (.iadd, 1) := by decide +kernel
theorem d_Q_lookUp_64 : decode b_Q_lookUp 64 = .ok (.iload_n 2, 1) := by decide +kernel
theorem d_Q_lookUp_65 : decode b_Q_lookUp 65 = .ok (.iconst 1, 1) := by decide +kernel
theorem d_Q_lookUp_66 : decode b_Q_lookUp 66 = .ok (.isub, 1) := by decide +kernel
theorem d_Q_lookUp_67 : decode b_Q_lookUp 67 = .ok (.iload_n 1, 1) := by decide +kernel
theorem d_Q_lookUp_68 : decode b_Q_lookUp 68 = .ok (.invokevirtual 33, 3) := by decide +kernel
theorem d_Q_lookUp_71 : decode b_Q_lookUp 71 = .ok (.ireturn, 1) := by decide +kernel
theorem d_Q_lookUp_72 : decode b_Q_lookUp 72 = .ok (.iload_n 2, 1) := by decide +kernel
theorem d_Q_lookUp_73 : decode b_Q_lookUp 73 = .ok (.iload_n 1, 1) := by decide +kernel
theorem d_Q_lookUp_74 : decode b_Q_lookUp 74 = .ok (.isub, 1) := by decide +kernel
theorem d_Q_lookUp_75 : decode b_Q_lookUp 75 = .ok (.iconst 2, 1) := by decide +kernel
theorem d_Q_lookUp_76 : decode b_Q_lookUp 76 = .ok (.if_icmp .ge 11, 3) := by decide +kernel
theorem d_Q_lookUp_79 : decode b_Q_lookUp 79 = .ok (.aload_n 0, 1) := by decide +kernel
theorem d_Q_lookUp_80 : decode b_Q_lookUp 80 = .ok (.iload_n 1, 1) := by decide +kernel
theorem d_Q_lookUp_81 : decode b_Q_lookUp 81 = .ok (.invokevirtual 41, 3) := by decide +kernel
theorem d_Q_lookUp_84 : decode b_Q_lookUp 84 = .ok (.goto 4, 3) := by decide +kernel
theorem d_Q_lookUp_87 : decode b_Q_lookUp 87 = .ok (.iconst (-1), 1) := by decide +kernel
theorem d_Q_lookUp_88 : decode b_Q_lookUp 88 = .ok (.ireturn, 1) := by decide +kernel
theorem d_Q_countLevels_0 : decode b_Q_countLevels 0 = .ok (.iconst 0, 1) := by decide +kernel
theorem d_Q_countLevels_1 : decode b_Q_countLevels 1 = .ok (.istore_n 1, 1) := by decide +kernel
theorem d_Q_countLevels_2 : decode b_Q_countLevels 2 = .ok (.iload_n 1, 1) := by decide +kernel
theorem d_Q_countLevels_3 : decode b_Q_countLevels 3 = .ok (.aload_n 0, 1) := by decide +kernel
theorem d_Q_countLevels_4 : decode b_Q_countLevels 4 = .ok (.getfield 12, 3) := by decide +kernel
theorem d_Q_countLevels_7 : decode b_Q_countLevels 7 = .ok (.invokevirtual 18, 3) := by decide +kernel
theorem d_Q_countLevels_10 : decode b_Q_countLevels 10 = .ok (.if_icmp .ge 22, 3) := by decide +kernel
theorem d_Q_countLevels_13 : decode b_Q_countLevels 13 = .ok (.aload_n 0, 1) := by decide +kernel
theorem d_Q_countLevels_14 : decode b_Q_countLevels 14 = .ok (.getfield 12, 3) := by decide +kernel
theorem d_Q_countLevels_17 : decode b_Q_countLevels 17 = .ok (.iload_n 1, 1) := by decide +kernel
theorem d_Q_countLevels_18 : decode b_Q_countLevels 18 = .ok (.invokevirtual 37, 3) := by decide +kernel
theorem d_Q_countLevels_21 : decode b_Q_countLevels 21 = .ok (.bipush 91, 2) := by decide +kernel
theorem d_Q_countLevels_23 : decode b_Q_countLevels 23 = .ok (.if_icmp .ne 9, 3) := by decide +kernel
theorem d_Q_countLevels_26 : decode b_Q_countLevels 26 = .ok (.iinc 1 1, 3) := by decide +kernel
theorem d_Q_countLevels_29 : decode b_Q_countLevels 29 = .ok (.goto (-27), 3) := by decide +kernel
theorem d_Q_countLevels_32 : decode b_Q_countLevels 32 = .ok (.iload_n 1, 1) := by decide +kernel
theorem d_Q_countLevels_33 : decode b_Q_countLevels 33 = .ok (.ireturn, 1) := by decide +kernel
theorem d_Q_lookUpElement_0 : decode b_Q_lookUpElement 0 = .ok (.iconst 0, 1) := by decide +kernel
theorem d_Q_lookUpElement_1 : decode b_Q_lookUpElement 1 = .ok (.istore 4, 2) := by decide +kernel
theorem d_Q_lookUpElement_3 : decode b_Q_lookUpElement 3 = .ok (.iload 4, 2) := by decide +kernel
theorem d_Q_lookUpElement_5 : decode b_Q_lookUpElement 5 = .ok (.bipush 25, 2) := by decide +kernel
theorem d_Q_lookUpElement_7 : decode b_Q_lookUpElement 7 = .ok (.if_icmp .ge 58, 3) := by decide +kernel
theorem d_Q_lookUpElement_10 : decode b_Q_lookUpElement 10 = .ok (.iload 4, 2) := by decide +kernel
theorem d_Q_lookUpElement_12 : decode b_Q_lookUpElement 12 = .ok (.invokestatic 45, 3) := by decide +kernel
theorem d_Q_lookUpElement_15 : decode b_Q_lookUpElement 15 = .ok (.astore 5, 2) := by decide +kernel
theorem d_Q_lookUpElement_17 : decode b_Q_lookUpElement 17 = .ok (.iload_n 2, 1) := by decide +kernel
theorem d_Q_lookUpElement_18 : decode b_Q_lookUpElement 18 = .ok (.iload_n 1, 1) := by decide +kernel
theorem d_Q_lookUpElement_19 : decode b_Q_lookUpElement 19 = .ok (.isub, 1) := by decide +kernel
theorem d_Q_lookUpElement_20 : decode b_Q_lookUpElement 20 = .ok (.aload 5, 2) := by decide +kernel
theorem d_Q_lookUpElement_22 : decode b_Q_lookUpElement 22 = .ok (.invokevirtual 51, 3) := by decide +kernel
theorem d_Q_lookUpElement_25 : decode b_Q_lookUpElement 25 = .ok (.if_icmp .ne 34, 3) := by decide +kernel
theorem d_Q_lookUpElement_28 : decode b_Q_lookUpElement 28 = .ok (.aload_n 0, 1) := by decide +kernel
theorem d_Q_lookUpElement_29 : decode b_Q_lookUpElement 29 = .ok (.aload 5, 2) := by decide +kernel
theorem d_Q_lookUpElement_31 : decode b_Q_lookUpElement 31 = .ok (.iload_n 1, 1) := by decide +kernel
theorem d_Q_lookUpElement_32 : decode b_Q_lookUpElement 32 = .ok (.iload_n 2, 1) := by decide +kernel
theorem d_Q_lookUpElement_33 : decode b_Q_lookUpElement 33 = .ok (.invokevirtual 54, 3) := by decide +kernel
theorem d_Q_lookUpElement_36 : decode b_Q_lookUpElement 36 = .ok (.ifCond .eq 23, 3) := by decide +kernel
theorem d_Q_lookUpElement_39 : decode b_Q_lookUpElement 39 = .ok (.iload 4, 2) := by decide +kernel
theorem d_Q_lookUpElement_41 : decode b_Q_lookUpElement 41 = .ok (.invokestatic 58, 3) := by decide +kernel
theorem d_Q_lookUpElement_44 : decode b_Q_lookUpElement 44 = .ok (.ifCond .eq 8, 3) := by decide +kernel
theorem d_Q_lookUpElement_47 : decode b_Q_lookUpElement 47 = .ok (.bipush (-4), 2) := by decide +kernel
theorem d_Q_lookUpElement_49 : decode b_Q_lookUpElement 49 = .ok (.goto 9, 3) := by decide +kernel
theorem d_Q_lookUpElement_52 : decode b_Q_lookUpElement 52 = .ok (.iload 4, 2) := by decide +kernel
theorem d_Q_lookUpElement_54 : decode b_Q_lookUpElement 54 = .ok (.iload_n 3, 1) := by decide +kernel
theorem d_Q_lookUpElement_55 : decode b_Q_lookUpElement 55 = .ok (.invokestatic 62, 3) := by decide +kernel
theorem d_Q_lookUpElement_58 : decode b_Q_lookUpElement 58 = .ok (.ireturn, 1) := by decide +kernel
theorem d_Q_lookUpElement_59 : decode b_Q_lookUpElement 59 = .ok (.iinc 4 1, 3) := by decide +kernel
theorem d_Q_lookUpElement_62 : decode b_Q_lookUpElement 62 = .ok (.goto (-59), 3) := by decide +kernel
theorem d_Q_lookUpElement_65 : decode b_Q_lookUpElement 65 = .ok (.aload_n 0, 1) := by decide +kernel
theorem d_Q_lookUpElement_66 : decode b_Q_lookUpElement 66 = .ok (.ldc 66, 2) := by decide +kernel
theorem d_Q_lookUpElement_68 : decode b_Q_lookUpElement 68 = .ok (.iload_n 1, 1) := by decide +kernel
theorem d_Q_lookUpElement_69 : decode b_Q_lookUpElement 69 = .ok (.iload_n 2, 1) := by decide +kernel
theorem d_Q_lookUpElement_70 : decode b_Q_lookUpElement 70 = .ok (.invokevirtual 54, 3) := by decide +kernel
theorem d_Q_lookUpElement_73 : decode b_Q_lookUpElement 73 = .ok (.ifCond .eq 8, 3) := by decide +kernel
theorem d_Q_lookUpElement_76 : decode b_Q_lookUpElement 76 = .ok (.bipush (-4), 2) := by decide +kernel
theorem d_Q_lookUpElement_78 : decode b_Q_lookUpElement 78 = .ok (.goto 4, 3) := by decide +kernel
theorem d_Q_lookUpElement_81 : decode b_Q_lookUpElement 81 = .ok (.iconst (-1), 1) := by decide +kernel
theorem d_Q_lookUpElement_82 : decode b_Q_lookUpElement 82 = .ok (.ireturn, 1) := by decide +kernel
theorem d_Q_standsAt_0 : decode b_Q_standsAt 0 = .ok (.iload_n 3, 1) := by decide +kernel
theorem d_Q_standsAt_1 : decode b_Q_standsAt 1 = .ok (.iload_n 2, 1) := by decide +kernel
theorem d_Q_standsAt_2 : decode b_Q_standsAt 2 = .ok (.isub, 1) := by decide +kernel
theorem d_Q_standsAt_3 : decode b_Q_standsAt 3 = .ok (.aload_n 1, 1) := by decide +kernel
theorem d_Q_standsAt_4 : decode b_Q_standsAt 4 = .ok (.invokevirtual 51, 3) := by decide +kernel
theorem d_Q_standsAt_7 : decode b_Q_standsAt 7 = .ok (.if_icmp .ge 5, 3) := by decide +kernel
theorem d_Q_standsAt_10 : decode b_Q_standsAt 10 = .ok (.iconst 0, 1) := by decide +kernel
theorem d_Q_standsAt_11 : decode b_Q_standsAt 11 = .ok (.ireturn, 1) := by decide +kernel
theorem d_Q_standsAt_12 : decode b_Q_standsAt 12 = .ok (.iconst 0, 1) := by decide +kernel
theorem d_Q_standsAt_13 : decode b_Q_standsAt 13 = .ok (.istore 4, 2) := by decide +kernel
theorem d_Q_standsAt_15 : decode b_Q_standsAt 15 = .ok (.iload 4, 2) := by decide +kernel
theorem d_Q_standsAt_17 : decode b_Q_standsAt 17 = .ok (.aload_n 1, 1) := by decide +kernel
theorem d_Q_standsAt_18 : decode b_Q_standsAt 18 = .ok (.invokevirtual 51, 3) := by decide +kernel
theorem d_Q_standsAt_21 : decode b_Q_standsAt 21 = .ok (.if_icmp .ge 31, 3) := by decide +kernel
theorem d_Q_standsAt_24 : decode b_Q_standsAt 24 = .ok (.aload_n 0, 1) := by decide +kernel
theorem d_Q_standsAt_25 : decode b_Q_standsAt 25 = .ok (.getfield 12, 3) := by decide +kernel
theorem d_Q_standsAt_28 : decode b_Q_standsAt 28 = .ok (.iload_n 2, 1) := by decide +kernel
theorem d_Q_standsAt_29 : decode b_Q_standsAt 29 = .ok (.iload 4, 2) := by decide +kernel
theorem d_Q_standsAt_31 : decode b_Q_standsAt 31 = .ok (.iadd, 1) := by decide +kernel
theorem d_Q_standsAt_32 : decode b_Q_standsAt 32 = .ok (.invokevirtual 37, 3) := by decide +kernel
theorem d_Q_standsAt_35 : decode b_Q_standsAt 35 = .ok (.aload_n 1, 1) := by decide +kernel
theorem d_Q_standsAt_36 : decode b_Q_standsAt 36 = .ok (.iload 4, 2) := by decide +kernel
theorem d_Q_standsAt_38 : decode b_Q_standsAt 38 = .ok (.invokevirtual 73, 3) := by decide +kernel
theorem d_Q_standsAt_41 : decode b_Q_standsAt 41 = .ok (.if_icmp .eq 5, 3) := by decide +kernel
theorem d_Q_standsAt_44 : decode b_Q_standsAt 44 = .ok (.iconst 0, 1) := by decide +kernel
theorem d_Q_standsAt_45 : decode b_Q_standsAt 45 = .ok (.ireturn, 1) := by decide +kernel
theorem d_Q_standsAt_46 : decode b_Q_standsAt 46 = .ok (.iinc 4 1, 3) := by decide +kernel
theorem d_Q_standsAt_49 : decode b_Q_standsAt 49 = .ok (.goto (-34), 3) := by decide +kernel
theorem d_Q_standsAt_52 : decode b_Q_standsAt 52 = .ok (.iconst 1, 1) := by decide +kernel
theorem d_Q_standsAt_53 : decode b_Q_standsAt 53 = .ok (.ireturn, 1) := by decide +kernel
theorem d_Q_lookUpCode_0 : decode b_Q_lookUpCode 0 = .ok (.iload_n 1, 1) := by decide +kernel
theorem d_Q_lookUpCode_1 : decode b_Q_lookUpCode 1 = .ok (.aload_n 0, 1) := by decide +kernel
theorem d_Q_lookUpCode_2 : decode b_Q_lookUpCode 2 = .ok (.getfield 12, 3) := by decide +kernel
theorem d_Q_lookUpCode_5 : decode b_Q_lookUpCode 5 = .ok (.invokevirtual 18, 3) := by decide +kernel
theorem d_Q_lookUpCode_8 : decode b_Q_lookUpCode 8 = .ok (.if_icmp .ne 6, 3) := by decide +kernel
theorem d_Q_lookUpCode_11 : decode b_Q_lookUpCode 11 = .ok (.bipush (-4), 2) := by decide +kernel
theorem d_Q_lookUpCode_13 : decode b_Q_lookUpCode 13 = .ok (.ireturn, 1) := by decide +kernel
theorem d_Q_lookUpCode_14 : decode b_Q_lookUpCode 14 = .ok (.ldc 68, 2) := by decide +kernel
theorem d_Q_lookUpCode_16 : decode b_Q_lookUpCode 16 = .ok (.aload_n 0, 1) := by decide +kernel
theorem d_Q_lookUpCode_17 : decode b_Q_lookUpCode 17 = .ok (.getfield 12, 3) := by decide +kernel
theorem d_Q_lookUpCode_20 : decode b_Q_lookUpCode 20 = .ok (.iload_n 1, 1) := by decide +kernel
theorem d_Q_lookUpCode_21 : decode b_Q_lookUpCode 21 = .ok (.invokevirtual 37, 3) := by decide +kernel
theorem d_Q_lookUpCode_24 : decode b_Q_lookUpCode 24 = .ok (.invokevirtual 70, 3) := by decide +kernel
theorem d_Q_lookUpCode_27 : decode b_Q_lookUpCode 27 = .ok (.istore_n 2, 1) := by decide +kernel
theorem d_Q_lookUpCode_28 : decode b_Q_lookUpCode 28 = .ok (.iload_n 2, 1) := by decide +kernel
theorem d_Q_lookUpCode_29 : decode b_Q_lookUpCode 29 = .ok (.ifCond .lt 9, 3) := by decide +kernel
theorem d_Q_lookUpCode_32 : decode b_Q_lookUpCode 32 = .ok (.iload_n 2, 1) := by decide +kernel
theorem d_Q_lookUpCode_33 : decode b_Q_lookUpCode 33 = .ok (.bipush 8, 2) := by decide +kernel
theorem d_Q_lookUpCode_35 : decode b_Q_lookUpCode 35 = .ok (.if_icmp .ne 8, 3) := by decide +kernel
theorem d_Q_lookUpCode_38 : decode b_Q_lookUpCode 38 = .ok (.bipush (-4), 2) := by decide +kernel
theorem d_Q_lookUpCode_40 : decode b_Q_lookUpCode 40 = .ok (.goto 8, 3) := by decide +kernel
theorem d_Q_lookUpCode_43 : decode b_Q_lookUpCode 43 = .ok (.iload_n 2, 1) := by decide +kernel
theorem d_Q_lookUpCode_44 : decode b_Q_lookUpCode 44 = .ok (.iload_n 1, 1) := by decide +kernel
theorem d_Q_lookUpCode_45 : decode b_Q_lookUpCode 45 = .ok (.invokestatic 62, 3) := by decide +kernel
theorem d_Q_lookUpCode_48 : decode b_Q_lookUpCode 48 = .ok (.ireturn, 1) := by decide +kernel
theorem d_Q_clear_0 : decode b_Q_clear 0 = .ok (.aload_n 0, 1) := by decide +kernel
theorem d_Q_clear_1 : decode b_Q_clear 1 = .ok (.getfield 12, 3) := by decide +kernel
theorem d_Q_clear_4 : decode b_Q_clear 4 = .ok (.iconst 0, 1) := by decide +kernel
theorem d_Q_clear_5 : decode b_Q_clear 5 = .ok (.invokevirtual 22, 3) := by decide +kernel
theorem d_Q_clear_8 : decode b_Q_clear 8 = .ok (.return_, 1) := by decide +kernel
