theorem d_S_init_0 : decode b_S_init 0 = .ok (.aload_n 0, 1) := by decide +kernel
theorem d_S_init_1 : decode b_S_init 1 = .ok (.invokespecial 3, 3) := by decide +kernel
theorem d_S_init_4 : decode b_S_init 4 = .ok (.aload_n 0, 1) := by decide +kernel
theorem d_S_init_5 : decode b_S_init 5 = .ok (.new 9, 3) := by decide +kernel
theorem d_S_init_8 : decode b_S_init 8 = .ok (.dup, 1) := by decide +kernel
theorem d_S_init_9 : decode b_S_init 9 = .ok (.invokespecial 11, 3) := by decide +kernel
theorem d_S_init_12 : decode b_S_init 12 = .ok (.putfield 12, 3) := by decide +kernel
theorem d_S_init_15 : decode b_S_init 15 = .ok (.return_, 1) := by decide +kernel
theorem d_S_write_0 : decode b_S_write 0 = .ok (.aload_n 0, 1) := by decide +kernel
theorem d_S_write_1 : decode b_S_write 1 = .ok (.getfield 12, 3) := by decide +kernel
theorem d_S_write_4 : decode b_S_write 4 = .ok (.iconst 0, 1) := by decide +kernel
theorem d_S_write_5 : decode b_S_write 5 = .ok (.invokevirtual 26, 3) := by decide +kernel
theorem d_S_write_8 : decode b_S_write 8 = .ok (.iload_n 1, 1) := by decide +kernel
theorem d_S_write_9 : decode b_S_write 9 = .ok (.invokestatic 30, 3) := by decide +kernel
theorem d_S_write_12 : decode b_S_write 12 = .ok (.istore_n 3, 1) := by decide +kernel
theorem d_S_write_13 : decode b_S_write 13 = .ok (.iload_n 2, 1) := by decide +kernel
theorem d_S_write_14 : decode b_S_write 14 = .ok (.tableswitch 164 0 6 #[42, 49, 64, 101, 120, 143, 155], 42) := by decide +kernel
theorem d_S_write_56 : decode b_S_write 56 = .ok (.aload_n 0, 1) := by decide +kernel
theorem d_S_write_57 : decode b_S_write 57 = .ok (.iload_n 1, 1) := by decide +kernel
theorem d_S_write_58 : decode b_S_write 58 = .ok (.invokevirtual 36, 3) := by decide +kernel
theorem d_S_write_61 : decode b_S_write 61 = .ok (.iconst 1, 1) := by decide +kernel
theorem d_S_write_62 : decode b_S_write 62 = .ok (.ireturn, 1) := by decide +kernel
theorem d_S_write_63 : decode b_S_write 63 = .ok (.aload_n 0, 1) := by decide +kernel
theorem d_S_write_64 : decode b_S_write 64 = .ok (.iload_n 3, 1) := by decide +kernel
theorem d_S_write_65 : decode b_S_write 65 = .ok (.invokestatic 39, 3) := by decide +kernel
theorem d_S_write_68 : decode b_S_write 68 = .ok (.invokevirtual 43, 3) := by decide +kernel
theorem d_S_write_71 : decode b_S_write 71 = .ok (.aload_n 0, 1) := by decide +kernel
theorem d_S_write_72 : decode b_S_write 72 = .ok (.iload_n 1, 1) := by decide +kernel
theorem d_S_write_73 : decode b_S_write 73 = .ok (.invokevirtual 47, 3) := by decide +kernel
theorem d_S_write_76 : decode b_S_write 76 = .ok (.iconst 1, 1) := by decide +kernel
theorem d_S_write_77 : decode b_S_write 77 = .ok (.ireturn, 1) := by decide +kernel
theorem d_S_write_78 : decode b_S_write 78 = .ok (.aload_n 0, 1) := by decide +kernel
theorem d_S_write_79 : decode b_S_write 79 = .ok (.iload_n 3, 1) := by decide +kernel
theorem d_S_write_80 : decode b_S_write 80 = .ok (.invokestatic 39, 3) := by decide +kernel
theorem d_S_write_83 : decode b_S_write 83 = .ok (.bipush 36, 2) := by decide +kernel
theorem d_S_write_85 : decode b_S_write 85 = .ok (.bipush 46, 2) := by decide +kernel
theorem d_S_write_87 : decode b_S_write 87 = .ok (.invokevirtual 50, 3) := by decide +kernel
theorem d_S_write_90 : decode b_S_write 90 = .ok (.aload_n 0, 1) := by decide +kernel
theorem d_S_write_91 : decode b_S_write 91 = .ok (.iload_n 1, 1) := by decide +kernel
theorem d_S_write_92 : decode b_S_write 92 = .ok (.invokevirtual 47, 3) := by decide +kernel
theorem d_S_write_95 : decode b_S_write 95 = .ok (.iload_n 3, 1) := by decide +kernel
theorem d_S_write_96 : decode b_S_write 96 = .ok (.invokestatic 54, 3) := by decide +kernel
theorem d_S_write_99 : decode b_S_write 99 = .ok (.ifCond .ne 14, 3) := by decide +kernel
theorem d_S_write_102 : decode b_S_write 102 = .ok (.iload_n 3, 1) := by decide +kernel
theorem d_S_write_103 : decode b_S_write 103 = .ok (.invokestatic 58, 3) := by decide +kernel
theorem d_S_write_106 : decode b_S_write 106 = .ok (.ifCond .ne 7, 3) := by decide +kernel
theorem d_S_write_109 : decode b_S_write 109 = .ok (.iconst 1, 1) := by decide +kernel
theorem d_S_write_110 : decode b_S_write 110 = .ok (.goto 4, 3) := by decide +kernel
theorem d_S_write_113 : decode b_S_write 113 = .ok (.iconst 0, 1) := by decide +kernel
theorem d_S_write_114 : decode b_S_write 114 = .ok (.ireturn, 1) := by decide +kernel
theorem d_S_write_115 : decode b_S_write 115 = .ok (.aload_n 0, 1) := by decide +kernel
theorem d_S_write_116 : decode b_S_write 116 = .ok (.getfield 12, 3) := by decide +kernel
theorem d_S_write_119 : decode b_S_write 119 = .ok (.iload_n 3, 1) := by decide +kernel
theorem d_S_write_120 : decode b_S_write 120 = .ok (.invokestatic 39, 3) := by decide +kernel
theorem d_S_write_123 : decode b_S_write 123 = .ok (.invokevirtual 61, 3) := by decide +kernel
theorem d_S_write_126 : decode b_S_write 126 = .ok (.pop, 1) := by decide +kernel
theorem d_S_write_127 : decode b_S_write 127 = .ok (.aload_n 0, 1) := by decide +kernel
theorem d_S_write_128 : decode b_S_write 128 = .ok (.iload_n 1, 1) := by decide +kernel
theorem d_S_write_129 : decode b_S_write 129 = .ok (.invokevirtual 47, 3) := by decide +kernel
theorem d_S_write_132 : decode b_S_write 132 = .ok (.iconst 1, 1) := by decide +kernel
theorem d_S_write_133 : decode b_S_write 133 = .ok (.ireturn, 1) := by decide +kernel
theorem d_S_write_134 : decode b_S_write 134 = .ok (.aload_n 0, 1) := by decide +kernel
theorem d_S_write_135 : decode b_S_write 135 = .ok (.getfield 12, 3) := by decide +kernel
theorem d_S_write_138 : decode b_S_write 138 = .ok (.iload_n 3, 1) := by decide +kernel
theorem d_S_write_139 : decode b_S_write 139 = .ok (.bipush 10, 2) := by decide +kernel
theorem d_S_write_141 : decode b_S_write 141 = .ok (.if_icmp .gt 8, 3) := by decide +kernel
theorem d_S_write_144 : decode b_S_write 144 = .ok (.ldc 65, 2) := by decide +kernel
theorem d_S_write_146 : decode b_S_write 146 = .ok (.goto 5, 3) := by decide +kernel
theorem d_S_write_149 : decode b_S_write 149 = .ok (.ldc 67, 2) := by decide +kernel
theorem d_S_write_151 : decode b_S_write 151 = .ok (.invokevirtual 61, 3) := by decide +kernel
theorem d_S_write_154 : decode b_S_write 154 = .ok (.pop, 1) := by decide +kernel
theorem d_S_write_155 : decode b_S_write 155 = .ok (.iconst 1, 1) := by decide +kernel
theorem d_S_write_156 : decode b_S_write 156 = .ok (.ireturn, 1) := by decide +kernel
theorem d_S_write_157 : decode b_S_write 157 = .ok (.aload_n 0, 1) := by decide +kernel
theorem d_S_write_158 : decode b_S_write 158 = .ok (.iload_n 1, 1) := by decide +kernel
theorem d_S_write_159 : decode b_S_write 159 = .ok (.invokevirtual 69, 3) := by decide +kernel
theorem d_S_write_162 : decode b_S_write 162 = .ok (.aload_n 0, 1) := by decide +kernel
theorem d_S_write_163 : decode b_S_write 163 = .ok (.iload_n 1, 1) := by decide +kernel
theorem d_S_write_164 : decode b_S_write 164 = .ok (.invokevirtual 36, 3) := by decide +kernel
theorem d_S_write_167 : decode b_S_write 167 = .ok (.iconst 1, 1) := by decide +kernel
theorem d_S_write_168 : decode b_S_write 168 = .ok (.ireturn, 1) := by decide +kernel
theorem d_S_write_169 : decode b_S_write 169 = .ok (.aload_n 0, 1) := by decide +kernel
theorem d_S_write_170 : decode b_S_write 170 = .ok (.iload_n 1, 1) := by decide +kernel
theorem d_S_write_171 : decode b_S_write 171 = .ok (.bipush 47, 2) := by decide +kernel
theorem d_S_write_173 : decode b_S_write 173 = .ok (.invokevirtual 72, 3) := by decide +kernel
theorem d_S_write_176 : decode b_S_write 176 = .ok (.iconst 1, 1) := by decide +kernel
theorem d_S_write_177 : decode b_S_write 177 = .ok (.ireturn, 1) := by decide +kernel
theorem d_S_write_178 : decode b_S_write 178 = .ok (.aload_n 0, 1) := by decide +kernel
theorem d_S_write_179 : decode b_S_write 179 = .ok (.iload_n 1, 1) := by decide +kernel
theorem d_S_write_180 : decode b_S_write 180 = .ok (.invokestatic 76, 3) := by decide +kernel
theorem d_S_write_183 : decode b_S_write 183 = .ok (.invokevirtual 79, 3) := by decide +kernel
theorem d_S_write_186 : decode b_S_write 186 = .ok (.iconst 1, 1) := by decide +kernel
theorem d_S_write_187 : decode b_S_write 187 = .ok (.ireturn, 1) := by decide +kernel
theorem d_S_addName_0 : decode b_S_addName 0 = .ok (.iload_n 1, 1) := by decide +kernel
theorem d_S_addName_1 : decode b_S_addName 1 = .ok (.invokestatic 82, 3) := by decide +kernel
theorem d_S_addName_4 : decode b_S_addName 4 = .ok (.ifCond .eq 13, 3) := by decide +kernel
theorem d_S_addName_7 : decode b_S_addName 7 = .ok (.aload_n 0, 1) := by decide +kernel
theorem d_S_addName_8 : decode b_S_addName 8 = .ok (.iload_n 1, 1) := by decide +kernel
theorem d_S_addName_9 : decode b_S_addName 9 = .ok (.bipush 46, 2) := by decide +kernel
theorem d_S_addName_11 : decode b_S_addName 11 = .ok (.invokevirtual 72, 3) := by decide +kernel
theorem d_S_addName_14 : decode b_S_addName 14 = .ok (.goto 15, 3) := by decide +kernel
theorem d_S_addName_17 : decode b_S_addName 17 = .ok (.aload_n 0, 1) := by decide +kernel
theorem d_S_addName_18 : decode b_S_addName 18 = .ok (.getfield 12, 3) := by decide +kernel
theorem d_S_addName_21 : decode b_S_addName 21 = .ok (.iload_n 1, 1) := by decide +kernel
theorem d_S_addName_22 : decode b_S_addName 22 = .ok (.invokestatic 39, 3) := by decide +kernel
theorem d_S_addName_25 : decode b_S_addName 25 = .ok (.invokevirtual 61, 3) := by decide +kernel
theorem d_S_addName_28 : decode b_S_addName 28 = .ok (.pop, 1) := by decide +kernel
theorem d_S_addName_29 : decode b_S_addName 29 = .ok (.return_, 1) := by decide +kernel
theorem d_S_addCode_0 : decode b_S_addCode 0 = .ok (.iconst 0, 1) := by decide +kernel
theorem d_S_addCode_1 : decode b_S_addCode 1 = .ok (.istore_n 3, 1) := by decide +kernel
theorem d_S_addCode_2 : decode b_S_addCode 2 = .ok (.iload_n 3, 1) := by decide +kernel
theorem d_S_addCode_3 : decode b_S_addCode 3 = .ok (.iload_n 1, 1) := by decide +kernel
theorem d_S_addCode_4 : decode b_S_addCode 4 = .ok (.invokestatic 85, 3) := by decide +kernel
theorem d_S_addCode_7 : decode b_S_addCode 7 = .ok (.if_icmp .ge 19, 3) := by decide +kernel
theorem d_S_addCode_10 : decode b_S_addCode 10 = .ok (.aload_n 0, 1) := by decide +kernel
theorem d_S_addCode_11 : decode b_S_addCode 11 = .ok (.getfield 12, 3) := by decide +kernel
theorem d_S_addCode_14 : decode b_S_addCode 14 = .ok (.bipush 91, 2) := by decide +kernel
theorem d_S_addCode_16 : decode b_S_addCode 16 = .ok (.invokevirtual 88, 3) := by decide +kernel
theorem d_S_addCode_19 : decode b_S_addCode 19 = .ok (.pop, 1) := by decide +kernel
theorem d_S_addCode_20 : decode b_S_addCode 20 = .ok (.iinc 3 1, 3) := by decide +kernel
theorem d_S_addCode_23 : decode b_S_addCode 23 = .ok (.goto (-21), 3) := by decide +kernel
theorem d_S_addCode_26 : decode b_S_addCode 26 = .ok (.iload_n 1, 1) := by decide +kernel
theorem d_S_addCode_27 : decode b_S_addCode 27 = .ok (.invokestatic 30, 3) := by decide +kernel
theorem d_S_addCode_30 : decode b_S_addCode 30 = .ok (.istore_n 3, 1) := by decide +kernel
theorem d_S_addCode_31 : decode b_S_addCode 31 = .ok (.iload_n 3, 1) := by decide +kernel
theorem d_S_addCode_32 : decode b_S_addCode 32 = .ok (.invokestatic 91, 3) := by decide +kernel
theorem d_S_addCode_35 : decode b_S_addCode 35 = .ok (.ifCond .eq 18, 3) := by decide +kernel
theorem d_S_addCode_38 : decode b_S_addCode 38 = .ok (.aload_n 0, 1) := by decide +kernel
theorem d_S_addCode_39 : decode b_S_addCode 39 = .ok (.getfield 12, 3) := by decide +kernel
theorem d_S_addCode_42 : decode b_S_addCode 42 = .ok (.ldc 94, 2) := by decide +kernel
theorem d_S_addCode_44 : decode b_S_addCode 44 = .ok (.iload_n 3, 1) := by decide +kernel
theorem d_S_addCode_45 : decode b_S_addCode 45 = .ok (.invokevirtual 96, 3) := by decide +kernel
theorem d_S_addCode_48 : decode b_S_addCode 48 = .ok (.invokevirtual 88, 3) := by decide +kernel
theorem d_S_addCode_51 : decode b_S_addCode 51 = .ok (.pop, 1) := by decide +kernel
theorem d_S_addCode_52 : decode b_S_addCode 52 = .ok (.return_, 1) := by decide +kernel
theorem d_S_addCode_53 : decode b_S_addCode 53 = .ok (.aload_n 0, 1) := by decide +kernel
theorem d_S_addCode_54 : decode b_S_addCode 54 = .ok (.getfield 12, 3) := by decide +kernel
theorem d_S_addCode_57 : decode b_S_addCode 57 = .ok (.bipush 76, 2) := by decide +kernel
theorem d_S_addCode_59 : decode b_S_addCode 59 = .ok (.invokevirtual 88, 3) := by decide +kernel
theorem d_S_addCode_62 : decode b_S_addCode 62 = .ok (.pop, 1) := by decide +kernel
theorem d_S_addCode_63 : decode b_S_addCode 63 = .ok (.aload_n 0, 1) := by decide +kernel
theorem d_S_addCode_64 : decode b_S_addCode 64 = .ok (.iload_n 3, 1) := by decide +kernel
theorem d_S_addCode_65 : decode b_S_addCode 65 = .ok (.invokestatic 39, 3) := by decide +kernel
theorem d_S_addCode_68 : decode b_S_addCode 68 = .ok (.bipush 46, 2) := by decide +kernel
theorem d_S_addCode_70 : decode b_S_addCode 70 = .ok (.iload_n 2, 1) := by decide +kernel
theorem d_S_addCode_71 : decode b_S_addCode 71 = .ok (.invokevirtual 50, 3) := by decide +kernel
theorem d_S_addCode_74 : decode b_S_addCode 74 = .ok (.aload_n 0, 1) := by decide +kernel
theorem d_S_addCode_75 : decode b_S_addCode 75 = .ok (.getfield 12, 3) := by decide +kernel
theorem d_S_addCode_78 : decode b_S_addCode 78 = .ok (.bipush 59, 2) := by decide +kernel
theorem d_S_addCode_80 : decode b_S_addCode 80 = .ok (.invokevirtual 88, 3) := by decide +kernel
theorem d_S_addCode_83 : decode b_S_addCode 83 = .ok (.pop, 1) := by decide +kernel
theorem d_S_addCode_84 : decode b_S_addCode 84 = .ok (.return_, 1) := by decide +kernel
theorem d_S_addWithChange_0 : decode b_S_addWithChange 0 = .ok (.iconst 0, 1) := by decide +kernel
theorem d_S_addWithChange_1 : decode b_S_addWithChange 1 = .ok (.istore 4, 2) := by decide +kernel
theorem d_S_addWithChange_3 : decode b_S_addWithChange 3 = .ok (.iload 4, 2) := by decide +kernel
theorem d_S_addWithChange_5 : decode b_S_addWithChange 5 = .ok (.aload_n 1, 1) := by decide +kernel
theorem d_S_addWithChange_6 : decode b_S_addWithChange 6 = .ok (.invokevirtual 99, 3) := by decide +kernel
theorem d_S_addWithChange_9 : decode b_S_addWithChange 9 = .ok (.if_icmp .ge 37, 3) := by decide +kernel
theorem d_S_addWithChange_12 : decode b_S_addWithChange 12 = .ok (.aload_n 1, 1) := by decide +kernel
theorem d_S_addWithChange_13 : decode b_S_addWithChange 13 = .ok (.iload 4, 2) := by decide +kernel
theorem d_S_addWithChange_15 : decode b_S_addWithChange 15 = .ok (.invokevirtual 96, 3) := by decide +kernel
theorem d_S_addWithChange_18 : decode b_S_addWithChange 18 = .ok (.istore 5, 2) := by decide +kernel
theorem d_S_addWithChange_20 : decode b_S_addWithChange 20 = .ok (.aload_n 0, 1) := by decide +kernel
theorem d_S_addWithChange_21 : decode b_S_addWithChange 21 = .ok (.getfield 12, 3) := by decide +kernel
theorem d_S_addWithChange_24 : decode b_S_addWithChange 24 = .ok (.iload 5, 2) := by decide +kernel
theorem d_S_addWithChange_26 : decode b_S_addWithChange 26 = .ok (.iload_n 2, 1) := by decide +kernel
theorem d_S_addWithChange_27 : decode b_S_addWithChange 27 = .ok (.if_icmp .ne 7, 3) := by decide +kernel
theorem d_S_addWithChange_30 : decode b_S_addWithChange 30 = .ok (.iload_n 3, 1) := by decide +kernel
theorem d_S_addWithChange_31 : decode b_S_addWithChange 31 = .ok (.goto 5, 3) := by decide +kernel
theorem d_S_addWithChange_34 : decode b_S_addWithChange 34 = .ok (.iload 5, 2) := by decide +kernel
theorem d_S_addWithChange_36 : decode b_S_addWithChange 36 = .ok (.invokevirtual 88, 3) := by decide +kernel
theorem d_S_addWithChange_39 : decode b_S_addWithChange 39 = .ok (.pop, 1) := by decide +kernel
theorem d_S_addWithChange_40 : decode b_S_addWithChange 40 = .ok (.iinc 4 1, 3) := by decide +kernel
theorem d_S_addWithChange_43 : decode b_S_addWithChange 43 = .ok (.goto (-40), 3) := by decide +kernel
theorem d_S_addWithChange_46 : decode b_S_addWithChange 46 = .ok (.return_, 1) := by decide +kernel
theorem d_S_addOwnName_0 : decode b_S_addOwnName 0 = .ok (.iconst 0, 1) := by decide +kernel
theorem d_S_addOwnName_1 : decode b_S_addOwnName 1 = .ok (.istore_n 2, 1) := by decide +kernel
theorem d_S_addOwnName_2 : decode b_S_addOwnName 2 = .ok (.iload_n 2, 1) := by decide +kernel
theorem d_S_addOwnName_3 : decode b_S_addOwnName 3 = .ok (.aload_n 1, 1) := by decide +kernel
theorem d_S_addOwnName_4 : decode b_S_addOwnName 4 = .ok (.invokevirtual 99, 3) := by decide +kernel
theorem d_S_addOwnName_7 : decode b_S_addOwnName 7 = .ok (.if_icmp .ge 59, 3) := by decide +kernel
theorem d_S_addOwnName_10 : decode b_S_addOwnName 10 = .ok (.aload_n 1, 1) := by decide +kernel
theorem d_S_addOwnName_11 : decode b_S_addOwnName 11 = .ok (.iload_n 2, 1) := by decide +kernel
theorem d_S_addOwnName_12 : decode b_S_addOwnName 12 = .ok (.invokevirtual 96, 3) := by decide +kernel
theorem d_S_addOwnName_15 : decode b_S_addOwnName 15 = .ok (.istore_n 3, 1) := by decide +kernel
theorem d_S_addOwnName_16 : decode b_S_addOwnName 16 = .ok (.iload_n 3, 1) := by decide +kernel
theorem d_S_addOwnName_17 : decode b_S_addOwnName 17 = .ok (.bipush 46, 2) := by decide +kernel
theorem d_S_addOwnName_19 : decode b_S_addOwnName 19 = .ok (.if_icmp .eq 21, 3) := by decide +kernel
theorem d_S_addOwnName_22 : decode b_S_addOwnName 22 = .ok (.iload_n 3, 1) := by decide +kernel
theorem d_S_addOwnName_23 : decode b_S_addOwnName 23 = .ok (.bipush 36, 2) := by decide +kernel
theorem d_S_addOwnName_25 : decode b_S_addOwnName 25 = .ok (.if_icmp .eq 15, 3) := by decide +kernel
theorem d_S_addOwnName_28 : decode b_S_addOwnName 28 = .ok (.iload_n 3, 1) := by decide +kernel
theorem d_S_addOwnName_29 : decode b_S_addOwnName 29 = .ok (.bipush 48, 2) := by decide +kernel
theorem d_S_addOwnName_31 : decode b_S_addOwnName 31 = .ok (.if_icmp .lt 20, 3) := by decide +kernel
theorem d_S_addOwnName_34 : decode b_S_addOwnName 34 = .ok (.iload_n 3, 1) := by decide +kernel
theorem d_S_addOwnName_35 : decode b_S_addOwnName 35 = .ok (.bipush 57, 2) := by decide +kernel
theorem d_S_addOwnName_37 : decode b_S_addOwnName 37 = .ok (.if_icmp .gt 14, 3) := by decide +kernel
theorem d_S_addOwnName_40 : decode b_S_addOwnName 40 = .ok (.aload_n 0, 1) := by decide +kernel
theorem d_S_addOwnName_41 : decode b_S_addOwnName 41 = .ok (.getfield 12, 3) := by decide +kernel
theorem d_S_addOwnName_44 : decode b_S_addOwnName 44 = .ok (.iconst 0, 1) := by decide +kernel
theorem d_S_addOwnName_45 : decode b_S_addOwnName 45 = .ok (.invokevirtual 26, 3) := by decide +kernel
theorem d_S_addOwnName_48 : decode b_S_addOwnName 48 = .ok (.goto 12, 3) := by decide +kernel
theorem d_S_addOwnName_51 : decode b_S_addOwnName 51 = .ok (.aload_n 0, 1) := by decide +kernel
theorem d_S_addOwnName_52 : decode b_S_addOwnName 52 = .ok (.getfield 12, 3) := by decide +kernel
theorem d_S_addOwnName_55 : decode b_S_addOwnName 55 = .ok (.iload_n 3, 1) := by decide +kernel
theorem d_S_addOwnName_56 : decode b_S_addOwnName 56 = .ok (.invokevirtual 88, 3) := by decide +kernel
theorem d_S_addOwnName_59 : decode b_S_addOwnName 59 = .ok (.pop, 1) := by decide +kernel
theorem d_S_addOwnName_60 : decode b_S_addOwnName 60 = .ok (.iinc 2 1, 3) := by decide +kernel
theorem d_S_addOwnName_63 : decode b_S_addOwnName 63 = .ok (.goto (-61), 3) := by decide +kernel
theorem d_S_addOwnName_66 : decode b_S_addOwnName 66 = .ok (.return_, 1) := by decide +kernel
theorem d_S_addBrackets_0 : decode b_S_addBrackets 0 = .ok (.iconst 0, 1) := by decide +kernel
theorem d_S_addBrackets_1 : decode b_S_addBrackets 1 = .ok (.istore_n 2, 1) := by decide +kernel
theorem d_S_addBrackets_2 : decode b_S_addBrackets 2 = .ok (.iload_n 2, 1) := by decide +kernel
theorem d_S_addBrackets_3 : decode b_S_addBrackets 3 = .ok (.iload_n 1, 1) := by decide +kernel
theorem d_S_addBrackets_4 : decode b_S_addBrackets 4 = .ok (.invokestatic 85, 3) := by decide +kernel
theorem d_S_addBrackets_7 : decode b_S_addBrackets 7 = .ok (.if_icmp .ge 19, 3) := by decide +kernel
theorem d_S_addBrackets_10 : decode b_S_addBrackets 10 = .ok (.aload_n 0, 1) := by decide +kernel
theorem d_S_addBrackets_11 : decode b_S_addBrackets 11 = .ok (.getfield 12, 3) := by decide +kernel
theorem d_S_addBrackets_14 : decode b_S_addBrackets 14 = .ok (.ldc 100, 2) := by decide +kernel
theorem d_S_addBrackets_16 : decode b_S_addBrackets 16 = .ok (.invokevirtual 61, 3) := by decide +kernel
theorem d_S_addBrackets_19 : decode b_S_addBrackets 19 = .ok (.pop, 1) := by decide +kernel
theorem d_S_addBrackets_20 : decode b_S_addBrackets 20 = .ok (.iinc 2 1, 3) := by decide +kernel
theorem d_S_addBrackets_23 : decode b_S_addBrackets 23 = .ok (.goto (-21), 3) := by decide +kernel
theorem d_S_addBrackets_26 : decode b_S_addBrackets 26 = .ok (.return_, 1) := by decide +kernel
theorem d_S_addKind_0 : decode b_S_addKind 0 = .ok (.iload_n 1, 1) := by decide +kernel
theorem d_S_addKind_1 : decode b_S_addKind 1 = .ok (.invokestatic 102, 3) := by decide +kernel
theorem d_S_addKind_4 : decode b_S_addKind 4 = .ok (.ifCond .eq 16, 3) := by decide +kernel
theorem d_S_addKind_7 : decode b_S_addKind 7 = .ok (.aload_n 0, 1) := by decide +kernel
theorem d_S_addKind_8 : decode b_S_addKind 8 = .ok (.getfield 12, 3) := by decide +kernel
theorem d_S_addKind_11 : decode b_S_addKind 11 = .ok (.ldc 105, 2) := by decide +kernel
theorem d_S_addKind_13 : decode b_S_addKind 13 = .ok (.invokevirtual 61, 3) := by decide +kernel
theorem d_S_addKind_16 : decode b_S_addKind 16 = .ok (.pop, 1) := by decide +kernel
theorem d_S_addKind_17 : decode b_S_addKind 17 = .ok (.goto 20, 3) := by decide +kernel
theorem d_S_addKind_20 : decode b_S_addKind 20 = .ok (.iload_n 1, 1) := by decide +kernel
theorem d_S_addKind_21 : decode b_S_addKind 21 = .ok (.invokestatic 91, 3) := by decide +kernel
theorem d_S_addKind_24 : decode b_S_addKind 24 = .ok (.ifCond .ne 13, 3) := by decide +kernel
theorem d_S_addKind_27 : decode b_S_addKind 27 = .ok (.aload_n 0, 1) := by decide +kernel
theorem d_S_addKind_28 : decode b_S_addKind 28 = .ok (.getfield 12, 3) := by decide +kernel
theorem d_S_addKind_31 : decode b_S_addKind 31 = .ok (.ldc 107, 2) := by decide +kernel
theorem d_S_addKind_33 : decode b_S_addKind 33 = .ok (.invokevirtual 61, 3) := by decide +kernel
theorem d_S_addKind_36 : decode b_S_addKind 36 = .ok (.pop, 1) := by decide +kernel
theorem d_S_addKind_37 : decode b_S_addKind 37 = .ok (.return_, 1) := by decide +kernel
theorem d_S_addModifiers_0 : decode b_S_addModifiers 0 = .ok (.aload_n 0, 1) := by decide +kernel
theorem d_S_addModifiers_1 : decode b_S_addModifiers 1 = .ok (.iload_n 1, 1) := by decide +kernel
theorem d_S_addModifiers_2 : decode b_S_addModifiers 2 = .ok (.iconst 1, 1) := by decide +kernel
theorem d_S_addModifiers_3 : decode b_S_addModifiers 3 = .ok (.iand, 1) := by decide +kernel
theorem d_S_addModifiers_4 : decode b_S_addModifiers 4 = .ok (.ldc 109, 2) := by decide +kernel
theorem d_S_addModifiers_6 : decode b_S_addModifiers 6 = .ok (.invokevirtual 111, 3) := by decide +kernel
theorem d_S_addModifiers_9 : decode b_S_addModifiers 9 = .ok (.aload_n 0, 1) := by decide +kernel
theorem d_S_addModifiers_10 : decode b_S_addModifiers 10 = .ok (.iload_n 1, 1) := by decide +kernel
theorem d_S_addModifiers_11 : decode b_S_addModifiers 11 = .ok (.iconst 4, 1) := by decide +kernel
theorem d_S_addModifiers_12 : decode b_S_addModifiers 12 = .ok (.iand, 1) := by decide +kernel
theorem d_S_addModifiers_13 : decode b_S_addModifiers 13 = .ok (.ldc 115, 2) := by decide +kernel
theorem d_S_addModifiers_15 : decode b_S_addModifiers 15 = .ok (.invokevirtual 111, 3) := by decide +kernel
theorem d_S_addModifiers_18 : decode b_S_addModifiers 18 = .ok (.aload_n 0, 1) := by decide +kernel
theorem d_S_addModifiers_19 : decode b_S_addModifiers 19 = .ok (.iload_n 1, 1) := by decide +kernel
theorem d_S_addModifiers_20 : decode b_S_addModifiers 20 = .ok (.iconst 2, 1) := by decide +kernel
theorem d_S_addModifiers_21 : decode b_S_addModifiers 21 = .ok (.iand, 1) := by decide +kernel
theorem d_S_addModifiers_22 : decode b_S_addModifiers 22 = .ok (.ldc 117, 2) := by decide +kernel
theorem d_S_addModifiers_24 : decode b_S_addModifiers 24 = .ok (.invokevirtual 111, 3) := by decide +kernel
theorem d_S_addModifiers_27 : decode b_S_addModifiers 27 = .ok (.aload_n 0, 1) := by decide +kernel
theorem d_S_addModifiers_28 : decode b_S_addModifiers 28 = .ok (.iload_n 1, 1) := by decide +kernel
theorem d_S_addModifiers_29 : decode b_S_addModifiers 29 = .ok (.sipush 1024, 3) := by decide +kernel
theorem d_S_addModifiers_32 : decode b_S_addModifiers 32 = .ok (.iand, 1) := by decide +kernel
theorem d_S_addModifiers_33 : decode b_S_addModifiers 33 = .ok (.ldc 119, 2) := by decide +kernel
theorem d_S_addModifiers_35 : decode b_S_addModifiers 35 = .ok (.invokevirtual 111, 3) := by decide +kernel
theorem d_S_addModifiers_38 : decode b_S_addModifiers 38 = .ok (.aload_n 0, 1) := by decide +kernel
theorem d_S_addModifiers_39 : decode b_S_addModifiers 39 = .ok (.iload_n 1, 1) := by decide +kernel
theorem d_S_addModifiers_40 : decode b_S_addModifiers 40 = .ok (.bipush 8, 2) := by decide +kernel
theorem d_S_addModifiers_42 : decode b_S_addModifiers 42 = .ok (.iand, 1) := by decide +kernel
theorem d_S_addModifiers_43 : decode b_S_addModifiers 43 = .ok (.ldc 121, 2) := by decide +kernel
theorem d_S_addModifiers_45 : decode b_S_addModifiers 45 = .ok (.invokevirtual 111, 3) := by decide +kernel
theorem d_S_addModifiers_48 : decode b_S_addModifiers 48 = .ok (.aload_n 0, 1) := by decide +kernel
theorem d_S_addModifiers_49 : decode b_S_addModifiers 49 = .ok (.iload_n 1, 1) := by decide +kernel
theorem d_S_addModifiers_50 : decode b_S_addModifiers 50 = .ok (.bipush 16, 2) := by decide +kernel
theorem d_S_addModifiers_52 : decode b_S_addModifiers 52 = .ok (.iand, 1) := by decide +kernel
theorem d_S_addModifiers_53 : decode b_S_addModifiers 53 = .ok (.ldc 123, 2) := by decide +kernel
theorem d_S_addModifiers_55 : decode b_S_addModifiers 55 = .ok (.invokevirtual 111, 3) := by decide +kernel
theorem d_S_addModifiers_58 : decode b_S_addModifiers 58 = .ok (.aload_n 0, 1) := by decide +kernel
theorem d_S_addModifiers_59 : decode b_S_addModifiers 59 = .ok (.iload_n 1, 1) := by decide +kernel
theorem d_S_addModifiers_60 : decode b_S_addModifiers 60 = .ok (.sipush 512, 3) := by decide +kernel
theorem d_S_addModifiers_63 : decode b_S_addModifiers 63 = .ok (.iand, 1) := by decide +kernel
theorem d_S_addModifiers_64 : decode b_S_addModifiers 64 = .ok (.ldc 125, 2) := by decide +kernel
theorem d_S_addModifiers_66 : decode b_S_addModifiers 66 = .ok (.invokevirtual 111, 3) := by decide +kernel
theorem d_S_addModifiers_69 : decode b_S_addModifiers 69 = .ok (.return_, 1) := by decide +kernel
theorem d_S_addWord_0 : decode b_S_addWord 0 = .ok (.iload_n 1, 1) := by decide +kernel
theorem d_S_addWord_1 : decode b_S_addWord 1 = .ok (.ifCond .ne 4, 3) := by decide +kernel
theorem d_S_addWord_4 : decode b_S_addWord 4 = .ok (.return_, 1) := by decide +kernel
theorem d_S_addWord_5 : decode b_S_addWord 5 = .ok (.aload_n 0, 1) := by decide +kernel
theorem d_S_addWord_6 : decode b_S_addWord 6 = .ok (.getfield 12, 3) := by decide +kernel
theorem d_S_addWord_9 : decode b_S_addWord 9 = .ok (.invokevirtual 18, 3) := by decide +kernel
theorem d_S_addWord_12 : decode b_S_addWord 12 = .ok (.ifCond .le 13, 3) := by decide +kernel
theorem d_S_addWord_15 : decode b_S_addWord 15 = .ok (.aload_n 0, 1) := by decide +kernel
theorem d_S_addWord_16 : decode b_S_addWord 16 = .ok (.getfield 12, 3) := by decide +kernel
theorem d_S_addWord_19 : decode b_S_addWord 19 = .ok (.bipush 32, 2) := by decide +kernel
theorem d_S_addWord_21 : decode b_S_addWord 21 = .ok (.invokevirtual 88, 3) := by decide +kernel
theorem d_S_addWord_24 : decode b_S_addWord 24 = .ok (.pop, 1) := by decide +kernel
theorem d_S_addWord_25 : decode b_S_addWord 25 = .ok (.aload_n 0, 1) := by decide +kernel
theorem d_S_addWord_26 : decode b_S_addWord 26 = .ok (.getfield 12, 3) := by decide +kernel
theorem d_S_addWord_29 : decode b_S_addWord 29 = .ok (.aload_n 2, 1) := by decide +kernel
theorem d_S_addWord_30 : decode b_S_addWord 30 = .ok (.invokevirtual 61, 3) := by decide +kernel
theorem d_S_addWord_33 : decode b_S_addWord 33 = .ok (.pop, 1) := by decide +kernel
theorem d_S_addWord_34 : decode b_S_addWord 34 = .ok (.return_, 1) := by decide +kernel
theorem d_S_length_0 : decode b_S_length 0 = .ok (.aload_n 0, 1) := by decide +kernel
theorem d_S_length_1 : decode b_S_length 1 = .ok (.getfield 12, 3) := by decide +kernel
theorem d_S_length_4 : decode b_S_length 4 = .ok (.invokevirtual 18, 3) := by decide +kernel
theorem d_S_length_7 : decode b_S_length 7 = .ok (.ireturn, 1) := by decide +kernel
theorem d_S_codeAt_0 : decode b_S_codeAt 0 = .ok (.aload_n 0, 1) := by decide +kernel
theorem d_S_codeAt_1 : decode b_S_codeAt 1 = .ok (.getfield 12, 3) := by decide +kernel
theorem d_S_codeAt_4 : decode b_S_codeAt 4 = .ok (.iload_n 1, 1) := by decide +kernel
theorem d_S_codeAt_5 : decode b_S_codeAt 5 = .ok (.invokevirtual 22, 3) := by decide +kernel
theorem d_S_codeAt_8 : decode b_S_codeAt 8 = .ok (.ireturn, 1) := by decide +kernel
